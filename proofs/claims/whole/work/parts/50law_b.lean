set_option maxHeartbeats 4000000 in
set_option maxRecDepth 100000 in
theorem d_antenna {p : Program} {l : Launch} {e : Env} {s : State} {m : MethodId} {below : List Frame} {meth : Method} {c : Code} {b L : Nat} {xs : Nat → Int32} {E : wk_E} {T : Nat → Nat × Nat} {X : z_X} {Y : Nat → Nat → Nat} {σ : z_S} {gt : Int64} {oo : Nat} {H : Heap} {locs : List Loc} {cells slots i : Nat} (C0 : wl_C p l s m meth c b L xs E) (hI0 : wl_I E T X Y σ gt oo H) (hS : va_S (wk_A E) s.heap H locs) (hi : i + 5 ≤ L) (hcl : cells + 4 ≤ 601024 ∧ slots + 70 ≤ 7293034)
    (kk : ∀ (σ9 : z_S) (gt9 : Int64) (T9 : Nat → Nat × Nat) (X9 : z_X) (H9 : Heap) (locs9 : List Loc), wl_I E T9 X9 Y σ9 gt9 oo H9 → X9.1 0 0 = X.1 0 0 → va_S (wk_A E) s.heap H9 locs9 → ∀ ls : Array Slot, lv_has ls 9 [(0, .ref b), (1, .ref (X.1 0 0)), (2, .ref (Y 10 0)), (3, .ref oo), (4, .int (nI i))] → W p l e room_1 s m #[Value.ref b] below meth c H9 locs9 (cells + 4) (slots + 70) (lw_Z below #[Value.ref b] s) (F0 m 1308 ls [])) :
    ∀ ls : Array Slot, lv_has ls 9 [(0, .ref b), (1, .ref (X.1 0 0)), (2, .ref (Y 10 0)), (3, .ref oo), (4, .int (nI i))] → W p l e room_1 s m #[Value.ref b] below meth c H locs cells slots (lw_Z below #[Value.ref b] s) (F0 m 1185 ls []) := by
  intro ls hl
  obtain ⟨⟨hx, hb, hr, hml, hown, hlocks⟩, hts, ⟨hX, hbl, hL⟩, ⟨hV, hNC, hE⟩, hst⟩ := id C0
  obtain ⟨hA, ⟨th, hM⟩, hIv, hoT, hob, ov, hoo⟩ := id hI0
  have hO := hIv.1
  have hSm := hIv.2.1
  have hZ := hIv.2.2.1
  by_cases q1 : v_ix (xs (i + 1)) (z_n σ 0) = true
  · skip
    obtain ⟨q1k, h1, e1⟩ := v_ix_of q1
    by_cases q2 : v_in (xs (i + 2)) 0 3 = true
    · skip
      obtain ⟨q2k, h2, e2⟩ := v_in_of (n := 3) q2 rfl
      exact k_antenna C0 hI0 hS hi hcl (code := 0) (by decide) (fun hoo => by rw [e1, e2]; exact w_L_antenna l E hA hO hoo hoT hob h1 h2) (fun hM => by rw [e1, e2]; exact e_X6_antenna l E hM hO h1 h2) ⟨rfl, rfl, by decide, by decide⟩ hIv (kk _ _) ls hl
    · skip
      have hbad : v_in (xs (i + 2)) 0 3 = false := by simpa using q2
      exact k_antenna C0 hI0 hS hi hcl (code := 1) (by decide) (fun hoo => by rw [e1]; exact wf2_L_antenna l E hst hA hO hoo hoT hob h1 hbad) (fun hM => by rw [e1]; exact f2_X6_antenna l E hM hO h1 hbad) ⟨rfl, rfl, by decide, by decide⟩ hIv (kk _ _) ls hl
  · skip
    have hbad : v_ix (xs (i + 1)) (z_n σ 0) = false := by simpa using q1
    exact k_antenna C0 hI0 hS hi hcl (code := 1) (by decide) (fun hoo => by exact wf_L_antenna l E hst hA hO hoo hoT hob hbad) (fun hM => by exact f_X6_antenna l E hM hO hbad) ⟨rfl, rfl, by decide, by decide⟩ hIv (kk _ _) ls hl

set_option maxHeartbeats 4000000 in
set_option maxRecDepth 100000 in
theorem d_isConflict {p : Program} {l : Launch} {e : Env} {s : State} {m : MethodId} {below : List Frame} {meth : Method} {c : Code} {b L : Nat} {xs : Nat → Int32} {E : wk_E} {T : Nat → Nat × Nat} {X : z_X} {Y : Nat → Nat → Nat} {σ : z_S} {gt : Int64} {oo : Nat} {H : Heap} {locs : List Loc} {cells slots i : Nat} (C0 : wl_C p l s m meth c b L xs E) (hI0 : wl_I E T X Y σ gt oo H) (hS : va_S (wk_A E) s.heap H locs) (hi : i + 5 ≤ L) (hcl : cells + 4 ≤ 601024 ∧ slots + 70 ≤ 7293034)
    (kk : ∀ (σ9 : z_S) (gt9 : Int64) (T9 : Nat → Nat × Nat) (X9 : z_X) (H9 : Heap) (locs9 : List Loc), wl_I E T9 X9 Y σ9 gt9 oo H9 → X9.1 0 0 = X.1 0 0 → va_S (wk_A E) s.heap H9 locs9 → ∀ ls : Array Slot, lv_has ls 9 [(0, .ref b), (1, .ref (X.1 0 0)), (2, .ref (Y 10 0)), (3, .ref oo), (4, .int (nI i))] → W p l e room_1 s m #[Value.ref b] below meth c H9 locs9 (cells + 4) (slots + 70) (lw_Z below #[Value.ref b] s) (F0 m 1308 ls [])) :
    ∀ ls : Array Slot, lv_has ls 9 [(0, .ref b), (1, .ref (X.1 0 0)), (2, .ref (Y 10 0)), (3, .ref oo), (4, .int (nI i))] → W p l e room_1 s m #[Value.ref b] below meth c H locs cells slots (lw_Z below #[Value.ref b] s) (F0 m 660 ls []) := by
  intro ls hl
  obtain ⟨⟨hx, hb, hr, hml, hown, hlocks⟩, hts, ⟨hX, hbl, hL⟩, ⟨hV, hNC, hE⟩, hst⟩ := id C0
  obtain ⟨hA, ⟨th, hM⟩, hIv, hoT, hob, ov, hoo⟩ := id hI0
  have hO := hIv.1
  have hSm := hIv.2.1
  have hZ := hIv.2.2.1
  by_cases q1 : v_ix (xs (i + 1)) (z_n σ 2) = true
  · skip
    obtain ⟨q1k, h1, e1⟩ := v_ix_of q1
    by_cases q2 : v_ix (xs (i + 2)) (z_n σ 2) = true
    · skip
      obtain ⟨q2k, h2, e2⟩ := v_ix_of q2
      by_cases hij : q1k = q2k
      · skip
        exact k_isConflict C0 hI0 hS hi hcl (code := 2) (by decide) (fun hoo => by rw [e1, e2, ← hij]; exact wf3_L_isConflict l E hst hA hO hoo hoT hob h1) (fun hM => by rw [e1, e2, ← hij]; exact f3_X6_isConflict l E hM hO h1) ⟨rfl, rfl, by decide, by decide⟩ hIv (kk _ _) ls hl
      · skip
        exact k_isConflict C0 hI0 hS hi hcl (code := 0) (by decide) (fun hoo => by rw [e1, e2]; exact w_L_isConflict l E hA hO hoo hoT hob h1 h2 hij) (fun hM => by rw [e1, e2]; exact e_X6_isConflict l E hM hO h1 h2 hij) ⟨rfl, rfl, by decide, by decide⟩ hIv (kk _ _) ls hl
    · skip
      have hbad : v_ix (xs (i + 2)) (z_n σ 2) = false := by simpa using q2
      exact k_isConflict C0 hI0 hS hi hcl (code := 1) (by decide) (fun hoo => by rw [e1]; exact wf2_L_isConflict l E hst hA hO hoo hoT hob h1 hbad) (fun hM => by rw [e1]; exact f2_X6_isConflict l E hM hO h1 hbad) ⟨rfl, rfl, by decide, by decide⟩ hIv (kk _ _) ls hl
  · skip
    have hbad : v_ix (xs (i + 1)) (z_n σ 2) = false := by simpa using q1
    exact k_isConflict C0 hI0 hS hi hcl (code := 1) (by decide) (fun hoo => by exact wf_L_isConflict l E hst hA hO hoo hoT hob hbad) (fun hM => by exact f_X6_isConflict l E hM hO hbad) ⟨rfl, rfl, by decide, by decide⟩ hIv (kk _ _) ls hl

set_option maxHeartbeats 4000000 in
set_option maxRecDepth 100000 in
theorem d_canTake {p : Program} {l : Launch} {e : Env} {s : State} {m : MethodId} {below : List Frame} {meth : Method} {c : Code} {b L : Nat} {xs : Nat → Int32} {E : wk_E} {T : Nat → Nat × Nat} {X : z_X} {Y : Nat → Nat → Nat} {σ : z_S} {gt : Int64} {oo : Nat} {H : Heap} {locs : List Loc} {cells slots i : Nat} (C0 : wl_C p l s m meth c b L xs E) (hI0 : wl_I E T X Y σ gt oo H) (hS : va_S (wk_A E) s.heap H locs) (hi : i + 5 ≤ L) (hcl : cells + 4 ≤ 601024 ∧ slots + 70 ≤ 7293034)
    (kk : ∀ (σ9 : z_S) (gt9 : Int64) (T9 : Nat → Nat × Nat) (X9 : z_X) (H9 : Heap) (locs9 : List Loc), wl_I E T9 X9 Y σ9 gt9 oo H9 → X9.1 0 0 = X.1 0 0 → va_S (wk_A E) s.heap H9 locs9 → ∀ ls : Array Slot, lv_has ls 9 [(0, .ref b), (1, .ref (X.1 0 0)), (2, .ref (Y 10 0)), (3, .ref oo), (4, .int (nI i))] → W p l e room_1 s m #[Value.ref b] below meth c H9 locs9 (cells + 4) (slots + 70) (lw_Z below #[Value.ref b] s) (F0 m 1308 ls [])) :
    ∀ ls : Array Slot, lv_has ls 9 [(0, .ref b), (1, .ref (X.1 0 0)), (2, .ref (Y 10 0)), (3, .ref oo), (4, .int (nI i))] → W p l e room_1 s m #[Value.ref b] below meth c H locs cells slots (lw_Z below #[Value.ref b] s) (F0 m 735 ls []) := by
  intro ls hl
  obtain ⟨⟨hx, hb, hr, hml, hown, hlocks⟩, hts, ⟨hX, hbl, hL⟩, ⟨hV, hNC, hE⟩, hst⟩ := id C0
  obtain ⟨hA, ⟨th, hM⟩, hIv, hoT, hob, ov, hoo⟩ := id hI0
  have hO := hIv.1
  have hSm := hIv.2.1
  have hZ := hIv.2.2.1
  by_cases q1 : v_ix (xs (i + 1)) (z_n σ 2) = true
  · skip
    obtain ⟨q1k, h1, e1⟩ := v_ix_of q1
    exact k_canTake C0 hI0 hS hi hcl (code := 0) (by decide) (fun hoo => by rw [e1]; exact w_L_canTake l E hA hO hoo hoT hob h1) (fun hM => by rw [e1]; exact e_X6_canTake l E hM hO h1) ⟨rfl, rfl, by decide, by decide⟩ hIv (kk _ _) ls hl
  · skip
    have hbad : v_ix (xs (i + 1)) (z_n σ 2) = false := by simpa using q1
    exact k_canTake C0 hI0 hS hi hcl (code := 1) (by decide) (fun hoo => by exact wf_L_canTake l E hst hA hO hoo hoT hob hbad) (fun hM => by exact f_X6_canTake l E hM hO hbad) ⟨rfl, rfl, by decide, by decide⟩ hIv (kk _ _) ls hl

set_option maxHeartbeats 4000000 in
set_option maxRecDepth 100000 in
theorem d_weight {p : Program} {l : Launch} {e : Env} {s : State} {m : MethodId} {below : List Frame} {meth : Method} {c : Code} {b L : Nat} {xs : Nat → Int32} {E : wk_E} {T : Nat → Nat × Nat} {X : z_X} {Y : Nat → Nat → Nat} {σ : z_S} {gt : Int64} {oo : Nat} {H : Heap} {locs : List Loc} {cells slots i : Nat} (C0 : wl_C p l s m meth c b L xs E) (hI0 : wl_I E T X Y σ gt oo H) (hS : va_S (wk_A E) s.heap H locs) (hi : i + 5 ≤ L) (hcl : cells + 4 ≤ 601024 ∧ slots + 70 ≤ 7293034)
    (kk : ∀ (σ9 : z_S) (gt9 : Int64) (T9 : Nat → Nat × Nat) (X9 : z_X) (H9 : Heap) (locs9 : List Loc), wl_I E T9 X9 Y σ9 gt9 oo H9 → X9.1 0 0 = X.1 0 0 → va_S (wk_A E) s.heap H9 locs9 → ∀ ls : Array Slot, lv_has ls 9 [(0, .ref b), (1, .ref (X.1 0 0)), (2, .ref (Y 10 0)), (3, .ref oo), (4, .int (nI i))] → W p l e room_1 s m #[Value.ref b] below meth c H9 locs9 (cells + 4) (slots + 70) (lw_Z below #[Value.ref b] s) (F0 m 1308 ls [])) :
    ∀ ls : Array Slot, lv_has ls 9 [(0, .ref b), (1, .ref (X.1 0 0)), (2, .ref (Y 10 0)), (3, .ref oo), (4, .int (nI i))] → W p l e room_1 s m #[Value.ref b] below meth c H locs cells slots (lw_Z below #[Value.ref b] s) (F0 m 811 ls []) := by
  intro ls hl
  obtain ⟨⟨hx, hb, hr, hml, hown, hlocks⟩, hts, ⟨hX, hbl, hL⟩, ⟨hV, hNC, hE⟩, hst⟩ := id C0
  obtain ⟨hA, ⟨th, hM⟩, hIv, hoT, hob, ov, hoo⟩ := id hI0
  have hO := hIv.1
  have hSm := hIv.2.1
  have hZ := hIv.2.2.1
  by_cases q1 : v_set (xs (i + 1)) (z_n σ 2) = true
  · skip
    obtain ⟨q1k, h1, e1⟩ := v_set_of q1
    exact k_weight C0 hI0 hS hi hcl (code := 0) (by decide) (fun hoo => by rw [e1]; exact w_L_weight l E hA hO hoo hoT hob h1) (fun hM => by rw [e1]; exact e_X6_weight l E hM hO h1) ⟨rfl, rfl, by decide, by decide⟩ hIv (kk _ _) ls hl
  · skip
    have hbad : v_set (xs (i + 1)) (z_n σ 2) = false := by simpa using q1
    exact k_weight C0 hI0 hS hi hcl (code := 1) (by decide) (fun hoo => by exact wf_L_weight l E hst hA hO hoo hoT hob hbad) (fun hM => by exact f_X6_weight l E hM hO hbad) ⟨rfl, rfl, by decide, by decide⟩ hIv (kk _ _) ls hl

set_option maxHeartbeats 4000000 in
set_option maxRecDepth 100000 in
theorem d_take {p : Program} {l : Launch} {e : Env} {s : State} {m : MethodId} {below : List Frame} {meth : Method} {c : Code} {b L : Nat} {xs : Nat → Int32} {E : wk_E} {T : Nat → Nat × Nat} {X : z_X} {Y : Nat → Nat → Nat} {σ : z_S} {gt : Int64} {oo : Nat} {H : Heap} {locs : List Loc} {cells slots i : Nat} (C0 : wl_C p l s m meth c b L xs E) (hI0 : wl_I E T X Y σ gt oo H) (hS : va_S (wk_A E) s.heap H locs) (hi : i + 5 ≤ L) (hcl : cells + 4 ≤ 601024 ∧ slots + 70 ≤ 7293034)
    (kk : ∀ (σ9 : z_S) (gt9 : Int64) (T9 : Nat → Nat × Nat) (X9 : z_X) (H9 : Heap) (locs9 : List Loc), wl_I E T9 X9 Y σ9 gt9 oo H9 → X9.1 0 0 = X.1 0 0 → va_S (wk_A E) s.heap H9 locs9 → ∀ ls : Array Slot, lv_has ls 9 [(0, .ref b), (1, .ref (X.1 0 0)), (2, .ref (Y 10 0)), (3, .ref oo), (4, .int (nI i))] → W p l e room_1 s m #[Value.ref b] below meth c H9 locs9 (cells + 4) (slots + 70) (lw_Z below #[Value.ref b] s) (F0 m 1308 ls [])) :
    ∀ ls : Array Slot, lv_has ls 9 [(0, .ref b), (1, .ref (X.1 0 0)), (2, .ref (Y 10 0)), (3, .ref oo), (4, .int (nI i))] → W p l e room_1 s m #[Value.ref b] below meth c H locs cells slots (lw_Z below #[Value.ref b] s) (F0 m 867 ls []) := by
  intro ls hl
  obtain ⟨⟨hx, hb, hr, hml, hown, hlocks⟩, hts, ⟨hX, hbl, hL⟩, ⟨hV, hNC, hE⟩, hst⟩ := id C0
  obtain ⟨hA, ⟨th, hM⟩, hIv, hoT, hob, ov, hoo⟩ := id hI0
  have hO := hIv.1
  have hSm := hIv.2.1
  have hZ := hIv.2.2.1
  by_cases q1 : v_set (xs (i + 1)) (z_n σ 2) = true
  · skip
    obtain ⟨q1k, h1, e1⟩ := v_set_of q1
    by_cases hok : f_tog σ q1k = true
    · skip
      exact k_take C0 hI0 hS hi hcl (code := 0) (by decide) (fun hoo => by rw [e1]; exact w_L_take l E hA hO hoo hoT hob h1 hok) (fun hM => by rw [e1]; exact e_X6_take l E hM hO h1 hok) ⟨rfl, rfl, by decide, by decide⟩ (hIv.take h1) (kk _ _) ls hl
    · skip
      have hbad : f_tog σ q1k = false := by simpa using hok
      exact k_take C0 hI0 hS hi hcl (code := 2) (by decide) (fun hoo => by rw [e1]; exact wf2_L_take l E hst hA hO hoo hoT hob h1 hbad) (fun hM => by rw [e1]; exact f2_X6_take l E hM hO h1 hbad) ⟨rfl, rfl, by decide, by decide⟩ hIv (kk _ _) ls hl
  · skip
    have hbad : v_set (xs (i + 1)) (z_n σ 2) = false := by simpa using q1
    exact k_take C0 hI0 hS hi hcl (code := 1) (by decide) (fun hoo => by exact wf_L_take l E hst hA hO hoo hoT hob hbad) (fun hM => by exact f_X6_take l E hM hO hbad) ⟨rfl, rfl, by decide, by decide⟩ hIv (kk _ _) ls hl

set_option maxHeartbeats 4000000 in
set_option maxRecDepth 100000 in
theorem d_giveUp {p : Program} {l : Launch} {e : Env} {s : State} {m : MethodId} {below : List Frame} {meth : Method} {c : Code} {b L : Nat} {xs : Nat → Int32} {E : wk_E} {T : Nat → Nat × Nat} {X : z_X} {Y : Nat → Nat → Nat} {σ : z_S} {gt : Int64} {oo : Nat} {H : Heap} {locs : List Loc} {cells slots i : Nat} (C0 : wl_C p l s m meth c b L xs E) (hI0 : wl_I E T X Y σ gt oo H) (hS : va_S (wk_A E) s.heap H locs) (hi : i + 5 ≤ L) (hcl : cells + 4 ≤ 601024 ∧ slots + 70 ≤ 7293034)
    (kk : ∀ (σ9 : z_S) (gt9 : Int64) (T9 : Nat → Nat × Nat) (X9 : z_X) (H9 : Heap) (locs9 : List Loc), wl_I E T9 X9 Y σ9 gt9 oo H9 → X9.1 0 0 = X.1 0 0 → va_S (wk_A E) s.heap H9 locs9 → ∀ ls : Array Slot, lv_has ls 9 [(0, .ref b), (1, .ref (X.1 0 0)), (2, .ref (Y 10 0)), (3, .ref oo), (4, .int (nI i))] → W p l e room_1 s m #[Value.ref b] below meth c H9 locs9 (cells + 4) (slots + 70) (lw_Z below #[Value.ref b] s) (F0 m 1308 ls [])) :
    ∀ ls : Array Slot, lv_has ls 9 [(0, .ref b), (1, .ref (X.1 0 0)), (2, .ref (Y 10 0)), (3, .ref oo), (4, .int (nI i))] → W p l e room_1 s m #[Value.ref b] below meth c H locs cells slots (lw_Z below #[Value.ref b] s) (F0 m 923 ls []) := by
  intro ls hl
  obtain ⟨⟨hx, hb, hr, hml, hown, hlocks⟩, hts, ⟨hX, hbl, hL⟩, ⟨hV, hNC, hE⟩, hst⟩ := id C0
  obtain ⟨hA, ⟨th, hM⟩, hIv, hoT, hob, ov, hoo⟩ := id hI0
  have hO := hIv.1
  have hSm := hIv.2.1
  have hZ := hIv.2.2.1
  by_cases q1 : v_ix (xs (i + 1)) (z_n σ 2) = true
  · skip
    obtain ⟨q1k, h1, e1⟩ := v_ix_of q1
    by_cases hok : (z_tk σ q1k && decide (z_now σ ≤ z_pb σ q1k)) = true
    · skip
      have hok2 := hok
      rw [Bool.and_eq_true, decide_eq_true_iff] at hok2
      have g1 := hok2.1
      have g2 := hok2.2
      exact k_giveUp C0 hI0 hS hi hcl (code := 0) (by decide) (fun hoo => by rw [e1]; exact w_L_giveUp l E hA hO hoo hoT hob h1 g1 g2) (fun hM => by rw [e1]; exact e_X6_giveUp l E hM hO h1 g1 g2) ⟨rfl, rfl, by decide, by decide⟩ (hIv.give h1) (kk _ _) ls hl
    · skip
      exact k_giveUp C0 hI0 hS hi hcl (code := 2) (by decide) (fun hoo => by rw [e1]; exact wf2_L_giveUp l E hst hA hO hoo hoT hob h1 (Bool.eq_false_iff.mpr hok)) (fun hM => by rw [e1]; exact f2_X6_giveUp l E hM hO h1 (Bool.eq_false_iff.mpr hok)) ⟨rfl, rfl, by decide, by decide⟩ hIv (kk _ _) ls hl
  · skip
    have hbad : v_ix (xs (i + 1)) (z_n σ 2) = false := by simpa using q1
    exact k_giveUp C0 hI0 hS hi hcl (code := 1) (by decide) (fun hoo => by exact wf_L_giveUp l E hst hA hO hoo hoT hob hbad) (fun hM => by exact f_X6_giveUp l E hM hO hbad) ⟨rfl, rfl, by decide, by decide⟩ hIv (kk _ _) ls hl

set_option maxHeartbeats 4000000 in
set_option maxRecDepth 100000 in
theorem d_handovers {p : Program} {l : Launch} {e : Env} {s : State} {m : MethodId} {below : List Frame} {meth : Method} {c : Code} {b L : Nat} {xs : Nat → Int32} {E : wk_E} {T : Nat → Nat × Nat} {X : z_X} {Y : Nat → Nat → Nat} {σ : z_S} {gt : Int64} {oo : Nat} {H : Heap} {locs : List Loc} {cells slots i : Nat} (C0 : wl_C p l s m meth c b L xs E) (hI0 : wl_I E T X Y σ gt oo H) (hS : va_S (wk_A E) s.heap H locs) (hi : i + 5 ≤ L) (hcl : cells + 4 ≤ 601024 ∧ slots + 70 ≤ 7293034)
    (kk : ∀ (σ9 : z_S) (gt9 : Int64) (T9 : Nat → Nat × Nat) (X9 : z_X) (H9 : Heap) (locs9 : List Loc), wl_I E T9 X9 Y σ9 gt9 oo H9 → X9.1 0 0 = X.1 0 0 → va_S (wk_A E) s.heap H9 locs9 → ∀ ls : Array Slot, lv_has ls 9 [(0, .ref b), (1, .ref (X.1 0 0)), (2, .ref (Y 10 0)), (3, .ref oo), (4, .int (nI i))] → W p l e room_1 s m #[Value.ref b] below meth c H9 locs9 (cells + 4) (slots + 70) (lw_Z below #[Value.ref b] s) (F0 m 1308 ls [])) :
    ∀ ls : Array Slot, lv_has ls 9 [(0, .ref b), (1, .ref (X.1 0 0)), (2, .ref (Y 10 0)), (3, .ref oo), (4, .int (nI i))] → W p l e room_1 s m #[Value.ref b] below meth c H locs cells slots (lw_Z below #[Value.ref b] s) (F0 m 992 ls []) := by
  intro ls hl
  obtain ⟨⟨hx, hb, hr, hml, hown, hlocks⟩, hts, ⟨hX, hbl, hL⟩, ⟨hV, hNC, hE⟩, hst⟩ := id C0
  obtain ⟨hA, ⟨th, hM⟩, hIv, hoT, hob, ov, hoo⟩ := id hI0
  have hO := hIv.1
  have hSm := hIv.2.1
  have hZ := hIv.2.2.1
  by_cases q1 : v_ix (xs (i + 1)) (z_n σ 1) = true
  · skip
    obtain ⟨q1k, h1, e1⟩ := v_ix_of q1
    exact k_handovers C0 hI0 hS hi hcl (code := 0) (by decide) (fun hoo => by rw [e1]; exact w_L_handovers l E hA hO hoo hoT hob h1) (fun hM => by rw [e1]; exact e_X6_handovers l E hM hO h1) ⟨rfl, rfl, by decide, by decide⟩ hIv (kk _ _) ls hl
  · skip
    have hbad : v_ix (xs (i + 1)) (z_n σ 1) = false := by simpa using q1
    exact k_handovers C0 hI0 hS hi hcl (code := 1) (by decide) (fun hoo => by exact wf_L_handovers l E hst hA hO hoo hoT hob hbad) (fun hM => by exact f_X6_handovers l E hM hO hbad) ⟨rfl, rfl, by decide, by decide⟩ hIv (kk _ _) ls hl

set_option maxHeartbeats 4000000 in
set_option maxRecDepth 100000 in
theorem d_run {p : Program} {l : Launch} {e : Env} {s : State} {m : MethodId} {below : List Frame} {meth : Method} {c : Code} {b L : Nat} {xs : Nat → Int32} {E : wk_E} {T : Nat → Nat × Nat} {X : z_X} {Y : Nat → Nat → Nat} {σ : z_S} {gt : Int64} {oo : Nat} {H : Heap} {locs : List Loc} {cells slots i : Nat} (C0 : wl_C p l s m meth c b L xs E) (hI0 : wl_I E T X Y σ gt oo H) (hS : va_S (wk_A E) s.heap H locs) (hi : i + 5 ≤ L) (hcl : cells + 4 ≤ 601024 ∧ slots + 70 ≤ 7293034)
    (kk : ∀ (σ9 : z_S) (gt9 : Int64) (T9 : Nat → Nat × Nat) (X9 : z_X) (H9 : Heap) (locs9 : List Loc), wl_I E T9 X9 Y σ9 gt9 oo H9 → X9.1 0 0 = X.1 0 0 → va_S (wk_A E) s.heap H9 locs9 → ∀ ls : Array Slot, lv_has ls 9 [(0, .ref b), (1, .ref (X.1 0 0)), (2, .ref (Y 10 0)), (3, .ref oo), (4, .int (nI i))] → W p l e room_1 s m #[Value.ref b] below meth c H9 locs9 (cells + 4) (slots + 70) (lw_Z below #[Value.ref b] s) (F0 m 1308 ls [])) :
    ∀ ls : Array Slot, lv_has ls 9 [(0, .ref b), (1, .ref (X.1 0 0)), (2, .ref (Y 10 0)), (3, .ref oo), (4, .int (nI i))] → W p l e room_1 s m #[Value.ref b] below meth c H locs cells slots (lw_Z below #[Value.ref b] s) (F0 m 1048 ls []) := by
  intro ls hl
  obtain ⟨⟨hx, hb, hr, hml, hown, hlocks⟩, hts, ⟨hX, hbl, hL⟩, ⟨hV, hNC, hE⟩, hst⟩ := id C0
  obtain ⟨hA, ⟨th, hM⟩, hIv, hoT, hob, ov, hoo⟩ := id hI0
  have hO := hIv.1
  have hSm := hIv.2.1
  have hZ := hIv.2.2.1
  by_cases hok : v_in (xs (i + 1)) 1 500 = true
  · skip
    by_cases hr9 : z_now σ + (xs (i + 1)) ≤ 9999
    · skip
      obtain ⟨mn, h1, e1⟩ := v_in_run hok
      rw [e1] at hr9 hok
      have hle := v_run_le hO h1 hr9
      exact k_run C0 hI0 hS hi hcl (code := 0) (by decide) (fun hoo => by rw [e1]; exact w_L_run l E hA hO hoo hoT hob hok h1 hle) (fun hM => by rw [e1]; exact e_X6_run l E hM hO hIv hok h1 hle) ⟨rfl, rfl, by decide, by decide⟩ (hIv.run hle) (kk _ _) ls hl
    · skip
      exact k_run C0 hI0 hS hi hcl (code := 2) (by decide) (fun hoo => by exact wf2_L_run l E hst hA hO hoo hoT hob hok hr9) (fun hM => by exact f2_X6_run l E hM hO hok hr9) ⟨rfl, rfl, by decide, by decide⟩ hIv (kk _ _) ls hl
  · skip
    have hbad : v_in (xs (i + 1)) 1 500 = false := by simpa using hok
    exact k_run C0 hI0 hS hi hcl (code := 1) (by decide) (fun hoo => by exact wf_L_run l E hst hA hO hoo hoT hob hbad) (fun hM => by exact f_X6_run l E hM hO hbad) ⟨rfl, rfl, by decide, by decide⟩ hIv (kk _ _) ls hl
