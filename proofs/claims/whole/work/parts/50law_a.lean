theorem v_len {σ : z_S} {x y : Int32} (hI : z_Ok σ) (h : v_span σ x y = true) (hl : y - x ≤ 600) : y.toInt - x.toInt ≤ 600 := by
  have hs := v_spanI hI h
  rw [fa_le, fb_subI (by omega) (by omega)] at hl
  exact hl
theorem v_in_run {x : Int32} (h : v_in x 1 500 = true) : ∃ mn : Nat, mn ≤ 500 ∧ x = nI mn := by
  have hi := v_int h
  obtain ⟨n, hn, e, e2⟩ := wk_nat (x := x) (by have : (1 : Int32).toInt = 1 := rfl; omega)
  refine ⟨n, ?_, e⟩
  have : (500 : Int32).toInt = 500 := rfl
  omega
theorem v_run_le {σ : z_S} {n : Nat} (hI : z_Ok σ) (hn : n ≤ 500) (h : z_now σ + nI n ≤ 9999) : (z_now σ).toInt + n ≤ 9999 := by
  have ht := hI.t
  have e : (nI n).toInt = n := nI_toInt (by omega)
  rw [fa_le, fb_addI (by omega) (by omega), e] at h
  exact h

set_option maxHeartbeats 4000000 in
set_option maxRecDepth 100000 in
theorem d_addAntenna {p : Program} {l : Launch} {e : Env} {s : State} {m : MethodId} {below : List Frame} {meth : Method} {c : Code} {b L : Nat} {xs : Nat → Int32} {E : wk_E} {T : Nat → Nat × Nat} {X : z_X} {Y : Nat → Nat → Nat} {σ : z_S} {gt : Int64} {oo : Nat} {H : Heap} {locs : List Loc} {cells slots i : Nat} (C0 : wl_C p l s m meth c b L xs E) (hI0 : wl_I E T X Y σ gt oo H) (hS : va_S (wk_A E) s.heap H locs) (hi : i + 5 ≤ L) (hcl : cells + 4 ≤ 601024 ∧ slots + 70 ≤ 7293034)
    (kk : ∀ (σ9 : z_S) (gt9 : Int64) (T9 : Nat → Nat × Nat) (X9 : z_X) (H9 : Heap) (locs9 : List Loc), wl_I E T9 X9 Y σ9 gt9 oo H9 → X9.1 0 0 = X.1 0 0 → va_S (wk_A E) s.heap H9 locs9 → ∀ ls : Array Slot, lv_has ls 9 [(0, .ref b), (1, .ref (X.1 0 0)), (2, .ref (Y 10 0)), (3, .ref oo), (4, .int (nI i))] → W p l e room_1 s m #[Value.ref b] below meth c H9 locs9 (cells + 4) (slots + 70) (lw_Z below #[Value.ref b] s) (F0 m 1308 ls [])) :
    ∀ ls : Array Slot, lv_has ls 9 [(0, .ref b), (1, .ref (X.1 0 0)), (2, .ref (Y 10 0)), (3, .ref oo), (4, .int (nI i))] → W p l e room_1 s m #[Value.ref b] below meth c H locs cells slots (lw_Z below #[Value.ref b] s) (F0 m 136 ls []) := by
  intro ls hl
  obtain ⟨⟨hx, hb, hr, hml, hown, hlocks⟩, hts, ⟨hX, hbl, hL⟩, ⟨hV, hNC, hE⟩, hst⟩ := id C0
  obtain ⟨hA, ⟨th, hM⟩, hIv, hoT, hob, ov, hoo⟩ := id hI0
  have hO := hIv.1
  have hSm := hIv.2.1
  have hZ := hIv.2.2.1
  by_cases hok : v_ant (xs (i + 1)) (xs (i + 2)) (xs (i + 3)) = true
  · skip
    by_cases hn : z_n σ 0 < 5
    · skip
      exact k_addAntenna C0 hI0 hS hi hcl (code := 0) (by decide) (fun hoo => by exact w_L_addAntenna l E hA hO hoo hoT hob hZ hok hn) (fun hM => by exact e_X6_addAntenna l E hM hO hok hn) ⟨rfl, rfl, by decide, by decide⟩ (hIv.addA hn hok) (kk _ _) ls hl
    · skip
      exact k_addAntenna C0 hI0 hS hi hcl (code := 2) (by decide) (fun hoo => by exact wf2_L_addAntenna l E hst hA hO hoo hoT hob hok hn) (fun hM => by exact f2_X6_addAntenna l E hM hO hok hn) ⟨rfl, rfl, by decide, by decide⟩ hIv (kk _ _) ls hl
  · skip
    have hbad : v_ant (xs (i + 1)) (xs (i + 2)) (xs (i + 3)) = false := by simpa using hok
    exact k_addAntenna C0 hI0 hS hi hcl (code := 1) (by decide) (fun hoo => by exact wf_L_addAntenna l E hst hA hO hoo hoT hob hbad) (fun hM => by exact f_X6_addAntenna l E hM hO hbad) ⟨rfl, rfl, by decide, by decide⟩ hIv (kk _ _) ls hl

set_option maxHeartbeats 4000000 in
set_option maxRecDepth 100000 in
theorem d_addSatellite {p : Program} {l : Launch} {e : Env} {s : State} {m : MethodId} {below : List Frame} {meth : Method} {c : Code} {b L : Nat} {xs : Nat → Int32} {E : wk_E} {T : Nat → Nat × Nat} {X : z_X} {Y : Nat → Nat → Nat} {σ : z_S} {gt : Int64} {oo : Nat} {H : Heap} {locs : List Loc} {cells slots i : Nat} (C0 : wl_C p l s m meth c b L xs E) (hI0 : wl_I E T X Y σ gt oo H) (hS : va_S (wk_A E) s.heap H locs) (hi : i + 5 ≤ L) (hcl : cells + 4 ≤ 601024 ∧ slots + 70 ≤ 7293034)
    (kk : ∀ (σ9 : z_S) (gt9 : Int64) (T9 : Nat → Nat × Nat) (X9 : z_X) (H9 : Heap) (locs9 : List Loc), wl_I E T9 X9 Y σ9 gt9 oo H9 → X9.1 0 0 = X.1 0 0 → va_S (wk_A E) s.heap H9 locs9 → ∀ ls : Array Slot, lv_has ls 9 [(0, .ref b), (1, .ref (X.1 0 0)), (2, .ref (Y 10 0)), (3, .ref oo), (4, .int (nI i))] → W p l e room_1 s m #[Value.ref b] below meth c H9 locs9 (cells + 4) (slots + 70) (lw_Z below #[Value.ref b] s) (F0 m 1308 ls [])) :
    ∀ ls : Array Slot, lv_has ls 9 [(0, .ref b), (1, .ref (X.1 0 0)), (2, .ref (Y 10 0)), (3, .ref oo), (4, .int (nI i))] → W p l e room_1 s m #[Value.ref b] below meth c H locs cells slots (lw_Z below #[Value.ref b] s) (F0 m 216 ls []) := by
  intro ls hl
  obtain ⟨⟨hx, hb, hr, hml, hown, hlocks⟩, hts, ⟨hX, hbl, hL⟩, ⟨hV, hNC, hE⟩, hst⟩ := id C0
  obtain ⟨hA, ⟨th, hM⟩, hIv, hoT, hob, ov, hoo⟩ := id hI0
  have hO := hIv.1
  have hSm := hIv.2.1
  have hZ := hIv.2.2.1
  by_cases hok : v_sat (xs (i + 1)) (xs (i + 2)) (xs (i + 3)) (xs (i + 4)) = true
  · skip
    by_cases hn : z_n σ 1 < 8
    · skip
      exact k_addSatellite C0 hI0 hS hi hcl (code := 0) (by decide) (fun hoo => by exact w_L_addSatellite l E hA hO hoo hoT hob hZ hok hn) (fun hM => by exact e_X6_addSatellite l E hM hO hok hn) ⟨rfl, rfl, by decide, by decide⟩ (hIv.addS hn hok) (kk _ _) ls hl
    · skip
      exact k_addSatellite C0 hI0 hS hi hcl (code := 2) (by decide) (fun hoo => by exact wf2_L_addSatellite l E hst hA hO hoo hoT hob hok hn) (fun hM => by exact f2_X6_addSatellite l E hM hO hok hn) ⟨rfl, rfl, by decide, by decide⟩ hIv (kk _ _) ls hl
  · skip
    have hbad : v_sat (xs (i + 1)) (xs (i + 2)) (xs (i + 3)) (xs (i + 4)) = false := by simpa using hok
    exact k_addSatellite C0 hI0 hS hi hcl (code := 1) (by decide) (fun hoo => by exact wf_L_addSatellite l E hst hA hO hoo hoT hob hbad) (fun hM => by exact f_X6_addSatellite l E hM hO hbad) ⟨rfl, rfl, by decide, by decide⟩ hIv (kk _ _) ls hl

set_option maxHeartbeats 4000000 in
set_option maxRecDepth 100000 in
theorem d_addPass {p : Program} {l : Launch} {e : Env} {s : State} {m : MethodId} {below : List Frame} {meth : Method} {c : Code} {b L : Nat} {xs : Nat → Int32} {E : wk_E} {T : Nat → Nat × Nat} {X : z_X} {Y : Nat → Nat → Nat} {σ : z_S} {gt : Int64} {oo : Nat} {H : Heap} {locs : List Loc} {cells slots i : Nat} (C0 : wl_C p l s m meth c b L xs E) (hI0 : wl_I E T X Y σ gt oo H) (hS : va_S (wk_A E) s.heap H locs) (hi : i + 5 ≤ L) (hcl : cells + 4 ≤ 601024 ∧ slots + 70 ≤ 7293034)
    (kk : ∀ (σ9 : z_S) (gt9 : Int64) (T9 : Nat → Nat × Nat) (X9 : z_X) (H9 : Heap) (locs9 : List Loc), wl_I E T9 X9 Y σ9 gt9 oo H9 → X9.1 0 0 = X.1 0 0 → va_S (wk_A E) s.heap H9 locs9 → ∀ ls : Array Slot, lv_has ls 9 [(0, .ref b), (1, .ref (X.1 0 0)), (2, .ref (Y 10 0)), (3, .ref oo), (4, .int (nI i))] → W p l e room_1 s m #[Value.ref b] below meth c H9 locs9 (cells + 4) (slots + 70) (lw_Z below #[Value.ref b] s) (F0 m 1308 ls [])) :
    ∀ ls : Array Slot, lv_has ls 9 [(0, .ref b), (1, .ref (X.1 0 0)), (2, .ref (Y 10 0)), (3, .ref oo), (4, .int (nI i))] → W p l e room_1 s m #[Value.ref b] below meth c H locs cells slots (lw_Z below #[Value.ref b] s) (F0 m 308 ls []) := by
  intro ls hl
  obtain ⟨⟨hx, hb, hr, hml, hown, hlocks⟩, hts, ⟨hX, hbl, hL⟩, ⟨hV, hNC, hE⟩, hst⟩ := id C0
  obtain ⟨hA, ⟨th, hM⟩, hIv, hoT, hob, ov, hoo⟩ := id hI0
  have hO := hIv.1
  have hSm := hIv.2.1
  have hZ := hIv.2.2.1
  by_cases q1 : v_ix (xs (i + 1)) (z_n σ 1) = true
  · skip
    obtain ⟨q1k, h1, e1⟩ := v_ix_of q1
    by_cases q2 : v_ix (xs (i + 2)) (z_n σ 0) = true
    · skip
      obtain ⟨q2k, h2, e2⟩ := v_ix_of q2
      by_cases hsp : v_span σ (xs (i + 3)) (xs (i + 4)) = true
      · skip
        by_cases hlen : (xs (i + 4)) - (xs (i + 3)) ≤ 600
        · skip
          by_cases hhe : f_hears σ q2k q1k = true
          · skip
            by_cases hn : z_n σ 2 < 16
            · skip
              exact k_addPass C0 hI0 hS hi hcl (code := 0) (by decide) (fun hoo => by rw [e1, e2]; exact w_L_addPass l E hA hO hoo hoT hob hZ h1 h2 hsp hlen hhe hn) (fun hM => by rw [e1, e2]; exact e_X6_addPass l E hM hO h1 h2 hsp hlen hhe hn) ⟨rfl, rfl, by decide, by decide⟩ (hIv.addP hn h1 h2 hsp (v_len hO hsp hlen)) (kk _ _) ls hl
            · skip
              exact k_addPass C0 hI0 hS hi hcl (code := 3) (by decide) (fun hoo => by rw [e1, e2]; exact wf6_L_addPass l E hst hA hO hoo hoT hob h1 h2 hsp hlen hhe hn) (fun hM => by rw [e1, e2]; exact f6_X6_addPass l E hM hO h1 h2 hsp hlen hhe hn) ⟨rfl, rfl, by decide, by decide⟩ hIv (kk _ _) ls hl
          · skip
            have hbad : f_hears σ q2k q1k = false := by simpa using hhe
            exact k_addPass C0 hI0 hS hi hcl (code := 2) (by decide) (fun hoo => by rw [e1, e2]; exact wf5_L_addPass l E hst hA hO hoo hoT hob h1 h2 hsp hlen hbad) (fun hM => by rw [e1, e2]; exact f5_X6_addPass l E hM hO h1 h2 hsp hlen hbad) ⟨rfl, rfl, by decide, by decide⟩ hIv (kk _ _) ls hl
        · skip
          exact k_addPass C0 hI0 hS hi hcl (code := 2) (by decide) (fun hoo => by rw [e1, e2]; exact wf4_L_addPass l E hst hA hO hoo hoT hob h1 h2 hsp hlen) (fun hM => by rw [e1, e2]; exact f4_X6_addPass l E hM hO h1 h2 hsp hlen) ⟨rfl, rfl, by decide, by decide⟩ hIv (kk _ _) ls hl
      · skip
        have hbad : v_span σ (xs (i + 3)) (xs (i + 4)) = false := by simpa using hsp
        exact k_addPass C0 hI0 hS hi hcl (code := 2) (by decide) (fun hoo => by rw [e1, e2]; exact wf3_L_addPass l E hst hA hO hoo hoT hob h1 h2 hbad) (fun hM => by rw [e1, e2]; exact f3_X6_addPass l E hM hO h1 h2 hbad) ⟨rfl, rfl, by decide, by decide⟩ hIv (kk _ _) ls hl
    · skip
      have hbad : v_ix (xs (i + 2)) (z_n σ 0) = false := by simpa using q2
      exact k_addPass C0 hI0 hS hi hcl (code := 1) (by decide) (fun hoo => by rw [e1]; exact wf2_L_addPass l E hst hA hO hoo hoT hob h1 hbad) (fun hM => by rw [e1]; exact f2_X6_addPass l E hM hO h1 hbad) ⟨rfl, rfl, by decide, by decide⟩ hIv (kk _ _) ls hl
  · skip
    have hbad : v_ix (xs (i + 1)) (z_n σ 1) = false := by simpa using q1
    exact k_addPass C0 hI0 hS hi hcl (code := 1) (by decide) (fun hoo => by exact wf_L_addPass l E hst hA hO hoo hoT hob hbad) (fun hM => by exact f_X6_addPass l E hM hO hbad) ⟨rfl, rfl, by decide, by decide⟩ hIv (kk _ _) ls hl

set_option maxHeartbeats 4000000 in
set_option maxRecDepth 100000 in
theorem d_addOutage {p : Program} {l : Launch} {e : Env} {s : State} {m : MethodId} {below : List Frame} {meth : Method} {c : Code} {b L : Nat} {xs : Nat → Int32} {E : wk_E} {T : Nat → Nat × Nat} {X : z_X} {Y : Nat → Nat → Nat} {σ : z_S} {gt : Int64} {oo : Nat} {H : Heap} {locs : List Loc} {cells slots i : Nat} (C0 : wl_C p l s m meth c b L xs E) (hI0 : wl_I E T X Y σ gt oo H) (hS : va_S (wk_A E) s.heap H locs) (hi : i + 5 ≤ L) (hcl : cells + 4 ≤ 601024 ∧ slots + 70 ≤ 7293034)
    (kk : ∀ (σ9 : z_S) (gt9 : Int64) (T9 : Nat → Nat × Nat) (X9 : z_X) (H9 : Heap) (locs9 : List Loc), wl_I E T9 X9 Y σ9 gt9 oo H9 → X9.1 0 0 = X.1 0 0 → va_S (wk_A E) s.heap H9 locs9 → ∀ ls : Array Slot, lv_has ls 9 [(0, .ref b), (1, .ref (X.1 0 0)), (2, .ref (Y 10 0)), (3, .ref oo), (4, .int (nI i))] → W p l e room_1 s m #[Value.ref b] below meth c H9 locs9 (cells + 4) (slots + 70) (lw_Z below #[Value.ref b] s) (F0 m 1308 ls [])) :
    ∀ ls : Array Slot, lv_has ls 9 [(0, .ref b), (1, .ref (X.1 0 0)), (2, .ref (Y 10 0)), (3, .ref oo), (4, .int (nI i))] → W p l e room_1 s m #[Value.ref b] below meth c H locs cells slots (lw_Z below #[Value.ref b] s) (F0 m 400 ls []) := by
  intro ls hl
  obtain ⟨⟨hx, hb, hr, hml, hown, hlocks⟩, hts, ⟨hX, hbl, hL⟩, ⟨hV, hNC, hE⟩, hst⟩ := id C0
  obtain ⟨hA, ⟨th, hM⟩, hIv, hoT, hob, ov, hoo⟩ := id hI0
  have hO := hIv.1
  have hSm := hIv.2.1
  have hZ := hIv.2.2.1
  by_cases q1 : v_ix (xs (i + 1)) (z_n σ 0) = true
  · skip
    obtain ⟨q1k, h1, e1⟩ := v_ix_of q1
    by_cases hsp : v_span σ (xs (i + 2)) (xs (i + 3)) = true
    · skip
      by_cases hn : z_n σ 3 < 6
      · skip
        exact k_addOutage C0 hI0 hS hi hcl (code := 0) (by decide) (fun hoo => by rw [e1]; exact w_L_addOutage l E hA hO hoo hoT hob hZ h1 hsp hn) (fun hM => by rw [e1]; exact e_X6_addOutage l E hM hO h1 hsp hn) ⟨rfl, rfl, by decide, by decide⟩ (hIv.addO hn h1 hsp) (kk _ _) ls hl
      · skip
        exact k_addOutage C0 hI0 hS hi hcl (code := 3) (by decide) (fun hoo => by rw [e1]; exact wf3_L_addOutage l E hst hA hO hoo hoT hob h1 hsp hn) (fun hM => by rw [e1]; exact f3_X6_addOutage l E hM hO h1 hsp hn) ⟨rfl, rfl, by decide, by decide⟩ hIv (kk _ _) ls hl
    · skip
      have hbad : v_span σ (xs (i + 2)) (xs (i + 3)) = false := by simpa using hsp
      exact k_addOutage C0 hI0 hS hi hcl (code := 2) (by decide) (fun hoo => by rw [e1]; exact wf2_L_addOutage l E hst hA hO hoo hoT hob h1 hbad) (fun hM => by rw [e1]; exact f2_X6_addOutage l E hM hO h1 hbad) ⟨rfl, rfl, by decide, by decide⟩ hIv (kk _ _) ls hl
  · skip
    have hbad : v_ix (xs (i + 1)) (z_n σ 0) = false := by simpa using q1
    exact k_addOutage C0 hI0 hS hi hcl (code := 1) (by decide) (fun hoo => by exact wf_L_addOutage l E hst hA hO hoo hoT hob hbad) (fun hM => by exact f_X6_addOutage l E hM hO hbad) ⟨rfl, rfl, by decide, by decide⟩ hIv (kk _ _) ls hl

set_option maxHeartbeats 4000000 in
set_option maxRecDepth 100000 in
theorem d_setHandover {p : Program} {l : Launch} {e : Env} {s : State} {m : MethodId} {below : List Frame} {meth : Method} {c : Code} {b L : Nat} {xs : Nat → Int32} {E : wk_E} {T : Nat → Nat × Nat} {X : z_X} {Y : Nat → Nat → Nat} {σ : z_S} {gt : Int64} {oo : Nat} {H : Heap} {locs : List Loc} {cells slots i : Nat} (C0 : wl_C p l s m meth c b L xs E) (hI0 : wl_I E T X Y σ gt oo H) (hS : va_S (wk_A E) s.heap H locs) (hi : i + 5 ≤ L) (hcl : cells + 4 ≤ 601024 ∧ slots + 70 ≤ 7293034)
    (kk : ∀ (σ9 : z_S) (gt9 : Int64) (T9 : Nat → Nat × Nat) (X9 : z_X) (H9 : Heap) (locs9 : List Loc), wl_I E T9 X9 Y σ9 gt9 oo H9 → X9.1 0 0 = X.1 0 0 → va_S (wk_A E) s.heap H9 locs9 → ∀ ls : Array Slot, lv_has ls 9 [(0, .ref b), (1, .ref (X.1 0 0)), (2, .ref (Y 10 0)), (3, .ref oo), (4, .int (nI i))] → W p l e room_1 s m #[Value.ref b] below meth c H9 locs9 (cells + 4) (slots + 70) (lw_Z below #[Value.ref b] s) (F0 m 1308 ls [])) :
    ∀ ls : Array Slot, lv_has ls 9 [(0, .ref b), (1, .ref (X.1 0 0)), (2, .ref (Y 10 0)), (3, .ref oo), (4, .int (nI i))] → W p l e room_1 s m #[Value.ref b] below meth c H locs cells slots (lw_Z below #[Value.ref b] s) (F0 m 480 ls []) := by
  intro ls hl
  obtain ⟨⟨hx, hb, hr, hml, hown, hlocks⟩, hts, ⟨hX, hbl, hL⟩, ⟨hV, hNC, hE⟩, hst⟩ := id C0
  obtain ⟨hA, ⟨th, hM⟩, hIv, hoT, hob, ov, hoo⟩ := id hI0
  have hO := hIv.1
  have hSm := hIv.2.1
  have hZ := hIv.2.2.1
  by_cases hok : v_in (xs (i + 1)) 0 60 = true
  · skip
    exact k_setHandover C0 hI0 hS hi hcl (code := 0) (by decide) (fun hoo => by exact w_L_setHandover l E hA hO hoo hoT hob hok) (fun hM => by exact e_X6_setHandover l E hM hO hok) ⟨rfl, rfl, by decide, by decide⟩ (hIv.setHo hok) (kk _ _) ls hl
  · skip
    have hbad : v_in (xs (i + 1)) 0 60 = false := by simpa using hok
    exact k_setHandover C0 hI0 hS hi hcl (code := 1) (by decide) (fun hoo => by exact wf_L_setHandover l E hst hA hO hoo hoT hob hbad) (fun hM => by exact f_X6_setHandover l E hM hO hbad) ⟨rfl, rfl, by decide, by decide⟩ hIv (kk _ _) ls hl

set_option maxHeartbeats 4000000 in
set_option maxRecDepth 100000 in
theorem d_count {p : Program} {l : Launch} {e : Env} {s : State} {m : MethodId} {below : List Frame} {meth : Method} {c : Code} {b L : Nat} {xs : Nat → Int32} {E : wk_E} {T : Nat → Nat × Nat} {X : z_X} {Y : Nat → Nat → Nat} {σ : z_S} {gt : Int64} {oo : Nat} {H : Heap} {locs : List Loc} {cells slots i : Nat} (C0 : wl_C p l s m meth c b L xs E) (hI0 : wl_I E T X Y σ gt oo H) (hS : va_S (wk_A E) s.heap H locs) (hi : i + 5 ≤ L) (hcl : cells + 4 ≤ 601024 ∧ slots + 70 ≤ 7293034)
    (kk : ∀ (σ9 : z_S) (gt9 : Int64) (T9 : Nat → Nat × Nat) (X9 : z_X) (H9 : Heap) (locs9 : List Loc), wl_I E T9 X9 Y σ9 gt9 oo H9 → X9.1 0 0 = X.1 0 0 → va_S (wk_A E) s.heap H9 locs9 → ∀ ls : Array Slot, lv_has ls 9 [(0, .ref b), (1, .ref (X.1 0 0)), (2, .ref (Y 10 0)), (3, .ref oo), (4, .int (nI i))] → W p l e room_1 s m #[Value.ref b] below meth c H9 locs9 (cells + 4) (slots + 70) (lw_Z below #[Value.ref b] s) (F0 m 1308 ls [])) :
    ∀ ls : Array Slot, lv_has ls 9 [(0, .ref b), (1, .ref (X.1 0 0)), (2, .ref (Y 10 0)), (3, .ref oo), (4, .int (nI i))] → W p l e room_1 s m #[Value.ref b] below meth c H locs cells slots (lw_Z below #[Value.ref b] s) (F0 m 536 ls []) := by
  intro ls hl
  obtain ⟨⟨hx, hb, hr, hml, hown, hlocks⟩, hts, ⟨hX, hbl, hL⟩, ⟨hV, hNC, hE⟩, hst⟩ := id C0
  obtain ⟨hA, ⟨th, hM⟩, hIv, hoT, hob, ov, hoo⟩ := id hI0
  have hO := hIv.1
  have hSm := hIv.2.1
  have hZ := hIv.2.2.1
  by_cases q1 : v_in (xs (i + 1)) 0 2 = true
  · skip
    obtain ⟨q1k, h1, e1⟩ := v_in_of (n := 2) q1 rfl
    exact k_count C0 hI0 hS hi hcl (code := 0) (by decide) (fun hoo => by rw [e1]; exact w_L_count l E hA hO hoo hoT hob h1) (fun hM => by rw [e1]; exact e_X6_count l E hM hO h1) ⟨rfl, rfl, by decide, by decide⟩ hIv (kk _ _) ls hl
  · skip
    have hbad : v_in (xs (i + 1)) 0 2 = false := by simpa using q1
    exact k_count C0 hI0 hS hi hcl (code := 1) (by decide) (fun hoo => by exact wf_L_count l E hst hA hO hoo hoT hob hbad) (fun hM => by exact f_X6_count l E hM hO hbad) ⟨rfl, rfl, by decide, by decide⟩ hIv (kk _ _) ls hl

set_option maxHeartbeats 4000000 in
set_option maxRecDepth 100000 in
theorem d_pass {p : Program} {l : Launch} {e : Env} {s : State} {m : MethodId} {below : List Frame} {meth : Method} {c : Code} {b L : Nat} {xs : Nat → Int32} {E : wk_E} {T : Nat → Nat × Nat} {X : z_X} {Y : Nat → Nat → Nat} {σ : z_S} {gt : Int64} {oo : Nat} {H : Heap} {locs : List Loc} {cells slots i : Nat} (C0 : wl_C p l s m meth c b L xs E) (hI0 : wl_I E T X Y σ gt oo H) (hS : va_S (wk_A E) s.heap H locs) (hi : i + 5 ≤ L) (hcl : cells + 4 ≤ 601024 ∧ slots + 70 ≤ 7293034)
    (kk : ∀ (σ9 : z_S) (gt9 : Int64) (T9 : Nat → Nat × Nat) (X9 : z_X) (H9 : Heap) (locs9 : List Loc), wl_I E T9 X9 Y σ9 gt9 oo H9 → X9.1 0 0 = X.1 0 0 → va_S (wk_A E) s.heap H9 locs9 → ∀ ls : Array Slot, lv_has ls 9 [(0, .ref b), (1, .ref (X.1 0 0)), (2, .ref (Y 10 0)), (3, .ref oo), (4, .int (nI i))] → W p l e room_1 s m #[Value.ref b] below meth c H9 locs9 (cells + 4) (slots + 70) (lw_Z below #[Value.ref b] s) (F0 m 1308 ls [])) :
    ∀ ls : Array Slot, lv_has ls 9 [(0, .ref b), (1, .ref (X.1 0 0)), (2, .ref (Y 10 0)), (3, .ref oo), (4, .int (nI i))] → W p l e room_1 s m #[Value.ref b] below meth c H locs cells slots (lw_Z below #[Value.ref b] s) (F0 m 592 ls []) := by
  intro ls hl
  obtain ⟨⟨hx, hb, hr, hml, hown, hlocks⟩, hts, ⟨hX, hbl, hL⟩, ⟨hV, hNC, hE⟩, hst⟩ := id C0
  obtain ⟨hA, ⟨th, hM⟩, hIv, hoT, hob, ov, hoo⟩ := id hI0
  have hO := hIv.1
  have hSm := hIv.2.1
  have hZ := hIv.2.2.1
  by_cases q1 : v_ix (xs (i + 1)) (z_n σ 2) = true
  · skip
    obtain ⟨q1k, h1, e1⟩ := v_ix_of q1
    by_cases q2 : v_in (xs (i + 2)) 0 7 = true
    · skip
      obtain ⟨q2k, h2, e2⟩ := v_in_of (n := 7) q2 rfl
      exact k_pass C0 hI0 hS hi hcl (code := 0) (by decide) (fun hoo => by rw [e1, e2]; exact w_L_pass l E hA hO hoo hoT hob h1 h2) (fun hM => by rw [e1, e2]; exact e_X6_pass l E hM hO h1 h2) ⟨rfl, rfl, by decide, by decide⟩ hIv (kk _ _) ls hl
    · skip
      have hbad : v_in (xs (i + 2)) 0 7 = false := by simpa using q2
      exact k_pass C0 hI0 hS hi hcl (code := 1) (by decide) (fun hoo => by rw [e1]; exact wf2_L_pass l E hst hA hO hoo hoT hob h1 hbad) (fun hM => by rw [e1]; exact f2_X6_pass l E hM hO h1 hbad) ⟨rfl, rfl, by decide, by decide⟩ hIv (kk _ _) ls hl
  · skip
    have hbad : v_ix (xs (i + 1)) (z_n σ 2) = false := by simpa using q1
    exact k_pass C0 hI0 hS hi hcl (code := 1) (by decide) (fun hoo => by exact wf_L_pass l E hst hA hO hoo hoT hob hbad) (fun hM => by exact f_X6_pass l E hM hO hbad) ⟨rfl, rfl, by decide, by decide⟩ hIv (kk _ _) ls hl

set_option maxHeartbeats 4000000 in
set_option maxRecDepth 100000 in
theorem d_satellite {p : Program} {l : Launch} {e : Env} {s : State} {m : MethodId} {below : List Frame} {meth : Method} {c : Code} {b L : Nat} {xs : Nat → Int32} {E : wk_E} {T : Nat → Nat × Nat} {X : z_X} {Y : Nat → Nat → Nat} {σ : z_S} {gt : Int64} {oo : Nat} {H : Heap} {locs : List Loc} {cells slots i : Nat} (C0 : wl_C p l s m meth c b L xs E) (hI0 : wl_I E T X Y σ gt oo H) (hS : va_S (wk_A E) s.heap H locs) (hi : i + 5 ≤ L) (hcl : cells + 4 ≤ 601024 ∧ slots + 70 ≤ 7293034)
    (kk : ∀ (σ9 : z_S) (gt9 : Int64) (T9 : Nat → Nat × Nat) (X9 : z_X) (H9 : Heap) (locs9 : List Loc), wl_I E T9 X9 Y σ9 gt9 oo H9 → X9.1 0 0 = X.1 0 0 → va_S (wk_A E) s.heap H9 locs9 → ∀ ls : Array Slot, lv_has ls 9 [(0, .ref b), (1, .ref (X.1 0 0)), (2, .ref (Y 10 0)), (3, .ref oo), (4, .int (nI i))] → W p l e room_1 s m #[Value.ref b] below meth c H9 locs9 (cells + 4) (slots + 70) (lw_Z below #[Value.ref b] s) (F0 m 1308 ls [])) :
    ∀ ls : Array Slot, lv_has ls 9 [(0, .ref b), (1, .ref (X.1 0 0)), (2, .ref (Y 10 0)), (3, .ref oo), (4, .int (nI i))] → W p l e room_1 s m #[Value.ref b] below meth c H locs cells slots (lw_Z below #[Value.ref b] s) (F0 m 1117 ls []) := by
  intro ls hl
  obtain ⟨⟨hx, hb, hr, hml, hown, hlocks⟩, hts, ⟨hX, hbl, hL⟩, ⟨hV, hNC, hE⟩, hst⟩ := id C0
  obtain ⟨hA, ⟨th, hM⟩, hIv, hoT, hob, ov, hoo⟩ := id hI0
  have hO := hIv.1
  have hSm := hIv.2.1
  have hZ := hIv.2.2.1
  by_cases q1 : v_ix (xs (i + 1)) (z_n σ 1) = true
  · skip
    obtain ⟨q1k, h1, e1⟩ := v_ix_of q1
    by_cases q2 : v_in (xs (i + 2)) 0 3 = true
    · skip
      obtain ⟨q2k, h2, e2⟩ := v_in_of (n := 3) q2 rfl
      exact k_satellite C0 hI0 hS hi hcl (code := 0) (by decide) (fun hoo => by rw [e1, e2]; exact w_L_satellite l E hA hO hoo hoT hob h1 h2) (fun hM => by rw [e1, e2]; exact e_X6_satellite l E hM hO h1 h2 hSm) ⟨rfl, rfl, by decide, by decide⟩ hIv (kk _ _) ls hl
    · skip
      have hbad : v_in (xs (i + 2)) 0 3 = false := by simpa using q2
      exact k_satellite C0 hI0 hS hi hcl (code := 1) (by decide) (fun hoo => by rw [e1]; exact wf2_L_satellite l E hst hA hO hoo hoT hob h1 hbad) (fun hM => by rw [e1]; exact f2_X6_satellite l E hM hO h1 hbad) ⟨rfl, rfl, by decide, by decide⟩ hIv (kk _ _) ls hl
  · skip
    have hbad : v_ix (xs (i + 1)) (z_n σ 1) = false := by simpa using q1
    exact k_satellite C0 hI0 hS hi hcl (code := 1) (by decide) (fun hoo => by exact wf_L_satellite l E hst hA hO hoo hoT hob hbad) (fun hM => by exact f_X6_satellite l E hM hO hbad) ⟨rfl, rfl, by decide, by decide⟩ hIv (kk _ _) ls hl
