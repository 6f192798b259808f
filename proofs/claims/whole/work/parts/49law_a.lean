set_option maxHeartbeats 4000000 in
set_option maxRecDepth 100000 in
theorem d_best {p : Program} {l : Launch} {e : Env} {s : State} {m : MethodId} {below : List Frame} {meth : Method} {c : Code} {b L : Nat} {xs : Nat → Int32} {E : wk_E} {T : Nat → Nat × Nat} {X : z_X} {Y : Nat → Nat → Nat} {σ : z_S} {gt : Int64} {oo : Nat} {H : Heap} {locs : List Loc} {cells slots i : Nat} (C0 : wl_C p l s m meth c b L xs E) (hI0 : wl_I E T X Y σ gt oo H) (hS : va_S (wk_A E) s.heap H locs) (hi : i + 5 ≤ L) (hcl : cells + 4 ≤ 601024 ∧ slots + 70 ≤ 7293034)
    (kk : ∀ (σ9 : z_S) (gt9 : Int64) (T9 : Nat → Nat × Nat) (X9 : z_X) (H9 : Heap) (locs9 : List Loc), wl_I E T9 X9 Y σ9 gt9 oo H9 → X9.1 0 0 = X.1 0 0 → va_S (wk_A E) s.heap H9 locs9 → ∀ ls : Array Slot, lv_has ls 9 [(0, .ref b), (1, .ref (X.1 0 0)), (2, .ref (Y 10 0)), (3, .ref oo), (4, .int (nI i))] → W p l e room_1 s m #[Value.ref b] below meth c H9 locs9 (cells + 4) (slots + 70) (lw_Z below #[Value.ref b] s) (F0 m 1308 ls [])) :
    ∀ ls : Array Slot, lv_has ls 9 [(0, .ref b), (1, .ref (X.1 0 0)), (2, .ref (Y 10 0)), (3, .ref oo), (4, .int (nI i))] → W p l e room_1 s m #[Value.ref b] below meth c H locs cells slots (lw_Z below #[Value.ref b] s) (F0 m 798 ls []) := by
  intro ls hl
  obtain ⟨⟨hx, hb, hr, hml, hown, hlocks⟩, hts, ⟨hX, hbl, hL⟩, ⟨hV, hNC, hE⟩, hst⟩ := id C0
  obtain ⟨hA, ⟨th, hM⟩, hIv, hoT, hob, ov, hoo⟩ := hI0
  have hK := hV.k
  have hbA : ¬ wk_A E b := by unfold wk_A; omega
  have hA9 : ∀ q : Nat, s.heap.size ≤ q → wk_A E q := fun q h => by unfold wk_A; omega
  have hVH : EV E s H := hV.heap hS.1 (fun q hq => hS.2.1 q (by omega) (by unfold wk_A; omega))
  have hbH : E.2.2.1 ≤ H.size := by have := hS.1; omega
  refine lv_aload_n hx hb dL_law_798 rfl (lv_at hl 1 rfl) ?_
  refine we_V (As := []) (rest := []) ⟨hx, hb, hml, hown, hts⟩ (e_X5_best l E hA hIv.1) (cwV 0 hts gL_law_X5_best rfl rfl rfl (by decide +kernel) ⟨(Nat.le_of_ble_eq_true rfl), (Nat.le_of_ble_eq_true rfl)⟩) (wk_recv hK hA.desk rfl) hVH hS (wl_FDA hA.2.1) hA9 rfl hl.1 rfl (Nat.le_of_ble_eq_true rfl) dL_law_799 ⟨by show _ ≤ 601024; omega, by show _ ≤ 7293034; omega⟩ (fun v9 H locs hR9 hz9 hk9 hS => ?_)
  obtain ⟨b1, X9, rfl, hb1, hA, hX19⟩ := hR9
  have hX9 : X9.1 0 0 = X.1 0 0 := by rw [hX19]
  have hM := hM.kept (fun q hq hf => hk9 q hq (wl_DM hf))
  have hoo := va_at.kept hoo (hk9 _ hoo.lt (wl_ooF hoT))
  have hVH : EV E s H := hV.heap hS.1 (fun q hq => hS.2.1 q (by omega) (by unfold wk_A; omega))
  have hbH : E.2.2.1 ≤ H.size := by have := hS.1; omega
  refine wk_eqls (st' := [.int (nI b1)]) rfl ?_
  refine lv_aload_n hx hb dL_law_802 rfl (lv_at hl 2 rfl) ?_
  refine we_V (As := []) (rest := [.int (nI b1)]) ⟨hx, hb, hml, hown, hts⟩ (e_X6_best l E hM hIv.1) (cwV 0 hts gL_law_X6_best rfl rfl rfl (by decide +kernel) ⟨(Nat.le_of_ble_eq_true rfl), (Nat.le_of_ble_eq_true rfl)⟩) (wk_recv hK hM.obj rfl) hVH hS (wl_FMA hM.2) hA9 rfl hl.1 rfl (Nat.le_of_ble_eq_true rfl) dL_law_803 ⟨by show _ ≤ 601024; omega, by show _ ≤ 7293034; omega⟩ (fun v9 H locs hR9 hz9 hk9 hS => ?_)
  obtain ⟨b2, rfl, hb2, hM⟩ := hR9
  have hbb : b1 = b2 := b_bestI hIv.1 hb1 hb2
  subst hbb
  have hA := hA.kept (fun q hq hf => hk9 q hq (fun z => wl_DM z hf))
  have hoo := va_at.kept hoo (hk9 _ hoo.lt (wl_ooM hoT))
  have hVH : EV E s H := hV.heap hS.1 (fun q hq => hS.2.1 q (by omega) (by unfold wk_A; omega))
  have hbH : E.2.2.1 ≤ H.size := by have := hS.1; omega
  refine wk_eqls (st' := [.int (nI b1), .int (nI b1)]) rfl ?_
  refine lv_icmp_eq (tgt := 1308) hx hb dL_law_806 (by decide) (fun c_806 => ?_) (fun c_806 => ?_)
  · skip
    refine W.widen (k := cells + 4) (n := slots + 70) (by omega) (by omega) ?_
    exact kk σ gt _ X9 _ _ ⟨hA, ⟨_, hM⟩, hIv, hoT, hob, _, hoo⟩ hX9 hS ls (lv_sub hl [0, 1, 2, 3, 4] rfl)
  exact absurd rfl c_806

set_option maxHeartbeats 4000000 in
set_option maxRecDepth 100000 in
theorem d_taken {p : Program} {l : Launch} {e : Env} {s : State} {m : MethodId} {below : List Frame} {meth : Method} {c : Code} {b L : Nat} {xs : Nat → Int32} {E : wk_E} {T : Nat → Nat × Nat} {X : z_X} {Y : Nat → Nat → Nat} {σ : z_S} {gt : Int64} {oo : Nat} {H : Heap} {locs : List Loc} {cells slots i : Nat} (C0 : wl_C p l s m meth c b L xs E) (hI0 : wl_I E T X Y σ gt oo H) (hS : va_S (wk_A E) s.heap H locs) (hi : i + 5 ≤ L) (hcl : cells + 4 ≤ 601024 ∧ slots + 70 ≤ 7293034)
    (kk : ∀ (σ9 : z_S) (gt9 : Int64) (T9 : Nat → Nat × Nat) (X9 : z_X) (H9 : Heap) (locs9 : List Loc), wl_I E T9 X9 Y σ9 gt9 oo H9 → X9.1 0 0 = X.1 0 0 → va_S (wk_A E) s.heap H9 locs9 → ∀ ls : Array Slot, lv_has ls 9 [(0, .ref b), (1, .ref (X.1 0 0)), (2, .ref (Y 10 0)), (3, .ref oo), (4, .int (nI i))] → W p l e room_1 s m #[Value.ref b] below meth c H9 locs9 (cells + 4) (slots + 70) (lw_Z below #[Value.ref b] s) (F0 m 1308 ls [])) :
    ∀ ls : Array Slot, lv_has ls 9 [(0, .ref b), (1, .ref (X.1 0 0)), (2, .ref (Y 10 0)), (3, .ref oo), (4, .int (nI i))] → W p l e room_1 s m #[Value.ref b] below meth c H locs cells slots (lw_Z below #[Value.ref b] s) (F0 m 979 ls []) := by
  intro ls hl
  obtain ⟨⟨hx, hb, hr, hml, hown, hlocks⟩, hts, ⟨hX, hbl, hL⟩, ⟨hV, hNC, hE⟩, hst⟩ := id C0
  obtain ⟨hA, ⟨th, hM⟩, hIv, hoT, hob, ov, hoo⟩ := hI0
  have hK := hV.k
  have hbA : ¬ wk_A E b := by unfold wk_A; omega
  have hA9 : ∀ q : Nat, s.heap.size ≤ q → wk_A E q := fun q h => by unfold wk_A; omega
  have hVH : EV E s H := hV.heap hS.1 (fun q hq => hS.2.1 q (by omega) (by unfold wk_A; omega))
  have hbH : E.2.2.1 ≤ H.size := by have := hS.1; omega
  refine lv_aload_n hx hb dL_law_979 rfl (lv_at hl 1 rfl) ?_
  have hX9 : X.1 0 0 = X.1 0 0 := rfl
  refine wk_V (As := []) (rest := []) ⟨hx, hb, hml, hown, hts⟩ (c_X5_taken l E hA hIv.1) (cwV 0 hts gL_law_X5_taken rfl rfl rfl (by decide +kernel) ⟨(Nat.le_of_ble_eq_true rfl), (Nat.le_of_ble_eq_true rfl)⟩) (wk_recv hK hA.desk rfl) hK rfl hl.1 rfl (Nat.le_of_ble_eq_true rfl) dL_law_980 ⟨by show _ ≤ 601024; omega, by show _ ≤ 7293034; omega⟩ ?_
  refine lv_aload_n hx hb dL_law_983 rfl (lv_at hl 2 rfl) ?_
  refine we_V (As := []) (rest := [.int (nI (z_mk σ))]) ⟨hx, hb, hml, hown, hts⟩ (e_X6_taken l E hM hIv.1) (cwV 0 hts gL_law_X6_taken rfl rfl rfl (by decide +kernel) ⟨(Nat.le_of_ble_eq_true rfl), (Nat.le_of_ble_eq_true rfl)⟩) (wk_recv hK hM.obj rfl) hVH hS (wl_FMA hM.2) hA9 rfl hl.1 rfl (Nat.le_of_ble_eq_true rfl) dL_law_984 ⟨by show _ ≤ 601024; omega, by show _ ≤ 7293034; omega⟩ (fun v9 H locs hR9 hz9 hk9 hS => ?_)
  obtain ⟨rfl, hM⟩ := hR9
  have hA := hA.kept (fun q hq hf => hk9 q hq (fun z => wl_DM z hf))
  have hoo := va_at.kept hoo (hk9 _ hoo.lt (wl_ooM hoT))
  have hVH : EV E s H := hV.heap hS.1 (fun q hq => hS.2.1 q (by omega) (by unfold wk_A; omega))
  have hbH : E.2.2.1 ≤ H.size := by have := hS.1; omega
  refine wk_eqls (st' := [.int (nI (z_mk σ)), .int (nI (z_mk σ))]) rfl ?_
  refine lv_icmp_eq (tgt := 1308) hx hb dL_law_987 (by decide) (fun c_987 => ?_) (fun c_987 => ?_)
  · skip
    refine W.widen (k := cells + 4) (n := slots + 70) (by omega) (by omega) ?_
    exact kk σ gt _ X _ _ ⟨hA, ⟨_, hM⟩, hIv, hoT, hob, _, hoo⟩ hX9 hS ls (lv_sub hl [0, 1, 2, 3, 4] rfl)
  exact absurd rfl c_987

set_option maxHeartbeats 4000000 in
set_option maxRecDepth 100000 in
theorem d_now {p : Program} {l : Launch} {e : Env} {s : State} {m : MethodId} {below : List Frame} {meth : Method} {c : Code} {b L : Nat} {xs : Nat → Int32} {E : wk_E} {T : Nat → Nat × Nat} {X : z_X} {Y : Nat → Nat → Nat} {σ : z_S} {gt : Int64} {oo : Nat} {H : Heap} {locs : List Loc} {cells slots i : Nat} (C0 : wl_C p l s m meth c b L xs E) (hI0 : wl_I E T X Y σ gt oo H) (hS : va_S (wk_A E) s.heap H locs) (hi : i + 5 ≤ L) (hcl : cells + 4 ≤ 601024 ∧ slots + 70 ≤ 7293034)
    (kk : ∀ (σ9 : z_S) (gt9 : Int64) (T9 : Nat → Nat × Nat) (X9 : z_X) (H9 : Heap) (locs9 : List Loc), wl_I E T9 X9 Y σ9 gt9 oo H9 → X9.1 0 0 = X.1 0 0 → va_S (wk_A E) s.heap H9 locs9 → ∀ ls : Array Slot, lv_has ls 9 [(0, .ref b), (1, .ref (X.1 0 0)), (2, .ref (Y 10 0)), (3, .ref oo), (4, .int (nI i))] → W p l e room_1 s m #[Value.ref b] below meth c H9 locs9 (cells + 4) (slots + 70) (lw_Z below #[Value.ref b] s) (F0 m 1308 ls [])) :
    ∀ ls : Array Slot, lv_has ls 9 [(0, .ref b), (1, .ref (X.1 0 0)), (2, .ref (Y 10 0)), (3, .ref oo), (4, .int (nI i))] → W p l e room_1 s m #[Value.ref b] below meth c H locs cells slots (lw_Z below #[Value.ref b] s) (F0 m 1104 ls []) := by
  intro ls hl
  obtain ⟨⟨hx, hb, hr, hml, hown, hlocks⟩, hts, ⟨hX, hbl, hL⟩, ⟨hV, hNC, hE⟩, hst⟩ := id C0
  obtain ⟨hA, ⟨th, hM⟩, hIv, hoT, hob, ov, hoo⟩ := hI0
  have hK := hV.k
  have hbA : ¬ wk_A E b := by unfold wk_A; omega
  have hA9 : ∀ q : Nat, s.heap.size ≤ q → wk_A E q := fun q h => by unfold wk_A; omega
  have hVH : EV E s H := hV.heap hS.1 (fun q hq => hS.2.1 q (by omega) (by unfold wk_A; omega))
  have hbH : E.2.2.1 ≤ H.size := by have := hS.1; omega
  refine lv_aload_n hx hb dL_law_1104 rfl (lv_at hl 1 rfl) ?_
  have hX9 : X.1 0 0 = X.1 0 0 := rfl
  refine wk_V (As := []) (rest := []) ⟨hx, hb, hml, hown, hts⟩ (c_X5_now l E hA hIv.1) (cwV 0 hts gL_law_X5_now rfl rfl rfl (by decide +kernel) ⟨(Nat.le_of_ble_eq_true rfl), (Nat.le_of_ble_eq_true rfl)⟩) (wk_recv hK hA.desk rfl) hK rfl hl.1 rfl (Nat.le_of_ble_eq_true rfl) dL_law_1105 ⟨by show _ ≤ 601024; omega, by show _ ≤ 7293034; omega⟩ ?_
  refine lv_aload_n hx hb dL_law_1108 rfl (lv_at hl 2 rfl) ?_
  refine we_V (As := []) (rest := [.int (z_now σ)]) ⟨hx, hb, hml, hown, hts⟩ (e_X6_now l E hM hIv.1) (cwV 0 hts gL_law_X6_now rfl rfl rfl (by decide +kernel) ⟨(Nat.le_of_ble_eq_true rfl), (Nat.le_of_ble_eq_true rfl)⟩) (wk_recv hK hM.obj rfl) hVH hS (wl_FMA hM.2) hA9 rfl hl.1 rfl (Nat.le_of_ble_eq_true rfl) dL_law_1109 ⟨by show _ ≤ 601024; omega, by show _ ≤ 7293034; omega⟩ (fun v9 H locs hR9 hz9 hk9 hS => ?_)
  obtain ⟨rfl, hM⟩ := hR9
  have hA := hA.kept (fun q hq hf => hk9 q hq (fun z => wl_DM z hf))
  have hoo := va_at.kept hoo (hk9 _ hoo.lt (wl_ooM hoT))
  have hVH : EV E s H := hV.heap hS.1 (fun q hq => hS.2.1 q (by omega) (by unfold wk_A; omega))
  have hbH : E.2.2.1 ≤ H.size := by have := hS.1; omega
  refine wk_eqls (st' := [.int (z_now σ), .int (z_now σ)]) rfl ?_
  refine lv_icmp_eq (tgt := 1308) hx hb dL_law_1112 (by decide) (fun c_1112 => ?_) (fun c_1112 => ?_)
  · skip
    refine W.widen (k := cells + 4) (n := slots + 70) (by omega) (by omega) ?_
    exact kk σ gt _ X _ _ ⟨hA, ⟨_, hM⟩, hIv, hoT, hob, _, hoo⟩ hX9 hS ls (lv_sub hl [0, 1, 2, 3, 4] rfl)
  exact absurd rfl c_1112
