set_option maxHeartbeats 4000000 in
set_option maxRecDepth 100000 in
theorem k_canTake {p : Program} {l : Launch} {e : Env} {s : State} {m : MethodId} {below : List Frame} {meth : Method} {c : Code} {b L : Nat} {xs : Nat → Int32} {E : wk_E} {T : Nat → Nat × Nat} {X : z_X} {Y : Nat → Nat → Nat} {σ : z_S} {gt : Int64} {oo : Nat} {H : Heap} {locs : List Loc} {cells slots i : Nat} {code : Nat} {bb : Bool} {σ9 : z_S} {gt9 : Int64} {rm2 : Room} (C0 : wl_C p l s m meth c b L xs E) (hI0 : wl_I E T X Y σ gt oo H) (hS : va_S (wk_A E) s.heap H locs) (hi : i + 5 ≤ L) (hcl : cells + 4 ≤ 601024 ∧ slots + 70 ≤ 7293034) (hcd : code < 4)
    (hw : ∀ {ov : Nat → Int64}, va_at E.1 vwCl (oo, .inl (E.2.1.2.2, 1, .inr (.inl ov))) H → we_MetP wl_NC l yL_canTake wsL_canTake rmW E H [.ref (X.1 0 0), .int (xs (i + 1)), .ref oo] (fun q => z_FD T q ∨ q = oo) 2 30 (wl_R E T X oo H code (if bb then 1 else 0) σ9))
    (hm : ∀ {T9 : Nat → Nat × Nat} {th9 : Int32} {H9 : Heap}, MA E T9 Y σ th9 gt H9 → we_Met l yX6_canTake wsX6_canTake rm2 E H9 [.ref (Y 10 0), .int (xs (i + 1))] (z_FM T9) 0 0 (fun v H1 => v = some (.int (wk_b bb)) ∧ MA E T9 Y σ9 (nI code) gt9 H1)) (hrm : rm2.cells = 0 ∧ rm2.slots = 0 ∧ rm2.frames ≤ 200 ∧ rm2.locals ≤ 9000) (hIv9 : z_Iv σ9 gt9)
    (kk : ∀ (T9 : Nat → Nat × Nat) (X9 : z_X) (H9 : Heap) (locs9 : List Loc), wl_I E T9 X9 Y σ9 gt9 oo H9 → X9.1 0 0 = X.1 0 0 → va_S (wk_A E) s.heap H9 locs9 → ∀ ls : Array Slot, lv_has ls 9 [(0, .ref b), (1, .ref (X.1 0 0)), (2, .ref (Y 10 0)), (3, .ref oo), (4, .int (nI i))] → W p l e room_1 s m #[Value.ref b] below meth c H9 locs9 (cells + 4) (slots + 70) (lw_Z below #[Value.ref b] s) (F0 m 1308 ls [])) :
    ∀ ls : Array Slot, lv_has ls 9 [(0, .ref b), (1, .ref (X.1 0 0)), (2, .ref (Y 10 0)), (3, .ref oo), (4, .int (nI i))] → W p l e room_1 s m #[Value.ref b] below meth c H locs cells slots (lw_Z below #[Value.ref b] s) (F0 m 735 ls []) := by
  intro ls hl
  obtain ⟨⟨hx, hb, hr, hml, hown, hlocks⟩, hts, ⟨hX, hbl, hL⟩, ⟨hV, hNC, hE⟩, hst⟩ := id C0
  obtain ⟨hA, ⟨th, hM⟩, hIv, hoT, hob, ov, hoo⟩ := hI0
  have hK := hV.k
  have hbA : ¬ wk_A E b := by unfold wk_A; omega
  have hA9 : ∀ q : Nat, s.heap.size ≤ q → wk_A E q := fun q h => by unfold wk_A; omega
  have hVH : EV E s H := hV.heap hS.1 (fun q hq => hS.2.1 q (by omega) (by unfold wk_A; omega))
  have hbH : E.2.2.1 ≤ H.size := by have := hS.1; omega
  refine lv_aload_n hx hb dL_law_735 rfl (lv_at hl 1 rfl) ?_
  refine lv_aload_n hx hb dL_law_736 rfl (lv_at hl 0 rfl) ?_
  refine lv_iload hx hb dL_law_737 (lv_at hl 4 rfl) ?_
  refine lv_iconst (v := 1) hx hb dL_law_739 (by decide) ?_
  refine lv_iadd hx hb dL_law_740 ?_
  refine wk_eqi (show (nI i) + 1 = nI (i + 1) from nI_add i 1) ?_
  refine wl_sld hx hb hX hbl hbA hS (i + 1) rfl (by omega) (by omega) dL_law_741 ?_
  refine lv_aload_n hx hb dL_law_742 rfl (lv_at hl 3 rfl) ?_
  refine wl_S (As := [.ref (X.1 0 0), .int (xs (i + 1)), .ref oo]) (rest := []) ⟨hx, hb, hml, hown, hts⟩ (hw hoo) hNC (vx_cwSW 3 hts gL_law_L_canTake rfl rfl rfl (by decide +kernel) ⟨(Nat.le_of_ble_eq_true rfl), (Nat.le_of_ble_eq_true rfl)⟩) hVH hS (fun q hq => Or.elim hq (wl_FDA hA.2.1 q) (fun z => by rw [z]; exact hob)) hA9 rfl hl.1 rfl (Nat.le_of_ble_eq_true rfl) dL_law_743 ⟨by show _ ≤ 601024; omega, by show _ ≤ 7293034; omega⟩ (fun v9 H locs hR9 hz9 hk9 hS => ?_)
  obtain ⟨rfl, ⟨o1, hoo1, ho1⟩, T9, X9, hT9, hX9, hA⟩ := hR9
  have hM := wl_MAw hM hbH hT9 hoT hk9
  have hoT : T9 oo = (20, 0) := (hT9 _ hoo.lt).trans hoT
  have hoo := hoo1
  have hVH : EV E s H := hV.heap hS.1 (fun q hq => hS.2.1 q (by omega) (by unfold wk_A; omega))
  have hbH : E.2.2.1 ≤ H.size := by have := hS.1; omega
  refine wk_eqls (st' := [.int (nI code)]) rfl ?_
  refine lv_istore (lv' := [(5, .int (nI code)), (0, .ref b), (1, .ref (X.1 0 0)), (2, .ref (Y 10 0)), (3, .ref oo), (4, .int (nI i))]) hx hb dL_law_746 hl (by decide) rfl (fun ls hl => ?_)
  refine lv_aload_n hx hb dL_law_748 rfl (lv_at hl 3 rfl) ?_
  refine lv_aload_n hx hb dL_law_749 rfl (lv_at hl 1 rfl) ?_
  refine lv_iload hx hb dL_law_750 (lv_at hl 5 rfl) ?_
  refine lv_iconst (v := 1) hx hb dL_law_752 (by decide) ?_
  refine lv_iadd hx hb dL_law_753 ?_
  refine wk_eqi (show (nI i) + 1 = nI (i + 1) from nI_add i 1) ?_
  refine wl_sld hx hb hX hbl hbA hS (i + 1) rfl (by omega) (by omega) dL_law_754 ?_
  refine we_V (As := [.int (xs (i + 1))]) (rest := []) ⟨hx, hb, hml, hown, hts⟩ (hm hM) (cwV 1 hts gL_law_X6_canTake rfl hrm.1 hrm.2.1 (by decide +kernel) ⟨by show _ ≤ 2048; omega, by show _ ≤ 84000; omega⟩) (wk_recv hK hM.obj rfl) hVH hS (wl_FMA hM.2) hA9 rfl hl.1 rfl (Nat.le_of_ble_eq_true rfl) dL_law_755 ⟨by show _ ≤ 601024; omega, by show _ ≤ 7293034; omega⟩ (fun v9 H locs hR9 hz9 hk9 hS => ?_)
  obtain ⟨rfl, hM⟩ := hR9
  have hA := hA.kept (fun q hq hf => hk9 q hq (fun z => wl_DM z hf))
  have hoo := va_at.kept hoo (hk9 _ hoo.lt (wl_ooM hoT))
  have hVH : EV E s H := hV.heap hS.1 (fun q hq => hS.2.1 q (by omega) (by unfold wk_A; omega))
  have hbH : E.2.2.1 ≤ H.size := by have := hS.1; omega
  refine wk_eqls (st' := [.int (wk_b bb)]) rfl ?_
  refine lv_istore (lv' := [(6, .int (wk_b bb)), (5, .int (nI code)), (0, .ref b), (1, .ref (X.1 0 0)), (2, .ref (Y 10 0)), (3, .ref oo), (4, .int (nI i))]) hx hb dL_law_758 hl (by decide) rfl (fun ls hl => ?_)
  refine lv_aload_n hx hb dL_law_760 rfl (lv_at hl 4 rfl) ?_
  refine wk_V (As := []) (rest := []) ⟨hx, hb, hml, hown, hts⟩ (c_X6_thrown l E hM hIv9.1) (cwV 0 hts gL_law_X6_thrown rfl rfl rfl (by decide +kernel) ⟨(Nat.le_of_ble_eq_true rfl), (Nat.le_of_ble_eq_true rfl)⟩) (wk_recv hK hM.obj rfl) hK rfl hl.1 rfl (Nat.le_of_ble_eq_true rfl) dL_law_761 ⟨by show _ ≤ 601024; omega, by show _ ≤ 7293034; omega⟩ ?_
  refine lv_iload hx hb dL_law_764 (lv_at hl 1 rfl) ?_
  refine lv_icmp_eq (tgt := 771) hx hb dL_law_766 (by decide) (fun c_766 => ?_) (fun c_766 => ?_)
  · skip
    have e_766 : code = code := wk_ceqt (by omega) (by omega) c_766
    refine lv_iload hx hb dL_law_771 (lv_at hl 1 rfl) ?_
    refine lv_if_ne (tgt := 795) hx hb dL_law_773 (by decide) (fun c_773 => ?_) (fun c_773 => ?_)
    · skip
      have e_773 : ¬ code = 0 := wk_cnet (b := 0) (by omega) (by decide) c_773
      refine lv_goto (tgt := 1308) hx hb dL_law_795 (by decide) ?_
      refine W.widen (k := cells + 4) (n := slots + 70) (by omega) (by omega) ?_
      exact kk _ X9 _ _ ⟨hA, ⟨_, hM⟩, hIv9, hoT, hob, _, hoo⟩ hX9 hS ls (lv_sub hl [2, 3, 4, 5, 6] rfl)
    have e_773 : code = 0 := wk_cnef (b := 0) (by omega) (by decide) c_773
    refine lv_aload_n hx hb dL_law_776 rfl (lv_at hl 5 rfl) ?_
    refine lv_iconst (v := 0) hx hb dL_law_777 (by decide) ?_
    refine wk_lald (n := 1) (f := o1) hx hb hK hoo 0 rfl (by decide) (by decide) dL_law_778 ?_
    refine lv_iload hx hb dL_law_779 (lv_at hl 0 rfl) ?_
    refine lv_if_eq (tgt := 788) hx hb dL_law_781 (by decide) (fun c_781 => ?_) (fun c_781 => ?_)
    · skip
      have e_781 : bb = false := wk_b0 c_781
      refine lv_lconst (v := 0) hx hb dL_law_788 (by decide) ?_
      refine W.lcmp hx hb dL_law_789 ?_
      refine lv_if_eq (tgt := 795) hx hb dL_law_790 (by decide) (fun c_790 => ?_) (fun c_790 => ?_)
      · skip
        refine lv_goto (tgt := 1308) hx hb dL_law_795 (by decide) ?_
        refine W.widen (k := cells + 4) (n := slots + 70) (by omega) (by omega) ?_
        exact kk _ X9 _ _ ⟨hA, ⟨_, hM⟩, hIv9, hoT, hob, _, hoo⟩ hX9 hS ls (lv_sub hl [2, 3, 4, 5, 6] rfl)
      exact absurd (lg_cmp0.mpr (by rw [ho1 e_773]; simp [e_781])) c_790
    have e_781 : bb = true := wk_b1 c_781
    refine lv_lconst (v := 1) hx hb dL_law_784 (by decide) ?_
    refine lv_goto (tgt := 789) hx hb dL_law_785 (by decide) ?_
    refine W.lcmp hx hb dL_law_789 ?_
    refine lv_if_eq (tgt := 795) hx hb dL_law_790 (by decide) (fun c_790 => ?_) (fun c_790 => ?_)
    · skip
      refine lv_goto (tgt := 1308) hx hb dL_law_795 (by decide) ?_
      refine W.widen (k := cells + 4) (n := slots + 70) (by omega) (by omega) ?_
      exact kk _ X9 _ _ ⟨hA, ⟨_, hM⟩, hIv9, hoT, hob, _, hoo⟩ hX9 hS ls (lv_sub hl [2, 3, 4, 5, 6] rfl)
    exact absurd (lg_cmp0.mpr (by rw [ho1 e_773]; simp [e_781])) c_790
  have e_766 : ¬ code = code := wk_ceqf (by omega) (by omega) c_766
  exact absurd rfl e_766

set_option maxHeartbeats 4000000 in
set_option maxRecDepth 100000 in
theorem k_weight {p : Program} {l : Launch} {e : Env} {s : State} {m : MethodId} {below : List Frame} {meth : Method} {c : Code} {b L : Nat} {xs : Nat → Int32} {E : wk_E} {T : Nat → Nat × Nat} {X : z_X} {Y : Nat → Nat → Nat} {σ : z_S} {gt : Int64} {oo : Nat} {H : Heap} {locs : List Loc} {cells slots i : Nat} {code : Nat} {ans : Int32} {σ9 : z_S} {gt9 : Int64} {rm2 : Room} (C0 : wl_C p l s m meth c b L xs E) (hI0 : wl_I E T X Y σ gt oo H) (hS : va_S (wk_A E) s.heap H locs) (hi : i + 5 ≤ L) (hcl : cells + 4 ≤ 601024 ∧ slots + 70 ≤ 7293034) (hcd : code < 4)
    (hw : ∀ {ov : Nat → Int64}, va_at E.1 vwCl (oo, .inl (E.2.1.2.2, 1, .inr (.inl ov))) H → we_MetP wl_NC l yL_weight wsL_weight rmW E H [.ref (X.1 0 0), .int (xs (i + 1)), .ref oo] (fun q => z_FD T q ∨ q = oo) 2 30 (wl_R E T X oo H code (Int32.toInt64 ans) σ9))
    (hm : ∀ {T9 : Nat → Nat × Nat} {th9 : Int32} {H9 : Heap}, MA E T9 Y σ th9 gt H9 → we_Met l yX6_weight wsX6_weight rm2 E H9 [.ref (Y 10 0), .int (xs (i + 1))] (z_FM T9) 0 0 (fun v H1 => v = some (.int (ans)) ∧ MA E T9 Y σ9 (nI code) gt9 H1)) (hrm : rm2.cells = 0 ∧ rm2.slots = 0 ∧ rm2.frames ≤ 200 ∧ rm2.locals ≤ 9000) (hIv9 : z_Iv σ9 gt9)
    (kk : ∀ (T9 : Nat → Nat × Nat) (X9 : z_X) (H9 : Heap) (locs9 : List Loc), wl_I E T9 X9 Y σ9 gt9 oo H9 → X9.1 0 0 = X.1 0 0 → va_S (wk_A E) s.heap H9 locs9 → ∀ ls : Array Slot, lv_has ls 9 [(0, .ref b), (1, .ref (X.1 0 0)), (2, .ref (Y 10 0)), (3, .ref oo), (4, .int (nI i))] → W p l e room_1 s m #[Value.ref b] below meth c H9 locs9 (cells + 4) (slots + 70) (lw_Z below #[Value.ref b] s) (F0 m 1308 ls [])) :
    ∀ ls : Array Slot, lv_has ls 9 [(0, .ref b), (1, .ref (X.1 0 0)), (2, .ref (Y 10 0)), (3, .ref oo), (4, .int (nI i))] → W p l e room_1 s m #[Value.ref b] below meth c H locs cells slots (lw_Z below #[Value.ref b] s) (F0 m 811 ls []) := by
  intro ls hl
  obtain ⟨⟨hx, hb, hr, hml, hown, hlocks⟩, hts, ⟨hX, hbl, hL⟩, ⟨hV, hNC, hE⟩, hst⟩ := id C0
  obtain ⟨hA, ⟨th, hM⟩, hIv, hoT, hob, ov, hoo⟩ := hI0
  have hK := hV.k
  have hbA : ¬ wk_A E b := by unfold wk_A; omega
  have hA9 : ∀ q : Nat, s.heap.size ≤ q → wk_A E q := fun q h => by unfold wk_A; omega
  have hVH : EV E s H := hV.heap hS.1 (fun q hq => hS.2.1 q (by omega) (by unfold wk_A; omega))
  have hbH : E.2.2.1 ≤ H.size := by have := hS.1; omega
  refine lv_aload_n hx hb dL_law_811 rfl (lv_at hl 1 rfl) ?_
  refine lv_aload_n hx hb dL_law_812 rfl (lv_at hl 0 rfl) ?_
  refine lv_iload hx hb dL_law_813 (lv_at hl 4 rfl) ?_
  refine lv_iconst (v := 1) hx hb dL_law_815 (by decide) ?_
  refine lv_iadd hx hb dL_law_816 ?_
  refine wk_eqi (show (nI i) + 1 = nI (i + 1) from nI_add i 1) ?_
  refine wl_sld hx hb hX hbl hbA hS (i + 1) rfl (by omega) (by omega) dL_law_817 ?_
  refine lv_aload_n hx hb dL_law_818 rfl (lv_at hl 3 rfl) ?_
  refine wl_S (As := [.ref (X.1 0 0), .int (xs (i + 1)), .ref oo]) (rest := []) ⟨hx, hb, hml, hown, hts⟩ (hw hoo) hNC (vx_cwSW 3 hts gL_law_L_weight rfl rfl rfl (by decide +kernel) ⟨(Nat.le_of_ble_eq_true rfl), (Nat.le_of_ble_eq_true rfl)⟩) hVH hS (fun q hq => Or.elim hq (wl_FDA hA.2.1 q) (fun z => by rw [z]; exact hob)) hA9 rfl hl.1 rfl (Nat.le_of_ble_eq_true rfl) dL_law_819 ⟨by show _ ≤ 601024; omega, by show _ ≤ 7293034; omega⟩ (fun v9 H locs hR9 hz9 hk9 hS => ?_)
  obtain ⟨rfl, ⟨o1, hoo1, ho1⟩, T9, X9, hT9, hX9, hA⟩ := hR9
  have hM := wl_MAw hM hbH hT9 hoT hk9
  have hoT : T9 oo = (20, 0) := (hT9 _ hoo.lt).trans hoT
  have hoo := hoo1
  have hVH : EV E s H := hV.heap hS.1 (fun q hq => hS.2.1 q (by omega) (by unfold wk_A; omega))
  have hbH : E.2.2.1 ≤ H.size := by have := hS.1; omega
  refine wk_eqls (st' := [.int (nI code)]) rfl ?_
  refine lv_istore (lv' := [(5, .int (nI code)), (0, .ref b), (1, .ref (X.1 0 0)), (2, .ref (Y 10 0)), (3, .ref oo), (4, .int (nI i))]) hx hb dL_law_822 hl (by decide) rfl (fun ls hl => ?_)
  refine lv_aload_n hx hb dL_law_824 rfl (lv_at hl 3 rfl) ?_
  refine lv_aload_n hx hb dL_law_825 rfl (lv_at hl 1 rfl) ?_
  refine lv_iload hx hb dL_law_826 (lv_at hl 5 rfl) ?_
  refine lv_iconst (v := 1) hx hb dL_law_828 (by decide) ?_
  refine lv_iadd hx hb dL_law_829 ?_
  refine wk_eqi (show (nI i) + 1 = nI (i + 1) from nI_add i 1) ?_
  refine wl_sld hx hb hX hbl hbA hS (i + 1) rfl (by omega) (by omega) dL_law_830 ?_
  refine we_V (As := [.int (xs (i + 1))]) (rest := []) ⟨hx, hb, hml, hown, hts⟩ (hm hM) (cwV 1 hts gL_law_X6_weight rfl hrm.1 hrm.2.1 (by decide +kernel) ⟨by show _ ≤ 2048; omega, by show _ ≤ 84000; omega⟩) (wk_recv hK hM.obj rfl) hVH hS (wl_FMA hM.2) hA9 rfl hl.1 rfl (Nat.le_of_ble_eq_true rfl) dL_law_831 ⟨by show _ ≤ 601024; omega, by show _ ≤ 7293034; omega⟩ (fun v9 H locs hR9 hz9 hk9 hS => ?_)
  obtain ⟨rfl, hM⟩ := hR9
  have hA := hA.kept (fun q hq hf => hk9 q hq (fun z => wl_DM z hf))
  have hoo := va_at.kept hoo (hk9 _ hoo.lt (wl_ooM hoT))
  have hVH : EV E s H := hV.heap hS.1 (fun q hq => hS.2.1 q (by omega) (by unfold wk_A; omega))
  have hbH : E.2.2.1 ≤ H.size := by have := hS.1; omega
  refine wk_eqls (st' := [.int ans]) rfl ?_
  refine lv_istore (lv' := [(6, .int ans), (5, .int (nI code)), (0, .ref b), (1, .ref (X.1 0 0)), (2, .ref (Y 10 0)), (3, .ref oo), (4, .int (nI i))]) hx hb dL_law_834 hl (by decide) rfl (fun ls hl => ?_)
  refine lv_aload_n hx hb dL_law_836 rfl (lv_at hl 4 rfl) ?_
  refine wk_V (As := []) (rest := []) ⟨hx, hb, hml, hown, hts⟩ (c_X6_thrown l E hM hIv9.1) (cwV 0 hts gL_law_X6_thrown rfl rfl rfl (by decide +kernel) ⟨(Nat.le_of_ble_eq_true rfl), (Nat.le_of_ble_eq_true rfl)⟩) (wk_recv hK hM.obj rfl) hK rfl hl.1 rfl (Nat.le_of_ble_eq_true rfl) dL_law_837 ⟨by show _ ≤ 601024; omega, by show _ ≤ 7293034; omega⟩ ?_
  refine lv_iload hx hb dL_law_840 (lv_at hl 1 rfl) ?_
  refine lv_icmp_eq (tgt := 847) hx hb dL_law_842 (by decide) (fun c_842 => ?_) (fun c_842 => ?_)
  · skip
    have e_842 : code = code := wk_ceqt (by omega) (by omega) c_842
    refine lv_iload hx hb dL_law_847 (lv_at hl 1 rfl) ?_
    refine lv_if_ne (tgt := 864) hx hb dL_law_849 (by decide) (fun c_849 => ?_) (fun c_849 => ?_)
    · skip
      have e_849 : ¬ code = 0 := wk_cnet (b := 0) (by omega) (by decide) c_849
      refine lv_goto (tgt := 1308) hx hb dL_law_864 (by decide) ?_
      refine W.widen (k := cells + 4) (n := slots + 70) (by omega) (by omega) ?_
      exact kk _ X9 _ _ ⟨hA, ⟨_, hM⟩, hIv9, hoT, hob, _, hoo⟩ hX9 hS ls (lv_sub hl [2, 3, 4, 5, 6] rfl)
    have e_849 : code = 0 := wk_cnef (b := 0) (by omega) (by decide) c_849
    refine lv_aload_n hx hb dL_law_852 rfl (lv_at hl 5 rfl) ?_
    refine lv_iconst (v := 0) hx hb dL_law_853 (by decide) ?_
    refine wk_lald (n := 1) (f := o1) hx hb hK hoo 0 rfl (by decide) (by decide) dL_law_854 ?_
    refine lv_iload hx hb dL_law_855 (lv_at hl 0 rfl) ?_
    refine lv_i2l (v := ans.toInt64) hx hb dL_law_857 rfl ?_
    refine W.lcmp hx hb dL_law_858 ?_
    refine lv_if_eq (tgt := 864) hx hb dL_law_859 (by decide) (fun c_859 => ?_) (fun c_859 => ?_)
    · skip
      refine lv_goto (tgt := 1308) hx hb dL_law_864 (by decide) ?_
      refine W.widen (k := cells + 4) (n := slots + 70) (by omega) (by omega) ?_
      exact kk _ X9 _ _ ⟨hA, ⟨_, hM⟩, hIv9, hoT, hob, _, hoo⟩ hX9 hS ls (lv_sub hl [2, 3, 4, 5, 6] rfl)
    exact absurd (lg_cmp0.mpr (by rw [ho1 e_849])) c_859
  have e_842 : ¬ code = code := wk_ceqf (by omega) (by omega) c_842
  exact absurd rfl e_842

set_option maxHeartbeats 4000000 in
set_option maxRecDepth 100000 in
theorem k_take {p : Program} {l : Launch} {e : Env} {s : State} {m : MethodId} {below : List Frame} {meth : Method} {c : Code} {b L : Nat} {xs : Nat → Int32} {E : wk_E} {T : Nat → Nat × Nat} {X : z_X} {Y : Nat → Nat → Nat} {σ : z_S} {gt : Int64} {oo : Nat} {H : Heap} {locs : List Loc} {cells slots i : Nat} {code : Nat} {ans : Int32} {σ9 : z_S} {gt9 : Int64} {rm2 : Room} (C0 : wl_C p l s m meth c b L xs E) (hI0 : wl_I E T X Y σ gt oo H) (hS : va_S (wk_A E) s.heap H locs) (hi : i + 5 ≤ L) (hcl : cells + 4 ≤ 601024 ∧ slots + 70 ≤ 7293034) (hcd : code < 4)
    (hw : ∀ {ov : Nat → Int64}, va_at E.1 vwCl (oo, .inl (E.2.1.2.2, 1, .inr (.inl ov))) H → we_MetP wl_NC l yL_take wsL_take rmW E H [.ref (X.1 0 0), .int (xs (i + 1)), .ref oo] (fun q => z_FD T q ∨ q = oo) 2 30 (wl_R E T X oo H code (Int32.toInt64 ans) σ9))
    (hm : ∀ {T9 : Nat → Nat × Nat} {th9 : Int32} {H9 : Heap}, MA E T9 Y σ th9 gt H9 → we_Met l yX6_take wsX6_take rm2 E H9 [.ref (Y 10 0), .int (xs (i + 1))] (z_FM T9) 0 0 (fun v H1 => v = some (.int (ans)) ∧ MA E T9 Y σ9 (nI code) gt9 H1)) (hrm : rm2.cells = 0 ∧ rm2.slots = 0 ∧ rm2.frames ≤ 200 ∧ rm2.locals ≤ 9000) (hIv9 : z_Iv σ9 gt9)
    (kk : ∀ (T9 : Nat → Nat × Nat) (X9 : z_X) (H9 : Heap) (locs9 : List Loc), wl_I E T9 X9 Y σ9 gt9 oo H9 → X9.1 0 0 = X.1 0 0 → va_S (wk_A E) s.heap H9 locs9 → ∀ ls : Array Slot, lv_has ls 9 [(0, .ref b), (1, .ref (X.1 0 0)), (2, .ref (Y 10 0)), (3, .ref oo), (4, .int (nI i))] → W p l e room_1 s m #[Value.ref b] below meth c H9 locs9 (cells + 4) (slots + 70) (lw_Z below #[Value.ref b] s) (F0 m 1308 ls [])) :
    ∀ ls : Array Slot, lv_has ls 9 [(0, .ref b), (1, .ref (X.1 0 0)), (2, .ref (Y 10 0)), (3, .ref oo), (4, .int (nI i))] → W p l e room_1 s m #[Value.ref b] below meth c H locs cells slots (lw_Z below #[Value.ref b] s) (F0 m 867 ls []) := by
  intro ls hl
  obtain ⟨⟨hx, hb, hr, hml, hown, hlocks⟩, hts, ⟨hX, hbl, hL⟩, ⟨hV, hNC, hE⟩, hst⟩ := id C0
  obtain ⟨hA, ⟨th, hM⟩, hIv, hoT, hob, ov, hoo⟩ := hI0
  have hK := hV.k
  have hbA : ¬ wk_A E b := by unfold wk_A; omega
  have hA9 : ∀ q : Nat, s.heap.size ≤ q → wk_A E q := fun q h => by unfold wk_A; omega
  have hVH : EV E s H := hV.heap hS.1 (fun q hq => hS.2.1 q (by omega) (by unfold wk_A; omega))
  have hbH : E.2.2.1 ≤ H.size := by have := hS.1; omega
  refine lv_aload_n hx hb dL_law_867 rfl (lv_at hl 1 rfl) ?_
  refine lv_aload_n hx hb dL_law_868 rfl (lv_at hl 0 rfl) ?_
  refine lv_iload hx hb dL_law_869 (lv_at hl 4 rfl) ?_
  refine lv_iconst (v := 1) hx hb dL_law_871 (by decide) ?_
  refine lv_iadd hx hb dL_law_872 ?_
  refine wk_eqi (show (nI i) + 1 = nI (i + 1) from nI_add i 1) ?_
  refine wl_sld hx hb hX hbl hbA hS (i + 1) rfl (by omega) (by omega) dL_law_873 ?_
  refine lv_aload_n hx hb dL_law_874 rfl (lv_at hl 3 rfl) ?_
  refine wl_S (As := [.ref (X.1 0 0), .int (xs (i + 1)), .ref oo]) (rest := []) ⟨hx, hb, hml, hown, hts⟩ (hw hoo) hNC (vx_cwSW 3 hts gL_law_L_take rfl rfl rfl (by decide +kernel) ⟨(Nat.le_of_ble_eq_true rfl), (Nat.le_of_ble_eq_true rfl)⟩) hVH hS (fun q hq => Or.elim hq (wl_FDA hA.2.1 q) (fun z => by rw [z]; exact hob)) hA9 rfl hl.1 rfl (Nat.le_of_ble_eq_true rfl) dL_law_875 ⟨by show _ ≤ 601024; omega, by show _ ≤ 7293034; omega⟩ (fun v9 H locs hR9 hz9 hk9 hS => ?_)
  obtain ⟨rfl, ⟨o1, hoo1, ho1⟩, T9, X9, hT9, hX9, hA⟩ := hR9
  have hM := wl_MAw hM hbH hT9 hoT hk9
  have hoT : T9 oo = (20, 0) := (hT9 _ hoo.lt).trans hoT
  have hoo := hoo1
  have hVH : EV E s H := hV.heap hS.1 (fun q hq => hS.2.1 q (by omega) (by unfold wk_A; omega))
  have hbH : E.2.2.1 ≤ H.size := by have := hS.1; omega
  refine wk_eqls (st' := [.int (nI code)]) rfl ?_
  refine lv_istore (lv' := [(5, .int (nI code)), (0, .ref b), (1, .ref (X.1 0 0)), (2, .ref (Y 10 0)), (3, .ref oo), (4, .int (nI i))]) hx hb dL_law_878 hl (by decide) rfl (fun ls hl => ?_)
  refine lv_aload_n hx hb dL_law_880 rfl (lv_at hl 3 rfl) ?_
  refine lv_aload_n hx hb dL_law_881 rfl (lv_at hl 1 rfl) ?_
  refine lv_iload hx hb dL_law_882 (lv_at hl 5 rfl) ?_
  refine lv_iconst (v := 1) hx hb dL_law_884 (by decide) ?_
  refine lv_iadd hx hb dL_law_885 ?_
  refine wk_eqi (show (nI i) + 1 = nI (i + 1) from nI_add i 1) ?_
  refine wl_sld hx hb hX hbl hbA hS (i + 1) rfl (by omega) (by omega) dL_law_886 ?_
  refine we_V (As := [.int (xs (i + 1))]) (rest := []) ⟨hx, hb, hml, hown, hts⟩ (hm hM) (cwV 1 hts gL_law_X6_take rfl hrm.1 hrm.2.1 (by decide +kernel) ⟨by show _ ≤ 2048; omega, by show _ ≤ 84000; omega⟩) (wk_recv hK hM.obj rfl) hVH hS (wl_FMA hM.2) hA9 rfl hl.1 rfl (Nat.le_of_ble_eq_true rfl) dL_law_887 ⟨by show _ ≤ 601024; omega, by show _ ≤ 7293034; omega⟩ (fun v9 H locs hR9 hz9 hk9 hS => ?_)
  obtain ⟨rfl, hM⟩ := hR9
  have hA := hA.kept (fun q hq hf => hk9 q hq (fun z => wl_DM z hf))
  have hoo := va_at.kept hoo (hk9 _ hoo.lt (wl_ooM hoT))
  have hVH : EV E s H := hV.heap hS.1 (fun q hq => hS.2.1 q (by omega) (by unfold wk_A; omega))
  have hbH : E.2.2.1 ≤ H.size := by have := hS.1; omega
  refine wk_eqls (st' := [.int ans]) rfl ?_
  refine lv_istore (lv' := [(6, .int ans), (5, .int (nI code)), (0, .ref b), (1, .ref (X.1 0 0)), (2, .ref (Y 10 0)), (3, .ref oo), (4, .int (nI i))]) hx hb dL_law_890 hl (by decide) rfl (fun ls hl => ?_)
  refine lv_aload_n hx hb dL_law_892 rfl (lv_at hl 4 rfl) ?_
  refine wk_V (As := []) (rest := []) ⟨hx, hb, hml, hown, hts⟩ (c_X6_thrown l E hM hIv9.1) (cwV 0 hts gL_law_X6_thrown rfl rfl rfl (by decide +kernel) ⟨(Nat.le_of_ble_eq_true rfl), (Nat.le_of_ble_eq_true rfl)⟩) (wk_recv hK hM.obj rfl) hK rfl hl.1 rfl (Nat.le_of_ble_eq_true rfl) dL_law_893 ⟨by show _ ≤ 601024; omega, by show _ ≤ 7293034; omega⟩ ?_
  refine lv_iload hx hb dL_law_896 (lv_at hl 1 rfl) ?_
  refine lv_icmp_eq (tgt := 903) hx hb dL_law_898 (by decide) (fun c_898 => ?_) (fun c_898 => ?_)
  · skip
    have e_898 : code = code := wk_ceqt (by omega) (by omega) c_898
    refine lv_iload hx hb dL_law_903 (lv_at hl 1 rfl) ?_
    refine lv_if_ne (tgt := 920) hx hb dL_law_905 (by decide) (fun c_905 => ?_) (fun c_905 => ?_)
    · skip
      have e_905 : ¬ code = 0 := wk_cnet (b := 0) (by omega) (by decide) c_905
      refine lv_goto (tgt := 1308) hx hb dL_law_920 (by decide) ?_
      refine W.widen (k := cells + 4) (n := slots + 70) (by omega) (by omega) ?_
      exact kk _ X9 _ _ ⟨hA, ⟨_, hM⟩, hIv9, hoT, hob, _, hoo⟩ hX9 hS ls (lv_sub hl [2, 3, 4, 5, 6] rfl)
    have e_905 : code = 0 := wk_cnef (b := 0) (by omega) (by decide) c_905
    refine lv_aload_n hx hb dL_law_908 rfl (lv_at hl 5 rfl) ?_
    refine lv_iconst (v := 0) hx hb dL_law_909 (by decide) ?_
    refine wk_lald (n := 1) (f := o1) hx hb hK hoo 0 rfl (by decide) (by decide) dL_law_910 ?_
    refine lv_iload hx hb dL_law_911 (lv_at hl 0 rfl) ?_
    refine lv_i2l (v := ans.toInt64) hx hb dL_law_913 rfl ?_
    refine W.lcmp hx hb dL_law_914 ?_
    refine lv_if_eq (tgt := 920) hx hb dL_law_915 (by decide) (fun c_915 => ?_) (fun c_915 => ?_)
    · skip
      refine lv_goto (tgt := 1308) hx hb dL_law_920 (by decide) ?_
      refine W.widen (k := cells + 4) (n := slots + 70) (by omega) (by omega) ?_
      exact kk _ X9 _ _ ⟨hA, ⟨_, hM⟩, hIv9, hoT, hob, _, hoo⟩ hX9 hS ls (lv_sub hl [2, 3, 4, 5, 6] rfl)
    exact absurd (lg_cmp0.mpr (by rw [ho1 e_905])) c_915
  have e_898 : ¬ code = code := wk_ceqf (by omega) (by omega) c_898
  exact absurd rfl e_898

set_option maxHeartbeats 4000000 in
set_option maxRecDepth 100000 in
theorem k_giveUp {p : Program} {l : Launch} {e : Env} {s : State} {m : MethodId} {below : List Frame} {meth : Method} {c : Code} {b L : Nat} {xs : Nat → Int32} {E : wk_E} {T : Nat → Nat × Nat} {X : z_X} {Y : Nat → Nat → Nat} {σ : z_S} {gt : Int64} {oo : Nat} {H : Heap} {locs : List Loc} {cells slots i : Nat} {code : Nat} {ans : Int32} {σ9 : z_S} {gt9 : Int64} {rm2 : Room} (C0 : wl_C p l s m meth c b L xs E) (hI0 : wl_I E T X Y σ gt oo H) (hS : va_S (wk_A E) s.heap H locs) (hi : i + 5 ≤ L) (hcl : cells + 4 ≤ 601024 ∧ slots + 70 ≤ 7293034) (hcd : code < 4)
    (hw : ∀ {ov : Nat → Int64}, va_at E.1 vwCl (oo, .inl (E.2.1.2.2, 1, .inr (.inl ov))) H → we_MetP wl_NC l yL_giveUp wsL_giveUp rmW E H [.ref (X.1 0 0), .int (xs (i + 1)), .ref oo] (fun q => z_FD T q ∨ q = oo) 2 30 (wl_R E T X oo H code (Int32.toInt64 ans) σ9))
    (hm : ∀ {T9 : Nat → Nat × Nat} {th9 : Int32} {H9 : Heap}, MA E T9 Y σ th9 gt H9 → we_Met l yX6_giveUp wsX6_giveUp rm2 E H9 [.ref (Y 10 0), .int (xs (i + 1))] (z_FM T9) 0 0 (fun v H1 => v = some (.int (ans)) ∧ MA E T9 Y σ9 (nI code) gt9 H1)) (hrm : rm2.cells = 0 ∧ rm2.slots = 0 ∧ rm2.frames ≤ 200 ∧ rm2.locals ≤ 9000) (hIv9 : z_Iv σ9 gt9)
    (kk : ∀ (T9 : Nat → Nat × Nat) (X9 : z_X) (H9 : Heap) (locs9 : List Loc), wl_I E T9 X9 Y σ9 gt9 oo H9 → X9.1 0 0 = X.1 0 0 → va_S (wk_A E) s.heap H9 locs9 → ∀ ls : Array Slot, lv_has ls 9 [(0, .ref b), (1, .ref (X.1 0 0)), (2, .ref (Y 10 0)), (3, .ref oo), (4, .int (nI i))] → W p l e room_1 s m #[Value.ref b] below meth c H9 locs9 (cells + 4) (slots + 70) (lw_Z below #[Value.ref b] s) (F0 m 1308 ls [])) :
    ∀ ls : Array Slot, lv_has ls 9 [(0, .ref b), (1, .ref (X.1 0 0)), (2, .ref (Y 10 0)), (3, .ref oo), (4, .int (nI i))] → W p l e room_1 s m #[Value.ref b] below meth c H locs cells slots (lw_Z below #[Value.ref b] s) (F0 m 923 ls []) := by
  intro ls hl
  obtain ⟨⟨hx, hb, hr, hml, hown, hlocks⟩, hts, ⟨hX, hbl, hL⟩, ⟨hV, hNC, hE⟩, hst⟩ := id C0
  obtain ⟨hA, ⟨th, hM⟩, hIv, hoT, hob, ov, hoo⟩ := hI0
  have hK := hV.k
  have hbA : ¬ wk_A E b := by unfold wk_A; omega
  have hA9 : ∀ q : Nat, s.heap.size ≤ q → wk_A E q := fun q h => by unfold wk_A; omega
  have hVH : EV E s H := hV.heap hS.1 (fun q hq => hS.2.1 q (by omega) (by unfold wk_A; omega))
  have hbH : E.2.2.1 ≤ H.size := by have := hS.1; omega
  refine lv_aload_n hx hb dL_law_923 rfl (lv_at hl 1 rfl) ?_
  refine lv_aload_n hx hb dL_law_924 rfl (lv_at hl 0 rfl) ?_
  refine lv_iload hx hb dL_law_925 (lv_at hl 4 rfl) ?_
  refine lv_iconst (v := 1) hx hb dL_law_927 (by decide) ?_
  refine lv_iadd hx hb dL_law_928 ?_
  refine wk_eqi (show (nI i) + 1 = nI (i + 1) from nI_add i 1) ?_
  refine wl_sld hx hb hX hbl hbA hS (i + 1) rfl (by omega) (by omega) dL_law_929 ?_
  refine lv_aload_n hx hb dL_law_930 rfl (lv_at hl 3 rfl) ?_
  refine wl_S (As := [.ref (X.1 0 0), .int (xs (i + 1)), .ref oo]) (rest := []) ⟨hx, hb, hml, hown, hts⟩ (hw hoo) hNC (vx_cwSW 3 hts gL_law_L_giveUp rfl rfl rfl (by decide +kernel) ⟨(Nat.le_of_ble_eq_true rfl), (Nat.le_of_ble_eq_true rfl)⟩) hVH hS (fun q hq => Or.elim hq (wl_FDA hA.2.1 q) (fun z => by rw [z]; exact hob)) hA9 rfl hl.1 rfl (Nat.le_of_ble_eq_true rfl) dL_law_931 ⟨by show _ ≤ 601024; omega, by show _ ≤ 7293034; omega⟩ (fun v9 H locs hR9 hz9 hk9 hS => ?_)
  obtain ⟨rfl, ⟨o1, hoo1, ho1⟩, T9, X9, hT9, hX9, hA⟩ := hR9
  have hM := wl_MAw hM hbH hT9 hoT hk9
  have hoT : T9 oo = (20, 0) := (hT9 _ hoo.lt).trans hoT
  have hoo := hoo1
  have hVH : EV E s H := hV.heap hS.1 (fun q hq => hS.2.1 q (by omega) (by unfold wk_A; omega))
  have hbH : E.2.2.1 ≤ H.size := by have := hS.1; omega
  refine wk_eqls (st' := [.int (nI code)]) rfl ?_
  refine lv_istore (lv' := [(5, .int (nI code)), (0, .ref b), (1, .ref (X.1 0 0)), (2, .ref (Y 10 0)), (3, .ref oo), (4, .int (nI i))]) hx hb dL_law_934 hl (by decide) rfl (fun ls hl => ?_)
  refine lv_aload_n hx hb dL_law_936 rfl (lv_at hl 3 rfl) ?_
  refine lv_aload_n hx hb dL_law_937 rfl (lv_at hl 1 rfl) ?_
  refine lv_iload hx hb dL_law_938 (lv_at hl 5 rfl) ?_
  refine lv_iconst (v := 1) hx hb dL_law_940 (by decide) ?_
  refine lv_iadd hx hb dL_law_941 ?_
  refine wk_eqi (show (nI i) + 1 = nI (i + 1) from nI_add i 1) ?_
  refine wl_sld hx hb hX hbl hbA hS (i + 1) rfl (by omega) (by omega) dL_law_942 ?_
  refine we_V (As := [.int (xs (i + 1))]) (rest := []) ⟨hx, hb, hml, hown, hts⟩ (hm hM) (cwV 1 hts gL_law_X6_giveUp rfl hrm.1 hrm.2.1 (by decide +kernel) ⟨by show _ ≤ 2048; omega, by show _ ≤ 84000; omega⟩) (wk_recv hK hM.obj rfl) hVH hS (wl_FMA hM.2) hA9 rfl hl.1 rfl (Nat.le_of_ble_eq_true rfl) dL_law_943 ⟨by show _ ≤ 601024; omega, by show _ ≤ 7293034; omega⟩ (fun v9 H locs hR9 hz9 hk9 hS => ?_)
  obtain ⟨rfl, hM⟩ := hR9
  have hA := hA.kept (fun q hq hf => hk9 q hq (fun z => wl_DM z hf))
  have hoo := va_at.kept hoo (hk9 _ hoo.lt (wl_ooM hoT))
  have hVH : EV E s H := hV.heap hS.1 (fun q hq => hS.2.1 q (by omega) (by unfold wk_A; omega))
  have hbH : E.2.2.1 ≤ H.size := by have := hS.1; omega
  refine wk_eqls (st' := [.int ans]) rfl ?_
  refine lv_istore (lv' := [(6, .int ans), (5, .int (nI code)), (0, .ref b), (1, .ref (X.1 0 0)), (2, .ref (Y 10 0)), (3, .ref oo), (4, .int (nI i))]) hx hb dL_law_946 hl (by decide) rfl (fun ls hl => ?_)
  refine lv_aload_n hx hb dL_law_948 rfl (lv_at hl 4 rfl) ?_
  refine wk_V (As := []) (rest := []) ⟨hx, hb, hml, hown, hts⟩ (c_X6_thrown l E hM hIv9.1) (cwV 0 hts gL_law_X6_thrown rfl rfl rfl (by decide +kernel) ⟨(Nat.le_of_ble_eq_true rfl), (Nat.le_of_ble_eq_true rfl)⟩) (wk_recv hK hM.obj rfl) hK rfl hl.1 rfl (Nat.le_of_ble_eq_true rfl) dL_law_949 ⟨by show _ ≤ 601024; omega, by show _ ≤ 7293034; omega⟩ ?_
  refine lv_iload hx hb dL_law_952 (lv_at hl 1 rfl) ?_
  refine lv_icmp_eq (tgt := 959) hx hb dL_law_954 (by decide) (fun c_954 => ?_) (fun c_954 => ?_)
  · skip
    have e_954 : code = code := wk_ceqt (by omega) (by omega) c_954
    refine lv_iload hx hb dL_law_959 (lv_at hl 1 rfl) ?_
    refine lv_if_ne (tgt := 976) hx hb dL_law_961 (by decide) (fun c_961 => ?_) (fun c_961 => ?_)
    · skip
      have e_961 : ¬ code = 0 := wk_cnet (b := 0) (by omega) (by decide) c_961
      refine lv_goto (tgt := 1308) hx hb dL_law_976 (by decide) ?_
      refine W.widen (k := cells + 4) (n := slots + 70) (by omega) (by omega) ?_
      exact kk _ X9 _ _ ⟨hA, ⟨_, hM⟩, hIv9, hoT, hob, _, hoo⟩ hX9 hS ls (lv_sub hl [2, 3, 4, 5, 6] rfl)
    have e_961 : code = 0 := wk_cnef (b := 0) (by omega) (by decide) c_961
    refine lv_aload_n hx hb dL_law_964 rfl (lv_at hl 5 rfl) ?_
    refine lv_iconst (v := 0) hx hb dL_law_965 (by decide) ?_
    refine wk_lald (n := 1) (f := o1) hx hb hK hoo 0 rfl (by decide) (by decide) dL_law_966 ?_
    refine lv_iload hx hb dL_law_967 (lv_at hl 0 rfl) ?_
    refine lv_i2l (v := ans.toInt64) hx hb dL_law_969 rfl ?_
    refine W.lcmp hx hb dL_law_970 ?_
    refine lv_if_eq (tgt := 976) hx hb dL_law_971 (by decide) (fun c_971 => ?_) (fun c_971 => ?_)
    · skip
      refine lv_goto (tgt := 1308) hx hb dL_law_976 (by decide) ?_
      refine W.widen (k := cells + 4) (n := slots + 70) (by omega) (by omega) ?_
      exact kk _ X9 _ _ ⟨hA, ⟨_, hM⟩, hIv9, hoT, hob, _, hoo⟩ hX9 hS ls (lv_sub hl [2, 3, 4, 5, 6] rfl)
    exact absurd (lg_cmp0.mpr (by rw [ho1 e_961])) c_971
  have e_954 : ¬ code = code := wk_ceqf (by omega) (by omega) c_954
  exact absurd rfl e_954
