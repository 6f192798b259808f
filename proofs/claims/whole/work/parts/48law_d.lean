set_option maxHeartbeats 4000000 in
set_option maxRecDepth 100000 in
theorem k_handovers {p : Program} {l : Launch} {e : Env} {s : State} {m : MethodId} {below : List Frame} {meth : Method} {c : Code} {b L : Nat} {xs : Nat → Int32} {E : wk_E} {T : Nat → Nat × Nat} {X : z_X} {Y : Nat → Nat → Nat} {σ : z_S} {gt : Int64} {oo : Nat} {H : Heap} {locs : List Loc} {cells slots i : Nat} {code : Nat} {ans : Int32} {σ9 : z_S} {gt9 : Int64} {rm2 : Room} (C0 : wl_C p l s m meth c b L xs E) (hI0 : wl_I E T X Y σ gt oo H) (hS : va_S (wk_A E) s.heap H locs) (hi : i + 5 ≤ L) (hcl : cells + 4 ≤ 601024 ∧ slots + 70 ≤ 7293034) (hcd : code < 4)
    (hw : ∀ {ov : Nat → Int64}, va_at E.1 vwCl (oo, .inl (E.2.1.2.2, 1, .inr (.inl ov))) H → we_MetP wl_NC l yL_handovers wsL_handovers rmW E H [.ref (X.1 0 0), .int (xs (i + 1)), .ref oo] (fun q => z_FD T q ∨ q = oo) 2 30 (wl_R E T X oo H code (Int32.toInt64 ans) σ9))
    (hm : ∀ {T9 : Nat → Nat × Nat} {th9 : Int32} {H9 : Heap}, MA E T9 Y σ th9 gt H9 → we_Met l yX6_handovers wsX6_handovers rm2 E H9 [.ref (Y 10 0), .int (xs (i + 1))] (z_FM T9) 0 0 (fun v H1 => v = some (.int (ans)) ∧ MA E T9 Y σ9 (nI code) gt9 H1)) (hrm : rm2.cells = 0 ∧ rm2.slots = 0 ∧ rm2.frames ≤ 200 ∧ rm2.locals ≤ 9000) (hIv9 : z_Iv σ9 gt9)
    (kk : ∀ (T9 : Nat → Nat × Nat) (X9 : z_X) (H9 : Heap) (locs9 : List Loc), wl_I E T9 X9 Y σ9 gt9 oo H9 → X9.1 0 0 = X.1 0 0 → va_S (wk_A E) s.heap H9 locs9 → ∀ ls : Array Slot, lv_has ls 9 [(0, .ref b), (1, .ref (X.1 0 0)), (2, .ref (Y 10 0)), (3, .ref oo), (4, .int (nI i))] → W p l e room_1 s m #[Value.ref b] below meth c H9 locs9 (cells + 4) (slots + 70) (lw_Z below #[Value.ref b] s) (F0 m 1308 ls [])) :
    ∀ ls : Array Slot, lv_has ls 9 [(0, .ref b), (1, .ref (X.1 0 0)), (2, .ref (Y 10 0)), (3, .ref oo), (4, .int (nI i))] → W p l e room_1 s m #[Value.ref b] below meth c H locs cells slots (lw_Z below #[Value.ref b] s) (F0 m 992 ls []) := by
  intro ls hl
  obtain ⟨⟨hx, hb, hr, hml, hown, hlocks⟩, hts, ⟨hX, hbl, hL⟩, ⟨hV, hNC, hE⟩, hst⟩ := id C0
  obtain ⟨hA, ⟨th, hM⟩, hIv, hoT, hob, ov, hoo⟩ := hI0
  have hK := hV.k
  have hbA : ¬ wk_A E b := by unfold wk_A; omega
  have hA9 : ∀ q : Nat, s.heap.size ≤ q → wk_A E q := fun q h => by unfold wk_A; omega
  have hVH : EV E s H := hV.heap hS.1 (fun q hq => hS.2.1 q (by omega) (by unfold wk_A; omega))
  have hbH : E.2.2.1 ≤ H.size := by have := hS.1; omega
  refine lv_aload_n hx hb dL_law_992 rfl (lv_at hl 1 rfl) ?_
  refine lv_aload_n hx hb dL_law_993 rfl (lv_at hl 0 rfl) ?_
  refine lv_iload hx hb dL_law_994 (lv_at hl 4 rfl) ?_
  refine lv_iconst (v := 1) hx hb dL_law_996 (by decide) ?_
  refine lv_iadd hx hb dL_law_997 ?_
  refine wk_eqi (show (nI i) + 1 = nI (i + 1) from nI_add i 1) ?_
  refine wl_sld hx hb hX hbl hbA hS (i + 1) rfl (by omega) (by omega) dL_law_998 ?_
  refine lv_aload_n hx hb dL_law_999 rfl (lv_at hl 3 rfl) ?_
  refine wl_S (As := [.ref (X.1 0 0), .int (xs (i + 1)), .ref oo]) (rest := []) ⟨hx, hb, hml, hown, hts⟩ (hw hoo) hNC (vx_cwSW 3 hts gL_law_L_handovers rfl rfl rfl (by decide +kernel) ⟨(Nat.le_of_ble_eq_true rfl), (Nat.le_of_ble_eq_true rfl)⟩) hVH hS (fun q hq => Or.elim hq (wl_FDA hA.2.1 q) (fun z => by rw [z]; exact hob)) hA9 rfl hl.1 rfl (Nat.le_of_ble_eq_true rfl) dL_law_1000 ⟨by show _ ≤ 601024; omega, by show _ ≤ 7293034; omega⟩ (fun v9 H locs hR9 hz9 hk9 hS => ?_)
  obtain ⟨rfl, ⟨o1, hoo1, ho1⟩, T9, X9, hT9, hX9, hA⟩ := hR9
  have hM := wl_MAw hM hbH hT9 hoT hk9
  have hoT : T9 oo = (20, 0) := (hT9 _ hoo.lt).trans hoT
  have hoo := hoo1
  have hVH : EV E s H := hV.heap hS.1 (fun q hq => hS.2.1 q (by omega) (by unfold wk_A; omega))
  have hbH : E.2.2.1 ≤ H.size := by have := hS.1; omega
  refine wk_eqls (st' := [.int (nI code)]) rfl ?_
  refine lv_istore (lv' := [(5, .int (nI code)), (0, .ref b), (1, .ref (X.1 0 0)), (2, .ref (Y 10 0)), (3, .ref oo), (4, .int (nI i))]) hx hb dL_law_1003 hl (by decide) rfl (fun ls hl => ?_)
  refine lv_aload_n hx hb dL_law_1005 rfl (lv_at hl 3 rfl) ?_
  refine lv_aload_n hx hb dL_law_1006 rfl (lv_at hl 1 rfl) ?_
  refine lv_iload hx hb dL_law_1007 (lv_at hl 5 rfl) ?_
  refine lv_iconst (v := 1) hx hb dL_law_1009 (by decide) ?_
  refine lv_iadd hx hb dL_law_1010 ?_
  refine wk_eqi (show (nI i) + 1 = nI (i + 1) from nI_add i 1) ?_
  refine wl_sld hx hb hX hbl hbA hS (i + 1) rfl (by omega) (by omega) dL_law_1011 ?_
  refine we_V (As := [.int (xs (i + 1))]) (rest := []) ⟨hx, hb, hml, hown, hts⟩ (hm hM) (cwV 1 hts gL_law_X6_handovers rfl hrm.1 hrm.2.1 (by decide +kernel) ⟨by show _ ≤ 2048; omega, by show _ ≤ 84000; omega⟩) (wk_recv hK hM.obj rfl) hVH hS (wl_FMA hM.2) hA9 rfl hl.1 rfl (Nat.le_of_ble_eq_true rfl) dL_law_1012 ⟨by show _ ≤ 601024; omega, by show _ ≤ 7293034; omega⟩ (fun v9 H locs hR9 hz9 hk9 hS => ?_)
  obtain ⟨rfl, hM⟩ := hR9
  have hA := hA.kept (fun q hq hf => hk9 q hq (fun z => wl_DM z hf))
  have hoo := va_at.kept hoo (hk9 _ hoo.lt (wl_ooM hoT))
  have hVH : EV E s H := hV.heap hS.1 (fun q hq => hS.2.1 q (by omega) (by unfold wk_A; omega))
  have hbH : E.2.2.1 ≤ H.size := by have := hS.1; omega
  refine wk_eqls (st' := [.int ans]) rfl ?_
  refine lv_istore (lv' := [(6, .int ans), (5, .int (nI code)), (0, .ref b), (1, .ref (X.1 0 0)), (2, .ref (Y 10 0)), (3, .ref oo), (4, .int (nI i))]) hx hb dL_law_1015 hl (by decide) rfl (fun ls hl => ?_)
  refine lv_aload_n hx hb dL_law_1017 rfl (lv_at hl 4 rfl) ?_
  refine wk_V (As := []) (rest := []) ⟨hx, hb, hml, hown, hts⟩ (c_X6_thrown l E hM hIv9.1) (cwV 0 hts gL_law_X6_thrown rfl rfl rfl (by decide +kernel) ⟨(Nat.le_of_ble_eq_true rfl), (Nat.le_of_ble_eq_true rfl)⟩) (wk_recv hK hM.obj rfl) hK rfl hl.1 rfl (Nat.le_of_ble_eq_true rfl) dL_law_1018 ⟨by show _ ≤ 601024; omega, by show _ ≤ 7293034; omega⟩ ?_
  refine lv_iload hx hb dL_law_1021 (lv_at hl 1 rfl) ?_
  refine lv_icmp_eq (tgt := 1028) hx hb dL_law_1023 (by decide) (fun c_1023 => ?_) (fun c_1023 => ?_)
  · skip
    have e_1023 : code = code := wk_ceqt (by omega) (by omega) c_1023
    refine lv_iload hx hb dL_law_1028 (lv_at hl 1 rfl) ?_
    refine lv_if_ne (tgt := 1045) hx hb dL_law_1030 (by decide) (fun c_1030 => ?_) (fun c_1030 => ?_)
    · skip
      have e_1030 : ¬ code = 0 := wk_cnet (b := 0) (by omega) (by decide) c_1030
      refine lv_goto (tgt := 1308) hx hb dL_law_1045 (by decide) ?_
      refine W.widen (k := cells + 4) (n := slots + 70) (by omega) (by omega) ?_
      exact kk _ X9 _ _ ⟨hA, ⟨_, hM⟩, hIv9, hoT, hob, _, hoo⟩ hX9 hS ls (lv_sub hl [2, 3, 4, 5, 6] rfl)
    have e_1030 : code = 0 := wk_cnef (b := 0) (by omega) (by decide) c_1030
    refine lv_aload_n hx hb dL_law_1033 rfl (lv_at hl 5 rfl) ?_
    refine lv_iconst (v := 0) hx hb dL_law_1034 (by decide) ?_
    refine wk_lald (n := 1) (f := o1) hx hb hK hoo 0 rfl (by decide) (by decide) dL_law_1035 ?_
    refine lv_iload hx hb dL_law_1036 (lv_at hl 0 rfl) ?_
    refine lv_i2l (v := ans.toInt64) hx hb dL_law_1038 rfl ?_
    refine W.lcmp hx hb dL_law_1039 ?_
    refine lv_if_eq (tgt := 1045) hx hb dL_law_1040 (by decide) (fun c_1040 => ?_) (fun c_1040 => ?_)
    · skip
      refine lv_goto (tgt := 1308) hx hb dL_law_1045 (by decide) ?_
      refine W.widen (k := cells + 4) (n := slots + 70) (by omega) (by omega) ?_
      exact kk _ X9 _ _ ⟨hA, ⟨_, hM⟩, hIv9, hoT, hob, _, hoo⟩ hX9 hS ls (lv_sub hl [2, 3, 4, 5, 6] rfl)
    exact absurd (lg_cmp0.mpr (by rw [ho1 e_1030])) c_1040
  have e_1023 : ¬ code = code := wk_ceqf (by omega) (by omega) c_1023
  exact absurd rfl e_1023

set_option maxHeartbeats 4000000 in
set_option maxRecDepth 100000 in
theorem k_run {p : Program} {l : Launch} {e : Env} {s : State} {m : MethodId} {below : List Frame} {meth : Method} {c : Code} {b L : Nat} {xs : Nat → Int32} {E : wk_E} {T : Nat → Nat × Nat} {X : z_X} {Y : Nat → Nat → Nat} {σ : z_S} {gt : Int64} {oo : Nat} {H : Heap} {locs : List Loc} {cells slots i : Nat} {code : Nat} {ans : Int32} {σ9 : z_S} {gt9 : Int64} {rm2 : Room} (C0 : wl_C p l s m meth c b L xs E) (hI0 : wl_I E T X Y σ gt oo H) (hS : va_S (wk_A E) s.heap H locs) (hi : i + 5 ≤ L) (hcl : cells + 4 ≤ 601024 ∧ slots + 70 ≤ 7293034) (hcd : code < 4)
    (hw : ∀ {ov : Nat → Int64}, va_at E.1 vwCl (oo, .inl (E.2.1.2.2, 1, .inr (.inl ov))) H → we_MetP wl_NC l yL_run wsL_run rmW E H [.ref (X.1 0 0), .int (xs (i + 1)), .ref oo] (fun q => z_FD T q ∨ q = oo) 2 30 (wl_R E T X oo H code (Int32.toInt64 ans) σ9))
    (hm : ∀ {T9 : Nat → Nat × Nat} {th9 : Int32} {H9 : Heap}, MA E T9 Y σ th9 gt H9 → we_Met l yX6_run wsX6_run rm2 E H9 [.ref (Y 10 0), .int (xs (i + 1))] (z_FM T9) 0 0 (fun v H1 => v = some (.int (ans)) ∧ MA E T9 Y σ9 (nI code) gt9 H1)) (hrm : rm2.cells = 0 ∧ rm2.slots = 0 ∧ rm2.frames ≤ 200 ∧ rm2.locals ≤ 9000) (hIv9 : z_Iv σ9 gt9)
    (kk : ∀ (T9 : Nat → Nat × Nat) (X9 : z_X) (H9 : Heap) (locs9 : List Loc), wl_I E T9 X9 Y σ9 gt9 oo H9 → X9.1 0 0 = X.1 0 0 → va_S (wk_A E) s.heap H9 locs9 → ∀ ls : Array Slot, lv_has ls 9 [(0, .ref b), (1, .ref (X.1 0 0)), (2, .ref (Y 10 0)), (3, .ref oo), (4, .int (nI i))] → W p l e room_1 s m #[Value.ref b] below meth c H9 locs9 (cells + 4) (slots + 70) (lw_Z below #[Value.ref b] s) (F0 m 1308 ls [])) :
    ∀ ls : Array Slot, lv_has ls 9 [(0, .ref b), (1, .ref (X.1 0 0)), (2, .ref (Y 10 0)), (3, .ref oo), (4, .int (nI i))] → W p l e room_1 s m #[Value.ref b] below meth c H locs cells slots (lw_Z below #[Value.ref b] s) (F0 m 1048 ls []) := by
  intro ls hl
  obtain ⟨⟨hx, hb, hr, hml, hown, hlocks⟩, hts, ⟨hX, hbl, hL⟩, ⟨hV, hNC, hE⟩, hst⟩ := id C0
  obtain ⟨hA, ⟨th, hM⟩, hIv, hoT, hob, ov, hoo⟩ := hI0
  have hK := hV.k
  have hbA : ¬ wk_A E b := by unfold wk_A; omega
  have hA9 : ∀ q : Nat, s.heap.size ≤ q → wk_A E q := fun q h => by unfold wk_A; omega
  have hVH : EV E s H := hV.heap hS.1 (fun q hq => hS.2.1 q (by omega) (by unfold wk_A; omega))
  have hbH : E.2.2.1 ≤ H.size := by have := hS.1; omega
  refine lv_aload_n hx hb dL_law_1048 rfl (lv_at hl 1 rfl) ?_
  refine lv_aload_n hx hb dL_law_1049 rfl (lv_at hl 0 rfl) ?_
  refine lv_iload hx hb dL_law_1050 (lv_at hl 4 rfl) ?_
  refine lv_iconst (v := 1) hx hb dL_law_1052 (by decide) ?_
  refine lv_iadd hx hb dL_law_1053 ?_
  refine wk_eqi (show (nI i) + 1 = nI (i + 1) from nI_add i 1) ?_
  refine wl_sld hx hb hX hbl hbA hS (i + 1) rfl (by omega) (by omega) dL_law_1054 ?_
  refine lv_aload_n hx hb dL_law_1055 rfl (lv_at hl 3 rfl) ?_
  refine wl_S (As := [.ref (X.1 0 0), .int (xs (i + 1)), .ref oo]) (rest := []) ⟨hx, hb, hml, hown, hts⟩ (hw hoo) hNC (vx_cwSW 3 hts gL_law_L_run rfl rfl rfl (by decide +kernel) ⟨(Nat.le_of_ble_eq_true rfl), (Nat.le_of_ble_eq_true rfl)⟩) hVH hS (fun q hq => Or.elim hq (wl_FDA hA.2.1 q) (fun z => by rw [z]; exact hob)) hA9 rfl hl.1 rfl (Nat.le_of_ble_eq_true rfl) dL_law_1056 ⟨by show _ ≤ 601024; omega, by show _ ≤ 7293034; omega⟩ (fun v9 H locs hR9 hz9 hk9 hS => ?_)
  obtain ⟨rfl, ⟨o1, hoo1, ho1⟩, T9, X9, hT9, hX9, hA⟩ := hR9
  have hM := wl_MAw hM hbH hT9 hoT hk9
  have hoT : T9 oo = (20, 0) := (hT9 _ hoo.lt).trans hoT
  have hoo := hoo1
  have hVH : EV E s H := hV.heap hS.1 (fun q hq => hS.2.1 q (by omega) (by unfold wk_A; omega))
  have hbH : E.2.2.1 ≤ H.size := by have := hS.1; omega
  refine wk_eqls (st' := [.int (nI code)]) rfl ?_
  refine lv_istore (lv' := [(5, .int (nI code)), (0, .ref b), (1, .ref (X.1 0 0)), (2, .ref (Y 10 0)), (3, .ref oo), (4, .int (nI i))]) hx hb dL_law_1059 hl (by decide) rfl (fun ls hl => ?_)
  refine lv_aload_n hx hb dL_law_1061 rfl (lv_at hl 3 rfl) ?_
  refine lv_aload_n hx hb dL_law_1062 rfl (lv_at hl 1 rfl) ?_
  refine lv_iload hx hb dL_law_1063 (lv_at hl 5 rfl) ?_
  refine lv_iconst (v := 1) hx hb dL_law_1065 (by decide) ?_
  refine lv_iadd hx hb dL_law_1066 ?_
  refine wk_eqi (show (nI i) + 1 = nI (i + 1) from nI_add i 1) ?_
  refine wl_sld hx hb hX hbl hbA hS (i + 1) rfl (by omega) (by omega) dL_law_1067 ?_
  refine we_V (As := [.int (xs (i + 1))]) (rest := []) ⟨hx, hb, hml, hown, hts⟩ (hm hM) (cwV 1 hts gL_law_X6_run rfl hrm.1 hrm.2.1 (by decide +kernel) ⟨by show _ ≤ 2048; omega, by show _ ≤ 84000; omega⟩) (wk_recv hK hM.obj rfl) hVH hS (wl_FMA hM.2) hA9 rfl hl.1 rfl (Nat.le_of_ble_eq_true rfl) dL_law_1068 ⟨by show _ ≤ 601024; omega, by show _ ≤ 7293034; omega⟩ (fun v9 H locs hR9 hz9 hk9 hS => ?_)
  obtain ⟨rfl, hM⟩ := hR9
  have hA := hA.kept (fun q hq hf => hk9 q hq (fun z => wl_DM z hf))
  have hoo := va_at.kept hoo (hk9 _ hoo.lt (wl_ooM hoT))
  have hVH : EV E s H := hV.heap hS.1 (fun q hq => hS.2.1 q (by omega) (by unfold wk_A; omega))
  have hbH : E.2.2.1 ≤ H.size := by have := hS.1; omega
  refine wk_eqls (st' := [.int ans]) rfl ?_
  refine lv_istore (lv' := [(6, .int ans), (5, .int (nI code)), (0, .ref b), (1, .ref (X.1 0 0)), (2, .ref (Y 10 0)), (3, .ref oo), (4, .int (nI i))]) hx hb dL_law_1071 hl (by decide) rfl (fun ls hl => ?_)
  refine lv_aload_n hx hb dL_law_1073 rfl (lv_at hl 4 rfl) ?_
  refine wk_V (As := []) (rest := []) ⟨hx, hb, hml, hown, hts⟩ (c_X6_thrown l E hM hIv9.1) (cwV 0 hts gL_law_X6_thrown rfl rfl rfl (by decide +kernel) ⟨(Nat.le_of_ble_eq_true rfl), (Nat.le_of_ble_eq_true rfl)⟩) (wk_recv hK hM.obj rfl) hK rfl hl.1 rfl (Nat.le_of_ble_eq_true rfl) dL_law_1074 ⟨by show _ ≤ 601024; omega, by show _ ≤ 7293034; omega⟩ ?_
  refine lv_iload hx hb dL_law_1077 (lv_at hl 1 rfl) ?_
  refine lv_icmp_eq (tgt := 1084) hx hb dL_law_1079 (by decide) (fun c_1079 => ?_) (fun c_1079 => ?_)
  · skip
    have e_1079 : code = code := wk_ceqt (by omega) (by omega) c_1079
    refine lv_iload hx hb dL_law_1084 (lv_at hl 1 rfl) ?_
    refine lv_if_ne (tgt := 1101) hx hb dL_law_1086 (by decide) (fun c_1086 => ?_) (fun c_1086 => ?_)
    · skip
      have e_1086 : ¬ code = 0 := wk_cnet (b := 0) (by omega) (by decide) c_1086
      refine lv_goto (tgt := 1308) hx hb dL_law_1101 (by decide) ?_
      refine W.widen (k := cells + 4) (n := slots + 70) (by omega) (by omega) ?_
      exact kk _ X9 _ _ ⟨hA, ⟨_, hM⟩, hIv9, hoT, hob, _, hoo⟩ hX9 hS ls (lv_sub hl [2, 3, 4, 5, 6] rfl)
    have e_1086 : code = 0 := wk_cnef (b := 0) (by omega) (by decide) c_1086
    refine lv_aload_n hx hb dL_law_1089 rfl (lv_at hl 5 rfl) ?_
    refine lv_iconst (v := 0) hx hb dL_law_1090 (by decide) ?_
    refine wk_lald (n := 1) (f := o1) hx hb hK hoo 0 rfl (by decide) (by decide) dL_law_1091 ?_
    refine lv_iload hx hb dL_law_1092 (lv_at hl 0 rfl) ?_
    refine lv_i2l (v := ans.toInt64) hx hb dL_law_1094 rfl ?_
    refine W.lcmp hx hb dL_law_1095 ?_
    refine lv_if_eq (tgt := 1101) hx hb dL_law_1096 (by decide) (fun c_1096 => ?_) (fun c_1096 => ?_)
    · skip
      refine lv_goto (tgt := 1308) hx hb dL_law_1101 (by decide) ?_
      refine W.widen (k := cells + 4) (n := slots + 70) (by omega) (by omega) ?_
      exact kk _ X9 _ _ ⟨hA, ⟨_, hM⟩, hIv9, hoT, hob, _, hoo⟩ hX9 hS ls (lv_sub hl [2, 3, 4, 5, 6] rfl)
    exact absurd (lg_cmp0.mpr (by rw [ho1 e_1086])) c_1096
  have e_1079 : ¬ code = code := wk_ceqf (by omega) (by omega) c_1079
  exact absurd rfl e_1079

set_option maxHeartbeats 4000000 in
set_option maxRecDepth 100000 in
theorem k_satellite {p : Program} {l : Launch} {e : Env} {s : State} {m : MethodId} {below : List Frame} {meth : Method} {c : Code} {b L : Nat} {xs : Nat → Int32} {E : wk_E} {T : Nat → Nat × Nat} {X : z_X} {Y : Nat → Nat → Nat} {σ : z_S} {gt : Int64} {oo : Nat} {H : Heap} {locs : List Loc} {cells slots i : Nat} {code : Nat} {ans : Int32} {σ9 : z_S} {gt9 : Int64} {rm2 : Room} (C0 : wl_C p l s m meth c b L xs E) (hI0 : wl_I E T X Y σ gt oo H) (hS : va_S (wk_A E) s.heap H locs) (hi : i + 5 ≤ L) (hcl : cells + 4 ≤ 601024 ∧ slots + 70 ≤ 7293034) (hcd : code < 4)
    (hw : ∀ {ov : Nat → Int64}, va_at E.1 vwCl (oo, .inl (E.2.1.2.2, 1, .inr (.inl ov))) H → we_MetP wl_NC l yL_satellite wsL_satellite rmW E H [.ref (X.1 0 0), .int (xs (i + 1)), .int (xs (i + 2)), .ref oo] (fun q => z_FD T q ∨ q = oo) 2 30 (wl_R E T X oo H code (Int32.toInt64 ans) σ9))
    (hm : ∀ {T9 : Nat → Nat × Nat} {th9 : Int32} {H9 : Heap}, MA E T9 Y σ th9 gt H9 → we_Met l yX6_satellite wsX6_satellite rm2 E H9 [.ref (Y 10 0), .int (xs (i + 1)), .int (xs (i + 2))] (z_FM T9) 0 0 (fun v H1 => v = some (.int (ans)) ∧ MA E T9 Y σ9 (nI code) gt9 H1)) (hrm : rm2.cells = 0 ∧ rm2.slots = 0 ∧ rm2.frames ≤ 200 ∧ rm2.locals ≤ 9000) (hIv9 : z_Iv σ9 gt9)
    (kk : ∀ (T9 : Nat → Nat × Nat) (X9 : z_X) (H9 : Heap) (locs9 : List Loc), wl_I E T9 X9 Y σ9 gt9 oo H9 → X9.1 0 0 = X.1 0 0 → va_S (wk_A E) s.heap H9 locs9 → ∀ ls : Array Slot, lv_has ls 9 [(0, .ref b), (1, .ref (X.1 0 0)), (2, .ref (Y 10 0)), (3, .ref oo), (4, .int (nI i))] → W p l e room_1 s m #[Value.ref b] below meth c H9 locs9 (cells + 4) (slots + 70) (lw_Z below #[Value.ref b] s) (F0 m 1308 ls [])) :
    ∀ ls : Array Slot, lv_has ls 9 [(0, .ref b), (1, .ref (X.1 0 0)), (2, .ref (Y 10 0)), (3, .ref oo), (4, .int (nI i))] → W p l e room_1 s m #[Value.ref b] below meth c H locs cells slots (lw_Z below #[Value.ref b] s) (F0 m 1117 ls []) := by
  intro ls hl
  obtain ⟨⟨hx, hb, hr, hml, hown, hlocks⟩, hts, ⟨hX, hbl, hL⟩, ⟨hV, hNC, hE⟩, hst⟩ := id C0
  obtain ⟨hA, ⟨th, hM⟩, hIv, hoT, hob, ov, hoo⟩ := hI0
  have hK := hV.k
  have hbA : ¬ wk_A E b := by unfold wk_A; omega
  have hA9 : ∀ q : Nat, s.heap.size ≤ q → wk_A E q := fun q h => by unfold wk_A; omega
  have hVH : EV E s H := hV.heap hS.1 (fun q hq => hS.2.1 q (by omega) (by unfold wk_A; omega))
  have hbH : E.2.2.1 ≤ H.size := by have := hS.1; omega
  refine lv_aload_n hx hb dL_law_1117 rfl (lv_at hl 1 rfl) ?_
  refine lv_aload_n hx hb dL_law_1118 rfl (lv_at hl 0 rfl) ?_
  refine lv_iload hx hb dL_law_1119 (lv_at hl 4 rfl) ?_
  refine lv_iconst (v := 1) hx hb dL_law_1121 (by decide) ?_
  refine lv_iadd hx hb dL_law_1122 ?_
  refine wk_eqi (show (nI i) + 1 = nI (i + 1) from nI_add i 1) ?_
  refine wl_sld hx hb hX hbl hbA hS (i + 1) rfl (by omega) (by omega) dL_law_1123 ?_
  refine lv_aload_n hx hb dL_law_1124 rfl (lv_at hl 0 rfl) ?_
  refine lv_iload hx hb dL_law_1125 (lv_at hl 4 rfl) ?_
  refine lv_iconst (v := 2) hx hb dL_law_1127 (by decide) ?_
  refine lv_iadd hx hb dL_law_1128 ?_
  refine wk_eqi (show (nI i) + 2 = nI (i + 2) from nI_add i 2) ?_
  refine wl_sld hx hb hX hbl hbA hS (i + 2) rfl (by omega) (by omega) dL_law_1129 ?_
  refine lv_aload_n hx hb dL_law_1130 rfl (lv_at hl 3 rfl) ?_
  refine wl_S (As := [.ref (X.1 0 0), .int (xs (i + 1)), .int (xs (i + 2)), .ref oo]) (rest := []) ⟨hx, hb, hml, hown, hts⟩ (hw hoo) hNC (vx_cwSW 4 hts gL_law_L_satellite rfl rfl rfl (by decide +kernel) ⟨(Nat.le_of_ble_eq_true rfl), (Nat.le_of_ble_eq_true rfl)⟩) hVH hS (fun q hq => Or.elim hq (wl_FDA hA.2.1 q) (fun z => by rw [z]; exact hob)) hA9 rfl hl.1 rfl (Nat.le_of_ble_eq_true rfl) dL_law_1131 ⟨by show _ ≤ 601024; omega, by show _ ≤ 7293034; omega⟩ (fun v9 H locs hR9 hz9 hk9 hS => ?_)
  obtain ⟨rfl, ⟨o1, hoo1, ho1⟩, T9, X9, hT9, hX9, hA⟩ := hR9
  have hM := wl_MAw hM hbH hT9 hoT hk9
  have hoT : T9 oo = (20, 0) := (hT9 _ hoo.lt).trans hoT
  have hoo := hoo1
  have hVH : EV E s H := hV.heap hS.1 (fun q hq => hS.2.1 q (by omega) (by unfold wk_A; omega))
  have hbH : E.2.2.1 ≤ H.size := by have := hS.1; omega
  refine wk_eqls (st' := [.int (nI code)]) rfl ?_
  refine lv_istore (lv' := [(5, .int (nI code)), (0, .ref b), (1, .ref (X.1 0 0)), (2, .ref (Y 10 0)), (3, .ref oo), (4, .int (nI i))]) hx hb dL_law_1134 hl (by decide) rfl (fun ls hl => ?_)
  refine lv_aload_n hx hb dL_law_1136 rfl (lv_at hl 3 rfl) ?_
  refine lv_aload_n hx hb dL_law_1137 rfl (lv_at hl 1 rfl) ?_
  refine lv_iload hx hb dL_law_1138 (lv_at hl 5 rfl) ?_
  refine lv_iconst (v := 1) hx hb dL_law_1140 (by decide) ?_
  refine lv_iadd hx hb dL_law_1141 ?_
  refine wk_eqi (show (nI i) + 1 = nI (i + 1) from nI_add i 1) ?_
  refine wl_sld hx hb hX hbl hbA hS (i + 1) rfl (by omega) (by omega) dL_law_1142 ?_
  refine lv_aload_n hx hb dL_law_1143 rfl (lv_at hl 1 rfl) ?_
  refine lv_iload hx hb dL_law_1144 (lv_at hl 5 rfl) ?_
  refine lv_iconst (v := 2) hx hb dL_law_1146 (by decide) ?_
  refine lv_iadd hx hb dL_law_1147 ?_
  refine wk_eqi (show (nI i) + 2 = nI (i + 2) from nI_add i 2) ?_
  refine wl_sld hx hb hX hbl hbA hS (i + 2) rfl (by omega) (by omega) dL_law_1148 ?_
  refine we_V (As := [.int (xs (i + 1)), .int (xs (i + 2))]) (rest := []) ⟨hx, hb, hml, hown, hts⟩ (hm hM) (cwV 2 hts gL_law_X6_satellite rfl hrm.1 hrm.2.1 (by decide +kernel) ⟨by show _ ≤ 2048; omega, by show _ ≤ 84000; omega⟩) (wk_recv hK hM.obj rfl) hVH hS (wl_FMA hM.2) hA9 rfl hl.1 rfl (Nat.le_of_ble_eq_true rfl) dL_law_1149 ⟨by show _ ≤ 601024; omega, by show _ ≤ 7293034; omega⟩ (fun v9 H locs hR9 hz9 hk9 hS => ?_)
  obtain ⟨rfl, hM⟩ := hR9
  have hA := hA.kept (fun q hq hf => hk9 q hq (fun z => wl_DM z hf))
  have hoo := va_at.kept hoo (hk9 _ hoo.lt (wl_ooM hoT))
  have hVH : EV E s H := hV.heap hS.1 (fun q hq => hS.2.1 q (by omega) (by unfold wk_A; omega))
  have hbH : E.2.2.1 ≤ H.size := by have := hS.1; omega
  refine wk_eqls (st' := [.int ans]) rfl ?_
  refine lv_istore (lv' := [(6, .int ans), (5, .int (nI code)), (0, .ref b), (1, .ref (X.1 0 0)), (2, .ref (Y 10 0)), (3, .ref oo), (4, .int (nI i))]) hx hb dL_law_1152 hl (by decide) rfl (fun ls hl => ?_)
  refine lv_aload_n hx hb dL_law_1154 rfl (lv_at hl 4 rfl) ?_
  refine wk_V (As := []) (rest := []) ⟨hx, hb, hml, hown, hts⟩ (c_X6_thrown l E hM hIv9.1) (cwV 0 hts gL_law_X6_thrown rfl rfl rfl (by decide +kernel) ⟨(Nat.le_of_ble_eq_true rfl), (Nat.le_of_ble_eq_true rfl)⟩) (wk_recv hK hM.obj rfl) hK rfl hl.1 rfl (Nat.le_of_ble_eq_true rfl) dL_law_1155 ⟨by show _ ≤ 601024; omega, by show _ ≤ 7293034; omega⟩ ?_
  refine lv_iload hx hb dL_law_1158 (lv_at hl 1 rfl) ?_
  refine lv_icmp_eq (tgt := 1165) hx hb dL_law_1160 (by decide) (fun c_1160 => ?_) (fun c_1160 => ?_)
  · skip
    have e_1160 : code = code := wk_ceqt (by omega) (by omega) c_1160
    refine lv_iload hx hb dL_law_1165 (lv_at hl 1 rfl) ?_
    refine lv_if_ne (tgt := 1182) hx hb dL_law_1167 (by decide) (fun c_1167 => ?_) (fun c_1167 => ?_)
    · skip
      have e_1167 : ¬ code = 0 := wk_cnet (b := 0) (by omega) (by decide) c_1167
      refine lv_goto (tgt := 1308) hx hb dL_law_1182 (by decide) ?_
      refine W.widen (k := cells + 4) (n := slots + 70) (by omega) (by omega) ?_
      exact kk _ X9 _ _ ⟨hA, ⟨_, hM⟩, hIv9, hoT, hob, _, hoo⟩ hX9 hS ls (lv_sub hl [2, 3, 4, 5, 6] rfl)
    have e_1167 : code = 0 := wk_cnef (b := 0) (by omega) (by decide) c_1167
    refine lv_aload_n hx hb dL_law_1170 rfl (lv_at hl 5 rfl) ?_
    refine lv_iconst (v := 0) hx hb dL_law_1171 (by decide) ?_
    refine wk_lald (n := 1) (f := o1) hx hb hK hoo 0 rfl (by decide) (by decide) dL_law_1172 ?_
    refine lv_iload hx hb dL_law_1173 (lv_at hl 0 rfl) ?_
    refine lv_i2l (v := ans.toInt64) hx hb dL_law_1175 rfl ?_
    refine W.lcmp hx hb dL_law_1176 ?_
    refine lv_if_eq (tgt := 1182) hx hb dL_law_1177 (by decide) (fun c_1177 => ?_) (fun c_1177 => ?_)
    · skip
      refine lv_goto (tgt := 1308) hx hb dL_law_1182 (by decide) ?_
      refine W.widen (k := cells + 4) (n := slots + 70) (by omega) (by omega) ?_
      exact kk _ X9 _ _ ⟨hA, ⟨_, hM⟩, hIv9, hoT, hob, _, hoo⟩ hX9 hS ls (lv_sub hl [2, 3, 4, 5, 6] rfl)
    exact absurd (lg_cmp0.mpr (by rw [ho1 e_1167])) c_1177
  have e_1160 : ¬ code = code := wk_ceqf (by omega) (by omega) c_1160
  exact absurd rfl e_1160

set_option maxHeartbeats 4000000 in
set_option maxRecDepth 100000 in
theorem k_antenna {p : Program} {l : Launch} {e : Env} {s : State} {m : MethodId} {below : List Frame} {meth : Method} {c : Code} {b L : Nat} {xs : Nat → Int32} {E : wk_E} {T : Nat → Nat × Nat} {X : z_X} {Y : Nat → Nat → Nat} {σ : z_S} {gt : Int64} {oo : Nat} {H : Heap} {locs : List Loc} {cells slots i : Nat} {code : Nat} {ans : Int32} {σ9 : z_S} {gt9 : Int64} {rm2 : Room} (C0 : wl_C p l s m meth c b L xs E) (hI0 : wl_I E T X Y σ gt oo H) (hS : va_S (wk_A E) s.heap H locs) (hi : i + 5 ≤ L) (hcl : cells + 4 ≤ 601024 ∧ slots + 70 ≤ 7293034) (hcd : code < 4)
    (hw : ∀ {ov : Nat → Int64}, va_at E.1 vwCl (oo, .inl (E.2.1.2.2, 1, .inr (.inl ov))) H → we_MetP wl_NC l yL_antenna wsL_antenna rmW E H [.ref (X.1 0 0), .int (xs (i + 1)), .int (xs (i + 2)), .ref oo] (fun q => z_FD T q ∨ q = oo) 2 30 (wl_R E T X oo H code (Int32.toInt64 ans) σ9))
    (hm : ∀ {T9 : Nat → Nat × Nat} {th9 : Int32} {H9 : Heap}, MA E T9 Y σ th9 gt H9 → we_Met l yX6_antenna wsX6_antenna rm2 E H9 [.ref (Y 10 0), .int (xs (i + 1)), .int (xs (i + 2))] (z_FM T9) 0 0 (fun v H1 => v = some (.int (ans)) ∧ MA E T9 Y σ9 (nI code) gt9 H1)) (hrm : rm2.cells = 0 ∧ rm2.slots = 0 ∧ rm2.frames ≤ 200 ∧ rm2.locals ≤ 9000) (hIv9 : z_Iv σ9 gt9)
    (kk : ∀ (T9 : Nat → Nat × Nat) (X9 : z_X) (H9 : Heap) (locs9 : List Loc), wl_I E T9 X9 Y σ9 gt9 oo H9 → X9.1 0 0 = X.1 0 0 → va_S (wk_A E) s.heap H9 locs9 → ∀ ls : Array Slot, lv_has ls 9 [(0, .ref b), (1, .ref (X.1 0 0)), (2, .ref (Y 10 0)), (3, .ref oo), (4, .int (nI i))] → W p l e room_1 s m #[Value.ref b] below meth c H9 locs9 (cells + 4) (slots + 70) (lw_Z below #[Value.ref b] s) (F0 m 1308 ls [])) :
    ∀ ls : Array Slot, lv_has ls 9 [(0, .ref b), (1, .ref (X.1 0 0)), (2, .ref (Y 10 0)), (3, .ref oo), (4, .int (nI i))] → W p l e room_1 s m #[Value.ref b] below meth c H locs cells slots (lw_Z below #[Value.ref b] s) (F0 m 1185 ls []) := by
  intro ls hl
  obtain ⟨⟨hx, hb, hr, hml, hown, hlocks⟩, hts, ⟨hX, hbl, hL⟩, ⟨hV, hNC, hE⟩, hst⟩ := id C0
  obtain ⟨hA, ⟨th, hM⟩, hIv, hoT, hob, ov, hoo⟩ := hI0
  have hK := hV.k
  have hbA : ¬ wk_A E b := by unfold wk_A; omega
  have hA9 : ∀ q : Nat, s.heap.size ≤ q → wk_A E q := fun q h => by unfold wk_A; omega
  have hVH : EV E s H := hV.heap hS.1 (fun q hq => hS.2.1 q (by omega) (by unfold wk_A; omega))
  have hbH : E.2.2.1 ≤ H.size := by have := hS.1; omega
  refine lv_aload_n hx hb dL_law_1185 rfl (lv_at hl 1 rfl) ?_
  refine lv_aload_n hx hb dL_law_1186 rfl (lv_at hl 0 rfl) ?_
  refine lv_iload hx hb dL_law_1187 (lv_at hl 4 rfl) ?_
  refine lv_iconst (v := 1) hx hb dL_law_1189 (by decide) ?_
  refine lv_iadd hx hb dL_law_1190 ?_
  refine wk_eqi (show (nI i) + 1 = nI (i + 1) from nI_add i 1) ?_
  refine wl_sld hx hb hX hbl hbA hS (i + 1) rfl (by omega) (by omega) dL_law_1191 ?_
  refine lv_aload_n hx hb dL_law_1192 rfl (lv_at hl 0 rfl) ?_
  refine lv_iload hx hb dL_law_1193 (lv_at hl 4 rfl) ?_
  refine lv_iconst (v := 2) hx hb dL_law_1195 (by decide) ?_
  refine lv_iadd hx hb dL_law_1196 ?_
  refine wk_eqi (show (nI i) + 2 = nI (i + 2) from nI_add i 2) ?_
  refine wl_sld hx hb hX hbl hbA hS (i + 2) rfl (by omega) (by omega) dL_law_1197 ?_
  refine lv_aload_n hx hb dL_law_1198 rfl (lv_at hl 3 rfl) ?_
  refine wl_S (As := [.ref (X.1 0 0), .int (xs (i + 1)), .int (xs (i + 2)), .ref oo]) (rest := []) ⟨hx, hb, hml, hown, hts⟩ (hw hoo) hNC (vx_cwSW 4 hts gL_law_L_antenna rfl rfl rfl (by decide +kernel) ⟨(Nat.le_of_ble_eq_true rfl), (Nat.le_of_ble_eq_true rfl)⟩) hVH hS (fun q hq => Or.elim hq (wl_FDA hA.2.1 q) (fun z => by rw [z]; exact hob)) hA9 rfl hl.1 rfl (Nat.le_of_ble_eq_true rfl) dL_law_1199 ⟨by show _ ≤ 601024; omega, by show _ ≤ 7293034; omega⟩ (fun v9 H locs hR9 hz9 hk9 hS => ?_)
  obtain ⟨rfl, ⟨o1, hoo1, ho1⟩, T9, X9, hT9, hX9, hA⟩ := hR9
  have hM := wl_MAw hM hbH hT9 hoT hk9
  have hoT : T9 oo = (20, 0) := (hT9 _ hoo.lt).trans hoT
  have hoo := hoo1
  have hVH : EV E s H := hV.heap hS.1 (fun q hq => hS.2.1 q (by omega) (by unfold wk_A; omega))
  have hbH : E.2.2.1 ≤ H.size := by have := hS.1; omega
  refine wk_eqls (st' := [.int (nI code)]) rfl ?_
  refine lv_istore (lv' := [(5, .int (nI code)), (0, .ref b), (1, .ref (X.1 0 0)), (2, .ref (Y 10 0)), (3, .ref oo), (4, .int (nI i))]) hx hb dL_law_1202 hl (by decide) rfl (fun ls hl => ?_)
  refine lv_aload_n hx hb dL_law_1204 rfl (lv_at hl 3 rfl) ?_
  refine lv_aload_n hx hb dL_law_1205 rfl (lv_at hl 1 rfl) ?_
  refine lv_iload hx hb dL_law_1206 (lv_at hl 5 rfl) ?_
  refine lv_iconst (v := 1) hx hb dL_law_1208 (by decide) ?_
  refine lv_iadd hx hb dL_law_1209 ?_
  refine wk_eqi (show (nI i) + 1 = nI (i + 1) from nI_add i 1) ?_
  refine wl_sld hx hb hX hbl hbA hS (i + 1) rfl (by omega) (by omega) dL_law_1210 ?_
  refine lv_aload_n hx hb dL_law_1211 rfl (lv_at hl 1 rfl) ?_
  refine lv_iload hx hb dL_law_1212 (lv_at hl 5 rfl) ?_
  refine lv_iconst (v := 2) hx hb dL_law_1214 (by decide) ?_
  refine lv_iadd hx hb dL_law_1215 ?_
  refine wk_eqi (show (nI i) + 2 = nI (i + 2) from nI_add i 2) ?_
  refine wl_sld hx hb hX hbl hbA hS (i + 2) rfl (by omega) (by omega) dL_law_1216 ?_
  refine we_V (As := [.int (xs (i + 1)), .int (xs (i + 2))]) (rest := []) ⟨hx, hb, hml, hown, hts⟩ (hm hM) (cwV 2 hts gL_law_X6_antenna rfl hrm.1 hrm.2.1 (by decide +kernel) ⟨by show _ ≤ 2048; omega, by show _ ≤ 84000; omega⟩) (wk_recv hK hM.obj rfl) hVH hS (wl_FMA hM.2) hA9 rfl hl.1 rfl (Nat.le_of_ble_eq_true rfl) dL_law_1217 ⟨by show _ ≤ 601024; omega, by show _ ≤ 7293034; omega⟩ (fun v9 H locs hR9 hz9 hk9 hS => ?_)
  obtain ⟨rfl, hM⟩ := hR9
  have hA := hA.kept (fun q hq hf => hk9 q hq (fun z => wl_DM z hf))
  have hoo := va_at.kept hoo (hk9 _ hoo.lt (wl_ooM hoT))
  have hVH : EV E s H := hV.heap hS.1 (fun q hq => hS.2.1 q (by omega) (by unfold wk_A; omega))
  have hbH : E.2.2.1 ≤ H.size := by have := hS.1; omega
  refine wk_eqls (st' := [.int ans]) rfl ?_
  refine lv_istore (lv' := [(6, .int ans), (5, .int (nI code)), (0, .ref b), (1, .ref (X.1 0 0)), (2, .ref (Y 10 0)), (3, .ref oo), (4, .int (nI i))]) hx hb dL_law_1220 hl (by decide) rfl (fun ls hl => ?_)
  refine lv_aload_n hx hb dL_law_1222 rfl (lv_at hl 4 rfl) ?_
  refine wk_V (As := []) (rest := []) ⟨hx, hb, hml, hown, hts⟩ (c_X6_thrown l E hM hIv9.1) (cwV 0 hts gL_law_X6_thrown rfl rfl rfl (by decide +kernel) ⟨(Nat.le_of_ble_eq_true rfl), (Nat.le_of_ble_eq_true rfl)⟩) (wk_recv hK hM.obj rfl) hK rfl hl.1 rfl (Nat.le_of_ble_eq_true rfl) dL_law_1223 ⟨by show _ ≤ 601024; omega, by show _ ≤ 7293034; omega⟩ ?_
  refine lv_iload hx hb dL_law_1226 (lv_at hl 1 rfl) ?_
  refine lv_icmp_eq (tgt := 1233) hx hb dL_law_1228 (by decide) (fun c_1228 => ?_) (fun c_1228 => ?_)
  · skip
    have e_1228 : code = code := wk_ceqt (by omega) (by omega) c_1228
    refine lv_iload hx hb dL_law_1233 (lv_at hl 1 rfl) ?_
    refine lv_if_ne (tgt := 1250) hx hb dL_law_1235 (by decide) (fun c_1235 => ?_) (fun c_1235 => ?_)
    · skip
      have e_1235 : ¬ code = 0 := wk_cnet (b := 0) (by omega) (by decide) c_1235
      refine lv_goto (tgt := 1308) hx hb dL_law_1250 (by decide) ?_
      refine W.widen (k := cells + 4) (n := slots + 70) (by omega) (by omega) ?_
      exact kk _ X9 _ _ ⟨hA, ⟨_, hM⟩, hIv9, hoT, hob, _, hoo⟩ hX9 hS ls (lv_sub hl [2, 3, 4, 5, 6] rfl)
    have e_1235 : code = 0 := wk_cnef (b := 0) (by omega) (by decide) c_1235
    refine lv_aload_n hx hb dL_law_1238 rfl (lv_at hl 5 rfl) ?_
    refine lv_iconst (v := 0) hx hb dL_law_1239 (by decide) ?_
    refine wk_lald (n := 1) (f := o1) hx hb hK hoo 0 rfl (by decide) (by decide) dL_law_1240 ?_
    refine lv_iload hx hb dL_law_1241 (lv_at hl 0 rfl) ?_
    refine lv_i2l (v := ans.toInt64) hx hb dL_law_1243 rfl ?_
    refine W.lcmp hx hb dL_law_1244 ?_
    refine lv_if_eq (tgt := 1250) hx hb dL_law_1245 (by decide) (fun c_1245 => ?_) (fun c_1245 => ?_)
    · skip
      refine lv_goto (tgt := 1308) hx hb dL_law_1250 (by decide) ?_
      refine W.widen (k := cells + 4) (n := slots + 70) (by omega) (by omega) ?_
      exact kk _ X9 _ _ ⟨hA, ⟨_, hM⟩, hIv9, hoT, hob, _, hoo⟩ hX9 hS ls (lv_sub hl [2, 3, 4, 5, 6] rfl)
    exact absurd (lg_cmp0.mpr (by rw [ho1 e_1235])) c_1245
  have e_1228 : ¬ code = code := wk_ceqf (by omega) (by omega) c_1228
  exact absurd rfl e_1228
