set_option maxHeartbeats 4000000 in
set_option maxRecDepth 100000 in
theorem k_setHandover {p : Program} {l : Launch} {e : Env} {s : State} {m : MethodId} {below : List Frame} {meth : Method} {c : Code} {b L : Nat} {xs : Nat → Int32} {E : wk_E} {T : Nat → Nat × Nat} {X : z_X} {Y : Nat → Nat → Nat} {σ : z_S} {gt : Int64} {oo : Nat} {H : Heap} {locs : List Loc} {cells slots i : Nat} {code : Nat} {ans : Int32} {σ9 : z_S} {gt9 : Int64} {rm2 : Room} (C0 : wl_C p l s m meth c b L xs E) (hI0 : wl_I E T X Y σ gt oo H) (hS : va_S (wk_A E) s.heap H locs) (hi : i + 5 ≤ L) (hcl : cells + 4 ≤ 601024 ∧ slots + 70 ≤ 7293034) (hcd : code < 4)
    (hw : ∀ {ov : Nat → Int64}, va_at E.1 vwCl (oo, .inl (E.2.1.2.2, 1, .inr (.inl ov))) H → we_MetP wl_NC l yL_setHandover wsL_setHandover rmW E H [.ref (X.1 0 0), .int (xs (i + 1)), .ref oo] (fun q => z_FD T q ∨ q = oo) 2 30 (wl_R E T X oo H code (Int32.toInt64 ans) σ9))
    (hm : ∀ {T9 : Nat → Nat × Nat} {th9 : Int32} {H9 : Heap}, MA E T9 Y σ th9 gt H9 → we_Met l yX6_setHandover wsX6_setHandover rm2 E H9 [.ref (Y 10 0), .int (xs (i + 1))] (z_FM T9) 0 0 (fun v H1 => v = some (.int (ans)) ∧ MA E T9 Y σ9 (nI code) gt9 H1)) (hrm : rm2.cells = 0 ∧ rm2.slots = 0 ∧ rm2.frames ≤ 200 ∧ rm2.locals ≤ 9000) (hIv9 : z_Iv σ9 gt9)
    (kk : ∀ (T9 : Nat → Nat × Nat) (X9 : z_X) (H9 : Heap) (locs9 : List Loc), wl_I E T9 X9 Y σ9 gt9 oo H9 → X9.1 0 0 = X.1 0 0 → va_S (wk_A E) s.heap H9 locs9 → ∀ ls : Array Slot, lv_has ls 9 [(0, .ref b), (1, .ref (X.1 0 0)), (2, .ref (Y 10 0)), (3, .ref oo), (4, .int (nI i))] → W p l e room_1 s m #[Value.ref b] below meth c H9 locs9 (cells + 4) (slots + 70) (lw_Z below #[Value.ref b] s) (F0 m 1308 ls [])) :
    ∀ ls : Array Slot, lv_has ls 9 [(0, .ref b), (1, .ref (X.1 0 0)), (2, .ref (Y 10 0)), (3, .ref oo), (4, .int (nI i))] → W p l e room_1 s m #[Value.ref b] below meth c H locs cells slots (lw_Z below #[Value.ref b] s) (F0 m 480 ls []) := by
  intro ls hl
  obtain ⟨⟨hx, hb, hr, hml, hown, hlocks⟩, hts, ⟨hX, hbl, hL⟩, ⟨hV, hNC, hE⟩, hst⟩ := id C0
  obtain ⟨hA, ⟨th, hM⟩, hIv, hoT, hob, ov, hoo⟩ := hI0
  have hK := hV.k
  have hbA : ¬ wk_A E b := by unfold wk_A; omega
  have hA9 : ∀ q : Nat, s.heap.size ≤ q → wk_A E q := fun q h => by unfold wk_A; omega
  have hVH : EV E s H := hV.heap hS.1 (fun q hq => hS.2.1 q (by omega) (by unfold wk_A; omega))
  have hbH : E.2.2.1 ≤ H.size := by have := hS.1; omega
  refine lv_aload_n hx hb dL_law_480 rfl (lv_at hl 1 rfl) ?_
  refine lv_aload_n hx hb dL_law_481 rfl (lv_at hl 0 rfl) ?_
  refine lv_iload hx hb dL_law_482 (lv_at hl 4 rfl) ?_
  refine lv_iconst (v := 1) hx hb dL_law_484 (by decide) ?_
  refine lv_iadd hx hb dL_law_485 ?_
  refine wk_eqi (show (nI i) + 1 = nI (i + 1) from nI_add i 1) ?_
  refine wl_sld hx hb hX hbl hbA hS (i + 1) rfl (by omega) (by omega) dL_law_486 ?_
  refine lv_aload_n hx hb dL_law_487 rfl (lv_at hl 3 rfl) ?_
  refine wl_S (As := [.ref (X.1 0 0), .int (xs (i + 1)), .ref oo]) (rest := []) ⟨hx, hb, hml, hown, hts⟩ (hw hoo) hNC (vx_cwSW 3 hts gL_law_L_setHandover rfl rfl rfl (by decide +kernel) ⟨(Nat.le_of_ble_eq_true rfl), (Nat.le_of_ble_eq_true rfl)⟩) hVH hS (fun q hq => Or.elim hq (wl_FDA hA.2.1 q) (fun z => by rw [z]; exact hob)) hA9 rfl hl.1 rfl (Nat.le_of_ble_eq_true rfl) dL_law_488 ⟨by show _ ≤ 601024; omega, by show _ ≤ 7293034; omega⟩ (fun v9 H locs hR9 hz9 hk9 hS => ?_)
  obtain ⟨rfl, ⟨o1, hoo1, ho1⟩, T9, X9, hT9, hX9, hA⟩ := hR9
  have hM := wl_MAw hM hbH hT9 hoT hk9
  have hoT : T9 oo = (20, 0) := (hT9 _ hoo.lt).trans hoT
  have hoo := hoo1
  have hVH : EV E s H := hV.heap hS.1 (fun q hq => hS.2.1 q (by omega) (by unfold wk_A; omega))
  have hbH : E.2.2.1 ≤ H.size := by have := hS.1; omega
  refine wk_eqls (st' := [.int (nI code)]) rfl ?_
  refine lv_istore (lv' := [(5, .int (nI code)), (0, .ref b), (1, .ref (X.1 0 0)), (2, .ref (Y 10 0)), (3, .ref oo), (4, .int (nI i))]) hx hb dL_law_491 hl (by decide) rfl (fun ls hl => ?_)
  refine lv_aload_n hx hb dL_law_493 rfl (lv_at hl 3 rfl) ?_
  refine lv_aload_n hx hb dL_law_494 rfl (lv_at hl 1 rfl) ?_
  refine lv_iload hx hb dL_law_495 (lv_at hl 5 rfl) ?_
  refine lv_iconst (v := 1) hx hb dL_law_497 (by decide) ?_
  refine lv_iadd hx hb dL_law_498 ?_
  refine wk_eqi (show (nI i) + 1 = nI (i + 1) from nI_add i 1) ?_
  refine wl_sld hx hb hX hbl hbA hS (i + 1) rfl (by omega) (by omega) dL_law_499 ?_
  refine we_V (As := [.int (xs (i + 1))]) (rest := []) ⟨hx, hb, hml, hown, hts⟩ (hm hM) (cwV 1 hts gL_law_X6_setHandover rfl hrm.1 hrm.2.1 (by decide +kernel) ⟨by show _ ≤ 2048; omega, by show _ ≤ 84000; omega⟩) (wk_recv hK hM.obj rfl) hVH hS (wl_FMA hM.2) hA9 rfl hl.1 rfl (Nat.le_of_ble_eq_true rfl) dL_law_500 ⟨by show _ ≤ 601024; omega, by show _ ≤ 7293034; omega⟩ (fun v9 H locs hR9 hz9 hk9 hS => ?_)
  obtain ⟨rfl, hM⟩ := hR9
  have hA := hA.kept (fun q hq hf => hk9 q hq (fun z => wl_DM z hf))
  have hoo := va_at.kept hoo (hk9 _ hoo.lt (wl_ooM hoT))
  have hVH : EV E s H := hV.heap hS.1 (fun q hq => hS.2.1 q (by omega) (by unfold wk_A; omega))
  have hbH : E.2.2.1 ≤ H.size := by have := hS.1; omega
  refine wk_eqls (st' := [.int ans]) rfl ?_
  refine lv_istore (lv' := [(6, .int ans), (5, .int (nI code)), (0, .ref b), (1, .ref (X.1 0 0)), (2, .ref (Y 10 0)), (3, .ref oo), (4, .int (nI i))]) hx hb dL_law_503 hl (by decide) rfl (fun ls hl => ?_)
  refine lv_aload_n hx hb dL_law_505 rfl (lv_at hl 4 rfl) ?_
  refine wk_V (As := []) (rest := []) ⟨hx, hb, hml, hown, hts⟩ (c_X6_thrown l E hM hIv9.1) (cwV 0 hts gL_law_X6_thrown rfl rfl rfl (by decide +kernel) ⟨(Nat.le_of_ble_eq_true rfl), (Nat.le_of_ble_eq_true rfl)⟩) (wk_recv hK hM.obj rfl) hK rfl hl.1 rfl (Nat.le_of_ble_eq_true rfl) dL_law_506 ⟨by show _ ≤ 601024; omega, by show _ ≤ 7293034; omega⟩ ?_
  refine lv_iload hx hb dL_law_509 (lv_at hl 1 rfl) ?_
  refine lv_icmp_eq (tgt := 516) hx hb dL_law_511 (by decide) (fun c_511 => ?_) (fun c_511 => ?_)
  · skip
    have e_511 : code = code := wk_ceqt (by omega) (by omega) c_511
    refine lv_iload hx hb dL_law_516 (lv_at hl 1 rfl) ?_
    refine lv_if_ne (tgt := 533) hx hb dL_law_518 (by decide) (fun c_518 => ?_) (fun c_518 => ?_)
    · skip
      have e_518 : ¬ code = 0 := wk_cnet (b := 0) (by omega) (by decide) c_518
      refine lv_goto (tgt := 1308) hx hb dL_law_533 (by decide) ?_
      refine W.widen (k := cells + 4) (n := slots + 70) (by omega) (by omega) ?_
      exact kk _ X9 _ _ ⟨hA, ⟨_, hM⟩, hIv9, hoT, hob, _, hoo⟩ hX9 hS ls (lv_sub hl [2, 3, 4, 5, 6] rfl)
    have e_518 : code = 0 := wk_cnef (b := 0) (by omega) (by decide) c_518
    refine lv_aload_n hx hb dL_law_521 rfl (lv_at hl 5 rfl) ?_
    refine lv_iconst (v := 0) hx hb dL_law_522 (by decide) ?_
    refine wk_lald (n := 1) (f := o1) hx hb hK hoo 0 rfl (by decide) (by decide) dL_law_523 ?_
    refine lv_iload hx hb dL_law_524 (lv_at hl 0 rfl) ?_
    refine lv_i2l (v := ans.toInt64) hx hb dL_law_526 rfl ?_
    refine W.lcmp hx hb dL_law_527 ?_
    refine lv_if_eq (tgt := 533) hx hb dL_law_528 (by decide) (fun c_528 => ?_) (fun c_528 => ?_)
    · skip
      refine lv_goto (tgt := 1308) hx hb dL_law_533 (by decide) ?_
      refine W.widen (k := cells + 4) (n := slots + 70) (by omega) (by omega) ?_
      exact kk _ X9 _ _ ⟨hA, ⟨_, hM⟩, hIv9, hoT, hob, _, hoo⟩ hX9 hS ls (lv_sub hl [2, 3, 4, 5, 6] rfl)
    exact absurd (lg_cmp0.mpr (by rw [ho1 e_518])) c_528
  have e_511 : ¬ code = code := wk_ceqf (by omega) (by omega) c_511
  exact absurd rfl e_511

set_option maxHeartbeats 4000000 in
set_option maxRecDepth 100000 in
theorem k_count {p : Program} {l : Launch} {e : Env} {s : State} {m : MethodId} {below : List Frame} {meth : Method} {c : Code} {b L : Nat} {xs : Nat → Int32} {E : wk_E} {T : Nat → Nat × Nat} {X : z_X} {Y : Nat → Nat → Nat} {σ : z_S} {gt : Int64} {oo : Nat} {H : Heap} {locs : List Loc} {cells slots i : Nat} {code : Nat} {ans : Int32} {σ9 : z_S} {gt9 : Int64} {rm2 : Room} (C0 : wl_C p l s m meth c b L xs E) (hI0 : wl_I E T X Y σ gt oo H) (hS : va_S (wk_A E) s.heap H locs) (hi : i + 5 ≤ L) (hcl : cells + 4 ≤ 601024 ∧ slots + 70 ≤ 7293034) (hcd : code < 4)
    (hw : ∀ {ov : Nat → Int64}, va_at E.1 vwCl (oo, .inl (E.2.1.2.2, 1, .inr (.inl ov))) H → we_MetP wl_NC l yL_count wsL_count rmW E H [.ref (X.1 0 0), .int (xs (i + 1)), .ref oo] (fun q => z_FD T q ∨ q = oo) 2 30 (wl_R E T X oo H code (Int32.toInt64 ans) σ9))
    (hm : ∀ {T9 : Nat → Nat × Nat} {th9 : Int32} {H9 : Heap}, MA E T9 Y σ th9 gt H9 → we_Met l yX6_count wsX6_count rm2 E H9 [.ref (Y 10 0), .int (xs (i + 1))] (z_FM T9) 0 0 (fun v H1 => v = some (.int (ans)) ∧ MA E T9 Y σ9 (nI code) gt9 H1)) (hrm : rm2.cells = 0 ∧ rm2.slots = 0 ∧ rm2.frames ≤ 200 ∧ rm2.locals ≤ 9000) (hIv9 : z_Iv σ9 gt9)
    (kk : ∀ (T9 : Nat → Nat × Nat) (X9 : z_X) (H9 : Heap) (locs9 : List Loc), wl_I E T9 X9 Y σ9 gt9 oo H9 → X9.1 0 0 = X.1 0 0 → va_S (wk_A E) s.heap H9 locs9 → ∀ ls : Array Slot, lv_has ls 9 [(0, .ref b), (1, .ref (X.1 0 0)), (2, .ref (Y 10 0)), (3, .ref oo), (4, .int (nI i))] → W p l e room_1 s m #[Value.ref b] below meth c H9 locs9 (cells + 4) (slots + 70) (lw_Z below #[Value.ref b] s) (F0 m 1308 ls [])) :
    ∀ ls : Array Slot, lv_has ls 9 [(0, .ref b), (1, .ref (X.1 0 0)), (2, .ref (Y 10 0)), (3, .ref oo), (4, .int (nI i))] → W p l e room_1 s m #[Value.ref b] below meth c H locs cells slots (lw_Z below #[Value.ref b] s) (F0 m 536 ls []) := by
  intro ls hl
  obtain ⟨⟨hx, hb, hr, hml, hown, hlocks⟩, hts, ⟨hX, hbl, hL⟩, ⟨hV, hNC, hE⟩, hst⟩ := id C0
  obtain ⟨hA, ⟨th, hM⟩, hIv, hoT, hob, ov, hoo⟩ := hI0
  have hK := hV.k
  have hbA : ¬ wk_A E b := by unfold wk_A; omega
  have hA9 : ∀ q : Nat, s.heap.size ≤ q → wk_A E q := fun q h => by unfold wk_A; omega
  have hVH : EV E s H := hV.heap hS.1 (fun q hq => hS.2.1 q (by omega) (by unfold wk_A; omega))
  have hbH : E.2.2.1 ≤ H.size := by have := hS.1; omega
  refine lv_aload_n hx hb dL_law_536 rfl (lv_at hl 1 rfl) ?_
  refine lv_aload_n hx hb dL_law_537 rfl (lv_at hl 0 rfl) ?_
  refine lv_iload hx hb dL_law_538 (lv_at hl 4 rfl) ?_
  refine lv_iconst (v := 1) hx hb dL_law_540 (by decide) ?_
  refine lv_iadd hx hb dL_law_541 ?_
  refine wk_eqi (show (nI i) + 1 = nI (i + 1) from nI_add i 1) ?_
  refine wl_sld hx hb hX hbl hbA hS (i + 1) rfl (by omega) (by omega) dL_law_542 ?_
  refine lv_aload_n hx hb dL_law_543 rfl (lv_at hl 3 rfl) ?_
  refine wl_S (As := [.ref (X.1 0 0), .int (xs (i + 1)), .ref oo]) (rest := []) ⟨hx, hb, hml, hown, hts⟩ (hw hoo) hNC (vx_cwSW 3 hts gL_law_L_count rfl rfl rfl (by decide +kernel) ⟨(Nat.le_of_ble_eq_true rfl), (Nat.le_of_ble_eq_true rfl)⟩) hVH hS (fun q hq => Or.elim hq (wl_FDA hA.2.1 q) (fun z => by rw [z]; exact hob)) hA9 rfl hl.1 rfl (Nat.le_of_ble_eq_true rfl) dL_law_544 ⟨by show _ ≤ 601024; omega, by show _ ≤ 7293034; omega⟩ (fun v9 H locs hR9 hz9 hk9 hS => ?_)
  obtain ⟨rfl, ⟨o1, hoo1, ho1⟩, T9, X9, hT9, hX9, hA⟩ := hR9
  have hM := wl_MAw hM hbH hT9 hoT hk9
  have hoT : T9 oo = (20, 0) := (hT9 _ hoo.lt).trans hoT
  have hoo := hoo1
  have hVH : EV E s H := hV.heap hS.1 (fun q hq => hS.2.1 q (by omega) (by unfold wk_A; omega))
  have hbH : E.2.2.1 ≤ H.size := by have := hS.1; omega
  refine wk_eqls (st' := [.int (nI code)]) rfl ?_
  refine lv_istore (lv' := [(5, .int (nI code)), (0, .ref b), (1, .ref (X.1 0 0)), (2, .ref (Y 10 0)), (3, .ref oo), (4, .int (nI i))]) hx hb dL_law_547 hl (by decide) rfl (fun ls hl => ?_)
  refine lv_aload_n hx hb dL_law_549 rfl (lv_at hl 3 rfl) ?_
  refine lv_aload_n hx hb dL_law_550 rfl (lv_at hl 1 rfl) ?_
  refine lv_iload hx hb dL_law_551 (lv_at hl 5 rfl) ?_
  refine lv_iconst (v := 1) hx hb dL_law_553 (by decide) ?_
  refine lv_iadd hx hb dL_law_554 ?_
  refine wk_eqi (show (nI i) + 1 = nI (i + 1) from nI_add i 1) ?_
  refine wl_sld hx hb hX hbl hbA hS (i + 1) rfl (by omega) (by omega) dL_law_555 ?_
  refine we_V (As := [.int (xs (i + 1))]) (rest := []) ⟨hx, hb, hml, hown, hts⟩ (hm hM) (cwV 1 hts gL_law_X6_count rfl hrm.1 hrm.2.1 (by decide +kernel) ⟨by show _ ≤ 2048; omega, by show _ ≤ 84000; omega⟩) (wk_recv hK hM.obj rfl) hVH hS (wl_FMA hM.2) hA9 rfl hl.1 rfl (Nat.le_of_ble_eq_true rfl) dL_law_556 ⟨by show _ ≤ 601024; omega, by show _ ≤ 7293034; omega⟩ (fun v9 H locs hR9 hz9 hk9 hS => ?_)
  obtain ⟨rfl, hM⟩ := hR9
  have hA := hA.kept (fun q hq hf => hk9 q hq (fun z => wl_DM z hf))
  have hoo := va_at.kept hoo (hk9 _ hoo.lt (wl_ooM hoT))
  have hVH : EV E s H := hV.heap hS.1 (fun q hq => hS.2.1 q (by omega) (by unfold wk_A; omega))
  have hbH : E.2.2.1 ≤ H.size := by have := hS.1; omega
  refine wk_eqls (st' := [.int ans]) rfl ?_
  refine lv_istore (lv' := [(6, .int ans), (5, .int (nI code)), (0, .ref b), (1, .ref (X.1 0 0)), (2, .ref (Y 10 0)), (3, .ref oo), (4, .int (nI i))]) hx hb dL_law_559 hl (by decide) rfl (fun ls hl => ?_)
  refine lv_aload_n hx hb dL_law_561 rfl (lv_at hl 4 rfl) ?_
  refine wk_V (As := []) (rest := []) ⟨hx, hb, hml, hown, hts⟩ (c_X6_thrown l E hM hIv9.1) (cwV 0 hts gL_law_X6_thrown rfl rfl rfl (by decide +kernel) ⟨(Nat.le_of_ble_eq_true rfl), (Nat.le_of_ble_eq_true rfl)⟩) (wk_recv hK hM.obj rfl) hK rfl hl.1 rfl (Nat.le_of_ble_eq_true rfl) dL_law_562 ⟨by show _ ≤ 601024; omega, by show _ ≤ 7293034; omega⟩ ?_
  refine lv_iload hx hb dL_law_565 (lv_at hl 1 rfl) ?_
  refine lv_icmp_eq (tgt := 572) hx hb dL_law_567 (by decide) (fun c_567 => ?_) (fun c_567 => ?_)
  · skip
    have e_567 : code = code := wk_ceqt (by omega) (by omega) c_567
    refine lv_iload hx hb dL_law_572 (lv_at hl 1 rfl) ?_
    refine lv_if_ne (tgt := 589) hx hb dL_law_574 (by decide) (fun c_574 => ?_) (fun c_574 => ?_)
    · skip
      have e_574 : ¬ code = 0 := wk_cnet (b := 0) (by omega) (by decide) c_574
      refine lv_goto (tgt := 1308) hx hb dL_law_589 (by decide) ?_
      refine W.widen (k := cells + 4) (n := slots + 70) (by omega) (by omega) ?_
      exact kk _ X9 _ _ ⟨hA, ⟨_, hM⟩, hIv9, hoT, hob, _, hoo⟩ hX9 hS ls (lv_sub hl [2, 3, 4, 5, 6] rfl)
    have e_574 : code = 0 := wk_cnef (b := 0) (by omega) (by decide) c_574
    refine lv_aload_n hx hb dL_law_577 rfl (lv_at hl 5 rfl) ?_
    refine lv_iconst (v := 0) hx hb dL_law_578 (by decide) ?_
    refine wk_lald (n := 1) (f := o1) hx hb hK hoo 0 rfl (by decide) (by decide) dL_law_579 ?_
    refine lv_iload hx hb dL_law_580 (lv_at hl 0 rfl) ?_
    refine lv_i2l (v := ans.toInt64) hx hb dL_law_582 rfl ?_
    refine W.lcmp hx hb dL_law_583 ?_
    refine lv_if_eq (tgt := 589) hx hb dL_law_584 (by decide) (fun c_584 => ?_) (fun c_584 => ?_)
    · skip
      refine lv_goto (tgt := 1308) hx hb dL_law_589 (by decide) ?_
      refine W.widen (k := cells + 4) (n := slots + 70) (by omega) (by omega) ?_
      exact kk _ X9 _ _ ⟨hA, ⟨_, hM⟩, hIv9, hoT, hob, _, hoo⟩ hX9 hS ls (lv_sub hl [2, 3, 4, 5, 6] rfl)
    exact absurd (lg_cmp0.mpr (by rw [ho1 e_574])) c_584
  have e_567 : ¬ code = code := wk_ceqf (by omega) (by omega) c_567
  exact absurd rfl e_567

set_option maxHeartbeats 4000000 in
set_option maxRecDepth 100000 in
theorem k_pass {p : Program} {l : Launch} {e : Env} {s : State} {m : MethodId} {below : List Frame} {meth : Method} {c : Code} {b L : Nat} {xs : Nat → Int32} {E : wk_E} {T : Nat → Nat × Nat} {X : z_X} {Y : Nat → Nat → Nat} {σ : z_S} {gt : Int64} {oo : Nat} {H : Heap} {locs : List Loc} {cells slots i : Nat} {code : Nat} {ans : Int32} {σ9 : z_S} {gt9 : Int64} {rm2 : Room} (C0 : wl_C p l s m meth c b L xs E) (hI0 : wl_I E T X Y σ gt oo H) (hS : va_S (wk_A E) s.heap H locs) (hi : i + 5 ≤ L) (hcl : cells + 4 ≤ 601024 ∧ slots + 70 ≤ 7293034) (hcd : code < 4)
    (hw : ∀ {ov : Nat → Int64}, va_at E.1 vwCl (oo, .inl (E.2.1.2.2, 1, .inr (.inl ov))) H → we_MetP wl_NC l yL_pass wsL_pass rmW E H [.ref (X.1 0 0), .int (xs (i + 1)), .int (xs (i + 2)), .ref oo] (fun q => z_FD T q ∨ q = oo) 2 30 (wl_R E T X oo H code (Int32.toInt64 ans) σ9))
    (hm : ∀ {T9 : Nat → Nat × Nat} {th9 : Int32} {H9 : Heap}, MA E T9 Y σ th9 gt H9 → we_Met l yX6_pass wsX6_pass rm2 E H9 [.ref (Y 10 0), .int (xs (i + 1)), .int (xs (i + 2))] (z_FM T9) 0 0 (fun v H1 => v = some (.int (ans)) ∧ MA E T9 Y σ9 (nI code) gt9 H1)) (hrm : rm2.cells = 0 ∧ rm2.slots = 0 ∧ rm2.frames ≤ 200 ∧ rm2.locals ≤ 9000) (hIv9 : z_Iv σ9 gt9)
    (kk : ∀ (T9 : Nat → Nat × Nat) (X9 : z_X) (H9 : Heap) (locs9 : List Loc), wl_I E T9 X9 Y σ9 gt9 oo H9 → X9.1 0 0 = X.1 0 0 → va_S (wk_A E) s.heap H9 locs9 → ∀ ls : Array Slot, lv_has ls 9 [(0, .ref b), (1, .ref (X.1 0 0)), (2, .ref (Y 10 0)), (3, .ref oo), (4, .int (nI i))] → W p l e room_1 s m #[Value.ref b] below meth c H9 locs9 (cells + 4) (slots + 70) (lw_Z below #[Value.ref b] s) (F0 m 1308 ls [])) :
    ∀ ls : Array Slot, lv_has ls 9 [(0, .ref b), (1, .ref (X.1 0 0)), (2, .ref (Y 10 0)), (3, .ref oo), (4, .int (nI i))] → W p l e room_1 s m #[Value.ref b] below meth c H locs cells slots (lw_Z below #[Value.ref b] s) (F0 m 592 ls []) := by
  intro ls hl
  obtain ⟨⟨hx, hb, hr, hml, hown, hlocks⟩, hts, ⟨hX, hbl, hL⟩, ⟨hV, hNC, hE⟩, hst⟩ := id C0
  obtain ⟨hA, ⟨th, hM⟩, hIv, hoT, hob, ov, hoo⟩ := hI0
  have hK := hV.k
  have hbA : ¬ wk_A E b := by unfold wk_A; omega
  have hA9 : ∀ q : Nat, s.heap.size ≤ q → wk_A E q := fun q h => by unfold wk_A; omega
  have hVH : EV E s H := hV.heap hS.1 (fun q hq => hS.2.1 q (by omega) (by unfold wk_A; omega))
  have hbH : E.2.2.1 ≤ H.size := by have := hS.1; omega
  refine lv_aload_n hx hb dL_law_592 rfl (lv_at hl 1 rfl) ?_
  refine lv_aload_n hx hb dL_law_593 rfl (lv_at hl 0 rfl) ?_
  refine lv_iload hx hb dL_law_594 (lv_at hl 4 rfl) ?_
  refine lv_iconst (v := 1) hx hb dL_law_596 (by decide) ?_
  refine lv_iadd hx hb dL_law_597 ?_
  refine wk_eqi (show (nI i) + 1 = nI (i + 1) from nI_add i 1) ?_
  refine wl_sld hx hb hX hbl hbA hS (i + 1) rfl (by omega) (by omega) dL_law_598 ?_
  refine lv_aload_n hx hb dL_law_599 rfl (lv_at hl 0 rfl) ?_
  refine lv_iload hx hb dL_law_600 (lv_at hl 4 rfl) ?_
  refine lv_iconst (v := 2) hx hb dL_law_602 (by decide) ?_
  refine lv_iadd hx hb dL_law_603 ?_
  refine wk_eqi (show (nI i) + 2 = nI (i + 2) from nI_add i 2) ?_
  refine wl_sld hx hb hX hbl hbA hS (i + 2) rfl (by omega) (by omega) dL_law_604 ?_
  refine lv_aload_n hx hb dL_law_605 rfl (lv_at hl 3 rfl) ?_
  refine wl_S (As := [.ref (X.1 0 0), .int (xs (i + 1)), .int (xs (i + 2)), .ref oo]) (rest := []) ⟨hx, hb, hml, hown, hts⟩ (hw hoo) hNC (vx_cwSW 4 hts gL_law_L_pass rfl rfl rfl (by decide +kernel) ⟨(Nat.le_of_ble_eq_true rfl), (Nat.le_of_ble_eq_true rfl)⟩) hVH hS (fun q hq => Or.elim hq (wl_FDA hA.2.1 q) (fun z => by rw [z]; exact hob)) hA9 rfl hl.1 rfl (Nat.le_of_ble_eq_true rfl) dL_law_606 ⟨by show _ ≤ 601024; omega, by show _ ≤ 7293034; omega⟩ (fun v9 H locs hR9 hz9 hk9 hS => ?_)
  obtain ⟨rfl, ⟨o1, hoo1, ho1⟩, T9, X9, hT9, hX9, hA⟩ := hR9
  have hM := wl_MAw hM hbH hT9 hoT hk9
  have hoT : T9 oo = (20, 0) := (hT9 _ hoo.lt).trans hoT
  have hoo := hoo1
  have hVH : EV E s H := hV.heap hS.1 (fun q hq => hS.2.1 q (by omega) (by unfold wk_A; omega))
  have hbH : E.2.2.1 ≤ H.size := by have := hS.1; omega
  refine wk_eqls (st' := [.int (nI code)]) rfl ?_
  refine lv_istore (lv' := [(5, .int (nI code)), (0, .ref b), (1, .ref (X.1 0 0)), (2, .ref (Y 10 0)), (3, .ref oo), (4, .int (nI i))]) hx hb dL_law_609 hl (by decide) rfl (fun ls hl => ?_)
  refine lv_aload_n hx hb dL_law_611 rfl (lv_at hl 3 rfl) ?_
  refine lv_aload_n hx hb dL_law_612 rfl (lv_at hl 1 rfl) ?_
  refine lv_iload hx hb dL_law_613 (lv_at hl 5 rfl) ?_
  refine lv_iconst (v := 1) hx hb dL_law_615 (by decide) ?_
  refine lv_iadd hx hb dL_law_616 ?_
  refine wk_eqi (show (nI i) + 1 = nI (i + 1) from nI_add i 1) ?_
  refine wl_sld hx hb hX hbl hbA hS (i + 1) rfl (by omega) (by omega) dL_law_617 ?_
  refine lv_aload_n hx hb dL_law_618 rfl (lv_at hl 1 rfl) ?_
  refine lv_iload hx hb dL_law_619 (lv_at hl 5 rfl) ?_
  refine lv_iconst (v := 2) hx hb dL_law_621 (by decide) ?_
  refine lv_iadd hx hb dL_law_622 ?_
  refine wk_eqi (show (nI i) + 2 = nI (i + 2) from nI_add i 2) ?_
  refine wl_sld hx hb hX hbl hbA hS (i + 2) rfl (by omega) (by omega) dL_law_623 ?_
  refine we_V (As := [.int (xs (i + 1)), .int (xs (i + 2))]) (rest := []) ⟨hx, hb, hml, hown, hts⟩ (hm hM) (cwV 2 hts gL_law_X6_pass rfl hrm.1 hrm.2.1 (by decide +kernel) ⟨by show _ ≤ 2048; omega, by show _ ≤ 84000; omega⟩) (wk_recv hK hM.obj rfl) hVH hS (wl_FMA hM.2) hA9 rfl hl.1 rfl (Nat.le_of_ble_eq_true rfl) dL_law_624 ⟨by show _ ≤ 601024; omega, by show _ ≤ 7293034; omega⟩ (fun v9 H locs hR9 hz9 hk9 hS => ?_)
  obtain ⟨rfl, hM⟩ := hR9
  have hA := hA.kept (fun q hq hf => hk9 q hq (fun z => wl_DM z hf))
  have hoo := va_at.kept hoo (hk9 _ hoo.lt (wl_ooM hoT))
  have hVH : EV E s H := hV.heap hS.1 (fun q hq => hS.2.1 q (by omega) (by unfold wk_A; omega))
  have hbH : E.2.2.1 ≤ H.size := by have := hS.1; omega
  refine wk_eqls (st' := [.int ans]) rfl ?_
  refine lv_istore (lv' := [(6, .int ans), (5, .int (nI code)), (0, .ref b), (1, .ref (X.1 0 0)), (2, .ref (Y 10 0)), (3, .ref oo), (4, .int (nI i))]) hx hb dL_law_627 hl (by decide) rfl (fun ls hl => ?_)
  refine lv_aload_n hx hb dL_law_629 rfl (lv_at hl 4 rfl) ?_
  refine wk_V (As := []) (rest := []) ⟨hx, hb, hml, hown, hts⟩ (c_X6_thrown l E hM hIv9.1) (cwV 0 hts gL_law_X6_thrown rfl rfl rfl (by decide +kernel) ⟨(Nat.le_of_ble_eq_true rfl), (Nat.le_of_ble_eq_true rfl)⟩) (wk_recv hK hM.obj rfl) hK rfl hl.1 rfl (Nat.le_of_ble_eq_true rfl) dL_law_630 ⟨by show _ ≤ 601024; omega, by show _ ≤ 7293034; omega⟩ ?_
  refine lv_iload hx hb dL_law_633 (lv_at hl 1 rfl) ?_
  refine lv_icmp_eq (tgt := 640) hx hb dL_law_635 (by decide) (fun c_635 => ?_) (fun c_635 => ?_)
  · skip
    have e_635 : code = code := wk_ceqt (by omega) (by omega) c_635
    refine lv_iload hx hb dL_law_640 (lv_at hl 1 rfl) ?_
    refine lv_if_ne (tgt := 657) hx hb dL_law_642 (by decide) (fun c_642 => ?_) (fun c_642 => ?_)
    · skip
      have e_642 : ¬ code = 0 := wk_cnet (b := 0) (by omega) (by decide) c_642
      refine lv_goto (tgt := 1308) hx hb dL_law_657 (by decide) ?_
      refine W.widen (k := cells + 4) (n := slots + 70) (by omega) (by omega) ?_
      exact kk _ X9 _ _ ⟨hA, ⟨_, hM⟩, hIv9, hoT, hob, _, hoo⟩ hX9 hS ls (lv_sub hl [2, 3, 4, 5, 6] rfl)
    have e_642 : code = 0 := wk_cnef (b := 0) (by omega) (by decide) c_642
    refine lv_aload_n hx hb dL_law_645 rfl (lv_at hl 5 rfl) ?_
    refine lv_iconst (v := 0) hx hb dL_law_646 (by decide) ?_
    refine wk_lald (n := 1) (f := o1) hx hb hK hoo 0 rfl (by decide) (by decide) dL_law_647 ?_
    refine lv_iload hx hb dL_law_648 (lv_at hl 0 rfl) ?_
    refine lv_i2l (v := ans.toInt64) hx hb dL_law_650 rfl ?_
    refine W.lcmp hx hb dL_law_651 ?_
    refine lv_if_eq (tgt := 657) hx hb dL_law_652 (by decide) (fun c_652 => ?_) (fun c_652 => ?_)
    · skip
      refine lv_goto (tgt := 1308) hx hb dL_law_657 (by decide) ?_
      refine W.widen (k := cells + 4) (n := slots + 70) (by omega) (by omega) ?_
      exact kk _ X9 _ _ ⟨hA, ⟨_, hM⟩, hIv9, hoT, hob, _, hoo⟩ hX9 hS ls (lv_sub hl [2, 3, 4, 5, 6] rfl)
    exact absurd (lg_cmp0.mpr (by rw [ho1 e_642])) c_652
  have e_635 : ¬ code = code := wk_ceqf (by omega) (by omega) c_635
  exact absurd rfl e_635

set_option maxHeartbeats 4000000 in
set_option maxRecDepth 100000 in
theorem k_isConflict {p : Program} {l : Launch} {e : Env} {s : State} {m : MethodId} {below : List Frame} {meth : Method} {c : Code} {b L : Nat} {xs : Nat → Int32} {E : wk_E} {T : Nat → Nat × Nat} {X : z_X} {Y : Nat → Nat → Nat} {σ : z_S} {gt : Int64} {oo : Nat} {H : Heap} {locs : List Loc} {cells slots i : Nat} {code : Nat} {bb : Bool} {σ9 : z_S} {gt9 : Int64} {rm2 : Room} (C0 : wl_C p l s m meth c b L xs E) (hI0 : wl_I E T X Y σ gt oo H) (hS : va_S (wk_A E) s.heap H locs) (hi : i + 5 ≤ L) (hcl : cells + 4 ≤ 601024 ∧ slots + 70 ≤ 7293034) (hcd : code < 4)
    (hw : ∀ {ov : Nat → Int64}, va_at E.1 vwCl (oo, .inl (E.2.1.2.2, 1, .inr (.inl ov))) H → we_MetP wl_NC l yL_isConflict wsL_isConflict rmW E H [.ref (X.1 0 0), .int (xs (i + 1)), .int (xs (i + 2)), .ref oo] (fun q => z_FD T q ∨ q = oo) 2 30 (wl_R E T X oo H code (if bb then 1 else 0) σ9))
    (hm : ∀ {T9 : Nat → Nat × Nat} {th9 : Int32} {H9 : Heap}, MA E T9 Y σ th9 gt H9 → we_Met l yX6_isConflict wsX6_isConflict rm2 E H9 [.ref (Y 10 0), .int (xs (i + 1)), .int (xs (i + 2))] (z_FM T9) 0 0 (fun v H1 => v = some (.int (wk_b bb)) ∧ MA E T9 Y σ9 (nI code) gt9 H1)) (hrm : rm2.cells = 0 ∧ rm2.slots = 0 ∧ rm2.frames ≤ 200 ∧ rm2.locals ≤ 9000) (hIv9 : z_Iv σ9 gt9)
    (kk : ∀ (T9 : Nat → Nat × Nat) (X9 : z_X) (H9 : Heap) (locs9 : List Loc), wl_I E T9 X9 Y σ9 gt9 oo H9 → X9.1 0 0 = X.1 0 0 → va_S (wk_A E) s.heap H9 locs9 → ∀ ls : Array Slot, lv_has ls 9 [(0, .ref b), (1, .ref (X.1 0 0)), (2, .ref (Y 10 0)), (3, .ref oo), (4, .int (nI i))] → W p l e room_1 s m #[Value.ref b] below meth c H9 locs9 (cells + 4) (slots + 70) (lw_Z below #[Value.ref b] s) (F0 m 1308 ls [])) :
    ∀ ls : Array Slot, lv_has ls 9 [(0, .ref b), (1, .ref (X.1 0 0)), (2, .ref (Y 10 0)), (3, .ref oo), (4, .int (nI i))] → W p l e room_1 s m #[Value.ref b] below meth c H locs cells slots (lw_Z below #[Value.ref b] s) (F0 m 660 ls []) := by
  intro ls hl
  obtain ⟨⟨hx, hb, hr, hml, hown, hlocks⟩, hts, ⟨hX, hbl, hL⟩, ⟨hV, hNC, hE⟩, hst⟩ := id C0
  obtain ⟨hA, ⟨th, hM⟩, hIv, hoT, hob, ov, hoo⟩ := hI0
  have hK := hV.k
  have hbA : ¬ wk_A E b := by unfold wk_A; omega
  have hA9 : ∀ q : Nat, s.heap.size ≤ q → wk_A E q := fun q h => by unfold wk_A; omega
  have hVH : EV E s H := hV.heap hS.1 (fun q hq => hS.2.1 q (by omega) (by unfold wk_A; omega))
  have hbH : E.2.2.1 ≤ H.size := by have := hS.1; omega
  refine lv_aload_n hx hb dL_law_660 rfl (lv_at hl 1 rfl) ?_
  refine lv_aload_n hx hb dL_law_661 rfl (lv_at hl 0 rfl) ?_
  refine lv_iload hx hb dL_law_662 (lv_at hl 4 rfl) ?_
  refine lv_iconst (v := 1) hx hb dL_law_664 (by decide) ?_
  refine lv_iadd hx hb dL_law_665 ?_
  refine wk_eqi (show (nI i) + 1 = nI (i + 1) from nI_add i 1) ?_
  refine wl_sld hx hb hX hbl hbA hS (i + 1) rfl (by omega) (by omega) dL_law_666 ?_
  refine lv_aload_n hx hb dL_law_667 rfl (lv_at hl 0 rfl) ?_
  refine lv_iload hx hb dL_law_668 (lv_at hl 4 rfl) ?_
  refine lv_iconst (v := 2) hx hb dL_law_670 (by decide) ?_
  refine lv_iadd hx hb dL_law_671 ?_
  refine wk_eqi (show (nI i) + 2 = nI (i + 2) from nI_add i 2) ?_
  refine wl_sld hx hb hX hbl hbA hS (i + 2) rfl (by omega) (by omega) dL_law_672 ?_
  refine lv_aload_n hx hb dL_law_673 rfl (lv_at hl 3 rfl) ?_
  refine wl_S (As := [.ref (X.1 0 0), .int (xs (i + 1)), .int (xs (i + 2)), .ref oo]) (rest := []) ⟨hx, hb, hml, hown, hts⟩ (hw hoo) hNC (vx_cwSW 4 hts gL_law_L_isConflict rfl rfl rfl (by decide +kernel) ⟨(Nat.le_of_ble_eq_true rfl), (Nat.le_of_ble_eq_true rfl)⟩) hVH hS (fun q hq => Or.elim hq (wl_FDA hA.2.1 q) (fun z => by rw [z]; exact hob)) hA9 rfl hl.1 rfl (Nat.le_of_ble_eq_true rfl) dL_law_674 ⟨by show _ ≤ 601024; omega, by show _ ≤ 7293034; omega⟩ (fun v9 H locs hR9 hz9 hk9 hS => ?_)
  obtain ⟨rfl, ⟨o1, hoo1, ho1⟩, T9, X9, hT9, hX9, hA⟩ := hR9
  have hM := wl_MAw hM hbH hT9 hoT hk9
  have hoT : T9 oo = (20, 0) := (hT9 _ hoo.lt).trans hoT
  have hoo := hoo1
  have hVH : EV E s H := hV.heap hS.1 (fun q hq => hS.2.1 q (by omega) (by unfold wk_A; omega))
  have hbH : E.2.2.1 ≤ H.size := by have := hS.1; omega
  refine wk_eqls (st' := [.int (nI code)]) rfl ?_
  refine lv_istore (lv' := [(5, .int (nI code)), (0, .ref b), (1, .ref (X.1 0 0)), (2, .ref (Y 10 0)), (3, .ref oo), (4, .int (nI i))]) hx hb dL_law_677 hl (by decide) rfl (fun ls hl => ?_)
  refine lv_aload_n hx hb dL_law_679 rfl (lv_at hl 3 rfl) ?_
  refine lv_aload_n hx hb dL_law_680 rfl (lv_at hl 1 rfl) ?_
  refine lv_iload hx hb dL_law_681 (lv_at hl 5 rfl) ?_
  refine lv_iconst (v := 1) hx hb dL_law_683 (by decide) ?_
  refine lv_iadd hx hb dL_law_684 ?_
  refine wk_eqi (show (nI i) + 1 = nI (i + 1) from nI_add i 1) ?_
  refine wl_sld hx hb hX hbl hbA hS (i + 1) rfl (by omega) (by omega) dL_law_685 ?_
  refine lv_aload_n hx hb dL_law_686 rfl (lv_at hl 1 rfl) ?_
  refine lv_iload hx hb dL_law_687 (lv_at hl 5 rfl) ?_
  refine lv_iconst (v := 2) hx hb dL_law_689 (by decide) ?_
  refine lv_iadd hx hb dL_law_690 ?_
  refine wk_eqi (show (nI i) + 2 = nI (i + 2) from nI_add i 2) ?_
  refine wl_sld hx hb hX hbl hbA hS (i + 2) rfl (by omega) (by omega) dL_law_691 ?_
  refine we_V (As := [.int (xs (i + 1)), .int (xs (i + 2))]) (rest := []) ⟨hx, hb, hml, hown, hts⟩ (hm hM) (cwV 2 hts gL_law_X6_isConflict rfl hrm.1 hrm.2.1 (by decide +kernel) ⟨by show _ ≤ 2048; omega, by show _ ≤ 84000; omega⟩) (wk_recv hK hM.obj rfl) hVH hS (wl_FMA hM.2) hA9 rfl hl.1 rfl (Nat.le_of_ble_eq_true rfl) dL_law_692 ⟨by show _ ≤ 601024; omega, by show _ ≤ 7293034; omega⟩ (fun v9 H locs hR9 hz9 hk9 hS => ?_)
  obtain ⟨rfl, hM⟩ := hR9
  have hA := hA.kept (fun q hq hf => hk9 q hq (fun z => wl_DM z hf))
  have hoo := va_at.kept hoo (hk9 _ hoo.lt (wl_ooM hoT))
  have hVH : EV E s H := hV.heap hS.1 (fun q hq => hS.2.1 q (by omega) (by unfold wk_A; omega))
  have hbH : E.2.2.1 ≤ H.size := by have := hS.1; omega
  refine wk_eqls (st' := [.int (wk_b bb)]) rfl ?_
  refine lv_istore (lv' := [(6, .int (wk_b bb)), (5, .int (nI code)), (0, .ref b), (1, .ref (X.1 0 0)), (2, .ref (Y 10 0)), (3, .ref oo), (4, .int (nI i))]) hx hb dL_law_695 hl (by decide) rfl (fun ls hl => ?_)
  refine lv_aload_n hx hb dL_law_697 rfl (lv_at hl 4 rfl) ?_
  refine wk_V (As := []) (rest := []) ⟨hx, hb, hml, hown, hts⟩ (c_X6_thrown l E hM hIv9.1) (cwV 0 hts gL_law_X6_thrown rfl rfl rfl (by decide +kernel) ⟨(Nat.le_of_ble_eq_true rfl), (Nat.le_of_ble_eq_true rfl)⟩) (wk_recv hK hM.obj rfl) hK rfl hl.1 rfl (Nat.le_of_ble_eq_true rfl) dL_law_698 ⟨by show _ ≤ 601024; omega, by show _ ≤ 7293034; omega⟩ ?_
  refine lv_iload hx hb dL_law_701 (lv_at hl 1 rfl) ?_
  refine lv_icmp_eq (tgt := 708) hx hb dL_law_703 (by decide) (fun c_703 => ?_) (fun c_703 => ?_)
  · skip
    have e_703 : code = code := wk_ceqt (by omega) (by omega) c_703
    refine lv_iload hx hb dL_law_708 (lv_at hl 1 rfl) ?_
    refine lv_if_ne (tgt := 732) hx hb dL_law_710 (by decide) (fun c_710 => ?_) (fun c_710 => ?_)
    · skip
      have e_710 : ¬ code = 0 := wk_cnet (b := 0) (by omega) (by decide) c_710
      refine lv_goto (tgt := 1308) hx hb dL_law_732 (by decide) ?_
      refine W.widen (k := cells + 4) (n := slots + 70) (by omega) (by omega) ?_
      exact kk _ X9 _ _ ⟨hA, ⟨_, hM⟩, hIv9, hoT, hob, _, hoo⟩ hX9 hS ls (lv_sub hl [2, 3, 4, 5, 6] rfl)
    have e_710 : code = 0 := wk_cnef (b := 0) (by omega) (by decide) c_710
    refine lv_aload_n hx hb dL_law_713 rfl (lv_at hl 5 rfl) ?_
    refine lv_iconst (v := 0) hx hb dL_law_714 (by decide) ?_
    refine wk_lald (n := 1) (f := o1) hx hb hK hoo 0 rfl (by decide) (by decide) dL_law_715 ?_
    refine lv_iload hx hb dL_law_716 (lv_at hl 0 rfl) ?_
    refine lv_if_eq (tgt := 725) hx hb dL_law_718 (by decide) (fun c_718 => ?_) (fun c_718 => ?_)
    · skip
      have e_718 : bb = false := wk_b0 c_718
      refine lv_lconst (v := 0) hx hb dL_law_725 (by decide) ?_
      refine W.lcmp hx hb dL_law_726 ?_
      refine lv_if_eq (tgt := 732) hx hb dL_law_727 (by decide) (fun c_727 => ?_) (fun c_727 => ?_)
      · skip
        refine lv_goto (tgt := 1308) hx hb dL_law_732 (by decide) ?_
        refine W.widen (k := cells + 4) (n := slots + 70) (by omega) (by omega) ?_
        exact kk _ X9 _ _ ⟨hA, ⟨_, hM⟩, hIv9, hoT, hob, _, hoo⟩ hX9 hS ls (lv_sub hl [2, 3, 4, 5, 6] rfl)
      exact absurd (lg_cmp0.mpr (by rw [ho1 e_710]; simp [e_718])) c_727
    have e_718 : bb = true := wk_b1 c_718
    refine lv_lconst (v := 1) hx hb dL_law_721 (by decide) ?_
    refine lv_goto (tgt := 726) hx hb dL_law_722 (by decide) ?_
    refine W.lcmp hx hb dL_law_726 ?_
    refine lv_if_eq (tgt := 732) hx hb dL_law_727 (by decide) (fun c_727 => ?_) (fun c_727 => ?_)
    · skip
      refine lv_goto (tgt := 1308) hx hb dL_law_732 (by decide) ?_
      refine W.widen (k := cells + 4) (n := slots + 70) (by omega) (by omega) ?_
      exact kk _ X9 _ _ ⟨hA, ⟨_, hM⟩, hIv9, hoT, hob, _, hoo⟩ hX9 hS ls (lv_sub hl [2, 3, 4, 5, 6] rfl)
    exact absurd (lg_cmp0.mpr (by rw [ho1 e_710]; simp [e_718])) c_727
  have e_703 : ¬ code = code := wk_ceqf (by omega) (by omega) c_703
  exact absurd rfl e_703
