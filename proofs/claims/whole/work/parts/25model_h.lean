abbrev rmf3_X6_addPass : Room := { frames := 2, cells := 0, slots := 0, locals := 43 }
set_option maxHeartbeats 4000000 in
set_option maxRecDepth 100000 in
theorem f3_X6_addPass (l : Launch) (E : wk_E) {T : Nat → Nat × Nat} {Y : Nat → Nat → Nat} {σ : z_S} {th : Int32} {gt : Int64} {H : Heap} (hA : MA E T Y σ th gt H) (hI : z_Ok σ) {i a : Nat} {x y : Int32} (hi : i < z_n σ 1) (ha : a < z_n σ 0) (hbad : v_span σ x y = false) : we_Met l yX6_addPass wsX6_addPass rmf3_X6_addPass E H [.ref (Y 10 0), .int (nI i), .int (nI a), .int x, .int y] (z_FM T) 0 0 (fun v H1 => v = some (.int (0)) ∧ MA E T Y σ 2 gt H1) := by
  refine Met.ofW (cc := cX6_addPass) (maxL := 5) (ret := (some .int)) (by decide) rfl ?_
  intro p e s m args below meth c s₁ B hml hv
  obtain ⟨rfl, hH, hV⟩ := hv
  subst hH
  have hK := hV.k
  have hx := B.exec
  have hb := B.bytes
  have hr := B.returns
  have hts := atoms_spec (ws := wsX6_addPass) B.pre
  have hown : s.vm.findClass RX6 = some m.cls := findClass_of_methodNamed B.named
  have hlocks := B.notSynchronized
  have hS : va_S (fun q => (z_FM T) q ∨ s.heap.size ≤ q) s.heap s.heap [] := va_S.rf
  have hA9 : ∀ q : Nat, s.heap.size ≤ q → ((z_FM T) q ∨ s.heap.size ≤ q) := fun _ h => Or.inr h
  have hbA : ∀ q : Nat, q < E.2.2.1 → ¬ ((z_FM T) q ∨ s.heap.size ≤ q) := fun q hq z => z.elim (z_FMb hA.2 hq) (fun z => absurd (Nat.lt_of_lt_of_le hq hV.2.2.2.2.2.2) (Nat.not_lt.mpr z))
  have i_X6 : ∀ w ∈ u_ws RX6 TX6 26, w ∈ wsX6_addPass := fun w h => (List.mem_cons_of_mem _ (List.mem_append_right _ h))
  have hl := lv_entry [.ref (Y 10 0), .int (nI i), .int (nI a), .int x, .int y] (n := 5) (Nat.le_of_ble_eq_true rfl)
  rw [lg_entry_eq]
  generalize (lg_sl [.ref (Y 10 0), .int (nI i), .int (nI a), .int x, .int y] ++ List.replicate (5 - (lg_sl [.ref (Y 10 0), .int (nI i), .int (nI a), .int x, .int y]).length) Slot.unset).toArray = ls at hl ⊢
  have hl : lv_has ls 5 [(0, .ref (Y 10 0)), (1, .int (nI i)), (2, .int (nI a)), (3, .int x), (4, .int y)] := hl
  have b0 := hI.n0
  have b1 := hI.n1
  have b2 := hI.n2
  have b3 := hI.n3
  refine lv_aload_n hx hb dX6_addPass_0 rfl (lv_at hl 0 rfl) ?_
  refine lv_iconst (v := 0) hx hb dX6_addPass_1 (by decide) ?_
  refine wk_put (own := RX6) (C := RX6) (T := TX6) (N := 26) (ci := 7) (v := .int 0) hx hb hts i_X6 tyX6 tyX6_ok nmX6 hown hK hA.obj (Or.inl hA.tagO) hS rfl 0 (by decide) (hts _ (List.mem_of_getElem? (i := 1) rfl)) (fun _ h9 => h9) rfl (tyX6_ok 0 (by decide)) rfl rfl (Nat.le_of_ble_eq_true rfl) dX6_addPass_2 (fun H locs hP9 hz9 hk9 hS => ?_)
  have hA := hA.setTh hP9 hk9
  refine lv_aload_n hx hb dX6_addPass_5 rfl (lv_at hl 0 rfl) ?_
  refine lv_iload_n hx hb dX6_addPass_6 rfl (lv_at hl 1 rfl) ?_
  refine wk_V (As := [.int (nI i)]) (rest := []) ⟨hx, hb, hml, hown, hts⟩ (c_X6_isSatellite l E hA hI (x := nI i)) (cwV 1 hts gX6_addPass_X6_isSatellite rfl rfl rfl (by decide +kernel) ⟨(Nat.le_of_ble_eq_true rfl), (Nat.le_of_ble_eq_true rfl)⟩) (wk_recv hK hA.obj rfl) hK rfl hl.1 rfl (Nat.le_of_ble_eq_true rfl) dX6_addPass_7 ⟨Nat.zero_le _, Nat.zero_le _⟩ ?_
  refine lv_if_eq (tgt := 21) hx hb dX6_addPass_10 (by decide) (fun c_10 => ?_) (fun c_10 => ?_)
  · skip
    have e_10 : (v_ix (nI i) (z_n σ 1)) = false := wk_b0 c_10
    exact absurd (e_10.symm.trans (v_ix_nI hi (by omega))) (by decide)
  have e_10 : (v_ix (nI i) (z_n σ 1)) = true := wk_b1 c_10
  refine lv_aload_n hx hb dX6_addPass_13 rfl (lv_at hl 0 rfl) ?_
  refine lv_iload_n hx hb dX6_addPass_14 rfl (lv_at hl 2 rfl) ?_
  refine wk_V (As := [.int (nI a)]) (rest := []) ⟨hx, hb, hml, hown, hts⟩ (c_X6_isAntenna l E hA hI (x := nI a)) (cwV 1 hts gX6_addPass_X6_isAntenna rfl rfl rfl (by decide +kernel) ⟨(Nat.le_of_ble_eq_true rfl), (Nat.le_of_ble_eq_true rfl)⟩) (wk_recv hK hA.obj rfl) hK rfl hl.1 rfl (Nat.le_of_ble_eq_true rfl) dX6_addPass_15 ⟨Nat.zero_le _, Nat.zero_le _⟩ ?_
  refine lv_if_ne (tgt := 27) hx hb dX6_addPass_18 (by decide) (fun c_18 => ?_) (fun c_18 => ?_)
  · skip
    have e_18 : (v_ix (nI a) (z_n σ 0)) = true := wk_b1 c_18
    refine lv_iload_n hx hb dX6_addPass_27 rfl (lv_at hl 3 rfl) ?_
    refine lv_aload_n hx hb dX6_addPass_28 rfl (lv_at hl 0 rfl) ?_
    refine wk_get (own := RX6) (C := RX6) (T := TX6) (N := 26) (ci := 7) (v := .int (z_now σ)) hx hb hts i_X6 hown hK hA.obj rfl 1 (by decide) (hts _ (List.mem_of_getElem? (i := 2) rfl)) (fun _ h9 => h9) rfl dX6_addPass_29 ?_
    refine lv_icmp_lt (tgt := 77) hx hb dX6_addPass_32 (by decide) (fun c_32 => ?_) (fun c_32 => ?_)
    · skip
      have d_32 := Int32.not_le.mpr c_32
      refine lv_aload_n hx hb dX6_addPass_77 rfl (lv_at hl 0 rfl) ?_
      refine lv_iconst (v := 2) hx hb dX6_addPass_78 (by decide) ?_
      refine we_V (As := [.int 2]) (rest := []) ⟨hx, hb, hml, hown, hts⟩ (e_X6_fail l E hA hI) (cwV 1 hts gX6_addPass_X6_fail rfl rfl rfl (by decide +kernel) ⟨(Nat.le_of_ble_eq_true rfl), (Nat.le_of_ble_eq_true rfl)⟩) (wk_recv hK hA.obj rfl) (hV.heap hS.1 (fun q hq => hS.2.1 q (Nat.lt_of_lt_of_le hq hV.2.2.2.2.2.2) (hbA q hq))) hS (fun _ h => Or.inl h) hA9 rfl hl.1 rfl (Nat.le_of_ble_eq_true rfl) dX6_addPass_79 ⟨Nat.zero_le _, Nat.zero_le _⟩ (fun v9 H locs hR9 hz9 hk9 hS => ?_)
      obtain ⟨rfl, hA⟩ := hR9
      refine wk_eqls (st' := [.int 0]) rfl ?_
      exact W.iret hx hb hr (we_end (Rt := fun v H1 => v = some (.int (0)) ∧ MA E T Y σ 2 gt H1) (F := z_FM T) (⟨rfl, hA⟩) hS) hS.2.2 dX6_addPass_82
    have d_32 := Int32.not_lt.mp c_32
    refine lv_iload hx hb dX6_addPass_35 (lv_at hl 4 rfl) ?_
    refine lv_iload_n hx hb dX6_addPass_37 rfl (lv_at hl 3 rfl) ?_
    refine lv_icmp_le (tgt := 77) hx hb dX6_addPass_38 (by decide) (fun c_38 => ?_) (fun c_38 => ?_)
    · skip
      have d_38 := Int32.not_lt.mpr c_38
      refine lv_aload_n hx hb dX6_addPass_77 rfl (lv_at hl 0 rfl) ?_
      refine lv_iconst (v := 2) hx hb dX6_addPass_78 (by decide) ?_
      refine we_V (As := [.int 2]) (rest := []) ⟨hx, hb, hml, hown, hts⟩ (e_X6_fail l E hA hI) (cwV 1 hts gX6_addPass_X6_fail rfl rfl rfl (by decide +kernel) ⟨(Nat.le_of_ble_eq_true rfl), (Nat.le_of_ble_eq_true rfl)⟩) (wk_recv hK hA.obj rfl) (hV.heap hS.1 (fun q hq => hS.2.1 q (Nat.lt_of_lt_of_le hq hV.2.2.2.2.2.2) (hbA q hq))) hS (fun _ h => Or.inl h) hA9 rfl hl.1 rfl (Nat.le_of_ble_eq_true rfl) dX6_addPass_79 ⟨Nat.zero_le _, Nat.zero_le _⟩ (fun v9 H locs hR9 hz9 hk9 hS => ?_)
      obtain ⟨rfl, hA⟩ := hR9
      refine wk_eqls (st' := [.int 0]) rfl ?_
      exact W.iret hx hb hr (we_end (Rt := fun v H1 => v = some (.int (0)) ∧ MA E T Y σ 2 gt H1) (F := z_FM T) (⟨rfl, hA⟩) hS) hS.2.2 dX6_addPass_82
    have d_38 := Int32.not_le.mp c_38
    refine lv_iload hx hb dX6_addPass_41 (lv_at hl 4 rfl) ?_
    refine lv_sipush (v := 9999) hx hb dX6_addPass_43 (by decide) ?_
    refine lv_icmp_gt (tgt := 77) hx hb dX6_addPass_46 (by decide) (fun c_46 => ?_) (fun c_46 => ?_)
    · skip
      have d_46 := Int32.not_le.mpr c_46
      refine lv_aload_n hx hb dX6_addPass_77 rfl (lv_at hl 0 rfl) ?_
      refine lv_iconst (v := 2) hx hb dX6_addPass_78 (by decide) ?_
      refine we_V (As := [.int 2]) (rest := []) ⟨hx, hb, hml, hown, hts⟩ (e_X6_fail l E hA hI) (cwV 1 hts gX6_addPass_X6_fail rfl rfl rfl (by decide +kernel) ⟨(Nat.le_of_ble_eq_true rfl), (Nat.le_of_ble_eq_true rfl)⟩) (wk_recv hK hA.obj rfl) (hV.heap hS.1 (fun q hq => hS.2.1 q (Nat.lt_of_lt_of_le hq hV.2.2.2.2.2.2) (hbA q hq))) hS (fun _ h => Or.inl h) hA9 rfl hl.1 rfl (Nat.le_of_ble_eq_true rfl) dX6_addPass_79 ⟨Nat.zero_le _, Nat.zero_le _⟩ (fun v9 H locs hR9 hz9 hk9 hS => ?_)
      obtain ⟨rfl, hA⟩ := hR9
      refine wk_eqls (st' := [.int 0]) rfl ?_
      exact W.iret hx hb hr (we_end (Rt := fun v H1 => v = some (.int (0)) ∧ MA E T Y σ 2 gt H1) (F := z_FM T) (⟨rfl, hA⟩) hS) hS.2.2 dX6_addPass_82
    have d_46 := Int32.not_lt.mp c_46
    exact absurd hbad (v_spanT c_32 c_38 c_46)
  have e_18 : (v_ix (nI a) (z_n σ 0)) = false := wk_b0 c_18
  exact absurd (e_18.symm.trans (v_ix_nI ha (by omega))) (by decide)

abbrev rmf4_X6_addPass : Room := { frames := 2, cells := 0, slots := 0, locals := 43 }
set_option maxHeartbeats 4000000 in
set_option maxRecDepth 100000 in
theorem f4_X6_addPass (l : Launch) (E : wk_E) {T : Nat → Nat × Nat} {Y : Nat → Nat → Nat} {σ : z_S} {th : Int32} {gt : Int64} {H : Heap} (hA : MA E T Y σ th gt H) (hI : z_Ok σ) {i a : Nat} {x y : Int32} (hi : i < z_n σ 1) (ha : a < z_n σ 0) (hsp : v_span σ x y = true) (hbad : ¬ y - x ≤ 600) : we_Met l yX6_addPass wsX6_addPass rmf4_X6_addPass E H [.ref (Y 10 0), .int (nI i), .int (nI a), .int x, .int y] (z_FM T) 0 0 (fun v H1 => v = some (.int (0)) ∧ MA E T Y σ 2 gt H1) := by
  refine Met.ofW (cc := cX6_addPass) (maxL := 5) (ret := (some .int)) (by decide) rfl ?_
  intro p e s m args below meth c s₁ B hml hv
  obtain ⟨rfl, hH, hV⟩ := hv
  subst hH
  have hK := hV.k
  have hx := B.exec
  have hb := B.bytes
  have hr := B.returns
  have hts := atoms_spec (ws := wsX6_addPass) B.pre
  have hown : s.vm.findClass RX6 = some m.cls := findClass_of_methodNamed B.named
  have hlocks := B.notSynchronized
  have hS : va_S (fun q => (z_FM T) q ∨ s.heap.size ≤ q) s.heap s.heap [] := va_S.rf
  have hA9 : ∀ q : Nat, s.heap.size ≤ q → ((z_FM T) q ∨ s.heap.size ≤ q) := fun _ h => Or.inr h
  have hbA : ∀ q : Nat, q < E.2.2.1 → ¬ ((z_FM T) q ∨ s.heap.size ≤ q) := fun q hq z => z.elim (z_FMb hA.2 hq) (fun z => absurd (Nat.lt_of_lt_of_le hq hV.2.2.2.2.2.2) (Nat.not_lt.mpr z))
  have i_X6 : ∀ w ∈ u_ws RX6 TX6 26, w ∈ wsX6_addPass := fun w h => (List.mem_cons_of_mem _ (List.mem_append_right _ h))
  have hl := lv_entry [.ref (Y 10 0), .int (nI i), .int (nI a), .int x, .int y] (n := 5) (Nat.le_of_ble_eq_true rfl)
  rw [lg_entry_eq]
  generalize (lg_sl [.ref (Y 10 0), .int (nI i), .int (nI a), .int x, .int y] ++ List.replicate (5 - (lg_sl [.ref (Y 10 0), .int (nI i), .int (nI a), .int x, .int y]).length) Slot.unset).toArray = ls at hl ⊢
  have hl : lv_has ls 5 [(0, .ref (Y 10 0)), (1, .int (nI i)), (2, .int (nI a)), (3, .int x), (4, .int y)] := hl
  have b0 := hI.n0
  have b1 := hI.n1
  have b2 := hI.n2
  have b3 := hI.n3
  refine lv_aload_n hx hb dX6_addPass_0 rfl (lv_at hl 0 rfl) ?_
  refine lv_iconst (v := 0) hx hb dX6_addPass_1 (by decide) ?_
  refine wk_put (own := RX6) (C := RX6) (T := TX6) (N := 26) (ci := 7) (v := .int 0) hx hb hts i_X6 tyX6 tyX6_ok nmX6 hown hK hA.obj (Or.inl hA.tagO) hS rfl 0 (by decide) (hts _ (List.mem_of_getElem? (i := 1) rfl)) (fun _ h9 => h9) rfl (tyX6_ok 0 (by decide)) rfl rfl (Nat.le_of_ble_eq_true rfl) dX6_addPass_2 (fun H locs hP9 hz9 hk9 hS => ?_)
  have hA := hA.setTh hP9 hk9
  refine lv_aload_n hx hb dX6_addPass_5 rfl (lv_at hl 0 rfl) ?_
  refine lv_iload_n hx hb dX6_addPass_6 rfl (lv_at hl 1 rfl) ?_
  refine wk_V (As := [.int (nI i)]) (rest := []) ⟨hx, hb, hml, hown, hts⟩ (c_X6_isSatellite l E hA hI (x := nI i)) (cwV 1 hts gX6_addPass_X6_isSatellite rfl rfl rfl (by decide +kernel) ⟨(Nat.le_of_ble_eq_true rfl), (Nat.le_of_ble_eq_true rfl)⟩) (wk_recv hK hA.obj rfl) hK rfl hl.1 rfl (Nat.le_of_ble_eq_true rfl) dX6_addPass_7 ⟨Nat.zero_le _, Nat.zero_le _⟩ ?_
  refine lv_if_eq (tgt := 21) hx hb dX6_addPass_10 (by decide) (fun c_10 => ?_) (fun c_10 => ?_)
  · skip
    have e_10 : (v_ix (nI i) (z_n σ 1)) = false := wk_b0 c_10
    exact absurd (e_10.symm.trans (v_ix_nI hi (by omega))) (by decide)
  have e_10 : (v_ix (nI i) (z_n σ 1)) = true := wk_b1 c_10
  refine lv_aload_n hx hb dX6_addPass_13 rfl (lv_at hl 0 rfl) ?_
  refine lv_iload_n hx hb dX6_addPass_14 rfl (lv_at hl 2 rfl) ?_
  refine wk_V (As := [.int (nI a)]) (rest := []) ⟨hx, hb, hml, hown, hts⟩ (c_X6_isAntenna l E hA hI (x := nI a)) (cwV 1 hts gX6_addPass_X6_isAntenna rfl rfl rfl (by decide +kernel) ⟨(Nat.le_of_ble_eq_true rfl), (Nat.le_of_ble_eq_true rfl)⟩) (wk_recv hK hA.obj rfl) hK rfl hl.1 rfl (Nat.le_of_ble_eq_true rfl) dX6_addPass_15 ⟨Nat.zero_le _, Nat.zero_le _⟩ ?_
  refine lv_if_ne (tgt := 27) hx hb dX6_addPass_18 (by decide) (fun c_18 => ?_) (fun c_18 => ?_)
  · skip
    have e_18 : (v_ix (nI a) (z_n σ 0)) = true := wk_b1 c_18
    refine lv_iload_n hx hb dX6_addPass_27 rfl (lv_at hl 3 rfl) ?_
    refine lv_aload_n hx hb dX6_addPass_28 rfl (lv_at hl 0 rfl) ?_
    refine wk_get (own := RX6) (C := RX6) (T := TX6) (N := 26) (ci := 7) (v := .int (z_now σ)) hx hb hts i_X6 hown hK hA.obj rfl 1 (by decide) (hts _ (List.mem_of_getElem? (i := 2) rfl)) (fun _ h9 => h9) rfl dX6_addPass_29 ?_
    refine lv_icmp_lt (tgt := 77) hx hb dX6_addPass_32 (by decide) (fun c_32 => ?_) (fun c_32 => ?_)
    · skip
      have d_32 := Int32.not_le.mpr c_32
      exact absurd c_32 (v_span1 hsp)
    have d_32 := Int32.not_lt.mp c_32
    refine lv_iload hx hb dX6_addPass_35 (lv_at hl 4 rfl) ?_
    refine lv_iload_n hx hb dX6_addPass_37 rfl (lv_at hl 3 rfl) ?_
    refine lv_icmp_le (tgt := 77) hx hb dX6_addPass_38 (by decide) (fun c_38 => ?_) (fun c_38 => ?_)
    · skip
      have d_38 := Int32.not_lt.mpr c_38
      exact absurd c_38 (v_span2 hsp)
    have d_38 := Int32.not_le.mp c_38
    refine lv_iload hx hb dX6_addPass_41 (lv_at hl 4 rfl) ?_
    refine lv_sipush (v := 9999) hx hb dX6_addPass_43 (by decide) ?_
    refine lv_icmp_gt (tgt := 77) hx hb dX6_addPass_46 (by decide) (fun c_46 => ?_) (fun c_46 => ?_)
    · skip
      have d_46 := Int32.not_le.mpr c_46
      exact absurd c_46 (v_span3 hsp)
    have d_46 := Int32.not_lt.mp c_46
    refine lv_iload hx hb dX6_addPass_49 (lv_at hl 4 rfl) ?_
    refine lv_iload_n hx hb dX6_addPass_51 rfl (lv_at hl 3 rfl) ?_
    refine lv_isub hx hb dX6_addPass_52 ?_
    refine lv_sipush (v := 600) hx hb dX6_addPass_53 (by decide) ?_
    refine lv_icmp_gt (tgt := 77) hx hb dX6_addPass_56 (by decide) (fun c_56 => ?_) (fun c_56 => ?_)
    · skip
      have d_56 := Int32.not_le.mpr c_56
      refine lv_aload_n hx hb dX6_addPass_77 rfl (lv_at hl 0 rfl) ?_
      refine lv_iconst (v := 2) hx hb dX6_addPass_78 (by decide) ?_
      refine we_V (As := [.int 2]) (rest := []) ⟨hx, hb, hml, hown, hts⟩ (e_X6_fail l E hA hI) (cwV 1 hts gX6_addPass_X6_fail rfl rfl rfl (by decide +kernel) ⟨(Nat.le_of_ble_eq_true rfl), (Nat.le_of_ble_eq_true rfl)⟩) (wk_recv hK hA.obj rfl) (hV.heap hS.1 (fun q hq => hS.2.1 q (Nat.lt_of_lt_of_le hq hV.2.2.2.2.2.2) (hbA q hq))) hS (fun _ h => Or.inl h) hA9 rfl hl.1 rfl (Nat.le_of_ble_eq_true rfl) dX6_addPass_79 ⟨Nat.zero_le _, Nat.zero_le _⟩ (fun v9 H locs hR9 hz9 hk9 hS => ?_)
      obtain ⟨rfl, hA⟩ := hR9
      refine wk_eqls (st' := [.int 0]) rfl ?_
      exact W.iret hx hb hr (we_end (Rt := fun v H1 => v = some (.int (0)) ∧ MA E T Y σ 2 gt H1) (F := z_FM T) (⟨rfl, hA⟩) hS) hS.2.2 dX6_addPass_82
    have d_56 := Int32.not_lt.mp c_56
    exact absurd (Int32.not_lt.mp c_56) hbad
  have e_18 : (v_ix (nI a) (z_n σ 0)) = false := wk_b0 c_18
  exact absurd (e_18.symm.trans (v_ix_nI ha (by omega))) (by decide)

abbrev rmf5_X6_addPass : Room := { frames := 2, cells := 0, slots := 0, locals := 43 }
set_option maxHeartbeats 4000000 in
set_option maxRecDepth 100000 in
theorem f5_X6_addPass (l : Launch) (E : wk_E) {T : Nat → Nat × Nat} {Y : Nat → Nat → Nat} {σ : z_S} {th : Int32} {gt : Int64} {H : Heap} (hA : MA E T Y σ th gt H) (hI : z_Ok σ) {i a : Nat} {x y : Int32} (hi : i < z_n σ 1) (ha : a < z_n σ 0) (hsp : v_span σ x y = true) (hlen : y - x ≤ 600) (hbad : f_hears σ a i = false) : we_Met l yX6_addPass wsX6_addPass rmf5_X6_addPass E H [.ref (Y 10 0), .int (nI i), .int (nI a), .int x, .int y] (z_FM T) 0 0 (fun v H1 => v = some (.int (0)) ∧ MA E T Y σ 2 gt H1) := by
  refine Met.ofW (cc := cX6_addPass) (maxL := 5) (ret := (some .int)) (by decide) rfl ?_
  intro p e s m args below meth c s₁ B hml hv
  obtain ⟨rfl, hH, hV⟩ := hv
  subst hH
  have hK := hV.k
  have hx := B.exec
  have hb := B.bytes
  have hr := B.returns
  have hts := atoms_spec (ws := wsX6_addPass) B.pre
  have hown : s.vm.findClass RX6 = some m.cls := findClass_of_methodNamed B.named
  have hlocks := B.notSynchronized
  have hS : va_S (fun q => (z_FM T) q ∨ s.heap.size ≤ q) s.heap s.heap [] := va_S.rf
  have hA9 : ∀ q : Nat, s.heap.size ≤ q → ((z_FM T) q ∨ s.heap.size ≤ q) := fun _ h => Or.inr h
  have hbA : ∀ q : Nat, q < E.2.2.1 → ¬ ((z_FM T) q ∨ s.heap.size ≤ q) := fun q hq z => z.elim (z_FMb hA.2 hq) (fun z => absurd (Nat.lt_of_lt_of_le hq hV.2.2.2.2.2.2) (Nat.not_lt.mpr z))
  have i_X6 : ∀ w ∈ u_ws RX6 TX6 26, w ∈ wsX6_addPass := fun w h => (List.mem_cons_of_mem _ (List.mem_append_right _ h))
  have hl := lv_entry [.ref (Y 10 0), .int (nI i), .int (nI a), .int x, .int y] (n := 5) (Nat.le_of_ble_eq_true rfl)
  rw [lg_entry_eq]
  generalize (lg_sl [.ref (Y 10 0), .int (nI i), .int (nI a), .int x, .int y] ++ List.replicate (5 - (lg_sl [.ref (Y 10 0), .int (nI i), .int (nI a), .int x, .int y]).length) Slot.unset).toArray = ls at hl ⊢
  have hl : lv_has ls 5 [(0, .ref (Y 10 0)), (1, .int (nI i)), (2, .int (nI a)), (3, .int x), (4, .int y)] := hl
  have b0 := hI.n0
  have b1 := hI.n1
  have b2 := hI.n2
  have b3 := hI.n3
  refine lv_aload_n hx hb dX6_addPass_0 rfl (lv_at hl 0 rfl) ?_
  refine lv_iconst (v := 0) hx hb dX6_addPass_1 (by decide) ?_
  refine wk_put (own := RX6) (C := RX6) (T := TX6) (N := 26) (ci := 7) (v := .int 0) hx hb hts i_X6 tyX6 tyX6_ok nmX6 hown hK hA.obj (Or.inl hA.tagO) hS rfl 0 (by decide) (hts _ (List.mem_of_getElem? (i := 1) rfl)) (fun _ h9 => h9) rfl (tyX6_ok 0 (by decide)) rfl rfl (Nat.le_of_ble_eq_true rfl) dX6_addPass_2 (fun H locs hP9 hz9 hk9 hS => ?_)
  have hA := hA.setTh hP9 hk9
  refine lv_aload_n hx hb dX6_addPass_5 rfl (lv_at hl 0 rfl) ?_
  refine lv_iload_n hx hb dX6_addPass_6 rfl (lv_at hl 1 rfl) ?_
  refine wk_V (As := [.int (nI i)]) (rest := []) ⟨hx, hb, hml, hown, hts⟩ (c_X6_isSatellite l E hA hI (x := nI i)) (cwV 1 hts gX6_addPass_X6_isSatellite rfl rfl rfl (by decide +kernel) ⟨(Nat.le_of_ble_eq_true rfl), (Nat.le_of_ble_eq_true rfl)⟩) (wk_recv hK hA.obj rfl) hK rfl hl.1 rfl (Nat.le_of_ble_eq_true rfl) dX6_addPass_7 ⟨Nat.zero_le _, Nat.zero_le _⟩ ?_
  refine lv_if_eq (tgt := 21) hx hb dX6_addPass_10 (by decide) (fun c_10 => ?_) (fun c_10 => ?_)
  · skip
    have e_10 : (v_ix (nI i) (z_n σ 1)) = false := wk_b0 c_10
    exact absurd (e_10.symm.trans (v_ix_nI hi (by omega))) (by decide)
  have e_10 : (v_ix (nI i) (z_n σ 1)) = true := wk_b1 c_10
  refine lv_aload_n hx hb dX6_addPass_13 rfl (lv_at hl 0 rfl) ?_
  refine lv_iload_n hx hb dX6_addPass_14 rfl (lv_at hl 2 rfl) ?_
  refine wk_V (As := [.int (nI a)]) (rest := []) ⟨hx, hb, hml, hown, hts⟩ (c_X6_isAntenna l E hA hI (x := nI a)) (cwV 1 hts gX6_addPass_X6_isAntenna rfl rfl rfl (by decide +kernel) ⟨(Nat.le_of_ble_eq_true rfl), (Nat.le_of_ble_eq_true rfl)⟩) (wk_recv hK hA.obj rfl) hK rfl hl.1 rfl (Nat.le_of_ble_eq_true rfl) dX6_addPass_15 ⟨Nat.zero_le _, Nat.zero_le _⟩ ?_
  refine lv_if_ne (tgt := 27) hx hb dX6_addPass_18 (by decide) (fun c_18 => ?_) (fun c_18 => ?_)
  · skip
    have e_18 : (v_ix (nI a) (z_n σ 0)) = true := wk_b1 c_18
    refine lv_iload_n hx hb dX6_addPass_27 rfl (lv_at hl 3 rfl) ?_
    refine lv_aload_n hx hb dX6_addPass_28 rfl (lv_at hl 0 rfl) ?_
    refine wk_get (own := RX6) (C := RX6) (T := TX6) (N := 26) (ci := 7) (v := .int (z_now σ)) hx hb hts i_X6 hown hK hA.obj rfl 1 (by decide) (hts _ (List.mem_of_getElem? (i := 2) rfl)) (fun _ h9 => h9) rfl dX6_addPass_29 ?_
    refine lv_icmp_lt (tgt := 77) hx hb dX6_addPass_32 (by decide) (fun c_32 => ?_) (fun c_32 => ?_)
    · skip
      have d_32 := Int32.not_le.mpr c_32
      exact absurd c_32 (v_span1 hsp)
    have d_32 := Int32.not_lt.mp c_32
    refine lv_iload hx hb dX6_addPass_35 (lv_at hl 4 rfl) ?_
    refine lv_iload_n hx hb dX6_addPass_37 rfl (lv_at hl 3 rfl) ?_
    refine lv_icmp_le (tgt := 77) hx hb dX6_addPass_38 (by decide) (fun c_38 => ?_) (fun c_38 => ?_)
    · skip
      have d_38 := Int32.not_lt.mpr c_38
      exact absurd c_38 (v_span2 hsp)
    have d_38 := Int32.not_le.mp c_38
    refine lv_iload hx hb dX6_addPass_41 (lv_at hl 4 rfl) ?_
    refine lv_sipush (v := 9999) hx hb dX6_addPass_43 (by decide) ?_
    refine lv_icmp_gt (tgt := 77) hx hb dX6_addPass_46 (by decide) (fun c_46 => ?_) (fun c_46 => ?_)
    · skip
      have d_46 := Int32.not_le.mpr c_46
      exact absurd c_46 (v_span3 hsp)
    have d_46 := Int32.not_lt.mp c_46
    refine lv_iload hx hb dX6_addPass_49 (lv_at hl 4 rfl) ?_
    refine lv_iload_n hx hb dX6_addPass_51 rfl (lv_at hl 3 rfl) ?_
    refine lv_isub hx hb dX6_addPass_52 ?_
    refine lv_sipush (v := 600) hx hb dX6_addPass_53 (by decide) ?_
    refine lv_icmp_gt (tgt := 77) hx hb dX6_addPass_56 (by decide) (fun c_56 => ?_) (fun c_56 => ?_)
    · skip
      have d_56 := Int32.not_le.mpr c_56
      exact absurd hlen (Int32.not_le.mpr c_56)
    have d_56 := Int32.not_lt.mp c_56
    refine lv_aload_n hx hb dX6_addPass_59 rfl (lv_at hl 0 rfl) ?_
    refine wk_get (own := RX6) (C := RX6) (T := TX6) (N := 26) (ci := 7) (v := .ref (Y 11 0)) hx hb hts i_X6 hown hK hA.obj rfl 4 (by decide) (hts _ (List.mem_of_getElem? (i := 3) rfl)) (fun _ h9 => h9) rfl dX6_addPass_60 ?_
    refine lv_iload_n hx hb dX6_addPass_63 rfl (lv_at hl 2 rfl) ?_
    refine wk_iald (n := 5) (f := fun j => z_ab σ j) hx hb hK hA.a0 a rfl (by have := ha; omega) (by decide) dX6_addPass_64 ?_
    refine lv_aload_n hx hb dX6_addPass_65 rfl (lv_at hl 0 rfl) ?_
    refine wk_get (own := RX6) (C := RX6) (T := TX6) (N := 26) (ci := 7) (v := .ref (Y 11 5)) hx hb hts i_X6 hown hK hA.obj rfl 11 (by decide) (hts _ (List.mem_of_getElem? (i := 4) rfl)) (fun _ h9 => h9) rfl dX6_addPass_66 ?_
    refine lv_iload_n hx hb dX6_addPass_69 rfl (lv_at hl 1 rfl) ?_
    refine wk_iald (n := 8) (f := fun j => z_sb σ j) hx hb hK hA.a5 i rfl (by have := hi; omega) (by decide) dX6_addPass_70 ?_
    obtain ⟨mm, bb, hmm, hbb, emm, ebb, ehe⟩ := f_hearsN hI ha hi
    refine wk_eqls (st' := [.int (nI bb), .int (nI mm)]) (by rw [emm, ebb]) ?_
    refine wk_S (As := [.int (nI mm), .int (nI bb)]) (rest := []) ⟨hx, hb, hml, hown, hts⟩ (c_X6_has l E (mm := mm) (k := bb) (by omega) (by omega)) (va_cwS 2 hts gX6_addPass_X6_has rfl rfl rfl (by decide +kernel) ⟨(Nat.le_of_ble_eq_true rfl), (Nat.le_of_ble_eq_true rfl)⟩) hK rfl hl.1 rfl (Nat.le_of_ble_eq_true rfl) dX6_addPass_71 ⟨Nat.zero_le _, Nat.zero_le _⟩ ?_
    refine lv_if_ne (tgt := 83) hx hb dX6_addPass_74 (by decide) (fun c_74 => ?_) (fun c_74 => ?_)
    · skip
      have e_74 : (Nat.testBit mm bb) = true := wk_b1 c_74
      exact absurd (hbad.symm.trans (ehe.trans e_74)) (by decide)
    have e_74 : (Nat.testBit mm bb) = false := wk_b0 c_74
    refine lv_aload_n hx hb dX6_addPass_77 rfl (lv_at hl 0 rfl) ?_
    refine lv_iconst (v := 2) hx hb dX6_addPass_78 (by decide) ?_
    refine we_V (As := [.int 2]) (rest := []) ⟨hx, hb, hml, hown, hts⟩ (e_X6_fail l E hA hI) (cwV 1 hts gX6_addPass_X6_fail rfl rfl rfl (by decide +kernel) ⟨(Nat.le_of_ble_eq_true rfl), (Nat.le_of_ble_eq_true rfl)⟩) (wk_recv hK hA.obj rfl) (hV.heap hS.1 (fun q hq => hS.2.1 q (Nat.lt_of_lt_of_le hq hV.2.2.2.2.2.2) (hbA q hq))) hS (fun _ h => Or.inl h) hA9 rfl hl.1 rfl (Nat.le_of_ble_eq_true rfl) dX6_addPass_79 ⟨Nat.zero_le _, Nat.zero_le _⟩ (fun v9 H locs hR9 hz9 hk9 hS => ?_)
    obtain ⟨rfl, hA⟩ := hR9
    refine wk_eqls (st' := [.int 0]) rfl ?_
    exact W.iret hx hb hr (we_end (Rt := fun v H1 => v = some (.int (0)) ∧ MA E T Y σ 2 gt H1) (F := z_FM T) (⟨rfl, hA⟩) hS) hS.2.2 dX6_addPass_82
  have e_18 : (v_ix (nI a) (z_n σ 0)) = false := wk_b0 c_18
  exact absurd (e_18.symm.trans (v_ix_nI ha (by omega))) (by decide)

abbrev rmf6_X6_addPass : Room := { frames := 2, cells := 0, slots := 0, locals := 43 }
set_option maxHeartbeats 4000000 in
set_option maxRecDepth 100000 in
theorem f6_X6_addPass (l : Launch) (E : wk_E) {T : Nat → Nat × Nat} {Y : Nat → Nat → Nat} {σ : z_S} {th : Int32} {gt : Int64} {H : Heap} (hA : MA E T Y σ th gt H) (hI : z_Ok σ) {i a : Nat} {x y : Int32} (hi : i < z_n σ 1) (ha : a < z_n σ 0) (hsp : v_span σ x y = true) (hlen : y - x ≤ 600) (hhe : f_hears σ a i = true) (hn : ¬ z_n σ 2 < 16) : we_Met l yX6_addPass wsX6_addPass rmf6_X6_addPass E H [.ref (Y 10 0), .int (nI i), .int (nI a), .int x, .int y] (z_FM T) 0 0 (fun v H1 => v = some (.int (0)) ∧ MA E T Y σ 3 gt H1) := by
  refine Met.ofW (cc := cX6_addPass) (maxL := 5) (ret := (some .int)) (by decide) rfl ?_
  intro p e s m args below meth c s₁ B hml hv
  obtain ⟨rfl, hH, hV⟩ := hv
  subst hH
  have hK := hV.k
  have hx := B.exec
  have hb := B.bytes
  have hr := B.returns
  have hts := atoms_spec (ws := wsX6_addPass) B.pre
  have hown : s.vm.findClass RX6 = some m.cls := findClass_of_methodNamed B.named
  have hlocks := B.notSynchronized
  have hS : va_S (fun q => (z_FM T) q ∨ s.heap.size ≤ q) s.heap s.heap [] := va_S.rf
  have hA9 : ∀ q : Nat, s.heap.size ≤ q → ((z_FM T) q ∨ s.heap.size ≤ q) := fun _ h => Or.inr h
  have hbA : ∀ q : Nat, q < E.2.2.1 → ¬ ((z_FM T) q ∨ s.heap.size ≤ q) := fun q hq z => z.elim (z_FMb hA.2 hq) (fun z => absurd (Nat.lt_of_lt_of_le hq hV.2.2.2.2.2.2) (Nat.not_lt.mpr z))
  have i_X6 : ∀ w ∈ u_ws RX6 TX6 26, w ∈ wsX6_addPass := fun w h => (List.mem_cons_of_mem _ (List.mem_append_right _ h))
  have hl := lv_entry [.ref (Y 10 0), .int (nI i), .int (nI a), .int x, .int y] (n := 5) (Nat.le_of_ble_eq_true rfl)
  rw [lg_entry_eq]
  generalize (lg_sl [.ref (Y 10 0), .int (nI i), .int (nI a), .int x, .int y] ++ List.replicate (5 - (lg_sl [.ref (Y 10 0), .int (nI i), .int (nI a), .int x, .int y]).length) Slot.unset).toArray = ls at hl ⊢
  have hl : lv_has ls 5 [(0, .ref (Y 10 0)), (1, .int (nI i)), (2, .int (nI a)), (3, .int x), (4, .int y)] := hl
  have b0 := hI.n0
  have b1 := hI.n1
  have b2 := hI.n2
  have b3 := hI.n3
  refine lv_aload_n hx hb dX6_addPass_0 rfl (lv_at hl 0 rfl) ?_
  refine lv_iconst (v := 0) hx hb dX6_addPass_1 (by decide) ?_
  refine wk_put (own := RX6) (C := RX6) (T := TX6) (N := 26) (ci := 7) (v := .int 0) hx hb hts i_X6 tyX6 tyX6_ok nmX6 hown hK hA.obj (Or.inl hA.tagO) hS rfl 0 (by decide) (hts _ (List.mem_of_getElem? (i := 1) rfl)) (fun _ h9 => h9) rfl (tyX6_ok 0 (by decide)) rfl rfl (Nat.le_of_ble_eq_true rfl) dX6_addPass_2 (fun H locs hP9 hz9 hk9 hS => ?_)
  have hA := hA.setTh hP9 hk9
  refine lv_aload_n hx hb dX6_addPass_5 rfl (lv_at hl 0 rfl) ?_
  refine lv_iload_n hx hb dX6_addPass_6 rfl (lv_at hl 1 rfl) ?_
  refine wk_V (As := [.int (nI i)]) (rest := []) ⟨hx, hb, hml, hown, hts⟩ (c_X6_isSatellite l E hA hI (x := nI i)) (cwV 1 hts gX6_addPass_X6_isSatellite rfl rfl rfl (by decide +kernel) ⟨(Nat.le_of_ble_eq_true rfl), (Nat.le_of_ble_eq_true rfl)⟩) (wk_recv hK hA.obj rfl) hK rfl hl.1 rfl (Nat.le_of_ble_eq_true rfl) dX6_addPass_7 ⟨Nat.zero_le _, Nat.zero_le _⟩ ?_
  refine lv_if_eq (tgt := 21) hx hb dX6_addPass_10 (by decide) (fun c_10 => ?_) (fun c_10 => ?_)
  · skip
    have e_10 : (v_ix (nI i) (z_n σ 1)) = false := wk_b0 c_10
    exact absurd (e_10.symm.trans (v_ix_nI hi (by omega))) (by decide)
  have e_10 : (v_ix (nI i) (z_n σ 1)) = true := wk_b1 c_10
  refine lv_aload_n hx hb dX6_addPass_13 rfl (lv_at hl 0 rfl) ?_
  refine lv_iload_n hx hb dX6_addPass_14 rfl (lv_at hl 2 rfl) ?_
  refine wk_V (As := [.int (nI a)]) (rest := []) ⟨hx, hb, hml, hown, hts⟩ (c_X6_isAntenna l E hA hI (x := nI a)) (cwV 1 hts gX6_addPass_X6_isAntenna rfl rfl rfl (by decide +kernel) ⟨(Nat.le_of_ble_eq_true rfl), (Nat.le_of_ble_eq_true rfl)⟩) (wk_recv hK hA.obj rfl) hK rfl hl.1 rfl (Nat.le_of_ble_eq_true rfl) dX6_addPass_15 ⟨Nat.zero_le _, Nat.zero_le _⟩ ?_
  refine lv_if_ne (tgt := 27) hx hb dX6_addPass_18 (by decide) (fun c_18 => ?_) (fun c_18 => ?_)
  · skip
    have e_18 : (v_ix (nI a) (z_n σ 0)) = true := wk_b1 c_18
    refine lv_iload_n hx hb dX6_addPass_27 rfl (lv_at hl 3 rfl) ?_
    refine lv_aload_n hx hb dX6_addPass_28 rfl (lv_at hl 0 rfl) ?_
    refine wk_get (own := RX6) (C := RX6) (T := TX6) (N := 26) (ci := 7) (v := .int (z_now σ)) hx hb hts i_X6 hown hK hA.obj rfl 1 (by decide) (hts _ (List.mem_of_getElem? (i := 2) rfl)) (fun _ h9 => h9) rfl dX6_addPass_29 ?_
    refine lv_icmp_lt (tgt := 77) hx hb dX6_addPass_32 (by decide) (fun c_32 => ?_) (fun c_32 => ?_)
    · skip
      have d_32 := Int32.not_le.mpr c_32
      exact absurd c_32 (v_span1 hsp)
    have d_32 := Int32.not_lt.mp c_32
    refine lv_iload hx hb dX6_addPass_35 (lv_at hl 4 rfl) ?_
    refine lv_iload_n hx hb dX6_addPass_37 rfl (lv_at hl 3 rfl) ?_
    refine lv_icmp_le (tgt := 77) hx hb dX6_addPass_38 (by decide) (fun c_38 => ?_) (fun c_38 => ?_)
    · skip
      have d_38 := Int32.not_lt.mpr c_38
      exact absurd c_38 (v_span2 hsp)
    have d_38 := Int32.not_le.mp c_38
    refine lv_iload hx hb dX6_addPass_41 (lv_at hl 4 rfl) ?_
    refine lv_sipush (v := 9999) hx hb dX6_addPass_43 (by decide) ?_
    refine lv_icmp_gt (tgt := 77) hx hb dX6_addPass_46 (by decide) (fun c_46 => ?_) (fun c_46 => ?_)
    · skip
      have d_46 := Int32.not_le.mpr c_46
      exact absurd c_46 (v_span3 hsp)
    have d_46 := Int32.not_lt.mp c_46
    refine lv_iload hx hb dX6_addPass_49 (lv_at hl 4 rfl) ?_
    refine lv_iload_n hx hb dX6_addPass_51 rfl (lv_at hl 3 rfl) ?_
    refine lv_isub hx hb dX6_addPass_52 ?_
    refine lv_sipush (v := 600) hx hb dX6_addPass_53 (by decide) ?_
    refine lv_icmp_gt (tgt := 77) hx hb dX6_addPass_56 (by decide) (fun c_56 => ?_) (fun c_56 => ?_)
    · skip
      have d_56 := Int32.not_le.mpr c_56
      exact absurd hlen (Int32.not_le.mpr c_56)
    have d_56 := Int32.not_lt.mp c_56
    refine lv_aload_n hx hb dX6_addPass_59 rfl (lv_at hl 0 rfl) ?_
    refine wk_get (own := RX6) (C := RX6) (T := TX6) (N := 26) (ci := 7) (v := .ref (Y 11 0)) hx hb hts i_X6 hown hK hA.obj rfl 4 (by decide) (hts _ (List.mem_of_getElem? (i := 3) rfl)) (fun _ h9 => h9) rfl dX6_addPass_60 ?_
    refine lv_iload_n hx hb dX6_addPass_63 rfl (lv_at hl 2 rfl) ?_
    refine wk_iald (n := 5) (f := fun j => z_ab σ j) hx hb hK hA.a0 a rfl (by have := ha; omega) (by decide) dX6_addPass_64 ?_
    refine lv_aload_n hx hb dX6_addPass_65 rfl (lv_at hl 0 rfl) ?_
    refine wk_get (own := RX6) (C := RX6) (T := TX6) (N := 26) (ci := 7) (v := .ref (Y 11 5)) hx hb hts i_X6 hown hK hA.obj rfl 11 (by decide) (hts _ (List.mem_of_getElem? (i := 4) rfl)) (fun _ h9 => h9) rfl dX6_addPass_66 ?_
    refine lv_iload_n hx hb dX6_addPass_69 rfl (lv_at hl 1 rfl) ?_
    refine wk_iald (n := 8) (f := fun j => z_sb σ j) hx hb hK hA.a5 i rfl (by have := hi; omega) (by decide) dX6_addPass_70 ?_
    obtain ⟨mm, bb, hmm, hbb, emm, ebb, ehe⟩ := f_hearsN hI ha hi
    refine wk_eqls (st' := [.int (nI bb), .int (nI mm)]) (by rw [emm, ebb]) ?_
    refine wk_S (As := [.int (nI mm), .int (nI bb)]) (rest := []) ⟨hx, hb, hml, hown, hts⟩ (c_X6_has l E (mm := mm) (k := bb) (by omega) (by omega)) (va_cwS 2 hts gX6_addPass_X6_has rfl rfl rfl (by decide +kernel) ⟨(Nat.le_of_ble_eq_true rfl), (Nat.le_of_ble_eq_true rfl)⟩) hK rfl hl.1 rfl (Nat.le_of_ble_eq_true rfl) dX6_addPass_71 ⟨Nat.zero_le _, Nat.zero_le _⟩ ?_
    refine lv_if_ne (tgt := 83) hx hb dX6_addPass_74 (by decide) (fun c_74 => ?_) (fun c_74 => ?_)
    · skip
      have e_74 : (Nat.testBit mm bb) = true := wk_b1 c_74
      refine lv_aload_n hx hb dX6_addPass_83 rfl (lv_at hl 0 rfl) ?_
      refine wk_get (own := RX6) (C := RX6) (T := TX6) (N := 26) (ci := 7) (v := .int (nI (z_n σ 2))) hx hb hts i_X6 hown hK hA.obj rfl 18 (by decide) (hts _ (List.mem_of_getElem? (i := 5) rfl)) (fun _ h9 => h9) rfl dX6_addPass_84 ?_
      refine lv_bipush (v := 16) hx hb dX6_addPass_87 (by decide) ?_
      refine lv_icmp_ne (tgt := 98) hx hb dX6_addPass_89 (by decide) (fun c_89 => ?_) (fun c_89 => ?_)
      · skip
        have e_89 : ¬ (z_n σ 2) = 16 := wk_cnet (by omega) (by omega) c_89
        omega
      have e_89 : (z_n σ 2) = 16 := wk_cnef (by omega) (by omega) c_89
      refine lv_aload_n hx hb dX6_addPass_92 rfl (lv_at hl 0 rfl) ?_
      refine lv_iconst (v := 3) hx hb dX6_addPass_93 (by decide) ?_
      refine we_V (As := [.int 3]) (rest := []) ⟨hx, hb, hml, hown, hts⟩ (e_X6_fail l E hA hI) (cwV 1 hts gX6_addPass_X6_fail rfl rfl rfl (by decide +kernel) ⟨(Nat.le_of_ble_eq_true rfl), (Nat.le_of_ble_eq_true rfl)⟩) (wk_recv hK hA.obj rfl) (hV.heap hS.1 (fun q hq => hS.2.1 q (Nat.lt_of_lt_of_le hq hV.2.2.2.2.2.2) (hbA q hq))) hS (fun _ h => Or.inl h) hA9 rfl hl.1 rfl (Nat.le_of_ble_eq_true rfl) dX6_addPass_94 ⟨Nat.zero_le _, Nat.zero_le _⟩ (fun v9 H locs hR9 hz9 hk9 hS => ?_)
      obtain ⟨rfl, hA⟩ := hR9
      refine wk_eqls (st' := [.int 0]) rfl ?_
      exact W.iret hx hb hr (we_end (Rt := fun v H1 => v = some (.int (0)) ∧ MA E T Y σ 3 gt H1) (F := z_FM T) (⟨rfl, hA⟩) hS) hS.2.2 dX6_addPass_97
    have e_74 : (Nat.testBit mm bb) = false := wk_b0 c_74
    exact absurd (hhe.symm.trans (ehe.trans e_74)) (by decide)
  have e_18 : (v_ix (nI a) (z_n σ 0)) = false := wk_b0 c_18
  exact absurd (e_18.symm.trans (v_ix_nI ha (by omega))) (by decide)

abbrev rm_X6_isOutIn : Room := { frames := 1, cells := 0, slots := 0, locals := 23 }
set_option maxHeartbeats 4000000 in
set_option maxRecDepth 100000 in
theorem c2_X6_isOutIn (l : Launch) (E : wk_E) {T : Nat → Nat × Nat} {Y : Nat → Nat → Nat} {σ : z_S} {th : Int32} {gt : Int64} {H : Heap} (hA : MA E T Y σ th gt H) (hI : z_Ok σ) {k : Nat} (hk : k < 6) (ho5 : z_oA σ k < 5) {i : Nat} (hi : i < z_n σ 2) : wk_Met l yX6_isOutIn wsX6_isOutIn rm_X6_isOutIn E H [.ref (Y 10 0), .int (nI k), .int (nI i)] (some (.int (wk_b (decide (z_oA σ k = z_pA σ i) && f_meets σ k (z_pb σ i) (z_pe σ i))))) := by
  refine Met.ofW (cc := cX6_isOutIn) (maxL := 3) (ret := (some .boolean)) (by decide) rfl ?_
  intro p e s m args below meth c s₁ B hml hv
  obtain ⟨rfl, hH, hK⟩ := hv
  subst hH
  have hx := B.exec
  have hb := B.bytes
  have hr := B.returns
  have hts := atoms_spec (ws := wsX6_isOutIn) B.pre
  have hown : s.vm.findClass RX6 = some m.cls := findClass_of_methodNamed B.named
  have hlocks := B.notSynchronized
  have i_X6 : ∀ w ∈ u_ws RX6 TX6 26, w ∈ wsX6_isOutIn := fun w h => (List.mem_cons_of_mem _ (List.mem_append_right _ h))
  have hl := lv_entry [.ref (Y 10 0), .int (nI k), .int (nI i)] (n := 3) (Nat.le_of_ble_eq_true rfl)
  rw [lg_entry_eq]
  generalize (lg_sl [.ref (Y 10 0), .int (nI k), .int (nI i)] ++ List.replicate (3 - (lg_sl [.ref (Y 10 0), .int (nI k), .int (nI i)]).length) Slot.unset).toArray = ls at hl ⊢
  have hl : lv_has ls 3 [(0, .ref (Y 10 0)), (1, .int (nI k)), (2, .int (nI i))] := hl
  have b0 := hI.n0
  have b1 := hI.n1
  have b2 := hI.n2
  have b3 := hI.n3
  refine lv_aload_n hx hb dX6_isOutIn_0 rfl (lv_at hl 0 rfl) ?_
  refine wk_get (own := RX6) (C := RX6) (T := TX6) (N := 26) (ci := 7) (v := .ref (Y 11 4)) hx hb hts i_X6 hown hK hA.obj rfl 9 (by decide) (hts _ (List.mem_of_getElem? (i := 1) rfl)) (fun _ h9 => h9) rfl dX6_isOutIn_1 ?_
  refine lv_iconst (v := 3) hx hb dX6_isOutIn_4 (by decide) ?_
  refine lv_iload_n hx hb dX6_isOutIn_5 rfl (lv_at hl 1 rfl) ?_
  refine lv_imul hx hb dX6_isOutIn_6 ?_
  refine wk_eqi (show 3 * (nI k) = nI (3 * k) from pk_mul 3 k) ?_
  refine wk_iald (n := 18) (f := fun j => z_outs σ j) hx hb hK hA.a4 (3 * k) rfl (by omega) (by decide) dX6_isOutIn_7 ?_
  refine wk_eqi (z_outs0 σ k) ?_
  refine lv_aload_n hx hb dX6_isOutIn_8 rfl (lv_at hl 0 rfl) ?_
  refine wk_get (own := RX6) (C := RX6) (T := TX6) (N := 26) (ci := 7) (v := .ref (Y 11 13)) hx hb hts i_X6 hown hK hA.obj rfl 20 (by decide) (hts _ (List.mem_of_getElem? (i := 2) rfl)) (fun _ h9 => h9) rfl dX6_isOutIn_9 ?_
  refine lv_iload_n hx hb dX6_isOutIn_12 rfl (lv_at hl 2 rfl) ?_
  refine wk_iald (n := 16) (f := fun j => nI (z_pA σ j)) hx hb hK hA.a13 i rfl (by have := hi; omega) (by decide) dX6_isOutIn_13 ?_
  have q2 := hI.pA hi
  refine lv_icmp_ne (tgt := 59) hx hb dX6_isOutIn_14 (by decide) (fun c_14 => ?_) (fun c_14 => ?_)
  · skip
    have e_14 : ¬ (z_oA σ k) = (z_pA σ i) := wk_cnet (by omega) (by omega) c_14
    refine lv_iconst (v := 0) hx hb dX6_isOutIn_59 (by decide) ?_
    exact W.zret hx hb hr rfl (fun t ht _ => wk_ret (congrArg Value.int (by simp [f_meets, wk_b, e_14])) ht) wk_nil dX6_isOutIn_60
  have e_14 : (z_oA σ k) = (z_pA σ i) := wk_cnef (by omega) (by omega) c_14
  refine lv_aload_n hx hb dX6_isOutIn_17 rfl (lv_at hl 0 rfl) ?_
  refine wk_get (own := RX6) (C := RX6) (T := TX6) (N := 26) (ci := 7) (v := .ref (Y 11 4)) hx hb hts i_X6 hown hK hA.obj rfl 9 (by decide) (hts _ (List.mem_of_getElem? (i := 1) rfl)) (fun _ h9 => h9) rfl dX6_isOutIn_18 ?_
  refine lv_iconst (v := 3) hx hb dX6_isOutIn_21 (by decide) ?_
  refine lv_iload_n hx hb dX6_isOutIn_22 rfl (lv_at hl 1 rfl) ?_
  refine lv_imul hx hb dX6_isOutIn_23 ?_
  refine wk_eqi (show 3 * (nI k) = nI (3 * k) from pk_mul 3 k) ?_
  refine lv_iconst (v := 1) hx hb dX6_isOutIn_24 (by decide) ?_
  refine lv_iadd hx hb dX6_isOutIn_25 ?_
  refine wk_eqi (show (nI (3 * k)) + 1 = nI ((3 * k) + 1) from nI_add (3 * k) 1) ?_
  refine wk_iald (n := 18) (f := fun j => z_outs σ j) hx hb hK hA.a4 ((3 * k) + 1) rfl (by omega) (by decide) dX6_isOutIn_26 ?_
  refine wk_eqi (z_outs1 σ k) ?_
  refine lv_aload_n hx hb dX6_isOutIn_27 rfl (lv_at hl 0 rfl) ?_
  refine wk_get (own := RX6) (C := RX6) (T := TX6) (N := 26) (ci := 7) (v := .ref (Y 11 4)) hx hb hts i_X6 hown hK hA.obj rfl 9 (by decide) (hts _ (List.mem_of_getElem? (i := 1) rfl)) (fun _ h9 => h9) rfl dX6_isOutIn_28 ?_
  refine lv_iconst (v := 3) hx hb dX6_isOutIn_31 (by decide) ?_
  refine lv_iload_n hx hb dX6_isOutIn_32 rfl (lv_at hl 1 rfl) ?_
  refine lv_imul hx hb dX6_isOutIn_33 ?_
  refine wk_eqi (show 3 * (nI k) = nI (3 * k) from pk_mul 3 k) ?_
  refine lv_iconst (v := 2) hx hb dX6_isOutIn_34 (by decide) ?_
  refine lv_iadd hx hb dX6_isOutIn_35 ?_
  refine wk_eqi (show (nI (3 * k)) + 2 = nI ((3 * k) + 2) from nI_add (3 * k) 2) ?_
  refine wk_iald (n := 18) (f := fun j => z_outs σ j) hx hb hK hA.a4 ((3 * k) + 2) rfl (by omega) (by decide) dX6_isOutIn_36 ?_
  refine wk_eqi (z_outs2 σ k) ?_
  refine lv_aload_n hx hb dX6_isOutIn_37 rfl (lv_at hl 0 rfl) ?_
  refine wk_get (own := RX6) (C := RX6) (T := TX6) (N := 26) (ci := 7) (v := .ref (Y 11 14)) hx hb hts i_X6 hown hK hA.obj rfl 21 (by decide) (hts _ (List.mem_of_getElem? (i := 3) rfl)) (fun _ h9 => h9) rfl dX6_isOutIn_38 ?_
  refine lv_iload_n hx hb dX6_isOutIn_41 rfl (lv_at hl 2 rfl) ?_
  refine wk_iald (n := 16) (f := fun j => z_pb σ j) hx hb hK hA.a14 i rfl (by have := hi; omega) (by decide) dX6_isOutIn_42 ?_
  refine lv_aload_n hx hb dX6_isOutIn_43 rfl (lv_at hl 0 rfl) ?_
  refine wk_get (own := RX6) (C := RX6) (T := TX6) (N := 26) (ci := 7) (v := .ref (Y 11 15)) hx hb hts i_X6 hown hK hA.obj rfl 22 (by decide) (hts _ (List.mem_of_getElem? (i := 4) rfl)) (fun _ h9 => h9) rfl dX6_isOutIn_44 ?_
  refine lv_iload_n hx hb dX6_isOutIn_47 rfl (lv_at hl 2 rfl) ?_
  refine wk_iald (n := 16) (f := fun j => z_pe σ j) hx hb hK hA.a15 i rfl (by have := hi; omega) (by decide) dX6_isOutIn_48 ?_
  refine wk_S (As := [.int (z_of σ k), .int (z_ot σ k), .int (z_pb σ i), .int (z_pe σ i)]) (rest := []) ⟨hx, hb, hml, hown, hts⟩ (c_X6_overlaps l E (w := z_of σ k) (x := z_ot σ k) (y := z_pb σ i) (z := z_pe σ i)) (va_cwS 4 hts gX6_isOutIn_X6_overlaps rfl rfl rfl (by decide +kernel) ⟨(Nat.le_of_ble_eq_true rfl), (Nat.le_of_ble_eq_true rfl)⟩) hK rfl hl.1 rfl (Nat.le_of_ble_eq_true rfl) dX6_isOutIn_49 ⟨Nat.zero_le _, Nat.zero_le _⟩ ?_
  refine lv_if_eq (tgt := 59) hx hb dX6_isOutIn_52 (by decide) (fun c_52 => ?_) (fun c_52 => ?_)
  · skip
    have e_52 : (decide ((z_of σ k) < (z_pe σ i)) && decide ((z_pb σ i) < (z_ot σ k))) = false := wk_b0 c_52
    refine lv_iconst (v := 0) hx hb dX6_isOutIn_59 (by decide) ?_
    exact W.zret hx hb hr rfl (fun t ht _ => wk_ret (congrArg Value.int (by simp [f_meets, wk_b, e_14, e_52])) ht) wk_nil dX6_isOutIn_60
  have e_52 : (decide ((z_of σ k) < (z_pe σ i)) && decide ((z_pb σ i) < (z_ot σ k))) = true := wk_b1 c_52
  refine lv_iconst (v := 1) hx hb dX6_isOutIn_55 (by decide) ?_
  refine lv_goto (tgt := 60) hx hb dX6_isOutIn_56 (by decide) ?_
  exact W.zret hx hb hr rfl (fun t ht _ => wk_ret (congrArg Value.int (by simp [f_meets, wk_b, e_14, e_52])) ht) wk_nil dX6_isOutIn_60

abbrev rme_X6_addOutage : Room := { frames := 2, cells := 0, slots := 0, locals := 45 }
set_option maxHeartbeats 4000000 in
set_option maxRecDepth 100000 in
theorem e_X6_addOutage (l : Launch) (E : wk_E) {T : Nat → Nat × Nat} {Y : Nat → Nat → Nat} {σ : z_S} {th : Int32} {gt : Int64} {H : Heap} (hA : MA E T Y σ th gt H) (hI : z_Ok σ) {a : Nat} {x y : Int32} (ha : a < z_n σ 0) (hsp : v_span σ x y = true) (hn : z_n σ 3 < 6) : we_Met l yX6_addOutage wsX6_addOutage rme_X6_addOutage E H [.ref (Y 10 0), .int (nI a), .int x, .int y] (z_FM T) 0 0 (fun v H1 => v = some (.int (f_cntOut σ a x y)) ∧ MA E T Y (f_addO σ a x y) 0 gt H1) := by
  refine Met.ofW (cc := cX6_addOutage) (maxL := 6) (ret := (some .int)) (by decide) rfl ?_
  intro p e s m args below meth c s₁ B hml hv
  obtain ⟨rfl, hH, hV⟩ := hv
  subst hH
  have hK := hV.k
  have hx := B.exec
  have hb := B.bytes
  have hr := B.returns
  have hts := atoms_spec (ws := wsX6_addOutage) B.pre
  have hown : s.vm.findClass RX6 = some m.cls := findClass_of_methodNamed B.named
  have hlocks := B.notSynchronized
  have hS : va_S (fun q => (z_FM T) q ∨ s.heap.size ≤ q) s.heap s.heap [] := va_S.rf
  have hA9 : ∀ q : Nat, s.heap.size ≤ q → ((z_FM T) q ∨ s.heap.size ≤ q) := fun _ h => Or.inr h
  have hbA : ∀ q : Nat, q < E.2.2.1 → ¬ ((z_FM T) q ∨ s.heap.size ≤ q) := fun q hq z => z.elim (z_FMb hA.2 hq) (fun z => absurd (Nat.lt_of_lt_of_le hq hV.2.2.2.2.2.2) (Nat.not_lt.mpr z))
  have i_X6 : ∀ w ∈ u_ws RX6 TX6 26, w ∈ wsX6_addOutage := fun w h => (List.mem_cons_of_mem _ (List.mem_append_right _ h))
  have hl := lv_entry [.ref (Y 10 0), .int (nI a), .int x, .int y] (n := 6) (Nat.le_of_ble_eq_true rfl)
  rw [lg_entry_eq]
  generalize (lg_sl [.ref (Y 10 0), .int (nI a), .int x, .int y] ++ List.replicate (6 - (lg_sl [.ref (Y 10 0), .int (nI a), .int x, .int y]).length) Slot.unset).toArray = ls at hl ⊢
  have hl : lv_has ls 6 [(0, .ref (Y 10 0)), (1, .int (nI a)), (2, .int x), (3, .int y)] := hl
  have b0 := hI.n0
  have b1 := hI.n1
  have b2 := hI.n2
  have b3 := hI.n3
  refine lv_aload_n hx hb dX6_addOutage_0 rfl (lv_at hl 0 rfl) ?_
  refine lv_iconst (v := 0) hx hb dX6_addOutage_1 (by decide) ?_
  refine wk_put (own := RX6) (C := RX6) (T := TX6) (N := 26) (ci := 7) (v := .int 0) hx hb hts i_X6 tyX6 tyX6_ok nmX6 hown hK hA.obj (Or.inl hA.tagO) hS rfl 0 (by decide) (hts _ (List.mem_of_getElem? (i := 1) rfl)) (fun _ h9 => h9) rfl (tyX6_ok 0 (by decide)) rfl rfl (Nat.le_of_ble_eq_true rfl) dX6_addOutage_2 (fun H locs hP9 hz9 hk9 hS => ?_)
  have hA := hA.setTh hP9 hk9
  refine lv_aload_n hx hb dX6_addOutage_5 rfl (lv_at hl 0 rfl) ?_
  refine lv_iload_n hx hb dX6_addOutage_6 rfl (lv_at hl 1 rfl) ?_
  refine wk_V (As := [.int (nI a)]) (rest := []) ⟨hx, hb, hml, hown, hts⟩ (c_X6_isAntenna l E hA hI (x := nI a)) (cwV 1 hts gX6_addOutage_X6_isAntenna rfl rfl rfl (by decide +kernel) ⟨(Nat.le_of_ble_eq_true rfl), (Nat.le_of_ble_eq_true rfl)⟩) (wk_recv hK hA.obj rfl) hK rfl hl.1 rfl (Nat.le_of_ble_eq_true rfl) dX6_addOutage_7 ⟨Nat.zero_le _, Nat.zero_le _⟩ ?_
  refine lv_if_ne (tgt := 19) hx hb dX6_addOutage_10 (by decide) (fun c_10 => ?_) (fun c_10 => ?_)
  · skip
    have e_10 : (v_ix (nI a) (z_n σ 0)) = true := wk_b1 c_10
    refine lv_iload_n hx hb dX6_addOutage_19 rfl (lv_at hl 2 rfl) ?_
    refine lv_aload_n hx hb dX6_addOutage_20 rfl (lv_at hl 0 rfl) ?_
    refine wk_get (own := RX6) (C := RX6) (T := TX6) (N := 26) (ci := 7) (v := .int (z_now σ)) hx hb hts i_X6 hown hK hA.obj rfl 1 (by decide) (hts _ (List.mem_of_getElem? (i := 2) rfl)) (fun _ h9 => h9) rfl dX6_addOutage_21 ?_
    refine lv_icmp_lt (tgt := 39) hx hb dX6_addOutage_24 (by decide) (fun c_24 => ?_) (fun c_24 => ?_)
    · skip
      have d_24 := Int32.not_le.mpr c_24
      exact absurd c_24 (v_span1 hsp)
    have d_24 := Int32.not_lt.mp c_24
    refine lv_iload_n hx hb dX6_addOutage_27 rfl (lv_at hl 3 rfl) ?_
    refine lv_iload_n hx hb dX6_addOutage_28 rfl (lv_at hl 2 rfl) ?_
    refine lv_icmp_le (tgt := 39) hx hb dX6_addOutage_29 (by decide) (fun c_29 => ?_) (fun c_29 => ?_)
    · skip
      have d_29 := Int32.not_lt.mpr c_29
      exact absurd c_29 (v_span2 hsp)
    have d_29 := Int32.not_le.mp c_29
    refine lv_iload_n hx hb dX6_addOutage_32 rfl (lv_at hl 3 rfl) ?_
    refine lv_sipush (v := 9999) hx hb dX6_addOutage_33 (by decide) ?_
    refine lv_icmp_le (tgt := 45) hx hb dX6_addOutage_36 (by decide) (fun c_36 => ?_) (fun c_36 => ?_)
    · skip
      have d_36 := Int32.not_lt.mpr c_36
      refine lv_aload_n hx hb dX6_addOutage_45 rfl (lv_at hl 0 rfl) ?_
      refine wk_get (own := RX6) (C := RX6) (T := TX6) (N := 26) (ci := 7) (v := .int (nI (z_n σ 3))) hx hb hts i_X6 hown hK hA.obj rfl 8 (by decide) (hts _ (List.mem_of_getElem? (i := 3) rfl)) (fun _ h9 => h9) rfl dX6_addOutage_46 ?_
      refine lv_bipush (v := 6) hx hb dX6_addOutage_49 (by decide) ?_
      refine lv_icmp_ne (tgt := 60) hx hb dX6_addOutage_51 (by decide) (fun c_51 => ?_) (fun c_51 => ?_)
      · skip
        have e_51 : ¬ (z_n σ 3) = 6 := wk_cnet (by omega) (by omega) c_51
        refine lv_aload_n hx hb dX6_addOutage_60 rfl (lv_at hl 0 rfl) ?_
        refine wk_get (own := RX6) (C := RX6) (T := TX6) (N := 26) (ci := 7) (v := .ref (Y 11 4)) hx hb hts i_X6 hown hK hA.obj rfl 9 (by decide) (hts _ (List.mem_of_getElem? (i := 4) rfl)) (fun _ h9 => h9) rfl dX6_addOutage_61 ?_
        refine lv_iconst (v := 3) hx hb dX6_addOutage_64 (by decide) ?_
        refine lv_aload_n hx hb dX6_addOutage_65 rfl (lv_at hl 0 rfl) ?_
        refine wk_get (own := RX6) (C := RX6) (T := TX6) (N := 26) (ci := 7) (v := .int (nI (z_n σ 3))) hx hb hts i_X6 hown hK hA.obj rfl 8 (by decide) (hts _ (List.mem_of_getElem? (i := 3) rfl)) (fun _ h9 => h9) rfl dX6_addOutage_66 ?_
        refine wk_eqi (show _ = nI (z_n σ 3) from rfl) ?_
        refine lv_imul hx hb dX6_addOutage_69 ?_
        refine wk_eqi (show 3 * (nI (z_n σ 3)) = nI (3 * (z_n σ 3)) from pk_mul 3 (z_n σ 3)) ?_
        refine lv_iload_n hx hb dX6_addOutage_70 rfl (lv_at hl 1 rfl) ?_
        refine wk_iast (nn := 18) hx hb hK hA.a4 (Or.inl (hA.tagA (k := 4) rfl)) hS (3 * z_n σ 3) rfl (by omega) (by decide) dX6_addOutage_71 (fun H locs hP9 hz9 hk9 hS => ?_)
        have hA := hA.setO0 (j := z_n σ 3) (v := a) hP9 hk9
        refine lv_aload_n hx hb dX6_addOutage_72 rfl (lv_at hl 0 rfl) ?_
        refine wk_get (own := RX6) (C := RX6) (T := TX6) (N := 26) (ci := 7) (v := .ref (Y 11 4)) hx hb hts i_X6 hown hK hA.obj rfl 9 (by decide) (hts _ (List.mem_of_getElem? (i := 4) rfl)) (fun _ h9 => h9) rfl dX6_addOutage_73 ?_
        refine lv_iconst (v := 3) hx hb dX6_addOutage_76 (by decide) ?_
        refine lv_aload_n hx hb dX6_addOutage_77 rfl (lv_at hl 0 rfl) ?_
        refine wk_get (own := RX6) (C := RX6) (T := TX6) (N := 26) (ci := 7) (v := .int (nI (z_n (s2 σ 4 (z_n σ 3) a) 3))) hx hb hts i_X6 hown hK hA.obj rfl 8 (by decide) (hts _ (List.mem_of_getElem? (i := 3) rfl)) (fun _ h9 => h9) rfl dX6_addOutage_78 ?_
        refine wk_eqi (show _ = nI (z_n σ 3) from rfl) ?_
        refine lv_imul hx hb dX6_addOutage_81 ?_
        refine wk_eqi (show 3 * (nI (z_n σ 3)) = nI (3 * (z_n σ 3)) from pk_mul 3 (z_n σ 3)) ?_
        refine lv_iconst (v := 1) hx hb dX6_addOutage_82 (by decide) ?_
        refine lv_iadd hx hb dX6_addOutage_83 ?_
        refine wk_eqi (show (nI (3 * (z_n σ 3))) + 1 = nI ((3 * (z_n σ 3)) + 1) from nI_add (3 * (z_n σ 3)) 1) ?_
        refine lv_iload_n hx hb dX6_addOutage_84 rfl (lv_at hl 2 rfl) ?_
        refine wk_iast (nn := 18) hx hb hK hA.a4 (Or.inl (hA.tagA (k := 4) rfl)) hS (3 * z_n σ 3 + 1) rfl (by omega) (by decide) dX6_addOutage_85 (fun H locs hP9 hz9 hk9 hS => ?_)
        have hA := hA.setO1 (j := z_n σ 3) (v := x) hP9 hk9
        refine lv_aload_n hx hb dX6_addOutage_86 rfl (lv_at hl 0 rfl) ?_
        refine wk_get (own := RX6) (C := RX6) (T := TX6) (N := 26) (ci := 7) (v := .ref (Y 11 4)) hx hb hts i_X6 hown hK hA.obj rfl 9 (by decide) (hts _ (List.mem_of_getElem? (i := 4) rfl)) (fun _ h9 => h9) rfl dX6_addOutage_87 ?_
        refine lv_iconst (v := 3) hx hb dX6_addOutage_90 (by decide) ?_
        refine lv_aload_n hx hb dX6_addOutage_91 rfl (lv_at hl 0 rfl) ?_
        refine wk_get (own := RX6) (C := RX6) (T := TX6) (N := 26) (ci := 7) (v := .int (nI (z_n (s1 (s2 σ 4 (z_n σ 3) a) 40 (z_n σ 3) x) 3))) hx hb hts i_X6 hown hK hA.obj rfl 8 (by decide) (hts _ (List.mem_of_getElem? (i := 3) rfl)) (fun _ h9 => h9) rfl dX6_addOutage_92 ?_
        refine wk_eqi (show _ = nI (z_n σ 3) from rfl) ?_
        refine lv_imul hx hb dX6_addOutage_95 ?_
        refine wk_eqi (show 3 * (nI (z_n σ 3)) = nI (3 * (z_n σ 3)) from pk_mul 3 (z_n σ 3)) ?_
        refine lv_iconst (v := 2) hx hb dX6_addOutage_96 (by decide) ?_
        refine lv_iadd hx hb dX6_addOutage_97 ?_
        refine wk_eqi (show (nI (3 * (z_n σ 3))) + 2 = nI ((3 * (z_n σ 3)) + 2) from nI_add (3 * (z_n σ 3)) 2) ?_
        refine lv_iload_n hx hb dX6_addOutage_98 rfl (lv_at hl 3 rfl) ?_
        refine wk_iast (nn := 18) hx hb hK hA.a4 (Or.inl (hA.tagA (k := 4) rfl)) hS (3 * z_n σ 3 + 2) rfl (by omega) (by decide) dX6_addOutage_99 (fun H locs hP9 hz9 hk9 hS => ?_)
        have hA := hA.setO2 (j := z_n σ 3) (v := y) hP9 hk9
        have hA : MA E T Y (f_outP σ a x y) 0 gt H := hA
        have hI9 : z_Ok (f_outP σ a x y) := hI.outP hn ha hsp
        have ho5 : z_oA (f_outP σ a x y) (z_n σ 3) < 5 := by rw [f_outP_a]; omega
        refine lv_iconst (v := 0) hx hb dX6_addOutage_100 (by decide) ?_
        refine lv_istore (lv' := [(4, .int 0), (0, .ref (Y 10 0)), (1, .int (nI a)), (2, .int x), (3, .int y)]) hx hb dX6_addOutage_101 hl (by decide) rfl (fun ls hl => ?_)
        refine lv_iconst (v := 0) hx hb dX6_addOutage_103 (by decide) ?_
        refine lv_istore (lv' := [(5, .int 0), (4, .int 0), (0, .ref (Y 10 0)), (1, .int (nI a)), (2, .int x), (3, .int y)]) hx hb dX6_addOutage_104 hl (by decide) rfl (fun ls hl => ?_)
        have L_106 : ∀ (n_106 : Nat) (k : Nat), z_n σ 2 - k < n_106 → (k ≤ z_n σ 2) → ∀ ls : Array Slot, lv_has ls 6 [(0, .ref (Y 10 0)), (1, .int (nI a)), (2, .int x), (3, .int y), (4, .int (f_cnt (fun k => decide (z_pA σ k = a) && (z_tk σ k && (decide (x < z_pe σ k) && decide (z_pb σ k < y)))) k)), (5, .int (nI k))] → W p l e (headSpec wsX6_addOutage rme_X6_addOutage).room s m ([.ref (Y 10 0), .int (nI a), .int x, .int y] : List Value).toArray below meth c H locs 0 0 (MQ below (fun _ _ oc t => (∃ v, oc = .returned v ∧ (fun v H1 => v = some (.int (f_cntOut σ a x y)) ∧ MA E T Y (f_addO σ a x y) 0 gt H1) v t.heap) ∧ s.heap.size ≤ t.heap.size ∧ ∀ q : Nat, q < s.heap.size → ¬ (z_FM T) q → t.heap[q]? = s.heap[q]?) ([.ref (Y 10 0), .int (nI a), .int x, .int y] : List Value).toArray s 0 0 (fun q => (z_FM T) q ∨ s.heap.size ≤ q)) (F0 m 106 ls []) := by
          intro n_106
          induction n_106 with
          | zero => intro k hm; exact absurd hm (Nat.not_lt_zero _)
          | succ n_106 ih_106 =>
            intro k hm_106 hk_k ls hl
            refine lv_iload hx hb dX6_addOutage_106 (lv_at hl 5 rfl) ?_
            refine lv_aload_n hx hb dX6_addOutage_108 rfl (lv_at hl 0 rfl) ?_
            refine wk_get (own := RX6) (C := RX6) (T := TX6) (N := 26) (ci := 7) (v := .int (nI (z_n σ 2))) hx hb hts i_X6 hown hK hA.obj rfl 18 (by decide) (hts _ (List.mem_of_getElem? (i := 5) rfl)) (fun _ h9 => h9) rfl dX6_addOutage_109 ?_
            refine wk_eqi (show _ = nI (z_n σ 2) from rfl) ?_
            refine lv_icmp_ge (tgt := 156) hx hb dX6_addOutage_112 (by decide) (fun c_112 => ?_) (fun c_112 => ?_)
            · skip
              have e_112 : (z_n σ 2) ≤ k := wk_cget (by omega) (by omega) c_112
              have hkN : k = z_n σ 2 := by omega
              refine lv_aload_n hx hb dX6_addOutage_156 rfl (lv_at hl 0 rfl) ?_
              refine lv_dup hx hb dX6_addOutage_157 rfl ?_
              refine wk_get (own := RX6) (C := RX6) (T := TX6) (N := 26) (ci := 7) (v := .int (nI (z_n σ 3))) hx hb hts i_X6 hown hK hA.obj rfl 8 (by decide) (hts _ (List.mem_of_getElem? (i := 3) rfl)) (fun _ h9 => h9) rfl dX6_addOutage_158 ?_
              refine wk_eqi (show _ = nI (z_n σ 3) from rfl) ?_
              refine lv_iconst (v := 1) hx hb dX6_addOutage_161 (by decide) ?_
              refine lv_iadd hx hb dX6_addOutage_162 ?_
              refine wk_eqi (show (nI (z_n σ 3)) + 1 = nI ((z_n σ 3) + 1) from nI_add (z_n σ 3) 1) ?_
              refine wk_put (own := RX6) (C := RX6) (T := TX6) (N := 26) (ci := 7) (v := .int (nI ((z_n σ 3) + 1))) hx hb hts i_X6 tyX6 tyX6_ok nmX6 hown hK hA.obj (Or.inl hA.tagO) hS rfl 8 (by decide) (hts _ (List.mem_of_getElem? (i := 3) rfl)) (fun _ h9 => h9) rfl (tyX6_ok 8 (by decide)) rfl rfl (Nat.le_of_ble_eq_true rfl) dX6_addOutage_163 (fun H locs hP9 hz9 hk9 hS => ?_)
              have hA := hA.setN3 (v := ((z_n σ 3) + 1)) hP9 hk9
              refine lv_iload hx hb dX6_addOutage_166 (lv_at hl 4 rfl) ?_
              exact W.iret hx hb hr (we_end (Rt := fun v H1 => v = some (.int (f_cntOut σ a x y)) ∧ MA E T Y (f_addO σ a x y) 0 gt H1) (F := z_FM T) (⟨by rw [hkN]; rfl, hA⟩) hS) hS.2.2 dX6_addOutage_168
            have e_112 : k < (z_n σ 2) := wk_cgef (by omega) (by omega) c_112
            refine lv_iload hx hb dX6_addOutage_115 (lv_at hl 4 rfl) ?_
            refine lv_aload_n hx hb dX6_addOutage_117 rfl (lv_at hl 0 rfl) ?_
            refine wk_get (own := RX6) (C := RX6) (T := TX6) (N := 26) (ci := 7) (v := .int (nI (z_mk σ))) hx hb hts i_X6 hown hK hA.obj rfl 24 (by decide) (hts _ (List.mem_of_getElem? (i := 6) rfl)) (fun _ h9 => h9) rfl dX6_addOutage_118 ?_
            refine wk_eqi (show _ = nI (z_mk σ) from rfl) ?_
            refine lv_iload hx hb dX6_addOutage_121 (lv_at hl 5 rfl) ?_
            refine wk_S (As := [.int (nI (z_mk σ)), .int (nI k)]) (rest := [.int (f_cnt (fun k => decide (z_pA σ k = a) && (z_tk σ k && (decide (x < z_pe σ k) && decide (z_pb σ k < y)))) k)]) ⟨hx, hb, hml, hown, hts⟩ (c_X6_has l E (mm := z_mk σ) (k := k) (z_mklt hI) (by omega)) (va_cwS 2 hts gX6_addOutage_X6_has rfl rfl rfl (by decide +kernel) ⟨(Nat.le_of_ble_eq_true rfl), (Nat.le_of_ble_eq_true rfl)⟩) hK rfl hl.1 rfl (Nat.le_of_ble_eq_true rfl) dX6_addOutage_123 ⟨Nat.zero_le _, Nat.zero_le _⟩ ?_
            refine lv_if_eq (tgt := 146) hx hb dX6_addOutage_126 (by decide) (fun c_126 => ?_) (fun c_126 => ?_)
            · skip
              have e_126 : (z_tk σ k) = false := wk_b0 c_126
              refine lv_iconst (v := 0) hx hb dX6_addOutage_146 (by decide) ?_
              refine lv_iadd hx hb dX6_addOutage_147 ?_
              refine lv_istore (lv' := [(4, .int ((f_cnt (fun k => decide (z_pA σ k = a) && (z_tk σ k && (decide (x < z_pe σ k) && decide (z_pb σ k < y)))) k) + 0)), (0, .ref (Y 10 0)), (1, .int (nI a)), (2, .int x), (3, .int y), (5, .int (nI k))]) hx hb dX6_addOutage_148 hl (by decide) rfl (fun ls hl => ?_)
              refine lv_iinc (v := nI (k + 1)) (lv' := [(5, .int (nI (k + 1))), (4, .int ((f_cnt (fun k => decide (z_pA σ k = a) && (z_tk σ k && (decide (x < z_pe σ k) && decide (z_pb σ k < y)))) k) + 0)), (0, .ref (Y 10 0)), (1, .int (nI a)), (2, .int x), (3, .int y)]) hx hb dX6_addOutage_150 hl (k := 5) rfl (nI_1 _) (by decide) rfl (fun ls hl => ?_)
              refine lv_goto (tgt := 106) hx hb dX6_addOutage_153 (by decide) ?_
              have hl : lv_has ls 6 [(5, .int (nI (k + 1))), (4, .int (f_cnt (fun k => decide (z_pA σ k = a) && (z_tk σ k && (decide (x < z_pe σ k) && decide (z_pb σ k < y)))) (k + 1))), (0, .ref (Y 10 0)), (1, .int (nI a)), (2, .int x), (3, .int y)] := by rw [show f_cnt (fun k => decide (z_pA σ k = a) && (z_tk σ k && (decide (x < z_pe σ k) && decide (z_pb σ k < y)))) (k + 1) = (f_cnt (fun k => decide (z_pA σ k = a) && (z_tk σ k && (decide (x < z_pe σ k) && decide (z_pb σ k < y)))) k) + 0 from (by rw [f_cntS, ← f_outP_m]; simp [e_126])]; exact hl
              exact ih_106 (k + 1) (by omega) (by omega) ls (lv_sub hl [2, 3, 4, 5, 1, 0] rfl)
            have e_126 : (z_tk σ k) = true := wk_b1 c_126
            refine lv_aload_n hx hb dX6_addOutage_129 rfl (lv_at hl 0 rfl) ?_
            refine lv_aload_n hx hb dX6_addOutage_130 rfl (lv_at hl 0 rfl) ?_
            refine wk_get (own := RX6) (C := RX6) (T := TX6) (N := 26) (ci := 7) (v := .int (nI (z_n σ 3))) hx hb hts i_X6 hown hK hA.obj rfl 8 (by decide) (hts _ (List.mem_of_getElem? (i := 3) rfl)) (fun _ h9 => h9) rfl dX6_addOutage_131 ?_
            refine wk_eqi (show _ = nI (z_n σ 3) from rfl) ?_
            refine lv_iload hx hb dX6_addOutage_134 (lv_at hl 5 rfl) ?_
            refine wk_V (As := [.int (nI (z_n σ 3)), .int (nI k)]) (rest := [.int (f_cnt (fun k => decide (z_pA σ k = a) && (z_tk σ k && (decide (x < z_pe σ k) && decide (z_pb σ k < y)))) k)]) ⟨hx, hb, hml, hown, hts⟩ (c2_X6_isOutIn l E hA hI9 (k := z_n σ 3) hn ho5 (i := k) e_112) (cwV 2 hts gX6_addOutage_X6_isOutIn rfl rfl rfl (by decide +kernel) ⟨(Nat.le_of_ble_eq_true rfl), (Nat.le_of_ble_eq_true rfl)⟩) (wk_recv hK hA.obj rfl) hK rfl hl.1 rfl (Nat.le_of_ble_eq_true rfl) dX6_addOutage_136 ⟨Nat.zero_le _, Nat.zero_le _⟩ ?_
            refine lv_if_eq (tgt := 146) hx hb dX6_addOutage_139 (by decide) (fun c_139 => ?_) (fun c_139 => ?_)
            · skip
              have e_139 : (decide (z_oA (f_outP σ a x y) (z_n σ 3) = z_pA σ k) && f_meets (f_outP σ a x y) (z_n σ 3) (z_pb σ k) (z_pe σ k)) = false := wk_b0 c_139
              refine lv_iconst (v := 0) hx hb dX6_addOutage_146 (by decide) ?_
              refine lv_iadd hx hb dX6_addOutage_147 ?_
              refine lv_istore (lv' := [(4, .int ((f_cnt (fun k => decide (z_pA σ k = a) && (z_tk σ k && (decide (x < z_pe σ k) && decide (z_pb σ k < y)))) k) + 0)), (0, .ref (Y 10 0)), (1, .int (nI a)), (2, .int x), (3, .int y), (5, .int (nI k))]) hx hb dX6_addOutage_148 hl (by decide) rfl (fun ls hl => ?_)
              refine lv_iinc (v := nI (k + 1)) (lv' := [(5, .int (nI (k + 1))), (4, .int ((f_cnt (fun k => decide (z_pA σ k = a) && (z_tk σ k && (decide (x < z_pe σ k) && decide (z_pb σ k < y)))) k) + 0)), (0, .ref (Y 10 0)), (1, .int (nI a)), (2, .int x), (3, .int y)]) hx hb dX6_addOutage_150 hl (k := 5) rfl (nI_1 _) (by decide) rfl (fun ls hl => ?_)
              refine lv_goto (tgt := 106) hx hb dX6_addOutage_153 (by decide) ?_
              have hl : lv_has ls 6 [(5, .int (nI (k + 1))), (4, .int (f_cnt (fun k => decide (z_pA σ k = a) && (z_tk σ k && (decide (x < z_pe σ k) && decide (z_pb σ k < y)))) (k + 1))), (0, .ref (Y 10 0)), (1, .int (nI a)), (2, .int x), (3, .int y)] := by rw [show f_cnt (fun k => decide (z_pA σ k = a) && (z_tk σ k && (decide (x < z_pe σ k) && decide (z_pb σ k < y)))) (k + 1) = (f_cnt (fun k => decide (z_pA σ k = a) && (z_tk σ k && (decide (x < z_pe σ k) && decide (z_pb σ k < y)))) k) + 0 from (by rw [f_cntS, ← f_outP_m]; simp [e_126, e_139])]; exact hl
              exact ih_106 (k + 1) (by omega) (by omega) ls (lv_sub hl [2, 3, 4, 5, 1, 0] rfl)
            have e_139 : (decide (z_oA (f_outP σ a x y) (z_n σ 3) = z_pA σ k) && f_meets (f_outP σ a x y) (z_n σ 3) (z_pb σ k) (z_pe σ k)) = true := wk_b1 c_139
            refine lv_iconst (v := 1) hx hb dX6_addOutage_142 (by decide) ?_
            refine lv_goto (tgt := 147) hx hb dX6_addOutage_143 (by decide) ?_
            refine lv_iadd hx hb dX6_addOutage_147 ?_
            refine lv_istore (lv' := [(4, .int ((f_cnt (fun k => decide (z_pA σ k = a) && (z_tk σ k && (decide (x < z_pe σ k) && decide (z_pb σ k < y)))) k) + 1)), (0, .ref (Y 10 0)), (1, .int (nI a)), (2, .int x), (3, .int y), (5, .int (nI k))]) hx hb dX6_addOutage_148 hl (by decide) rfl (fun ls hl => ?_)
            refine lv_iinc (v := nI (k + 1)) (lv' := [(5, .int (nI (k + 1))), (4, .int ((f_cnt (fun k => decide (z_pA σ k = a) && (z_tk σ k && (decide (x < z_pe σ k) && decide (z_pb σ k < y)))) k) + 1)), (0, .ref (Y 10 0)), (1, .int (nI a)), (2, .int x), (3, .int y)]) hx hb dX6_addOutage_150 hl (k := 5) rfl (nI_1 _) (by decide) rfl (fun ls hl => ?_)
            refine lv_goto (tgt := 106) hx hb dX6_addOutage_153 (by decide) ?_
            have hl : lv_has ls 6 [(5, .int (nI (k + 1))), (4, .int (f_cnt (fun k => decide (z_pA σ k = a) && (z_tk σ k && (decide (x < z_pe σ k) && decide (z_pb σ k < y)))) (k + 1))), (0, .ref (Y 10 0)), (1, .int (nI a)), (2, .int x), (3, .int y)] := by rw [show f_cnt (fun k => decide (z_pA σ k = a) && (z_tk σ k && (decide (x < z_pe σ k) && decide (z_pb σ k < y)))) (k + 1) = (f_cnt (fun k => decide (z_pA σ k = a) && (z_tk σ k && (decide (x < z_pe σ k) && decide (z_pb σ k < y)))) k) + 1 from (by rw [f_cntS, ← f_outP_m]; simp [e_126, e_139])]; exact hl
            exact ih_106 (k + 1) (by omega) (by omega) ls (lv_sub hl [2, 3, 4, 5, 1, 0] rfl)
        exact L_106 _ 0 (Nat.lt_succ_self _) (Nat.zero_le _) ls (lv_sub hl [2, 3, 4, 5, 1, 0] rfl)
      have e_51 : (z_n σ 3) = 6 := wk_cnef (by omega) (by omega) c_51
      omega
    have d_36 := Int32.not_le.mp c_36
    exact absurd (v_spanU hsp).2.2 c_36
  have e_10 : (v_ix (nI a) (z_n σ 0)) = false := wk_b0 c_10
  exact absurd (e_10.symm.trans (v_ix_nI ha (by omega))) (by decide)
