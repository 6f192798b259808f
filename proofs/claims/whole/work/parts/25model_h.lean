abbrev rmf3_X6_addPass : Room := { frames := 2, cells := 0, slots := 0, locals := 43 }
set_option maxHeartbeats 4000000 in
set_option maxRecDepth 100000 in
theorem f3_X6_addPass (l : Launch) (E : wk_E) {T : Nat → Nat × Nat} {Y : Nat → Nat → Nat} {σ : z_S} {th : Int32} {gt : Int64} {H : Heap} (hA : MA E T Y σ th gt H) (hI : z_Ok σ) {i a : Nat} {x y : Int32} (hi : i < z_n σ 1) (ha : a < z_n σ 0) (hbad : v_span σ x y = false) : we_Met l yX6_addPass wsX6_addPass rmf3_X6_addPass E H [.ref (Y 10 0), .int (nI i), .int (nI a), .int x, .int y] (z_FM T) 0 0 (fun v H1 => v = some (.int (0)) ∧ MA E T Y σ 2 gt H1) := by
  refine Met.ofW (cc := cX6_addPass) (maxL := 5) (ret := (some .int)) (by decide) rfl ?_
  intro p e s m args below meth c s₁ B hml hv
  obtain ⟨rfl, hH, hV⟩ := hv
  subst hH
  have hK := hV.k
  have hx := B.exec
  have hb := B.bytes
  have hr := B.returns
  have hts := atoms_spec (ws := wsX6_addPass) B.pre
  have hown : s.vm.findClass RX6 = some m.cls := findClass_of_methodNamed B.named
  have hlocks := B.notSynchronized
  have hS : va_S (fun q => (z_FM T) q ∨ s.heap.size ≤ q) s.heap s.heap [] := va_S.rf
  have hA9 : ∀ q : Nat, s.heap.size ≤ q → ((z_FM T) q ∨ s.heap.size ≤ q) := fun _ h => Or.inr h
  have hbA : ∀ q : Nat, q < E.2.2.1 → ¬ ((z_FM T) q ∨ s.heap.size ≤ q) := fun q hq z => z.elim (z_FMb hA.2 hq) (fun z => absurd (Nat.lt_of_lt_of_le hq hV.2.2.2.2.2.2) (Nat.not_lt.mpr z))
  have i_X6 : ∀ w ∈ u_ws RX6 TX6 26, w ∈ wsX6_addPass := fun w h => (List.mem_cons_of_mem _ (List.mem_append_right _ h))
  have hl := lv_entry [.ref (Y 10 0), .int (nI i), .int (nI a), .int x, .int y] (n := 5) (Nat.le_of_ble_eq_true rfl)
  rw [lg_entry_eq]
  generalize (lg_sl [.ref (Y 10 0), .int (nI i), .int (nI a), .int x, .int y] ++ List.replicate (5 - (lg_sl [.ref (Y 10 0), .int (nI i), .int (nI a), .int x, .int y]).length) Slot.unset).toArray = ls at hl ⊢
  have hl : lv_has ls 5 [(0, .ref (Y 10 0)), (1, .int (nI i)), (2, .int (nI a)), (3, .int x), (4, .int y)] := hl
  have b0 := hI.n0
  have b1 := hI.n1
  have b2 := hI.n2
  have b3 := hI.n3
  refine lv_aload_n hx hb dX6_addPass_0 rfl (lv_at hl 0 rfl) ?_
  refine lv_iconst (v := 0) hx hb dX6_addPass_1 (by decide) ?_
  refine wk_put (own := RX6) (C := RX6) (T := TX6) (N := 26) (ci := 7) (v := .int 0) hx hb hts i_X6 tyX6 tyX6_ok nmX6 hown hK hA.obj (Or.inl hA.tagO) hS rfl 0 (by decide) (hts _ (List.mem_of_getElem? (i := 1) rfl)) (fun _ h9 => h9) rfl (tyX6_ok 0 (by decide)) rfl rfl (Nat.le_of_ble_eq_true rfl) dX6_addPass_2 (fun H locs hP9 hz9 hk9 hS => ?_)
  have hA := hA.setTh hP9 hk9
  refine lv_aload_n hx hb dX6_addPass_5 rfl (lv_at hl 0 rfl) ?_
  refine lv_iload_n hx hb dX6_addPass_6 rfl (lv_at hl 1 rfl) ?_
  refine wk_V (As := [.int (nI i)]) (rest := []) ⟨hx, hb, hml, hown, hts⟩ (c_X6_isSatellite l E hA hI (x := nI i)) (cwV 1 hts gX6_addPass_X6_isSatellite rfl rfl rfl (by decide +kernel) ⟨(Nat.le_of_ble_eq_true rfl), (Nat.le_of_ble_eq_true rfl)⟩) (wk_recv hK hA.obj rfl) hK rfl hl.1 rfl (Nat.le_of_ble_eq_true rfl) dX6_addPass_7 ⟨Nat.zero_le _, Nat.zero_le _⟩ ?_
  refine lv_if_eq (tgt := 21) hx hb dX6_addPass_10 (by decide) (fun c_10 => ?_) (fun c_10 => ?_)
  · skip
    have e_10 : (v_ix (nI i) (z_n σ 1)) = false := wk_b0 c_10
    exact absurd (e_10.symm.trans (v_ix_nI hi (by omega))) (by decide)
  have e_10 : (v_ix (nI i) (z_n σ 1)) = true := wk_b1 c_10
  refine lv_aload_n hx hb dX6_addPass_13 rfl (lv_at hl 0 rfl) ?_
  refine lv_iload_n hx hb dX6_addPass_14 rfl (lv_at hl 2 rfl) ?_
  refine wk_V (As := [.int (nI a)]) (rest := []) ⟨hx, hb, hml, hown, hts⟩ (c_X6_isAntenna l E hA hI (x := nI a)) (cwV 1 hts gX6_addPass_X6_isAntenna rfl rfl rfl (by decide +kernel) ⟨(Nat.le_of_ble_eq_true rfl), (Nat.le_of_ble_eq_true rfl)⟩) (wk_recv hK hA.obj rfl) hK rfl hl.1 rfl (Nat.le_of_ble_eq_true rfl) dX6_addPass_15 ⟨Nat.zero_le _, Nat.zero_le _⟩ ?_
  refine lv_if_ne (tgt := 27) hx hb dX6_addPass_18 (by decide) (fun c_18 => ?_) (fun c_18 => ?_)
  · skip
    have e_18 : (v_ix (nI a) (z_n σ 0)) = true := wk_b1 c_18
    refine lv_iload_n hx hb dX6_addPass_27 rfl (lv_at hl 3 rfl) ?_
    refine lv_aload_n hx hb dX6_addPass_28 rfl (lv_at hl 0 rfl) ?_
    refine wk_get (own := RX6) (C := RX6) (T := TX6) (N := 26) (ci := 7) (v := .int (z_now σ)) hx hb hts i_X6 hown hK hA.obj rfl 1 (by decide) (hts _ (List.mem_of_getElem? (i := 2) rfl)) (fun _ h9 => h9) rfl dX6_addPass_29 ?_
    refine lv_icmp_lt (tgt := 77) hx hb dX6_addPass_32 (by decide) (fun c_32 => ?_) (fun c_32 => ?_)
    · skip
      have d_32 := Int32.not_le.mpr c_32
      refine lv_aload_n hx hb dX6_addPass_77 rfl (lv_at hl 0 rfl) ?_
      refine lv_iconst (v := 2) hx hb dX6_addPass_78 (by decide) ?_
      refine we_V (As := [.int 2]) (rest := []) ⟨hx, hb, hml, hown, hts⟩ (e_X6_fail l E hA hI) (cwV 1 hts gX6_addPass_X6_fail rfl rfl rfl (by decide +kernel) ⟨(Nat.le_of_ble_eq_true rfl), (Nat.le_of_ble_eq_true rfl)⟩) (wk_recv hK hA.obj rfl) (hV.heap hS.1 (fun q hq => hS.2.1 q (Nat.lt_of_lt_of_le hq hV.2.2.2.2.2.2) (hbA q hq))) hS (fun _ h => Or.inl h) hA9 rfl hl.1 rfl (Nat.le_of_ble_eq_true rfl) dX6_addPass_79 ⟨Nat.zero_le _, Nat.zero_le _⟩ (fun v9 H locs hR9 hz9 hk9 hS => ?_)
      obtain ⟨rfl, hA⟩ := hR9
      refine wk_eqls (st' := [.int 0]) rfl ?_
      exact W.iret hx hb hr (we_end (Rt := fun v H1 => v = some (.int (0)) ∧ MA E T Y σ 2 gt H1) (F := z_FM T) (⟨rfl, hA⟩) hS) hS.2.2 dX6_addPass_82
    have d_32 := Int32.not_lt.mp c_32
    refine lv_iload hx hb dX6_addPass_35 (lv_at hl 4 rfl) ?_
    refine lv_iload_n hx hb dX6_addPass_37 rfl (lv_at hl 3 rfl) ?_
    refine lv_icmp_le (tgt := 77) hx hb dX6_addPass_38 (by decide) (fun c_38 => ?_) (fun c_38 => ?_)
    · skip
      have d_38 := Int32.not_lt.mpr c_38
      refine lv_aload_n hx hb dX6_addPass_77 rfl (lv_at hl 0 rfl) ?_
      refine lv_iconst (v := 2) hx hb dX6_addPass_78 (by decide) ?_
      refine we_V (As := [.int 2]) (rest := []) ⟨hx, hb, hml, hown, hts⟩ (e_X6_fail l E hA hI) (cwV 1 hts gX6_addPass_X6_fail rfl rfl rfl (by decide +kernel) ⟨(Nat.le_of_ble_eq_true rfl), (Nat.le_of_ble_eq_true rfl)⟩) (wk_recv hK hA.obj rfl) (hV.heap hS.1 (fun q hq => hS.2.1 q (Nat.lt_of_lt_of_le hq hV.2.2.2.2.2.2) (hbA q hq))) hS (fun _ h => Or.inl h) hA9 rfl hl.1 rfl (Nat.le_of_ble_eq_true rfl) dX6_addPass_79 ⟨Nat.zero_le _, Nat.zero_le _⟩ (fun v9 H locs hR9 hz9 hk9 hS => ?_)
      obtain ⟨rfl, hA⟩ := hR9
      refine wk_eqls (st' := [.int 0]) rfl ?_
      exact W.iret hx hb hr (we_end (Rt := fun v H1 => v = some (.int (0)) ∧ MA E T Y σ 2 gt H1) (F := z_FM T) (⟨rfl, hA⟩) hS) hS.2.2 dX6_addPass_82
    have d_38 := Int32.not_le.mp c_38
    refine lv_iload hx hb dX6_addPass_41 (lv_at hl 4 rfl) ?_
    refine lv_sipush (v := 9999) hx hb dX6_addPass_43 (by decide) ?_
    refine lv_icmp_gt (tgt := 77) hx hb dX6_addPass_46 (by decide) (fun c_46 => ?_) (fun c_46 => ?_)
    · skip
      have d_46 := Int32.not_le.mpr c_46
      refine lv_aload_n hx hb dX6_addPass_77 rfl (lv_at hl 0 rfl) ?_
      refine lv_iconst (v := 2) hx hb dX6_addPass_78 (by decide) ?_
      refine we_V (As := [.int 2]) (rest := []) ⟨hx, hb, hml, hown, hts⟩ (e_X6_fail l E hA hI) (cwV 1 hts gX6_addPass_X6_fail rfl rfl rfl (by decide +kernel) ⟨(Nat.le_of_ble_eq_true rfl), (Nat.le_of_ble_eq_true rfl)⟩) (wk_recv hK hA.obj rfl) (hV.heap hS.1 (fun q hq => hS.2.1 q (Nat.lt_of_lt_of_le hq hV.2.2.2.2.2.2) (hbA q hq))) hS (fun _ h => Or.inl h) hA9 rfl hl.1 rfl (Nat.le_of_ble_eq_true rfl) dX6_addPass_79 ⟨Nat.zero_le _, Nat.zero_le _⟩ (fun v9 H locs hR9 hz9 hk9 hS => ?_)
      obtain ⟨rfl, hA⟩ := hR9
      refine wk_eqls (st' := [.int 0]) rfl ?_
      exact W.iret hx hb hr (we_end (Rt := fun v H1 => v = some (.int (0)) ∧ MA E T Y σ 2 gt H1) (F := z_FM T) (⟨rfl, hA⟩) hS) hS.2.2 dX6_addPass_82
    have d_46 := Int32.not_lt.mp c_46
    exact absurd hbad (v_spanT c_32 c_38 c_46)
  have e_18 : (v_ix (nI a) (z_n σ 0)) = false := wk_b0 c_18
  exact absurd (e_18.symm.trans (v_ix_nI ha (by omega))) (by decide)

abbrev rmf4_X6_addPass : Room := { frames := 2, cells := 0, slots := 0, locals := 43 }
set_option maxHeartbeats 4000000 in
set_option maxRecDepth 100000 in
theorem f4_X6_addPass (l : Launch) (E : wk_E) {T : Nat → Nat × Nat} {Y : Nat → Nat → Nat} {σ : z_S} {th : Int32} {gt : Int64} {H : Heap} (hA : MA E T Y σ th gt H) (hI : z_Ok σ) {i a : Nat} {x y : Int32} (hi : i < z_n σ 1) (ha : a < z_n σ 0) (hsp : v_span σ x y = true) (hbad : ¬ y - x ≤ 600) : we_Met l yX6_addPass wsX6_addPass rmf4_X6_addPass E H [.ref (Y 10 0), .int (nI i), .int (nI a), .int x, .int y] (z_FM T) 0 0 (fun v H1 => v = some (.int (0)) ∧ MA E T Y σ 2 gt H1) := by
  refine Met.ofW (cc := cX6_addPass) (maxL := 5) (ret := (some .int)) (by decide) rfl ?_
  intro p e s m args below meth c s₁ B hml hv
  obtain ⟨rfl, hH, hV⟩ := hv
  subst hH
  have hK := hV.k
  have hx := B.exec
  have hb := B.bytes
  have hr := B.returns
  have hts := atoms_spec (ws := wsX6_addPass) B.pre
  have hown : s.vm.findClass RX6 = some m.cls := findClass_of_methodNamed B.named
  have hlocks := B.notSynchronized
  have hS : va_S (fun q => (z_FM T) q ∨ s.heap.size ≤ q) s.heap s.heap [] := va_S.rf
  have hA9 : ∀ q : Nat, s.heap.size ≤ q → ((z_FM T) q ∨ s.heap.size ≤ q) := fun _ h => Or.inr h
  have hbA : ∀ q : Nat, q < E.2.2.1 → ¬ ((z_FM T) q ∨ s.heap.size ≤ q) := fun q hq z => z.elim (z_FMb hA.2 hq) (fun z => absurd (Nat.lt_of_lt_of_le hq hV.2.2.2.2.2.2) (Nat.not_lt.mpr z))
  have i_X6 : ∀ w ∈ u_ws RX6 TX6 26, w ∈ wsX6_addPass := fun w h => (List.mem_cons_of_mem _ (List.mem_append_right _ h))
  have hl := lv_entry [.ref (Y 10 0), .int (nI i), .int (nI a), .int x, .int y] (n := 5) (Nat.le_of_ble_eq_true rfl)
  rw [lg_entry_eq]
  generalize (lg_sl [.ref (Y 10 0), .int (nI i), .int (nI a), .int x, .int y] ++ List.replicate (5 - (lg_sl [.ref (Y 10 0), .int (nI i), .int (nI a), .int x, .int y]).length) Slot.unset).toArray = ls at hl ⊢
  have hl : lv_has ls 5 [(0, .ref (Y 10 0)), (1, .int (nI i)), (2, .int (nI a)), (3, .int x), (4, .int y)] := hl
  have b0 := hI.n0
  have b1 := hI.n1
  have b2 := hI.n2
  have b3 := hI.n3
  refine lv_aload_n hx hb dX6_addPass_0 rfl (lv_at hl 0 rfl) ?_
  refine lv_iconst (v := 0) hx hb dX6_addPass_1 (by decide) ?_
  refine wk_put (own := RX6) (C := RX6) (T := TX6) (N := 26) (ci := 7) (v := .int 0) hx hb hts i_X6 tyX6 tyX6_ok nmX6 hown hK hA.obj (Or.inl hA.tagO) hS rfl 0 (by decide) (hts _ (List.mem_of_getElem? (i := 1) rfl)) (fun _ h9 => h9) rfl (tyX6_ok 0 (by decide)) rfl rfl (Nat.le_of_ble_eq_true rfl) dX6_addPass_2 (fun H locs hP9 hz9 hk9 hS => ?_)
  have hA := hA.setTh hP9 hk9
  refine lv_aload_n hx hb dX6_addPass_5 rfl (lv_at hl 0 rfl) ?_
  refine lv_iload_n hx hb dX6_addPass_6 rfl (lv_at hl 1 rfl) ?_
  refine wk_V (As := [.int (nI i)]) (rest := []) ⟨hx, hb, hml, hown, hts⟩ (c_X6_isSatellite l E hA hI (x := nI i)) (cwV 1 hts gX6_addPass_X6_isSatellite rfl rfl rfl (by decide +kernel) ⟨(Nat.le_of_ble_eq_true rfl), (Nat.le_of_ble_eq_true rfl)⟩) (wk_recv hK hA.obj rfl) hK rfl hl.1 rfl (Nat.le_of_ble_eq_true rfl) dX6_addPass_7 ⟨Nat.zero_le _, Nat.zero_le _⟩ ?_
  refine lv_if_eq (tgt := 21) hx hb dX6_addPass_10 (by decide) (fun c_10 => ?_) (fun c_10 => ?_)
  · skip
    have e_10 : (v_ix (nI i) (z_n σ 1)) = false := wk_b0 c_10
    exact absurd (e_10.symm.trans (v_ix_nI hi (by omega))) (by decide)
  have e_10 : (v_ix (nI i) (z_n σ 1)) = true := wk_b1 c_10
  refine lv_aload_n hx hb dX6_addPass_13 rfl (lv_at hl 0 rfl) ?_
  refine lv_iload_n hx hb dX6_addPass_14 rfl (lv_at hl 2 rfl) ?_
  refine wk_V (As := [.int (nI a)]) (rest := []) ⟨hx, hb, hml, hown, hts⟩ (c_X6_isAntenna l E hA hI (x := nI a)) (cwV 1 hts gX6_addPass_X6_isAntenna rfl rfl rfl (by decide +kernel) ⟨(Nat.le_of_ble_eq_true rfl), (Nat.le_of_ble_eq_true rfl)⟩) (wk_recv hK hA.obj rfl) hK rfl hl.1 rfl (Nat.le_of_ble_eq_true rfl) dX6_addPass_15 ⟨Nat.zero_le _, Nat.zero_le _⟩ ?_
  refine lv_if_ne (tgt := 27) hx hb dX6_addPass_18 (by decide) (fun c_18 => ?_) (fun c_18 => ?_)
  · skip
    have e_18 : (v_ix (nI a) (z_n σ 0)) = true := wk_b1 c_18
    refine lv_iload_n hx hb dX6_addPass_27 rfl (lv_at hl 3 rfl) ?_
    refine lv_aload_n hx hb dX6_addPass_28 rfl (lv_at hl 0 rfl) ?_
    refine wk_get (own := RX6) (C := RX6) (T := TX6) (N := 26) (ci := 7) (v := .int (z_now σ)) hx hb hts i_X6 hown hK hA.obj rfl 1 (by decide) (hts _ (List.mem_of_getElem? (i := 2) rfl)) (fun _ h9 => h9) rfl dX6_addPass_29 ?_
    refine lv_icmp_lt (tgt := 77) hx hb dX6_addPass_32 (by decide) (fun c_32 => ?_) (fun c_32 => ?_)
    · skip
      have d_32 := Int32.not_le.mpr c_32
      exact absurd c_32 (v_span1 hsp)
    have d_32 := Int32.not_lt.mp c_32
    refine lv_iload hx hb dX6_addPass_35 (lv_at hl 4 rfl) ?_
    refine lv_iload_n hx hb dX6_addPass_37 rfl (lv_at hl 3 rfl) ?_
    refine lv_icmp_le (tgt := 77) hx hb dX6_addPass_38 (by decide) (fun c_38 => ?_) (fun c_38 => ?_)
    · skip
      have d_38 := Int32.not_lt.mpr c_38
      exact absurd c_38 (v_span2 hsp)
    have d_38 := Int32.not_le.mp c_38
    refine lv_iload hx hb dX6_addPass_41 (lv_at hl 4 rfl) ?_
    refine lv_sipush (v := 9999) hx hb dX6_addPass_43 (by decide) ?_
    refine lv_icmp_gt (tgt := 77) hx hb dX6_addPass_46 (by decide) (fun c_46 => ?_) (fun c_46 => ?_)
    · skip
      have d_46 := Int32.not_le.mpr c_46
      exact absurd c_46 (v_span3 hsp)
    have d_46 := Int32.not_lt.mp c_46
    refine lv_iload hx hb dX6_addPass_49 (lv_at hl 4 rfl) ?_
    refine lv_iload_n hx hb dX6_addPass_51 rfl (lv_at hl 3 rfl) ?_
    refine lv_isub hx hb dX6_addPass_52 ?_
    refine lv_sipush (v := 600) hx hb dX6_addPass_53 (by decide) ?_
    refine lv_icmp_gt (tgt := 77) hx hb dX6_addPass_56 (by decide) (fun c_56 => ?_) (fun c_56 => ?_)
    · skip
      have d_56 := Int32.not_le.mpr c_56
      refine lv_aload_n hx hb dX6_addPass_77 rfl (lv_at hl 0 rfl) ?_
      refine lv_iconst (v := 2) hx hb dX6_addPass_78 (by decide) ?_
      refine we_V (As := [.int 2]) (rest := []) ⟨hx, hb, hml, hown, hts⟩ (e_X6_fail l E hA hI) (cwV 1 hts gX6_addPass_X6_fail rfl rfl rfl (by decide +kernel) ⟨(Nat.le_of_ble_eq_true rfl), (Nat.le_of_ble_eq_true rfl)⟩) (wk_recv hK hA.obj rfl) (hV.heap hS.1 (fun q hq => hS.2.1 q (Nat.lt_of_lt_of_le hq hV.2.2.2.2.2.2) (hbA q hq))) hS (fun _ h => Or.inl h) hA9 rfl hl.1 rfl (Nat.le_of_ble_eq_true rfl) dX6_addPass_79 ⟨Nat.zero_le _, Nat.zero_le _⟩ (fun v9 H locs hR9 hz9 hk9 hS => ?_)
      obtain ⟨rfl, hA⟩ := hR9
      refine wk_eqls (st' := [.int 0]) rfl ?_
      exact W.iret hx hb hr (we_end (Rt := fun v H1 => v = some (.int (0)) ∧ MA E T Y σ 2 gt H1) (F := z_FM T) (⟨rfl, hA⟩) hS) hS.2.2 dX6_addPass_82
    have d_56 := Int32.not_lt.mp c_56
    exact absurd (Int32.not_lt.mp c_56) hbad
  have e_18 : (v_ix (nI a) (z_n σ 0)) = false := wk_b0 c_18
  exact absurd (e_18.symm.trans (v_ix_nI ha (by omega))) (by decide)

abbrev rmf5_X6_addPass : Room := { frames := 2, cells := 0, slots := 0, locals := 43 }
set_option maxHeartbeats 4000000 in
set_option maxRecDepth 100000 in
theorem f5_X6_addPass (l : Launch) (E : wk_E) {T : Nat → Nat × Nat} {Y : Nat → Nat → Nat} {σ : z_S} {th : Int32} {gt : Int64} {H : Heap} (hA : MA E T Y σ th gt H) (hI : z_Ok σ) {i a : Nat} {x y : Int32} (hi : i < z_n σ 1) (ha : a < z_n σ 0) (hsp : v_span σ x y = true) (hlen : y - x ≤ 600) (hbad : f_hears σ a i = false) : we_Met l yX6_addPass wsX6_addPass rmf5_X6_addPass E H [.ref (Y 10 0), .int (nI i), .int (nI a), .int x, .int y] (z_FM T) 0 0 (fun v H1 => v = some (.int (0)) ∧ MA E T Y σ 2 gt H1) := by
  refine Met.ofW (cc := cX6_addPass) (maxL := 5) (ret := (some .int)) (by decide) rfl ?_
  intro p e s m args below meth c s₁ B hml hv
  obtain ⟨rfl, hH, hV⟩ := hv
  subst hH
  have hK := hV.k
  have hx := B.exec
  have hb := B.bytes
  have hr := B.returns
  have hts := atoms_spec (ws := wsX6_addPass) B.pre
  have hown : s.vm.findClass RX6 = some m.cls := findClass_of_methodNamed B.named
  have hlocks := B.notSynchronized
  have hS : va_S (fun q => (z_FM T) q ∨ s.heap.size ≤ q) s.heap s.heap [] := va_S.rf
  have hA9 : ∀ q : Nat, s.heap.size ≤ q → ((z_FM T) q ∨ s.heap.size ≤ q) := fun _ h => Or.inr h
  have hbA : ∀ q : Nat, q < E.2.2.1 → ¬ ((z_FM T) q ∨ s.heap.size ≤ q) := fun q hq z => z.elim (z_FMb hA.2 hq) (fun z => absurd (Nat.lt_of_lt_of_le hq hV.2.2.2.2.2.2) (Nat.not_lt.mpr z))
  have i_X6 : ∀ w ∈ u_ws RX6 TX6 26, w ∈ wsX6_addPass := fun w h => (List.mem_cons_of_mem _ (List.mem_append_right _ h))
  have hl := lv_entry [.ref (Y 10 0), .int (nI i), .int (nI a), .int x, .int y] (n := 5) (Nat.le_of_ble_eq_true rfl)
  rw [lg_entry_eq]
  generalize (lg_sl [.ref (Y 10 0), .int (nI i), .int (nI a), .int x, .int y] ++ List.replicate (5 - (lg_sl [.ref (Y 10 0), .int (nI i), .int (nI a), .int x, .int y]).length) Slot.unset).toArray = ls at hl ⊢
  have hl : lv_has ls 5 [(0, .ref (Y 10 0)), (1, .int (nI i)), (2, .int (nI a)), (3, .int x), (4, .int y)] := hl
  have b0 := hI.n0
  have b1 := hI.n1
  have b2 := hI.n2
  have b3 := hI.n3
  refine lv_aload_n hx hb dX6_addPass_0 rfl (lv_at hl 0 rfl) ?_
  refine lv_iconst (v := 0) hx hb dX6_addPass_1 (by decide) ?_
  refine wk_put (own := RX6) (C := RX6) (T := TX6) (N := 26) (ci := 7) (v := .int 0) hx hb hts i_X6 tyX6 tyX6_ok nmX6 hown hK hA.obj (Or.inl hA.tagO) hS rfl 0 (by decide) (hts _ (List.mem_of_getElem? (i := 1) rfl)) (fun _ h9 => h9) rfl (tyX6_ok 0 (by decide)) rfl rfl (Nat.le_of_ble_eq_true rfl) dX6_addPass_2 (fun H locs hP9 hz9 hk9 hS => ?_)
  have hA := hA.setTh hP9 hk9
  refine lv_aload_n hx hb dX6_addPass_5 rfl (lv_at hl 0 rfl) ?_
  refine lv_iload_n hx hb dX6_addPass_6 rfl (lv_at hl 1 rfl) ?_
  refine wk_V (As := [.int (nI i)]) (rest := []) ⟨hx, hb, hml, hown, hts⟩ (c_X6_isSatellite l E hA hI (x := nI i)) (cwV 1 hts gX6_addPass_X6_isSatellite rfl rfl rfl (by decide +kernel) ⟨(Nat.le_of_ble_eq_true rfl), (Nat.le_of_ble_eq_true rfl)⟩) (wk_recv hK hA.obj rfl) hK rfl hl.1 rfl (Nat.le_of_ble_eq_true rfl) dX6_addPass_7 ⟨Nat.zero_le _, Nat.zero_le _⟩ ?_
  refine lv_if_eq (tgt := 21) hx hb dX6_addPass_10 (by decide) (fun c_10 => ?_) (fun c_10 => ?_)
  · skip
    have e_10 : (v_ix (nI i) (z_n σ 1)) = false := wk_b0 c_10
    exact absurd (e_10.symm.trans (v_ix_nI hi (by omega))) (by decide)
  have e_10 : (v_ix (nI i) (z_n σ 1)) = true := wk_b1 c_10
  refine lv_aload_n hx hb dX6_addPass_13 rfl (lv_at hl 0 rfl) ?_
  refine lv_iload_n hx hb dX6_addPass_14 rfl (lv_at hl 2 rfl) ?_
  refine wk_V (As := [.int (nI a)]) (rest := []) ⟨hx, hb, hml, hown, hts⟩ (c_X6_isAntenna l E hA hI (x := nI a)) (cwV 1 hts gX6_addPass_X6_isAntenna rfl rfl rfl (by decide +kernel) ⟨(Nat.le_of_ble_eq_true rfl), (Nat.le_of_ble_eq_true rfl)⟩) (wk_recv hK hA.obj rfl) hK rfl hl.1 rfl (Nat.le_of_ble_eq_true rfl) dX6_addPass_15 ⟨Nat.zero_le _, Nat.zero_le _⟩ ?_
  refine lv_if_ne (tgt := 27) hx hb dX6_addPass_18 (by decide) (fun c_18 => ?_) (fun c_18 => ?_)
  · skip
    have e_18 : (v_ix (nI a) (z_n σ 0)) = true := wk_b1 c_18
    refine lv_iload_n hx hb dX6_addPass_27 rfl (lv_at hl 3 rfl) ?_
    refine lv_aload_n hx hb dX6_addPass_28 rfl (lv_at hl 0 rfl) ?_
    refine wk_get (own := RX6) (C := RX6) (T := TX6) (N := 26) (ci := 7) (v := .int (z_now σ)) hx hb hts i_X6 hown hK hA.obj rfl 1 (by decide) (hts _ (List.mem_of_getElem? (i := 2) rfl)) (fun _ h9 => h9) rfl dX6_addPass_29 ?_
    refine lv_icmp_lt (tgt := 77) hx hb dX6_addPass_32 (by decide) (fun c_32 => ?_) (fun c_32 => ?_)
    · skip
      have d_32 := Int32.not_le.mpr c_32
      exact absurd c_32 (v_span1 hsp)
    have d_32 := Int32.not_lt.mp c_32
    refine lv_iload hx hb dX6_addPass_35 (lv_at hl 4 rfl) ?_
    refine lv_iload_n hx hb dX6_addPass_37 rfl (lv_at hl 3 rfl) ?_
    refine lv_icmp_le (tgt := 77) hx hb dX6_addPass_38 (by decide) (fun c_38 => ?_) (fun c_38 => ?_)
    · skip
      have d_38 := Int32.not_lt.mpr c_38
      exact absurd c_38 (v_span2 hsp)
    have d_38 := Int32.not_le.mp c_38
    refine lv_iload hx hb dX6_addPass_41 (lv_at hl 4 rfl) ?_
    refine lv_sipush (v := 9999) hx hb dX6_addPass_43 (by decide) ?_
    refine lv_icmp_gt (tgt := 77) hx hb dX6_addPass_46 (by decide) (fun c_46 => ?_) (fun c_46 => ?_)
    · skip
      have d_46 := Int32.not_le.mpr c_46
      exact absurd c_46 (v_span3 hsp)
    have d_46 := Int32.not_lt.mp c_46
    refine lv_iload hx hb dX6_addPass_49 (lv_at hl 4 rfl) ?_
    refine lv_iload_n hx hb dX6_addPass_51 rfl (lv_at hl 3 rfl) ?_
    refine lv_isub hx hb dX6_addPass_52 ?_
    refine lv_sipush (v := 600) hx hb dX6_addPass_53 (by decide) ?_
    refine lv_icmp_gt (tgt := 77) hx hb dX6_addPass_56 (by decide) (fun c_56 => ?_) (fun c_56 => ?_)
    · skip
      have d_56 := Int32.not_le.mpr c_56
      exact absurd hlen (Int32.not_le.mpr c_56)
    have d_56 := Int32.not_lt.mp c_56
    refine lv_aload_n hx hb dX6_addPass_59 rfl (lv_at hl 0 rfl) ?_
    refine wk_get (own := RX6) (C := RX6) (T := TX6) (N := 26) (ci := 7) (v := .ref (Y 11 0)) hx hb hts i_X6 hown hK hA.obj rfl 4 (by decide) (hts _ (List.mem_of_getElem? (i := 3) rfl)) (fun _ h9 => h9) rfl dX6_addPass_60 ?_
    refine lv_iload_n hx hb dX6_addPass_63 rfl (lv_at hl 2 rfl) ?_
    refine wk_iald (n := 5) (f := fun j => z_ab σ j) hx hb hK hA.a0 a rfl (by have := ha; omega) (by decide) dX6_addPass_64 ?_
    refine lv_aload_n hx hb dX6_addPass_65 rfl (lv_at hl 0 rfl) ?_
    refine wk_get (own := RX6) (C := RX6) (T := TX6) (N := 26) (ci := 7) (v := .ref (Y 11 5)) hx hb hts i_X6 hown hK hA.obj rfl 11 (by decide) (hts _ (List.mem_of_getElem? (i := 4) rfl)) (fun _ h9 => h9) rfl dX6_addPass_66 ?_
    refine lv_iload_n hx hb dX6_addPass_69 rfl (lv_at hl 1 rfl) ?_
    refine wk_iald (n := 8) (f := fun j => z_sb σ j) hx hb hK hA.a5 i rfl (by have := hi; omega) (by decide) dX6_addPass_70 ?_
    obtain ⟨mm, bb, hmm, hbb, emm, ebb, ehe⟩ := f_hearsN hI ha hi
    refine wk_eqls (st' := [.int (nI bb), .int (nI mm)]) (by rw [emm, ebb]) ?_
    refine wk_S (As := [.int (nI mm), .int (nI bb)]) (rest := []) ⟨hx, hb, hml, hown, hts⟩ (c_X6_has l E (mm := mm) (k := bb) (by omega) (by omega)) (va_cwS 2 hts gX6_addPass_X6_has rfl rfl rfl (by decide +kernel) ⟨(Nat.le_of_ble_eq_true rfl), (Nat.le_of_ble_eq_true rfl)⟩) hK rfl hl.1 rfl (Nat.le_of_ble_eq_true rfl) dX6_addPass_71 ⟨Nat.zero_le _, Nat.zero_le _⟩ ?_
    refine lv_if_ne (tgt := 83) hx hb dX6_addPass_74 (by decide) (fun c_74 => ?_) (fun c_74 => ?_)
    · skip
      have e_74 : (Nat.testBit mm bb) = true := wk_b1 c_74
      exact absurd (hbad.symm.trans (ehe.trans e_74)) (by decide)
    have e_74 : (Nat.testBit mm bb) = false := wk_b0 c_74
    refine lv_aload_n hx hb dX6_addPass_77 rfl (lv_at hl 0 rfl) ?_
    refine lv_iconst (v := 2) hx hb dX6_addPass_78 (by decide) ?_
    refine we_V (As := [.int 2]) (rest := []) ⟨hx, hb, hml, hown, hts⟩ (e_X6_fail l E hA hI) (cwV 1 hts gX6_addPass_X6_fail rfl rfl rfl (by decide +kernel) ⟨(Nat.le_of_ble_eq_true rfl), (Nat.le_of_ble_eq_true rfl)⟩) (wk_recv hK hA.obj rfl) (hV.heap hS.1 (fun q hq => hS.2.1 q (Nat.lt_of_lt_of_le hq hV.2.2.2.2.2.2) (hbA q hq))) hS (fun _ h => Or.inl h) hA9 rfl hl.1 rfl (Nat.le_of_ble_eq_true rfl) dX6_addPass_79 ⟨Nat.zero_le _, Nat.zero_le _⟩ (fun v9 H locs hR9 hz9 hk9 hS => ?_)
    obtain ⟨rfl, hA⟩ := hR9
    refine wk_eqls (st' := [.int 0]) rfl ?_
    exact W.iret hx hb hr (we_end (Rt := fun v H1 => v = some (.int (0)) ∧ MA E T Y σ 2 gt H1) (F := z_FM T) (⟨rfl, hA⟩) hS) hS.2.2 dX6_addPass_82
  have e_18 : (v_ix (nI a) (z_n σ 0)) = false := wk_b0 c_18
  exact absurd (e_18.symm.trans (v_ix_nI ha (by omega))) (by decide)

abbrev rmf6_X6_addPass : Room := { frames := 2, cells := 0, slots := 0, locals := 43 }
set_option maxHeartbeats 4000000 in
set_option maxRecDepth 100000 in
theorem f6_X6_addPass (l : Launch) (E : wk_E) {T : Nat → Nat × Nat} {Y : Nat → Nat → Nat} {σ : z_S} {th : Int32} {gt : Int64} {H : Heap} (hA : MA E T Y σ th gt H) (hI : z_Ok σ) {i a : Nat} {x y : Int32} (hi : i < z_n σ 1) (ha : a < z_n σ 0) (hsp : v_span σ x y = true) (hlen : y - x ≤ 600) (hhe : f_hears σ a i = true) (hn : ¬ z_n σ 2 < 16) : we_Met l yX6_addPass wsX6_addPass rmf6_X6_addPass E H [.ref (Y 10 0), .int (nI i), .int (nI a), .int x, .int y] (z_FM T) 0 0 (fun v H1 => v = some (.int (0)) ∧ MA E T Y σ 3 gt H1) := by
  refine Met.ofW (cc := cX6_addPass) (maxL := 5) (ret := (some .int)) (by decide) rfl ?_
  intro p e s m args below meth c s₁ B hml hv
  obtain ⟨rfl, hH, hV⟩ := hv
  subst hH
  have hK := hV.k
  have hx := B.exec
  have hb := B.bytes
  have hr := B.returns
  have hts := atoms_spec (ws := wsX6_addPass) B.pre
  have hown : s.vm.findClass RX6 = some m.cls := findClass_of_methodNamed B.named
  have hlocks := B.notSynchronized
  have hS : va_S (fun q => (z_FM T) q ∨ s.heap.size ≤ q) s.heap s.heap [] := va_S.rf
  have hA9 : ∀ q : Nat, s.heap.size ≤ q → ((z_FM T) q ∨ s.heap.size ≤ q) := fun _ h => Or.inr h
  have hbA : ∀ q : Nat, q < E.2.2.1 → ¬ ((z_FM T) q ∨ s.heap.size ≤ q) := fun q hq z => z.elim (z_FMb hA.2 hq) (fun z => absurd (Nat.lt_of_lt_of_le hq hV.2.2.2.2.2.2) (Nat.not_lt.mpr z))
  have i_X6 : ∀ w ∈ u_ws RX6 TX6 26, w ∈ wsX6_addPass := fun w h => (List.mem_cons_of_mem _ (List.mem_append_right _ h))
  have hl := lv_entry [.ref (Y 10 0), .int (nI i), .int (nI a), .int x, .int y] (n := 5) (Nat.le_of_ble_eq_true rfl)
  rw [lg_entry_eq]
  generalize (lg_sl [.ref (Y 10 0), .int (nI i), .int (nI a), .int x, .int y] ++ List.replicate (5 - (lg_sl [.ref (Y 10 0), .int (nI i), .int (nI a), .int x, .int y]).length) Slot.unset).toArray = ls at hl ⊢
  have hl : lv_has ls 5 [(0, .ref (Y 10 0)), (1, .int (nI i)), (2, .int (nI a)), (3, .int x), (4, .int y)] := hl
  have b0 := hI.n0
  have b1 := hI.n1
  have b2 := hI.n2
  have b3 := hI.n3
  refine lv_aload_n hx hb dX6_addPass_0 rfl (lv_at hl 0 rfl) ?_
  refine lv_iconst (v := 0) hx hb dX6_addPass_1 (by decide) ?_
  refine wk_put (own := RX6) (C := RX6) (T := TX6) (N := 26) (ci := 7) (v := .int 0) hx hb hts i_X6 tyX6 tyX6_ok nmX6 hown hK hA.obj (Or.inl hA.tagO) hS rfl 0 (by decide) (hts _ (List.mem_of_getElem? (i := 1) rfl)) (fun _ h9 => h9) rfl (tyX6_ok 0 (by decide)) rfl rfl (Nat.le_of_ble_eq_true rfl) dX6_addPass_2 (fun H locs hP9 hz9 hk9 hS => ?_)
  have hA := hA.setTh hP9 hk9
  refine lv_aload_n hx hb dX6_addPass_5 rfl (lv_at hl 0 rfl) ?_
  refine lv_iload_n hx hb dX6_addPass_6 rfl (lv_at hl 1 rfl) ?_
  refine wk_V (As := [.int (nI i)]) (rest := []) ⟨hx, hb, hml, hown, hts⟩ (c_X6_isSatellite l E hA hI (x := nI i)) (cwV 1 hts gX6_addPass_X6_isSatellite rfl rfl rfl (by decide +kernel) ⟨(Nat.le_of_ble_eq_true rfl), (Nat.le_of_ble_eq_true rfl)⟩) (wk_recv hK hA.obj rfl) hK rfl hl.1 rfl (Nat.le_of_ble_eq_true rfl) dX6_addPass_7 ⟨Nat.zero_le _, Nat.zero_le _⟩ ?_
  refine lv_if_eq (tgt := 21) hx hb dX6_addPass_10 (by decide) (fun c_10 => ?_) (fun c_10 => ?_)
  · skip
    have e_10 : (v_ix (nI i) (z_n σ 1)) = false := wk_b0 c_10
    exact absurd (e_10.symm.trans (v_ix_nI hi (by omega))) (by decide)
  have e_10 : (v_ix (nI i) (z_n σ 1)) = true := wk_b1 c_10
  refine lv_aload_n hx hb dX6_addPass_13 rfl (lv_at hl 0 rfl) ?_
  refine lv_iload_n hx hb dX6_addPass_14 rfl (lv_at hl 2 rfl) ?_
  refine wk_V (As := [.int (nI a)]) (rest := []) ⟨hx, hb, hml, hown, hts⟩ (c_X6_isAntenna l E hA hI (x := nI a)) (cwV 1 hts gX6_addPass_X6_isAntenna rfl rfl rfl (by decide +kernel) ⟨(Nat.le_of_ble_eq_true rfl), (Nat.le_of_ble_eq_true rfl)⟩) (wk_recv hK hA.obj rfl) hK rfl hl.1 rfl (Nat.le_of_ble_eq_true rfl) dX6_addPass_15 ⟨Nat.zero_le _, Nat.zero_le _⟩ ?_
  refine lv_if_ne (tgt := 27) hx hb dX6_addPass_18 (by decide) (fun c_18 => ?_) (fun c_18 => ?_)
  · skip
    have e_18 : (v_ix (nI a) (z_n σ 0)) = true := wk_b1 c_18
    refine lv_iload_n hx hb dX6_addPass_27 rfl (lv_at hl 3 rfl) ?_
    refine lv_aload_n hx hb dX6_addPass_28 rfl (lv_at hl 0 rfl) ?_
    refine wk_get (own := RX6) (C := RX6) (T := TX6) (N := 26) (ci := 7) (v := .int (z_now σ)) hx hb hts i_X6 hown hK hA.obj rfl 1 (by decide) (hts _ (List.mem_of_getElem? (i := 2) rfl)) (fun _ h9 => h9) rfl dX6_addPass_29 ?_
    refine lv_icmp_lt (tgt := 77) hx hb dX6_addPass_32 (by decide) (fun c_32 => ?_) (fun c_32 => ?_)
    · skip
      have d_32 := Int32.not_le.mpr c_32
      exact absurd c_32 (v_span1 hsp)
    have d_32 := Int32.not_lt.mp c_32
    refine lv_iload hx hb dX6_addPass_35 (lv_at hl 4 rfl) ?_
    refine lv_iload_n hx hb dX6_addPass_37 rfl (lv_at hl 3 rfl) ?_
    refine lv_icmp_le (tgt := 77) hx hb dX6_addPass_38 (by decide) (fun c_38 => ?_) (fun c_38 => ?_)
    · skip
      have d_38 := Int32.not_lt.mpr c_38
      exact absurd c_38 (v_span2 hsp)
    have d_38 := Int32.not_le.mp c_38
    refine lv_iload hx hb dX6_addPass_41 (lv_at hl 4 rfl) ?_
    refine lv_sipush (v := 9999) hx hb dX6_addPass_43 (by decide) ?_
    refine lv_icmp_gt (tgt := 77) hx hb dX6_addPass_46 (by decide) (fun c_46 => ?_) (fun c_46 => ?_)
    · skip
      have d_46 := Int32.not_le.mpr c_46
      exact absurd c_46 (v_span3 hsp)
    have d_46 := Int32.not_lt.mp c_46
    refine lv_iload hx hb dX6_addPass_49 (lv_at hl 4 rfl) ?_
    refine lv_iload_n hx hb dX6_addPass_51 rfl (lv_at hl 3 rfl) ?_
    refine lv_isub hx hb dX6_addPass_52 ?_
    refine lv_sipush (v := 600) hx hb dX6_addPass_53 (by decide) ?_
    refine lv_icmp_gt (tgt := 77) hx hb dX6_addPass_56 (by decide) (fun c_56 => ?_) (fun c_56 => ?_)
    · skip
      have d_56 := Int32.not_le.mpr c_56
      exact absurd hlen (Int32.not_le.mpr c_56)
    have d_56 := Int32.not_lt.mp c_56
    refine lv_aload_n hx hb dX6_addPass_59 rfl (lv_at hl 0 rfl) ?_
    refine wk_get (own := RX6) (C := RX6) (T := TX6) (N := 26) (ci := 7) (v := .ref (Y 11 0)) hx hb hts i_X6 hown hK hA.obj rfl 4 (by decide) (hts _ (List.mem_of_getElem? (i := 3) rfl)) (fun _ h9 => h9) rfl dX6_addPass_60 ?_
    refine lv_iload_n hx hb dX6_addPass_63 rfl (lv_at hl 2 rfl) ?_
    refine wk_iald (n := 5) (f := fun j => z_ab σ j) hx hb hK hA.a0 a rfl (by have := ha; omega) (by decide) dX6_addPass_64 ?_
    refine lv_aload_n hx hb dX6_addPass_65 rfl (lv_at hl 0 rfl) ?_
    refine wk_get (own := RX6) (C := RX6) (T := TX6) (N := 26) (ci := 7) (v := .ref (Y 11 5)) hx hb hts i_X6 hown hK hA.obj rfl 11 (by decide) (hts _ (List.mem_of_getElem? (i := 4) rfl)) (fun _ h9 => h9) rfl dX6_addPass_66 ?_
    refine lv_iload_n hx hb dX6_addPass_69 rfl (lv_at hl 1 rfl) ?_
    refine wk_iald (n := 8) (f := fun j => z_sb σ j) hx hb hK hA.a5 i rfl (by have := hi; omega) (by decide) dX6_addPass_70 ?_
    obtain ⟨mm, bb, hmm, hbb, emm, ebb, ehe⟩ := f_hearsN hI ha hi
    refine wk_eqls (st' := [.int (nI bb), .int (nI mm)]) (by rw [emm, ebb]) ?_
    refine wk_S (As := [.int (nI mm), .int (nI bb)]) (rest := []) ⟨hx, hb, hml, hown, hts⟩ (c_X6_has l E (mm := mm) (k := bb) (by omega) (by omega)) (va_cwS 2 hts gX6_addPass_X6_has rfl rfl rfl (by decide +kernel) ⟨(Nat.le_of_ble_eq_true rfl), (Nat.le_of_ble_eq_true rfl)⟩) hK rfl hl.1 rfl (Nat.le_of_ble_eq_true rfl) dX6_addPass_71 ⟨Nat.zero_le _, Nat.zero_le _⟩ ?_
    refine lv_if_ne (tgt := 83) hx hb dX6_addPass_74 (by decide) (fun c_74 => ?_) (fun c_74 => ?_)
    · skip
      have e_74 : (Nat.testBit mm bb) = true := wk_b1 c_74
      refine lv_aload_n hx hb dX6_addPass_83 rfl (lv_at hl 0 rfl) ?_
      refine wk_get (own := RX6) (C := RX6) (T := TX6) (N := 26) (ci := 7) (v := .int (nI (z_n σ 2))) hx hb hts i_X6 hown hK hA.obj rfl 18 (by decide) (hts _ (List.mem_of_getElem? (i := 5) rfl)) (fun _ h9 => h9) rfl dX6_addPass_84 ?_
      refine lv_bipush (v := 16) hx hb dX6_addPass_87 (by decide) ?_
      refine lv_icmp_ne (tgt := 98) hx hb dX6_addPass_89 (by decide) (fun c_89 => ?_) (fun c_89 => ?_)
      · skip
        have e_89 : ¬ (z_n σ 2) = 16 := wk_cnet (by omega) (by omega) c_89
        omega
      have e_89 : (z_n σ 2) = 16 := wk_cnef (by omega) (by omega) c_89
      refine lv_aload_n hx hb dX6_addPass_92 rfl (lv_at hl 0 rfl) ?_
      refine lv_iconst (v := 3) hx hb dX6_addPass_93 (by decide) ?_
      refine we_V (As := [.int 3]) (rest := []) ⟨hx, hb, hml, hown, hts⟩ (e_X6_fail l E hA hI) (cwV 1 hts gX6_addPass_X6_fail rfl rfl rfl (by decide +kernel) ⟨(Nat.le_of_ble_eq_true rfl), (Nat.le_of_ble_eq_true rfl)⟩) (wk_recv hK hA.obj rfl) (hV.heap hS.1 (fun q hq => hS.2.1 q (Nat.lt_of_lt_of_le hq hV.2.2.2.2.2.2) (hbA q hq))) hS (fun _ h => Or.inl h) hA9 rfl hl.1 rfl (Nat.le_of_ble_eq_true rfl) dX6_addPass_94 ⟨Nat.zero_le _, Nat.zero_le _⟩ (fun v9 H locs hR9 hz9 hk9 hS => ?_)
      obtain ⟨rfl, hA⟩ := hR9
      refine wk_eqls (st' := [.int 0]) rfl ?_
      exact W.iret hx hb hr (we_end (Rt := fun v H1 => v = some (.int (0)) ∧ MA E T Y σ 3 gt H1) (F := z_FM T) (⟨rfl, hA⟩) hS) hS.2.2 dX6_addPass_97
    have e_74 : (Nat.testBit mm bb) = false := wk_b0 c_74
    exact absurd (hhe.symm.trans (ehe.trans e_74)) (by decide)
  have e_18 : (v_ix (nI a) (z_n σ 0)) = false := wk_b0 c_18
  exact absurd (e_18.symm.trans (v_ix_nI ha (by omega))) (by decide)
