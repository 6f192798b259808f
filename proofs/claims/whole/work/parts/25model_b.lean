abbrev rme_X6_pass : Room := { frames := 3, cells := 0, slots := 0, locals := 67 }
set_option maxHeartbeats 4000000 in
set_option maxRecDepth 100000 in
theorem e_X6_pass (l : Launch) (E : wk_E) {T : Nat → Nat × Nat} {Y : Nat → Nat → Nat} {σ : z_S} {th : Int32} {gt : Int64} {H : Heap} (hA : MA E T Y σ th gt H) (hI : z_Ok σ) {i w : Nat} (hi : i < z_n σ 2) (hw : w ≤ 7) : we_Met l yX6_pass wsX6_pass rme_X6_pass E H [.ref (Y 10 0), .int (nI i), .int (nI w)] (z_FM T) 0 0 (fun v H1 => v = some (.int (f_pass σ i w)) ∧ MA E T Y σ 0 gt H1) := by
  refine Met.ofW (cc := cX6_pass) (maxL := 3) (ret := (some .int)) (by decide) rfl ?_
  intro p e s m args below meth c s₁ B hml hv
  obtain ⟨rfl, hH, hV⟩ := hv
  subst hH
  have hK := hV.k
  have hx := B.exec
  have hb := B.bytes
  have hr := B.returns
  have hts := atoms_spec (ws := wsX6_pass) B.pre
  have hown : s.vm.findClass RX6 = some m.cls := findClass_of_methodNamed B.named
  have hlocks := B.notSynchronized
  have hS : va_S (fun q => (z_FM T) q ∨ s.heap.size ≤ q) s.heap s.heap [] := va_S.rf
  have hA9 : ∀ q : Nat, s.heap.size ≤ q → ((z_FM T) q ∨ s.heap.size ≤ q) := fun _ h => Or.inr h
  have hbA : ∀ q : Nat, q < E.2.2.1 → ¬ ((z_FM T) q ∨ s.heap.size ≤ q) := fun q hq z => z.elim (z_FMb hA.2 hq) (fun z => absurd (Nat.lt_of_lt_of_le hq hV.2.2.2.2.2.2) (Nat.not_lt.mpr z))
  have i_X6 : ∀ w ∈ u_ws RX6 TX6 26, w ∈ wsX6_pass := fun w h => (List.mem_cons_of_mem _ (List.mem_append_right _ h))
  have hl := lv_entry [.ref (Y 10 0), .int (nI i), .int (nI w)] (n := 3) (Nat.le_of_ble_eq_true rfl)
  rw [lg_entry_eq]
  generalize (lg_sl [.ref (Y 10 0), .int (nI i), .int (nI w)] ++ List.replicate (3 - (lg_sl [.ref (Y 10 0), .int (nI i), .int (nI w)]).length) Slot.unset).toArray = ls at hl ⊢
  have hl : lv_has ls 3 [(0, .ref (Y 10 0)), (1, .int (nI i)), (2, .int (nI w))] := hl
  have b0 := hI.n0
  have b1 := hI.n1
  have b2 := hI.n2
  have b3 := hI.n3
  refine lv_aload_n hx hb dX6_pass_0 rfl (lv_at hl 0 rfl) ?_
  refine lv_iconst (v := 0) hx hb dX6_pass_1 (by decide) ?_
  refine wk_put (own := RX6) (C := RX6) (T := TX6) (N := 26) (ci := 7) (v := .int 0) hx hb hts i_X6 tyX6 tyX6_ok nmX6 hown hK hA.obj (Or.inl hA.tagO) hS rfl 0 (by decide) (hts _ (List.mem_of_getElem? (i := 1) rfl)) (fun _ h9 => h9) rfl (tyX6_ok 0 (by decide)) rfl rfl (Nat.le_of_ble_eq_true rfl) dX6_pass_2 (fun H locs hP9 hz9 hk9 hS => ?_)
  have hA := hA.setTh hP9 hk9
  refine lv_aload_n hx hb dX6_pass_5 rfl (lv_at hl 0 rfl) ?_
  refine lv_iload_n hx hb dX6_pass_6 rfl (lv_at hl 1 rfl) ?_
  refine wk_V (As := [.int (nI i)]) (rest := []) ⟨hx, hb, hml, hown, hts⟩ (c_X6_isPass l E hA hI (x := nI i)) (cwV 1 hts gX6_pass_X6_isPass rfl rfl rfl (by decide +kernel) ⟨(Nat.le_of_ble_eq_true rfl), (Nat.le_of_ble_eq_true rfl)⟩) (wk_recv hK hA.obj rfl) hK rfl hl.1 rfl (Nat.le_of_ble_eq_true rfl) dX6_pass_7 ⟨Nat.zero_le _, Nat.zero_le _⟩ ?_
  refine lv_if_eq (tgt := 32) hx hb dX6_pass_10 (by decide) (fun c_10 => ?_) (fun c_10 => ?_)
  · skip
    have e_10 : (v_ix (nI i) (z_n σ 2)) = false := wk_b0 c_10
    exact absurd (e_10.symm.trans (v_ix_nI hi (by omega))) (by decide)
  have e_10 : (v_ix (nI i) (z_n σ 2)) = true := wk_b1 c_10
  refine lv_iload_n hx hb dX6_pass_13 rfl (lv_at hl 2 rfl) ?_
  refine lv_iconst (v := 0) hx hb dX6_pass_14 (by decide) ?_
  refine lv_bipush (v := 7) hx hb dX6_pass_15 (by decide) ?_
  refine wk_S (As := [.int (nI w), .int 0, .int 7]) (rest := []) ⟨hx, hb, hml, hown, hts⟩ (c_X6_isIn l E (x := nI w) (y := 0) (z := 7)) (va_cwS 3 hts gX6_pass_X6_isIn rfl rfl rfl (by decide +kernel) ⟨(Nat.le_of_ble_eq_true rfl), (Nat.le_of_ble_eq_true rfl)⟩) hK rfl hl.1 rfl (Nat.le_of_ble_eq_true rfl) dX6_pass_17 ⟨Nat.zero_le _, Nat.zero_le _⟩ ?_
  refine lv_if_eq (tgt := 32) hx hb dX6_pass_20 (by decide) (fun c_20 => ?_) (fun c_20 => ?_)
  · skip
    have e_20 : (v_in (nI w) 0 7) = false := wk_b0 c_20
    exact absurd (e_20.symm.trans (v_in_nI hw rfl)) (by decide)
  have e_20 : (v_in (nI w) 0 7) = true := wk_b1 c_20
  refine lv_aload_n hx hb dX6_pass_23 rfl (lv_at hl 0 rfl) ?_
  refine lv_iload_n hx hb dX6_pass_24 rfl (lv_at hl 1 rfl) ?_
  refine lv_iload_n hx hb dX6_pass_25 rfl (lv_at hl 2 rfl) ?_
  refine wk_V (As := [.int (nI i), .int (nI w)]) (rest := []) ⟨hx, hb, hml, hown, hts⟩ (c_X6_told l E hA hI hi hw) (cwV 2 hts gX6_pass_X6_told rfl rfl rfl (by decide +kernel) ⟨(Nat.le_of_ble_eq_true rfl), (Nat.le_of_ble_eq_true rfl)⟩) (wk_recv hK hA.obj rfl) hK rfl hl.1 rfl (Nat.le_of_ble_eq_true rfl) dX6_pass_26 ⟨Nat.zero_le _, Nat.zero_le _⟩ ?_
  refine lv_goto (tgt := 37) hx hb dX6_pass_29 (by decide) ?_
  exact W.iret hx hb hr (we_end (Rt := fun v H1 => v = some (.int (f_pass σ i w)) ∧ MA E T Y σ 0 gt H1) (F := z_FM T) (⟨rfl, hA⟩) hS) hS.2.2 dX6_pass_37

abbrev rmf_X6_pass : Room := { frames := 2, cells := 0, slots := 0, locals := 43 }
set_option maxHeartbeats 4000000 in
set_option maxRecDepth 100000 in
theorem f_X6_pass (l : Launch) (E : wk_E) {T : Nat → Nat × Nat} {Y : Nat → Nat → Nat} {σ : z_S} {th : Int32} {gt : Int64} {H : Heap} (hA : MA E T Y σ th gt H) (hI : z_Ok σ) {x y : Int32} (hbad : v_ix x (z_n σ 2) = false) : we_Met l yX6_pass wsX6_pass rmf_X6_pass E H [.ref (Y 10 0), .int x, .int y] (z_FM T) 0 0 (fun v H1 => v = some (.int (0)) ∧ MA E T Y σ 1 gt H1) := by
  refine Met.ofW (cc := cX6_pass) (maxL := 3) (ret := (some .int)) (by decide) rfl ?_
  intro p e s m args below meth c s₁ B hml hv
  obtain ⟨rfl, hH, hV⟩ := hv
  subst hH
  have hK := hV.k
  have hx := B.exec
  have hb := B.bytes
  have hr := B.returns
  have hts := atoms_spec (ws := wsX6_pass) B.pre
  have hown : s.vm.findClass RX6 = some m.cls := findClass_of_methodNamed B.named
  have hlocks := B.notSynchronized
  have hS : va_S (fun q => (z_FM T) q ∨ s.heap.size ≤ q) s.heap s.heap [] := va_S.rf
  have hA9 : ∀ q : Nat, s.heap.size ≤ q → ((z_FM T) q ∨ s.heap.size ≤ q) := fun _ h => Or.inr h
  have hbA : ∀ q : Nat, q < E.2.2.1 → ¬ ((z_FM T) q ∨ s.heap.size ≤ q) := fun q hq z => z.elim (z_FMb hA.2 hq) (fun z => absurd (Nat.lt_of_lt_of_le hq hV.2.2.2.2.2.2) (Nat.not_lt.mpr z))
  have i_X6 : ∀ w ∈ u_ws RX6 TX6 26, w ∈ wsX6_pass := fun w h => (List.mem_cons_of_mem _ (List.mem_append_right _ h))
  have hl := lv_entry [.ref (Y 10 0), .int x, .int y] (n := 3) (Nat.le_of_ble_eq_true rfl)
  rw [lg_entry_eq]
  generalize (lg_sl [.ref (Y 10 0), .int x, .int y] ++ List.replicate (3 - (lg_sl [.ref (Y 10 0), .int x, .int y]).length) Slot.unset).toArray = ls at hl ⊢
  have hl : lv_has ls 3 [(0, .ref (Y 10 0)), (1, .int x), (2, .int y)] := hl
  have b0 := hI.n0
  have b1 := hI.n1
  have b2 := hI.n2
  have b3 := hI.n3
  refine lv_aload_n hx hb dX6_pass_0 rfl (lv_at hl 0 rfl) ?_
  refine lv_iconst (v := 0) hx hb dX6_pass_1 (by decide) ?_
  refine wk_put (own := RX6) (C := RX6) (T := TX6) (N := 26) (ci := 7) (v := .int 0) hx hb hts i_X6 tyX6 tyX6_ok nmX6 hown hK hA.obj (Or.inl hA.tagO) hS rfl 0 (by decide) (hts _ (List.mem_of_getElem? (i := 1) rfl)) (fun _ h9 => h9) rfl (tyX6_ok 0 (by decide)) rfl rfl (Nat.le_of_ble_eq_true rfl) dX6_pass_2 (fun H locs hP9 hz9 hk9 hS => ?_)
  have hA := hA.setTh hP9 hk9
  refine lv_aload_n hx hb dX6_pass_5 rfl (lv_at hl 0 rfl) ?_
  refine lv_iload_n hx hb dX6_pass_6 rfl (lv_at hl 1 rfl) ?_
  refine wk_V (As := [.int x]) (rest := []) ⟨hx, hb, hml, hown, hts⟩ (c_X6_isPass l E hA hI (x := x)) (cwV 1 hts gX6_pass_X6_isPass rfl rfl rfl (by decide +kernel) ⟨(Nat.le_of_ble_eq_true rfl), (Nat.le_of_ble_eq_true rfl)⟩) (wk_recv hK hA.obj rfl) hK rfl hl.1 rfl (Nat.le_of_ble_eq_true rfl) dX6_pass_7 ⟨Nat.zero_le _, Nat.zero_le _⟩ ?_
  refine lv_if_eq (tgt := 32) hx hb dX6_pass_10 (by decide) (fun c_10 => ?_) (fun c_10 => ?_)
  · skip
    have e_10 : (v_ix x (z_n σ 2)) = false := wk_b0 c_10
    refine lv_aload_n hx hb dX6_pass_32 rfl (lv_at hl 0 rfl) ?_
    refine lv_iconst (v := 1) hx hb dX6_pass_33 (by decide) ?_
    refine we_V (As := [.int 1]) (rest := []) ⟨hx, hb, hml, hown, hts⟩ (e_X6_fail l E hA hI) (cwV 1 hts gX6_pass_X6_fail rfl rfl rfl (by decide +kernel) ⟨(Nat.le_of_ble_eq_true rfl), (Nat.le_of_ble_eq_true rfl)⟩) (wk_recv hK hA.obj rfl) (hV.heap hS.1 (fun q hq => hS.2.1 q (Nat.lt_of_lt_of_le hq hV.2.2.2.2.2.2) (hbA q hq))) hS (fun _ h => Or.inl h) hA9 rfl hl.1 rfl (Nat.le_of_ble_eq_true rfl) dX6_pass_34 ⟨Nat.zero_le _, Nat.zero_le _⟩ (fun v9 H locs hR9 hz9 hk9 hS => ?_)
    obtain ⟨rfl, hA⟩ := hR9
    refine wk_eqls (st' := [.int 0]) rfl ?_
    exact W.iret hx hb hr (we_end (Rt := fun v H1 => v = some (.int (0)) ∧ MA E T Y σ 1 gt H1) (F := z_FM T) (⟨rfl, hA⟩) hS) hS.2.2 dX6_pass_37
  have e_10 : (v_ix x (z_n σ 2)) = true := wk_b1 c_10
  exact absurd (hbad.symm.trans e_10) (by decide)

abbrev rmf2_X6_pass : Room := { frames := 2, cells := 0, slots := 0, locals := 43 }
set_option maxHeartbeats 4000000 in
set_option maxRecDepth 100000 in
theorem f2_X6_pass (l : Launch) (E : wk_E) {T : Nat → Nat × Nat} {Y : Nat → Nat → Nat} {σ : z_S} {th : Int32} {gt : Int64} {H : Heap} (hA : MA E T Y σ th gt H) (hI : z_Ok σ) {i : Nat} {y : Int32} (hi : i < z_n σ 2) (hbad : v_in y 0 7 = false) : we_Met l yX6_pass wsX6_pass rmf2_X6_pass E H [.ref (Y 10 0), .int (nI i), .int y] (z_FM T) 0 0 (fun v H1 => v = some (.int (0)) ∧ MA E T Y σ 1 gt H1) := by
  refine Met.ofW (cc := cX6_pass) (maxL := 3) (ret := (some .int)) (by decide) rfl ?_
  intro p e s m args below meth c s₁ B hml hv
  obtain ⟨rfl, hH, hV⟩ := hv
  subst hH
  have hK := hV.k
  have hx := B.exec
  have hb := B.bytes
  have hr := B.returns
  have hts := atoms_spec (ws := wsX6_pass) B.pre
  have hown : s.vm.findClass RX6 = some m.cls := findClass_of_methodNamed B.named
  have hlocks := B.notSynchronized
  have hS : va_S (fun q => (z_FM T) q ∨ s.heap.size ≤ q) s.heap s.heap [] := va_S.rf
  have hA9 : ∀ q : Nat, s.heap.size ≤ q → ((z_FM T) q ∨ s.heap.size ≤ q) := fun _ h => Or.inr h
  have hbA : ∀ q : Nat, q < E.2.2.1 → ¬ ((z_FM T) q ∨ s.heap.size ≤ q) := fun q hq z => z.elim (z_FMb hA.2 hq) (fun z => absurd (Nat.lt_of_lt_of_le hq hV.2.2.2.2.2.2) (Nat.not_lt.mpr z))
  have i_X6 : ∀ w ∈ u_ws RX6 TX6 26, w ∈ wsX6_pass := fun w h => (List.mem_cons_of_mem _ (List.mem_append_right _ h))
  have hl := lv_entry [.ref (Y 10 0), .int (nI i), .int y] (n := 3) (Nat.le_of_ble_eq_true rfl)
  rw [lg_entry_eq]
  generalize (lg_sl [.ref (Y 10 0), .int (nI i), .int y] ++ List.replicate (3 - (lg_sl [.ref (Y 10 0), .int (nI i), .int y]).length) Slot.unset).toArray = ls at hl ⊢
  have hl : lv_has ls 3 [(0, .ref (Y 10 0)), (1, .int (nI i)), (2, .int y)] := hl
  have b0 := hI.n0
  have b1 := hI.n1
  have b2 := hI.n2
  have b3 := hI.n3
  refine lv_aload_n hx hb dX6_pass_0 rfl (lv_at hl 0 rfl) ?_
  refine lv_iconst (v := 0) hx hb dX6_pass_1 (by decide) ?_
  refine wk_put (own := RX6) (C := RX6) (T := TX6) (N := 26) (ci := 7) (v := .int 0) hx hb hts i_X6 tyX6 tyX6_ok nmX6 hown hK hA.obj (Or.inl hA.tagO) hS rfl 0 (by decide) (hts _ (List.mem_of_getElem? (i := 1) rfl)) (fun _ h9 => h9) rfl (tyX6_ok 0 (by decide)) rfl rfl (Nat.le_of_ble_eq_true rfl) dX6_pass_2 (fun H locs hP9 hz9 hk9 hS => ?_)
  have hA := hA.setTh hP9 hk9
  refine lv_aload_n hx hb dX6_pass_5 rfl (lv_at hl 0 rfl) ?_
  refine lv_iload_n hx hb dX6_pass_6 rfl (lv_at hl 1 rfl) ?_
  refine wk_V (As := [.int (nI i)]) (rest := []) ⟨hx, hb, hml, hown, hts⟩ (c_X6_isPass l E hA hI (x := nI i)) (cwV 1 hts gX6_pass_X6_isPass rfl rfl rfl (by decide +kernel) ⟨(Nat.le_of_ble_eq_true rfl), (Nat.le_of_ble_eq_true rfl)⟩) (wk_recv hK hA.obj rfl) hK rfl hl.1 rfl (Nat.le_of_ble_eq_true rfl) dX6_pass_7 ⟨Nat.zero_le _, Nat.zero_le _⟩ ?_
  refine lv_if_eq (tgt := 32) hx hb dX6_pass_10 (by decide) (fun c_10 => ?_) (fun c_10 => ?_)
  · skip
    have e_10 : (v_ix (nI i) (z_n σ 2)) = false := wk_b0 c_10
    exact absurd (e_10.symm.trans (v_ix_nI hi (by omega))) (by decide)
  have e_10 : (v_ix (nI i) (z_n σ 2)) = true := wk_b1 c_10
  refine lv_iload_n hx hb dX6_pass_13 rfl (lv_at hl 2 rfl) ?_
  refine lv_iconst (v := 0) hx hb dX6_pass_14 (by decide) ?_
  refine lv_bipush (v := 7) hx hb dX6_pass_15 (by decide) ?_
  refine wk_S (As := [.int y, .int 0, .int 7]) (rest := []) ⟨hx, hb, hml, hown, hts⟩ (c_X6_isIn l E (x := y) (y := 0) (z := 7)) (va_cwS 3 hts gX6_pass_X6_isIn rfl rfl rfl (by decide +kernel) ⟨(Nat.le_of_ble_eq_true rfl), (Nat.le_of_ble_eq_true rfl)⟩) hK rfl hl.1 rfl (Nat.le_of_ble_eq_true rfl) dX6_pass_17 ⟨Nat.zero_le _, Nat.zero_le _⟩ ?_
  refine lv_if_eq (tgt := 32) hx hb dX6_pass_20 (by decide) (fun c_20 => ?_) (fun c_20 => ?_)
  · skip
    have e_20 : (v_in y 0 7) = false := wk_b0 c_20
    refine lv_aload_n hx hb dX6_pass_32 rfl (lv_at hl 0 rfl) ?_
    refine lv_iconst (v := 1) hx hb dX6_pass_33 (by decide) ?_
    refine we_V (As := [.int 1]) (rest := []) ⟨hx, hb, hml, hown, hts⟩ (e_X6_fail l E hA hI) (cwV 1 hts gX6_pass_X6_fail rfl rfl rfl (by decide +kernel) ⟨(Nat.le_of_ble_eq_true rfl), (Nat.le_of_ble_eq_true rfl)⟩) (wk_recv hK hA.obj rfl) (hV.heap hS.1 (fun q hq => hS.2.1 q (Nat.lt_of_lt_of_le hq hV.2.2.2.2.2.2) (hbA q hq))) hS (fun _ h => Or.inl h) hA9 rfl hl.1 rfl (Nat.le_of_ble_eq_true rfl) dX6_pass_34 ⟨Nat.zero_le _, Nat.zero_le _⟩ (fun v9 H locs hR9 hz9 hk9 hS => ?_)
    obtain ⟨rfl, hA⟩ := hR9
    refine wk_eqls (st' := [.int 0]) rfl ?_
    exact W.iret hx hb hr (we_end (Rt := fun v H1 => v = some (.int (0)) ∧ MA E T Y σ 1 gt H1) (F := z_FM T) (⟨rfl, hA⟩) hS) hS.2.2 dX6_pass_37
  have e_20 : (v_in y 0 7) = true := wk_b1 c_20
  exact absurd (hbad.symm.trans e_20) (by decide)

abbrev rme_X6_satellite : Room := { frames := 2, cells := 0, slots := 0, locals := 43 }
set_option maxHeartbeats 4000000 in
set_option maxRecDepth 100000 in
theorem e_X6_satellite (l : Launch) (E : wk_E) {T : Nat → Nat × Nat} {Y : Nat → Nat → Nat} {σ : z_S} {th : Int32} {gt : Int64} {H : Heap} (hA : MA E T Y σ th gt H) (hI : z_Ok σ) {k w : Nat} (hk : k < z_n σ 1) (hw : w ≤ 3) (hSm : z_Sm σ) : we_Met l yX6_satellite wsX6_satellite rme_X6_satellite E H [.ref (Y 10 0), .int (nI k), .int (nI w)] (z_FM T) 0 0 (fun v H1 => v = some (.int (f_sat σ k w)) ∧ MA E T Y σ 0 gt H1) := by
  refine Met.ofW (cc := cX6_satellite) (maxL := 3) (ret := (some .int)) (by decide) rfl ?_
  intro p e s m args below meth c s₁ B hml hv
  obtain ⟨rfl, hH, hV⟩ := hv
  subst hH
  have hK := hV.k
  have hx := B.exec
  have hb := B.bytes
  have hr := B.returns
  have hts := atoms_spec (ws := wsX6_satellite) B.pre
  have hown : s.vm.findClass RX6 = some m.cls := findClass_of_methodNamed B.named
  have hlocks := B.notSynchronized
  have hS : va_S (fun q => (z_FM T) q ∨ s.heap.size ≤ q) s.heap s.heap [] := va_S.rf
  have hA9 : ∀ q : Nat, s.heap.size ≤ q → ((z_FM T) q ∨ s.heap.size ≤ q) := fun _ h => Or.inr h
  have hbA : ∀ q : Nat, q < E.2.2.1 → ¬ ((z_FM T) q ∨ s.heap.size ≤ q) := fun q hq z => z.elim (z_FMb hA.2 hq) (fun z => absurd (Nat.lt_of_lt_of_le hq hV.2.2.2.2.2.2) (Nat.not_lt.mpr z))
  have i_X6 : ∀ w ∈ u_ws RX6 TX6 26, w ∈ wsX6_satellite := fun w h => (List.mem_cons_of_mem _ (List.mem_append_right _ h))
  have hl := lv_entry [.ref (Y 10 0), .int (nI k), .int (nI w)] (n := 3) (Nat.le_of_ble_eq_true rfl)
  rw [lg_entry_eq]
  generalize (lg_sl [.ref (Y 10 0), .int (nI k), .int (nI w)] ++ List.replicate (3 - (lg_sl [.ref (Y 10 0), .int (nI k), .int (nI w)]).length) Slot.unset).toArray = ls at hl ⊢
  have hl : lv_has ls 3 [(0, .ref (Y 10 0)), (1, .int (nI k)), (2, .int (nI w))] := hl
  have b0 := hI.n0
  have b1 := hI.n1
  have b2 := hI.n2
  have b3 := hI.n3
  refine lv_aload_n hx hb dX6_satellite_0 rfl (lv_at hl 0 rfl) ?_
  refine lv_iconst (v := 0) hx hb dX6_satellite_1 (by decide) ?_
  refine wk_put (own := RX6) (C := RX6) (T := TX6) (N := 26) (ci := 7) (v := .int 0) hx hb hts i_X6 tyX6 tyX6_ok nmX6 hown hK hA.obj (Or.inl hA.tagO) hS rfl 0 (by decide) (hts _ (List.mem_of_getElem? (i := 1) rfl)) (fun _ h9 => h9) rfl (tyX6_ok 0 (by decide)) rfl rfl (Nat.le_of_ble_eq_true rfl) dX6_satellite_2 (fun H locs hP9 hz9 hk9 hS => ?_)
  have hA := hA.setTh hP9 hk9
  refine lv_aload_n hx hb dX6_satellite_5 rfl (lv_at hl 0 rfl) ?_
  refine lv_iload_n hx hb dX6_satellite_6 rfl (lv_at hl 1 rfl) ?_
  refine wk_V (As := [.int (nI k)]) (rest := []) ⟨hx, hb, hml, hown, hts⟩ (c_X6_isSatellite l E hA hI (x := nI k)) (cwV 1 hts gX6_satellite_X6_isSatellite rfl rfl rfl (by decide +kernel) ⟨(Nat.le_of_ble_eq_true rfl), (Nat.le_of_ble_eq_true rfl)⟩) (wk_recv hK hA.obj rfl) hK rfl hl.1 rfl (Nat.le_of_ble_eq_true rfl) dX6_satellite_7 ⟨Nat.zero_le _, Nat.zero_le _⟩ ?_
  refine lv_if_eq (tgt := 31) hx hb dX6_satellite_10 (by decide) (fun c_10 => ?_) (fun c_10 => ?_)
  · skip
    have e_10 : (v_ix (nI k) (z_n σ 1)) = false := wk_b0 c_10
    exact absurd (e_10.symm.trans (v_ix_nI hk (by omega))) (by decide)
  have e_10 : (v_ix (nI k) (z_n σ 1)) = true := wk_b1 c_10
  refine lv_iload_n hx hb dX6_satellite_13 rfl (lv_at hl 2 rfl) ?_
  refine lv_iconst (v := 0) hx hb dX6_satellite_14 (by decide) ?_
  refine lv_iconst (v := 3) hx hb dX6_satellite_15 (by decide) ?_
  refine wk_S (As := [.int (nI w), .int 0, .int 3]) (rest := []) ⟨hx, hb, hml, hown, hts⟩ (c_X6_isIn l E (x := nI w) (y := 0) (z := 3)) (va_cwS 3 hts gX6_satellite_X6_isIn rfl rfl rfl (by decide +kernel) ⟨(Nat.le_of_ble_eq_true rfl), (Nat.le_of_ble_eq_true rfl)⟩) hK rfl hl.1 rfl (Nat.le_of_ble_eq_true rfl) dX6_satellite_16 ⟨Nat.zero_le _, Nat.zero_le _⟩ ?_
  refine lv_if_eq (tgt := 31) hx hb dX6_satellite_19 (by decide) (fun c_19 => ?_) (fun c_19 => ?_)
  · skip
    have e_19 : (v_in (nI w) 0 3) = false := wk_b0 c_19
    exact absurd (e_19.symm.trans (v_in_nI hw rfl)) (by decide)
  have e_19 : (v_in (nI w) 0 3) = true := wk_b1 c_19
  refine lv_aload_n hx hb dX6_satellite_22 rfl (lv_at hl 0 rfl) ?_
  refine lv_iload_n hx hb dX6_satellite_23 rfl (lv_at hl 1 rfl) ?_
  refine lv_iload_n hx hb dX6_satellite_24 rfl (lv_at hl 2 rfl) ?_
  refine wk_V (As := [.int (nI k), .int (nI w)]) (rest := []) ⟨hx, hb, hml, hown, hts⟩ (c_X6_known l E hA hI hk hw hSm) (cwV 2 hts gX6_satellite_X6_known rfl rfl rfl (by decide +kernel) ⟨(Nat.le_of_ble_eq_true rfl), (Nat.le_of_ble_eq_true rfl)⟩) (wk_recv hK hA.obj rfl) hK rfl hl.1 rfl (Nat.le_of_ble_eq_true rfl) dX6_satellite_25 ⟨Nat.zero_le _, Nat.zero_le _⟩ ?_
  refine lv_goto (tgt := 36) hx hb dX6_satellite_28 (by decide) ?_
  exact W.iret hx hb hr (we_end (Rt := fun v H1 => v = some (.int (f_sat σ k w)) ∧ MA E T Y σ 0 gt H1) (F := z_FM T) (⟨rfl, hA⟩) hS) hS.2.2 dX6_satellite_36

abbrev rmf_X6_satellite : Room := { frames := 2, cells := 0, slots := 0, locals := 43 }
set_option maxHeartbeats 4000000 in
set_option maxRecDepth 100000 in
theorem f_X6_satellite (l : Launch) (E : wk_E) {T : Nat → Nat × Nat} {Y : Nat → Nat → Nat} {σ : z_S} {th : Int32} {gt : Int64} {H : Heap} (hA : MA E T Y σ th gt H) (hI : z_Ok σ) {x y : Int32} (hbad : v_ix x (z_n σ 1) = false) : we_Met l yX6_satellite wsX6_satellite rmf_X6_satellite E H [.ref (Y 10 0), .int x, .int y] (z_FM T) 0 0 (fun v H1 => v = some (.int (0)) ∧ MA E T Y σ 1 gt H1) := by
  refine Met.ofW (cc := cX6_satellite) (maxL := 3) (ret := (some .int)) (by decide) rfl ?_
  intro p e s m args below meth c s₁ B hml hv
  obtain ⟨rfl, hH, hV⟩ := hv
  subst hH
  have hK := hV.k
  have hx := B.exec
  have hb := B.bytes
  have hr := B.returns
  have hts := atoms_spec (ws := wsX6_satellite) B.pre
  have hown : s.vm.findClass RX6 = some m.cls := findClass_of_methodNamed B.named
  have hlocks := B.notSynchronized
  have hS : va_S (fun q => (z_FM T) q ∨ s.heap.size ≤ q) s.heap s.heap [] := va_S.rf
  have hA9 : ∀ q : Nat, s.heap.size ≤ q → ((z_FM T) q ∨ s.heap.size ≤ q) := fun _ h => Or.inr h
  have hbA : ∀ q : Nat, q < E.2.2.1 → ¬ ((z_FM T) q ∨ s.heap.size ≤ q) := fun q hq z => z.elim (z_FMb hA.2 hq) (fun z => absurd (Nat.lt_of_lt_of_le hq hV.2.2.2.2.2.2) (Nat.not_lt.mpr z))
  have i_X6 : ∀ w ∈ u_ws RX6 TX6 26, w ∈ wsX6_satellite := fun w h => (List.mem_cons_of_mem _ (List.mem_append_right _ h))
  have hl := lv_entry [.ref (Y 10 0), .int x, .int y] (n := 3) (Nat.le_of_ble_eq_true rfl)
  rw [lg_entry_eq]
  generalize (lg_sl [.ref (Y 10 0), .int x, .int y] ++ List.replicate (3 - (lg_sl [.ref (Y 10 0), .int x, .int y]).length) Slot.unset).toArray = ls at hl ⊢
  have hl : lv_has ls 3 [(0, .ref (Y 10 0)), (1, .int x), (2, .int y)] := hl
  have b0 := hI.n0
  have b1 := hI.n1
  have b2 := hI.n2
  have b3 := hI.n3
  refine lv_aload_n hx hb dX6_satellite_0 rfl (lv_at hl 0 rfl) ?_
  refine lv_iconst (v := 0) hx hb dX6_satellite_1 (by decide) ?_
  refine wk_put (own := RX6) (C := RX6) (T := TX6) (N := 26) (ci := 7) (v := .int 0) hx hb hts i_X6 tyX6 tyX6_ok nmX6 hown hK hA.obj (Or.inl hA.tagO) hS rfl 0 (by decide) (hts _ (List.mem_of_getElem? (i := 1) rfl)) (fun _ h9 => h9) rfl (tyX6_ok 0 (by decide)) rfl rfl (Nat.le_of_ble_eq_true rfl) dX6_satellite_2 (fun H locs hP9 hz9 hk9 hS => ?_)
  have hA := hA.setTh hP9 hk9
  refine lv_aload_n hx hb dX6_satellite_5 rfl (lv_at hl 0 rfl) ?_
  refine lv_iload_n hx hb dX6_satellite_6 rfl (lv_at hl 1 rfl) ?_
  refine wk_V (As := [.int x]) (rest := []) ⟨hx, hb, hml, hown, hts⟩ (c_X6_isSatellite l E hA hI (x := x)) (cwV 1 hts gX6_satellite_X6_isSatellite rfl rfl rfl (by decide +kernel) ⟨(Nat.le_of_ble_eq_true rfl), (Nat.le_of_ble_eq_true rfl)⟩) (wk_recv hK hA.obj rfl) hK rfl hl.1 rfl (Nat.le_of_ble_eq_true rfl) dX6_satellite_7 ⟨Nat.zero_le _, Nat.zero_le _⟩ ?_
  refine lv_if_eq (tgt := 31) hx hb dX6_satellite_10 (by decide) (fun c_10 => ?_) (fun c_10 => ?_)
  · skip
    have e_10 : (v_ix x (z_n σ 1)) = false := wk_b0 c_10
    refine lv_aload_n hx hb dX6_satellite_31 rfl (lv_at hl 0 rfl) ?_
    refine lv_iconst (v := 1) hx hb dX6_satellite_32 (by decide) ?_
    refine we_V (As := [.int 1]) (rest := []) ⟨hx, hb, hml, hown, hts⟩ (e_X6_fail l E hA hI) (cwV 1 hts gX6_satellite_X6_fail rfl rfl rfl (by decide +kernel) ⟨(Nat.le_of_ble_eq_true rfl), (Nat.le_of_ble_eq_true rfl)⟩) (wk_recv hK hA.obj rfl) (hV.heap hS.1 (fun q hq => hS.2.1 q (Nat.lt_of_lt_of_le hq hV.2.2.2.2.2.2) (hbA q hq))) hS (fun _ h => Or.inl h) hA9 rfl hl.1 rfl (Nat.le_of_ble_eq_true rfl) dX6_satellite_33 ⟨Nat.zero_le _, Nat.zero_le _⟩ (fun v9 H locs hR9 hz9 hk9 hS => ?_)
    obtain ⟨rfl, hA⟩ := hR9
    refine wk_eqls (st' := [.int 0]) rfl ?_
    exact W.iret hx hb hr (we_end (Rt := fun v H1 => v = some (.int (0)) ∧ MA E T Y σ 1 gt H1) (F := z_FM T) (⟨rfl, hA⟩) hS) hS.2.2 dX6_satellite_36
  have e_10 : (v_ix x (z_n σ 1)) = true := wk_b1 c_10
  exact absurd (hbad.symm.trans e_10) (by decide)

abbrev rmf2_X6_satellite : Room := { frames := 2, cells := 0, slots := 0, locals := 43 }
set_option maxHeartbeats 4000000 in
set_option maxRecDepth 100000 in
theorem f2_X6_satellite (l : Launch) (E : wk_E) {T : Nat → Nat × Nat} {Y : Nat → Nat → Nat} {σ : z_S} {th : Int32} {gt : Int64} {H : Heap} (hA : MA E T Y σ th gt H) (hI : z_Ok σ) {k : Nat} {y : Int32} (hk : k < z_n σ 1) (hbad : v_in y 0 3 = false) : we_Met l yX6_satellite wsX6_satellite rmf2_X6_satellite E H [.ref (Y 10 0), .int (nI k), .int y] (z_FM T) 0 0 (fun v H1 => v = some (.int (0)) ∧ MA E T Y σ 1 gt H1) := by
  refine Met.ofW (cc := cX6_satellite) (maxL := 3) (ret := (some .int)) (by decide) rfl ?_
  intro p e s m args below meth c s₁ B hml hv
  obtain ⟨rfl, hH, hV⟩ := hv
  subst hH
  have hK := hV.k
  have hx := B.exec
  have hb := B.bytes
  have hr := B.returns
  have hts := atoms_spec (ws := wsX6_satellite) B.pre
  have hown : s.vm.findClass RX6 = some m.cls := findClass_of_methodNamed B.named
  have hlocks := B.notSynchronized
  have hS : va_S (fun q => (z_FM T) q ∨ s.heap.size ≤ q) s.heap s.heap [] := va_S.rf
  have hA9 : ∀ q : Nat, s.heap.size ≤ q → ((z_FM T) q ∨ s.heap.size ≤ q) := fun _ h => Or.inr h
  have hbA : ∀ q : Nat, q < E.2.2.1 → ¬ ((z_FM T) q ∨ s.heap.size ≤ q) := fun q hq z => z.elim (z_FMb hA.2 hq) (fun z => absurd (Nat.lt_of_lt_of_le hq hV.2.2.2.2.2.2) (Nat.not_lt.mpr z))
  have i_X6 : ∀ w ∈ u_ws RX6 TX6 26, w ∈ wsX6_satellite := fun w h => (List.mem_cons_of_mem _ (List.mem_append_right _ h))
  have hl := lv_entry [.ref (Y 10 0), .int (nI k), .int y] (n := 3) (Nat.le_of_ble_eq_true rfl)
  rw [lg_entry_eq]
  generalize (lg_sl [.ref (Y 10 0), .int (nI k), .int y] ++ List.replicate (3 - (lg_sl [.ref (Y 10 0), .int (nI k), .int y]).length) Slot.unset).toArray = ls at hl ⊢
  have hl : lv_has ls 3 [(0, .ref (Y 10 0)), (1, .int (nI k)), (2, .int y)] := hl
  have b0 := hI.n0
  have b1 := hI.n1
  have b2 := hI.n2
  have b3 := hI.n3
  refine lv_aload_n hx hb dX6_satellite_0 rfl (lv_at hl 0 rfl) ?_
  refine lv_iconst (v := 0) hx hb dX6_satellite_1 (by decide) ?_
  refine wk_put (own := RX6) (C := RX6) (T := TX6) (N := 26) (ci := 7) (v := .int 0) hx hb hts i_X6 tyX6 tyX6_ok nmX6 hown hK hA.obj (Or.inl hA.tagO) hS rfl 0 (by decide) (hts _ (List.mem_of_getElem? (i := 1) rfl)) (fun _ h9 => h9) rfl (tyX6_ok 0 (by decide)) rfl rfl (Nat.le_of_ble_eq_true rfl) dX6_satellite_2 (fun H locs hP9 hz9 hk9 hS => ?_)
  have hA := hA.setTh hP9 hk9
  refine lv_aload_n hx hb dX6_satellite_5 rfl (lv_at hl 0 rfl) ?_
  refine lv_iload_n hx hb dX6_satellite_6 rfl (lv_at hl 1 rfl) ?_
  refine wk_V (As := [.int (nI k)]) (rest := []) ⟨hx, hb, hml, hown, hts⟩ (c_X6_isSatellite l E hA hI (x := nI k)) (cwV 1 hts gX6_satellite_X6_isSatellite rfl rfl rfl (by decide +kernel) ⟨(Nat.le_of_ble_eq_true rfl), (Nat.le_of_ble_eq_true rfl)⟩) (wk_recv hK hA.obj rfl) hK rfl hl.1 rfl (Nat.le_of_ble_eq_true rfl) dX6_satellite_7 ⟨Nat.zero_le _, Nat.zero_le _⟩ ?_
  refine lv_if_eq (tgt := 31) hx hb dX6_satellite_10 (by decide) (fun c_10 => ?_) (fun c_10 => ?_)
  · skip
    have e_10 : (v_ix (nI k) (z_n σ 1)) = false := wk_b0 c_10
    exact absurd (e_10.symm.trans (v_ix_nI hk (by omega))) (by decide)
  have e_10 : (v_ix (nI k) (z_n σ 1)) = true := wk_b1 c_10
  refine lv_iload_n hx hb dX6_satellite_13 rfl (lv_at hl 2 rfl) ?_
  refine lv_iconst (v := 0) hx hb dX6_satellite_14 (by decide) ?_
  refine lv_iconst (v := 3) hx hb dX6_satellite_15 (by decide) ?_
  refine wk_S (As := [.int y, .int 0, .int 3]) (rest := []) ⟨hx, hb, hml, hown, hts⟩ (c_X6_isIn l E (x := y) (y := 0) (z := 3)) (va_cwS 3 hts gX6_satellite_X6_isIn rfl rfl rfl (by decide +kernel) ⟨(Nat.le_of_ble_eq_true rfl), (Nat.le_of_ble_eq_true rfl)⟩) hK rfl hl.1 rfl (Nat.le_of_ble_eq_true rfl) dX6_satellite_16 ⟨Nat.zero_le _, Nat.zero_le _⟩ ?_
  refine lv_if_eq (tgt := 31) hx hb dX6_satellite_19 (by decide) (fun c_19 => ?_) (fun c_19 => ?_)
  · skip
    have e_19 : (v_in y 0 3) = false := wk_b0 c_19
    refine lv_aload_n hx hb dX6_satellite_31 rfl (lv_at hl 0 rfl) ?_
    refine lv_iconst (v := 1) hx hb dX6_satellite_32 (by decide) ?_
    refine we_V (As := [.int 1]) (rest := []) ⟨hx, hb, hml, hown, hts⟩ (e_X6_fail l E hA hI) (cwV 1 hts gX6_satellite_X6_fail rfl rfl rfl (by decide +kernel) ⟨(Nat.le_of_ble_eq_true rfl), (Nat.le_of_ble_eq_true rfl)⟩) (wk_recv hK hA.obj rfl) (hV.heap hS.1 (fun q hq => hS.2.1 q (Nat.lt_of_lt_of_le hq hV.2.2.2.2.2.2) (hbA q hq))) hS (fun _ h => Or.inl h) hA9 rfl hl.1 rfl (Nat.le_of_ble_eq_true rfl) dX6_satellite_33 ⟨Nat.zero_le _, Nat.zero_le _⟩ (fun v9 H locs hR9 hz9 hk9 hS => ?_)
    obtain ⟨rfl, hA⟩ := hR9
    refine wk_eqls (st' := [.int 0]) rfl ?_
    exact W.iret hx hb hr (we_end (Rt := fun v H1 => v = some (.int (0)) ∧ MA E T Y σ 1 gt H1) (F := z_FM T) (⟨rfl, hA⟩) hS) hS.2.2 dX6_satellite_36
  have e_19 : (v_in y 0 3) = true := wk_b1 c_19
  exact absurd (hbad.symm.trans e_19) (by decide)
