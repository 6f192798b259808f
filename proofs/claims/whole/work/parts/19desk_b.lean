abbrev rme_X5_addAntenna : Room := { frames := 13, cells := 2, slots := 30, locals := 421 }
set_option maxHeartbeats 4000000 in
set_option maxRecDepth 100000 in
theorem e_X5_addAntenna (l : Launch) (E : wk_E) {T : Nat → Nat × Nat} {X : z_X} {σ : z_S} {H : Heap} (hA : DA E T X σ H) (hI : z_Ok σ) (hZ : z_Zr σ) {x y z : Int32} (hok : v_ant x y z = true) (hn : z_n σ 0 < 5) : we_Met l yX5_addAntenna wsX5_addAntenna rme_X5_addAntenna E H [.ref (X.1 0 0), .int x, .int y, .int z] (z_FD T) 2 30 (fun v H1 => v = some (.int (nI (z_n σ 0))) ∧ z_DN E T X (f_addA σ x y z) H H1) := by
  refine Met.ofW (cc := cX5_addAntenna) (maxL := 5) (ret := (some .int)) (by decide) rfl ?_
  intro p e s m args below meth c s₁ B hml hv
  obtain ⟨rfl, hH, hV⟩ := hv
  subst hH
  have hK := hV.k
  have hx := B.exec
  have hb := B.bytes
  have hr := B.returns
  have hts := atoms_spec (ws := wsX5_addAntenna) B.pre
  have hown : s.vm.findClass RX5 = some m.cls := findClass_of_methodNamed B.named
  have hlocks := B.notSynchronized
  have hS : va_S (fun q => (z_FD T) q ∨ s.heap.size ≤ q) s.heap s.heap [] := va_S.rf
  have hA9 : ∀ q : Nat, s.heap.size ≤ q → ((z_FD T) q ∨ s.heap.size ≤ q) := fun _ h => Or.inr h
  have hbA : ∀ q : Nat, q < E.2.2.1 → ¬ ((z_FD T) q ∨ s.heap.size ≤ q) := fun q hq z => z.elim (z_FDb hA.2.1 hq) (fun z => absurd (Nat.lt_of_lt_of_le hq hV.2.2.2.2.2.2) (Nat.not_lt.mpr z))
  have i_X5 : ∀ w ∈ u_ws RX5 TX5 7, w ∈ wsX5_addAntenna := fun w h => (List.mem_cons_of_mem _ (List.mem_append_left _ (List.mem_append_left _ (List.mem_append_left _ (List.mem_append_left _ (List.mem_append_right _ h))))))
  have i_X0 : ∀ w ∈ u_ws RX0 TX0 5, w ∈ wsX5_addAntenna := fun w h => (List.mem_cons_of_mem _ (List.mem_append_left _ (List.mem_append_left _ (List.mem_append_left _ (List.mem_append_right _ h)))))
  have hl := lv_entry [.ref (X.1 0 0), .int x, .int y, .int z] (n := 5) (Nat.le_of_ble_eq_true rfl)
  rw [lg_entry_eq]
  generalize (lg_sl [.ref (X.1 0 0), .int x, .int y, .int z] ++ List.replicate (5 - (lg_sl [.ref (X.1 0 0), .int x, .int y, .int z]).length) Slot.unset).toArray = ls at hl ⊢
  have hl : lv_has ls 5 [(0, .ref (X.1 0 0)), (1, .int x), (2, .int y), (3, .int z)] := hl
  have b0 := hI.n0
  have b1 := hI.n1
  have b2 := hI.n2
  have b3 := hI.n3
  refine lv_iload_n hx hb dX5_addAntenna_0 rfl (lv_at hl 1 rfl) ?_
  refine lv_iconst (v := 1) hx hb dX5_addAntenna_1 (by decide) ?_
  refine lv_bipush (v := 15) hx hb dX5_addAntenna_2 (by decide) ?_
  refine wk_S (As := [.int x, .int 1, .int 15]) (rest := []) ⟨hx, hb, hml, hown, hts⟩ (c_X5_isWithin l E (x := x) (y := 1) (z := 15)) (va_cwS 3 hts gX5_addAntenna_X5_isWithin rfl rfl rfl (by decide +kernel) ⟨(Nat.le_of_ble_eq_true rfl), (Nat.le_of_ble_eq_true rfl)⟩) hK rfl hl.1 rfl (Nat.le_of_ble_eq_true rfl) dX5_addAntenna_4 ⟨Nat.zero_le _, Nat.zero_le _⟩ ?_
  refine lv_if_eq (tgt := 30) hx hb dX5_addAntenna_7 (by decide) (fun c_7 => ?_) (fun c_7 => ?_)
  · skip
    have e_7 : (v_in x 1 15) = false := wk_b0 c_7
    exact absurd hok (by simp [v_ant, e_7])
  have e_7 : (v_in x 1 15) = true := wk_b1 c_7
  refine lv_iload_n hx hb dX5_addAntenna_10 rfl (lv_at hl 2 rfl) ?_
  refine lv_iconst (v := 0) hx hb dX5_addAntenna_11 (by decide) ?_
  refine lv_bipush (v := 30) hx hb dX5_addAntenna_12 (by decide) ?_
  refine wk_S (As := [.int y, .int 0, .int 30]) (rest := []) ⟨hx, hb, hml, hown, hts⟩ (c_X5_isWithin l E (x := y) (y := 0) (z := 30)) (va_cwS 3 hts gX5_addAntenna_X5_isWithin rfl rfl rfl (by decide +kernel) ⟨(Nat.le_of_ble_eq_true rfl), (Nat.le_of_ble_eq_true rfl)⟩) hK rfl hl.1 rfl (Nat.le_of_ble_eq_true rfl) dX5_addAntenna_14 ⟨Nat.zero_le _, Nat.zero_le _⟩ ?_
  refine lv_if_eq (tgt := 30) hx hb dX5_addAntenna_17 (by decide) (fun c_17 => ?_) (fun c_17 => ?_)
  · skip
    have e_17 : (v_in y 0 30) = false := wk_b0 c_17
    exact absurd hok (by simp [v_ant, e_7, e_17])
  have e_17 : (v_in y 0 30) = true := wk_b1 c_17
  refine lv_iload_n hx hb dX5_addAntenna_20 rfl (lv_at hl 3 rfl) ?_
  refine lv_iconst (v := 1) hx hb dX5_addAntenna_21 (by decide) ?_
  refine lv_bipush (v := 100) hx hb dX5_addAntenna_22 (by decide) ?_
  refine wk_S (As := [.int z, .int 1, .int 100]) (rest := []) ⟨hx, hb, hml, hown, hts⟩ (c_X5_isWithin l E (x := z) (y := 1) (z := 100)) (va_cwS 3 hts gX5_addAntenna_X5_isWithin rfl rfl rfl (by decide +kernel) ⟨(Nat.le_of_ble_eq_true rfl), (Nat.le_of_ble_eq_true rfl)⟩) hK rfl hl.1 rfl (Nat.le_of_ble_eq_true rfl) dX5_addAntenna_24 ⟨Nat.zero_le _, Nat.zero_le _⟩ ?_
  refine lv_if_ne (tgt := 40) hx hb dX5_addAntenna_27 (by decide) (fun c_27 => ?_) (fun c_27 => ?_)
  · skip
    have e_27 : (v_in z 1 100) = true := wk_b1 c_27
    refine lv_aload_n hx hb dX5_addAntenna_40 rfl (lv_at hl 0 rfl) ?_
    refine wk_get (own := RX5) (C := RX5) (T := TX5) (N := 7) (ci := 6) (v := .ref (X.1 1 0)) hx hb hts i_X5 hown hK hA.desk rfl 0 (by decide) (hts _ (List.mem_of_getElem? (i := 5) rfl)) (fun _ h9 => h9) rfl dX5_addAntenna_41 ?_
    refine wk_V (As := []) (rest := []) ⟨hx, hb, hml, hown, hts⟩ (c_size0 l E hA) (cwV 0 hts gX5_addAntenna_Jx4a65c_size_8abf5 rfl rfl rfl (by decide +kernel) ⟨(Nat.le_of_ble_eq_true rfl), (Nat.le_of_ble_eq_true rfl)⟩) (wk_recv hK (hA.list (j := 0) (by decide)) rfl) hK rfl hl.1 rfl (Nat.le_of_ble_eq_true rfl) dX5_addAntenna_44 ⟨Nat.zero_le _, Nat.zero_le _⟩ ?_
    refine lv_istore (lv' := [(4, .int (nI (z_n σ 0))), (0, .ref (X.1 0 0)), (1, .int x), (2, .int y), (3, .int z)]) hx hb dX5_addAntenna_47 hl (by decide) rfl (fun ls hl => ?_)
    refine lv_iload hx hb dX5_addAntenna_49 (lv_at hl 0 rfl) ?_
    refine lv_iconst (v := 5) hx hb dX5_addAntenna_51 (by decide) ?_
    refine lv_icmp_lt (tgt := 65) hx hb dX5_addAntenna_52 (by decide) (fun c_52 => ?_) (fun c_52 => ?_)
    · skip
      have e_52 : (z_n σ 0) < 5 := wk_cltt (by omega) (by omega) c_52
      refine lv_aload_n hx hb dX5_addAntenna_65 rfl (lv_at hl 1 rfl) ?_
      refine wk_get (own := RX5) (C := RX5) (T := TX5) (N := 7) (ci := 6) (v := .ref (X.1 1 0)) hx hb hts i_X5 hown hK hA.desk rfl 0 (by decide) (hts _ (List.mem_of_getElem? (i := 5) rfl)) (fun _ h9 => h9) rfl dX5_addAntenna_66 ?_
      refine wk_newv (own := RX5) (C := RX0) (T := TX0) (N := 5) (ci := 1) (fs := [.int 0, .int 0, .int 0, .int 0, .int 0]) hx hb hts i_X0 tyX0 tyX0_ok hown (hts _ (List.mem_of_getElem? (i := 6) rfl)) (hts _ (List.mem_of_getElem? (i := 7) rfl)) (hts _ (List.mem_of_getElem? (i := 8) rfl)) hK hS rfl (fun j hj => by rcases (show j = 0 ∨ j = 1 ∨ j = 2 ∨ j = 3 ∨ j = 4 by omega) with rfl | rfl | rfl | rfl | rfl <;> rfl) (Nat.le_of_ble_eq_true rfl) (Nat.le_of_ble_eq_true rfl) dX5_addAntenna_69 (fun o9 H ho9 hN9 hz9 hk9 hS => ?_)
      have hO := hN9
      have hA0 := hA
      have hxs : ∀ (i k : Nat) (ae : Nat × va_E), z_cell E X σ i k = some ae → ¬ o9 = ae.1 := fun i k ae hc => by have hz := hA0.1.lt hc; rw [ho9]; exact Nat.ne_of_gt hz
      have hob : E.2.2.1 ≤ o9 := by rw [ho9]; exact hV.2.2.2.2.2.2
      have hA := hA.keptc (fun i k ae hc => hk9 _ (hA0.1.lt hc))
      have hkn9 := hk9
      have hzn9 := hz9
      refine lv_dup hx hb dX5_addAntenna_72 rfl ?_
      refine lv_iload hx hb dX5_addAntenna_73 (lv_at hl 0 rfl) ?_
      refine lv_iload_n hx hb dX5_addAntenna_75 rfl (lv_at hl 2 rfl) ?_
      refine lv_iload_n hx hb dX5_addAntenna_76 rfl (lv_at hl 3 rfl) ?_
      refine lv_iload_n hx hb dX5_addAntenna_77 rfl (lv_at hl 4 rfl) ?_
      refine we_I (As := [.int (nI (z_n σ 0)), .int x, .int y, .int z]) (rest := [.ref o9, .ref (X.1 1 0)]) ⟨hx, hb, hml, hown, hts⟩ (e_X0_init l E hO hob) (cwI 4 hts gX5_addAntenna_X0_init rfl rfl rfl (hts _ (List.mem_of_getElem? (i := 8) rfl)) (hts _ (List.mem_of_getElem? (i := 19) rfl)) (hts _ (List.mem_of_getElem? (i := 20) rfl)) rfl (by decide +kernel) ⟨(Nat.le_of_ble_eq_true rfl), (Nat.le_of_ble_eq_true rfl)⟩) (hV.heap hS.1 (fun q hq => hS.2.1 q (Nat.lt_of_lt_of_le hq hV.2.2.2.2.2.2) (hbA q hq))) hS (fun q h => Or.inr (by rw [h, ho9]; exact Nat.le_refl _)) hA9 rfl hl.1 rfl (Nat.le_of_ble_eq_true rfl) dX5_addAntenna_78 ⟨(Nat.le_of_ble_eq_true rfl), (Nat.le_of_ble_eq_true rfl)⟩ (fun v9 H locs hR9 hz9 hk9 hS => ?_)
      obtain ⟨rfl, hO⟩ := hR9
      have hA1 := hA
      have hA := hA.keptc (fun i k ae hc => hk9 _ (hA1.1.lt hc) (fun z => hxs i k ae hc z.symm))
      have hki9 := hk9
      have hzi9 := hz9
      refine wk_eqls (st' := [.ref o9, .ref (X.1 1 0)]) rfl ?_
      refine we_V (As := [.ref o9]) (rest := []) ⟨hx, hb, hml, hown, hts⟩ (e_listadd l E hA (j := 0) (by decide) (ci := 1) rfl (by decide) hO hxs (by omega) (fun i hi => ⟨_, hA.ant hi⟩) (fun i hi z => by have t1 := hA.antT hi; have t3 : T (X.1 1 0) = (1, 0) := z_cl1T hA (by decide); rw [← z] at t3; exact absurd (Prod.mk.inj (t1.symm.trans t3)).1 (by decide))) (cwV 1 hts gX5_addAntenna_Jx4a65c_add_9ea2d rfl rfl rfl (by decide +kernel) ⟨(Nat.le_of_ble_eq_true rfl), (Nat.le_of_ble_eq_true rfl)⟩) (wk_recv hK (hA.list (j := 0) (by decide)) rfl) (hV.heap hS.1 (fun q hq => hS.2.1 q (Nat.lt_of_lt_of_le hq hV.2.2.2.2.2.2) (hbA q hq))) hS (fun q h => Or.inl (h.elim (fun z => by rw [z]; exact hA.tag (z_cl1 (j := 0) (by decide))) (fun z => z_row_tag hA (by decide) z.1 z.2 hV.2.2.2.2.2.1))) hA9 rfl hl.1 rfl (Nat.le_of_ble_eq_true rfl) dX5_addAntenna_81 ⟨(Nat.le_of_ble_eq_true rfl), (Nat.le_of_ble_eq_true rfl)⟩ (fun v9 H locs hR9 hz9 hk9 hS => ?_)
      obtain ⟨rfl, q8, cap8, mo8, hq8, hc8, hrow8, hlist8⟩ := hR9
      refine wk_eqls (st' := [.int 1]) rfl ?_
      have hO := va_at.kept hO (hk9 _ hO.lt (fun z => z.elim (hxs 1 0 _ (z_cl1 (by decide))) (fun z => z_row_ne hA (by decide) hxs z.1 z.2 hV.2.2.2.2.2.1)))
      obtain ⟨T9, X9, hT9, hX9, hX8, hA⟩ := hA0.add (j := 0) (σ' := f_addA σ x y z) (by decide) hV.2.2.2.2.2.2 hV.2.2.2.2.2.1 (Nat.le_of_eq ho9.symm) (hq8.imp id (fun z => ⟨by omega, by omega⟩)) hc8 hO hrow8 hlist8 (fun a ha hn => (hk9 a (by omega) hn).trans ((hki9 a (by omega) (by omega)).trans (hkn9 a ha))) (z_cellA hZ) (z_othA hI) (fun i => by first | rfl | (match i with | 0 => rfl | 1 => rfl | 2 => rfl | 3 => rfl | i + 4 => rfl))
      refine lv_pop hx hb dX5_addAntenna_84 rfl ?_
      refine lv_iload hx hb dX5_addAntenna_85 (lv_at hl 0 rfl) ?_
      refine W.widen (k := 2) (n := 30) (Nat.le_of_ble_eq_true rfl) (Nat.le_of_ble_eq_true rfl) ?_
      exact W.iret hx hb hr (we_end (Rt := fun v H1 => v = some (.int (nI (z_n σ 0))) ∧ z_DN E T X (f_addA σ x y z) s.heap H1) (F := z_FD T) (⟨rfl, T9, X9, hT9, hX9, hA⟩) hS) hS.2.2 dX5_addAntenna_87
    have e_52 : 5 ≤ (z_n σ 0) := wk_cltf (by omega) (by omega) c_52
    omega
  have e_27 : (v_in z 1 100) = false := wk_b0 c_27
  exact absurd hok (by simp [v_ant, e_7, e_17, e_27])

abbrev rmt_X5_addAntenna : Room := { frames := 6, cells := 1, slots := 6, locals := 90 }
set_option maxHeartbeats 4000000 in
set_option maxRecDepth 100000 in
theorem t_X5_addAntenna (l : Launch) (hlf : l.stackTraces = false) (E : wk_E) {T : Nat → Nat × Nat} {X : z_X} {σ : z_S} {H : Heap} (hA : DA E T X σ H) (hI : z_Ok σ) {x y z : Int32} (hbad : v_ant x y z = false) : wx_Met l yX5_addAntenna wsX5_addAntenna rmt_X5_addAntenna E H [.ref (X.1 0 0), .int x, .int y, .int z] "java/lang/IllegalArgumentException" := by
  refine vx_ofW (cc := cX5_addAntenna) (maxL := 5) (ret := (some .int)) (by decide) rfl ?_
  intro p e s m args below meth c s₁ B hml htab hv
  obtain ⟨rfl, hH, hV⟩ := hv
  subst hH
  have hK := hV.k
  have hx := B.exec
  have hb := B.bytes
  have hr := B.returns
  have hts := atoms_spec (ws := wsX5_addAntenna) B.pre
  have hown : s.vm.findClass RX5 = some m.cls := findClass_of_methodNamed B.named
  have hlocks := B.notSynchronized
  have hl := lv_entry [.ref (X.1 0 0), .int x, .int y, .int z] (n := 5) (Nat.le_of_ble_eq_true rfl)
  rw [lg_entry_eq]
  generalize (lg_sl [.ref (X.1 0 0), .int x, .int y, .int z] ++ List.replicate (5 - (lg_sl [.ref (X.1 0 0), .int x, .int y, .int z]).length) Slot.unset).toArray = ls at hl ⊢
  have hl : lv_has ls 5 [(0, .ref (X.1 0 0)), (1, .int x), (2, .int y), (3, .int z)] := hl
  have b0 := hI.n0
  have b1 := hI.n1
  have b2 := hI.n2
  have b3 := hI.n3
  refine lv_iload_n hx hb dX5_addAntenna_0 rfl (lv_at hl 1 rfl) ?_
  refine lv_iconst (v := 1) hx hb dX5_addAntenna_1 (by decide) ?_
  refine lv_bipush (v := 15) hx hb dX5_addAntenna_2 (by decide) ?_
  refine wk_S (As := [.int x, .int 1, .int 15]) (rest := []) ⟨hx, hb, hml, hown, hts⟩ (c_X5_isWithin l E (x := x) (y := 1) (z := 15)) (va_cwS 3 hts gX5_addAntenna_X5_isWithin rfl rfl rfl (by decide +kernel) ⟨(Nat.le_of_ble_eq_true rfl), (Nat.le_of_ble_eq_true rfl)⟩) hK rfl hl.1 rfl (Nat.le_of_ble_eq_true rfl) dX5_addAntenna_4 ⟨Nat.zero_le _, Nat.zero_le _⟩ ?_
  refine lv_if_eq (tgt := 30) hx hb dX5_addAntenna_7 (by decide) (fun c_7 => ?_) (fun c_7 => ?_)
  · skip
    have e_7 : (v_in x 1 15) = false := wk_b0 c_7
    exact wx_throw (nL := 5) hx hb hlf hown hml hl.1 (by decide) (by decide) (hts _ (List.mem_of_getElem? (i := 1) rfl)) (hts _ (List.mem_of_getElem? (i := 2) rfl)) (List.mem_of_getElem? (i := 5) rfl) (fun w h => hts w (List.mem_cons_of_mem _ (List.mem_append_left _ (List.mem_append_right _ h)))) wx_bad_IAE wx_good_IAE hV htab hlocks dX5_addAntenna_30 dX5_addAntenna_33 dX5_addAntenna_34 dX5_addAntenna_36 dX5_addAntenna_39 ⟨(Nat.le_of_ble_eq_true rfl), (Nat.le_of_ble_eq_true rfl), (Nat.le_of_ble_eq_true rfl), (Nat.le_of_ble_eq_true rfl)⟩
  have e_7 : (v_in x 1 15) = true := wk_b1 c_7
  refine lv_iload_n hx hb dX5_addAntenna_10 rfl (lv_at hl 2 rfl) ?_
  refine lv_iconst (v := 0) hx hb dX5_addAntenna_11 (by decide) ?_
  refine lv_bipush (v := 30) hx hb dX5_addAntenna_12 (by decide) ?_
  refine wk_S (As := [.int y, .int 0, .int 30]) (rest := []) ⟨hx, hb, hml, hown, hts⟩ (c_X5_isWithin l E (x := y) (y := 0) (z := 30)) (va_cwS 3 hts gX5_addAntenna_X5_isWithin rfl rfl rfl (by decide +kernel) ⟨(Nat.le_of_ble_eq_true rfl), (Nat.le_of_ble_eq_true rfl)⟩) hK rfl hl.1 rfl (Nat.le_of_ble_eq_true rfl) dX5_addAntenna_14 ⟨Nat.zero_le _, Nat.zero_le _⟩ ?_
  refine lv_if_eq (tgt := 30) hx hb dX5_addAntenna_17 (by decide) (fun c_17 => ?_) (fun c_17 => ?_)
  · skip
    have e_17 : (v_in y 0 30) = false := wk_b0 c_17
    exact wx_throw (nL := 5) hx hb hlf hown hml hl.1 (by decide) (by decide) (hts _ (List.mem_of_getElem? (i := 1) rfl)) (hts _ (List.mem_of_getElem? (i := 2) rfl)) (List.mem_of_getElem? (i := 5) rfl) (fun w h => hts w (List.mem_cons_of_mem _ (List.mem_append_left _ (List.mem_append_right _ h)))) wx_bad_IAE wx_good_IAE hV htab hlocks dX5_addAntenna_30 dX5_addAntenna_33 dX5_addAntenna_34 dX5_addAntenna_36 dX5_addAntenna_39 ⟨(Nat.le_of_ble_eq_true rfl), (Nat.le_of_ble_eq_true rfl), (Nat.le_of_ble_eq_true rfl), (Nat.le_of_ble_eq_true rfl)⟩
  have e_17 : (v_in y 0 30) = true := wk_b1 c_17
  refine lv_iload_n hx hb dX5_addAntenna_20 rfl (lv_at hl 3 rfl) ?_
  refine lv_iconst (v := 1) hx hb dX5_addAntenna_21 (by decide) ?_
  refine lv_bipush (v := 100) hx hb dX5_addAntenna_22 (by decide) ?_
  refine wk_S (As := [.int z, .int 1, .int 100]) (rest := []) ⟨hx, hb, hml, hown, hts⟩ (c_X5_isWithin l E (x := z) (y := 1) (z := 100)) (va_cwS 3 hts gX5_addAntenna_X5_isWithin rfl rfl rfl (by decide +kernel) ⟨(Nat.le_of_ble_eq_true rfl), (Nat.le_of_ble_eq_true rfl)⟩) hK rfl hl.1 rfl (Nat.le_of_ble_eq_true rfl) dX5_addAntenna_24 ⟨Nat.zero_le _, Nat.zero_le _⟩ ?_
  refine lv_if_ne (tgt := 40) hx hb dX5_addAntenna_27 (by decide) (fun c_27 => ?_) (fun c_27 => ?_)
  · skip
    have e_27 : (v_in z 1 100) = true := wk_b1 c_27
    exact absurd hbad (by simp [v_ant, e_7, e_17, e_27])
  have e_27 : (v_in z 1 100) = false := wk_b0 c_27
  exact wx_throw (nL := 5) hx hb hlf hown hml hl.1 (by decide) (by decide) (hts _ (List.mem_of_getElem? (i := 1) rfl)) (hts _ (List.mem_of_getElem? (i := 2) rfl)) (List.mem_of_getElem? (i := 5) rfl) (fun w h => hts w (List.mem_cons_of_mem _ (List.mem_append_left _ (List.mem_append_right _ h)))) wx_bad_IAE wx_good_IAE hV htab hlocks dX5_addAntenna_30 dX5_addAntenna_33 dX5_addAntenna_34 dX5_addAntenna_36 dX5_addAntenna_39 ⟨(Nat.le_of_ble_eq_true rfl), (Nat.le_of_ble_eq_true rfl), (Nat.le_of_ble_eq_true rfl), (Nat.le_of_ble_eq_true rfl)⟩

abbrev rmt2_X5_addAntenna : Room := { frames := 6, cells := 1, slots := 6, locals := 90 }
set_option maxHeartbeats 4000000 in
set_option maxRecDepth 100000 in
theorem t2_X5_addAntenna (l : Launch) (hlf : l.stackTraces = false) (E : wk_E) {T : Nat → Nat × Nat} {X : z_X} {σ : z_S} {H : Heap} (hA : DA E T X σ H) (hI : z_Ok σ) {x y z : Int32} (hok : v_ant x y z = true) (hn : ¬ z_n σ 0 < 5) : wx_Met l yX5_addAntenna wsX5_addAntenna rmt2_X5_addAntenna E H [.ref (X.1 0 0), .int x, .int y, .int z] "java/lang/IllegalStateException" := by
  refine vx_ofW (cc := cX5_addAntenna) (maxL := 5) (ret := (some .int)) (by decide) rfl ?_
  intro p e s m args below meth c s₁ B hml htab hv
  obtain ⟨rfl, hH, hV⟩ := hv
  subst hH
  have hK := hV.k
  have hx := B.exec
  have hb := B.bytes
  have hr := B.returns
  have hts := atoms_spec (ws := wsX5_addAntenna) B.pre
  have hown : s.vm.findClass RX5 = some m.cls := findClass_of_methodNamed B.named
  have hlocks := B.notSynchronized
  have i_X5 : ∀ w ∈ u_ws RX5 TX5 7, w ∈ wsX5_addAntenna := fun w h => (List.mem_cons_of_mem _ (List.mem_append_left _ (List.mem_append_left _ (List.mem_append_left _ (List.mem_append_left _ (List.mem_append_right _ h))))))
  have hl := lv_entry [.ref (X.1 0 0), .int x, .int y, .int z] (n := 5) (Nat.le_of_ble_eq_true rfl)
  rw [lg_entry_eq]
  generalize (lg_sl [.ref (X.1 0 0), .int x, .int y, .int z] ++ List.replicate (5 - (lg_sl [.ref (X.1 0 0), .int x, .int y, .int z]).length) Slot.unset).toArray = ls at hl ⊢
  have hl : lv_has ls 5 [(0, .ref (X.1 0 0)), (1, .int x), (2, .int y), (3, .int z)] := hl
  have b0 := hI.n0
  have b1 := hI.n1
  have b2 := hI.n2
  have b3 := hI.n3
  refine lv_iload_n hx hb dX5_addAntenna_0 rfl (lv_at hl 1 rfl) ?_
  refine lv_iconst (v := 1) hx hb dX5_addAntenna_1 (by decide) ?_
  refine lv_bipush (v := 15) hx hb dX5_addAntenna_2 (by decide) ?_
  refine wk_S (As := [.int x, .int 1, .int 15]) (rest := []) ⟨hx, hb, hml, hown, hts⟩ (c_X5_isWithin l E (x := x) (y := 1) (z := 15)) (va_cwS 3 hts gX5_addAntenna_X5_isWithin rfl rfl rfl (by decide +kernel) ⟨(Nat.le_of_ble_eq_true rfl), (Nat.le_of_ble_eq_true rfl)⟩) hK rfl hl.1 rfl (Nat.le_of_ble_eq_true rfl) dX5_addAntenna_4 ⟨Nat.zero_le _, Nat.zero_le _⟩ ?_
  refine lv_if_eq (tgt := 30) hx hb dX5_addAntenna_7 (by decide) (fun c_7 => ?_) (fun c_7 => ?_)
  · skip
    have e_7 : (v_in x 1 15) = false := wk_b0 c_7
    exact absurd hok (by simp [v_ant, e_7])
  have e_7 : (v_in x 1 15) = true := wk_b1 c_7
  refine lv_iload_n hx hb dX5_addAntenna_10 rfl (lv_at hl 2 rfl) ?_
  refine lv_iconst (v := 0) hx hb dX5_addAntenna_11 (by decide) ?_
  refine lv_bipush (v := 30) hx hb dX5_addAntenna_12 (by decide) ?_
  refine wk_S (As := [.int y, .int 0, .int 30]) (rest := []) ⟨hx, hb, hml, hown, hts⟩ (c_X5_isWithin l E (x := y) (y := 0) (z := 30)) (va_cwS 3 hts gX5_addAntenna_X5_isWithin rfl rfl rfl (by decide +kernel) ⟨(Nat.le_of_ble_eq_true rfl), (Nat.le_of_ble_eq_true rfl)⟩) hK rfl hl.1 rfl (Nat.le_of_ble_eq_true rfl) dX5_addAntenna_14 ⟨Nat.zero_le _, Nat.zero_le _⟩ ?_
  refine lv_if_eq (tgt := 30) hx hb dX5_addAntenna_17 (by decide) (fun c_17 => ?_) (fun c_17 => ?_)
  · skip
    have e_17 : (v_in y 0 30) = false := wk_b0 c_17
    exact absurd hok (by simp [v_ant, e_7, e_17])
  have e_17 : (v_in y 0 30) = true := wk_b1 c_17
  refine lv_iload_n hx hb dX5_addAntenna_20 rfl (lv_at hl 3 rfl) ?_
  refine lv_iconst (v := 1) hx hb dX5_addAntenna_21 (by decide) ?_
  refine lv_bipush (v := 100) hx hb dX5_addAntenna_22 (by decide) ?_
  refine wk_S (As := [.int z, .int 1, .int 100]) (rest := []) ⟨hx, hb, hml, hown, hts⟩ (c_X5_isWithin l E (x := z) (y := 1) (z := 100)) (va_cwS 3 hts gX5_addAntenna_X5_isWithin rfl rfl rfl (by decide +kernel) ⟨(Nat.le_of_ble_eq_true rfl), (Nat.le_of_ble_eq_true rfl)⟩) hK rfl hl.1 rfl (Nat.le_of_ble_eq_true rfl) dX5_addAntenna_24 ⟨Nat.zero_le _, Nat.zero_le _⟩ ?_
  refine lv_if_ne (tgt := 40) hx hb dX5_addAntenna_27 (by decide) (fun c_27 => ?_) (fun c_27 => ?_)
  · skip
    have e_27 : (v_in z 1 100) = true := wk_b1 c_27
    refine lv_aload_n hx hb dX5_addAntenna_40 rfl (lv_at hl 0 rfl) ?_
    refine wk_get (own := RX5) (C := RX5) (T := TX5) (N := 7) (ci := 6) (v := .ref (X.1 1 0)) hx hb hts i_X5 hown hK hA.desk rfl 0 (by decide) (hts _ (List.mem_of_getElem? (i := 5) rfl)) (fun _ h9 => h9) rfl dX5_addAntenna_41 ?_
    refine wk_V (As := []) (rest := []) ⟨hx, hb, hml, hown, hts⟩ (c_size0 l E hA) (cwV 0 hts gX5_addAntenna_Jx4a65c_size_8abf5 rfl rfl rfl (by decide +kernel) ⟨(Nat.le_of_ble_eq_true rfl), (Nat.le_of_ble_eq_true rfl)⟩) (wk_recv hK (hA.list (j := 0) (by decide)) rfl) hK rfl hl.1 rfl (Nat.le_of_ble_eq_true rfl) dX5_addAntenna_44 ⟨Nat.zero_le _, Nat.zero_le _⟩ ?_
    refine lv_istore (lv' := [(4, .int (nI (z_n σ 0))), (0, .ref (X.1 0 0)), (1, .int x), (2, .int y), (3, .int z)]) hx hb dX5_addAntenna_47 hl (by decide) rfl (fun ls hl => ?_)
    refine lv_iload hx hb dX5_addAntenna_49 (lv_at hl 0 rfl) ?_
    refine lv_iconst (v := 5) hx hb dX5_addAntenna_51 (by decide) ?_
    refine lv_icmp_lt (tgt := 65) hx hb dX5_addAntenna_52 (by decide) (fun c_52 => ?_) (fun c_52 => ?_)
    · skip
      have e_52 : (z_n σ 0) < 5 := wk_cltt (by omega) (by omega) c_52
      omega
    have e_52 : 5 ≤ (z_n σ 0) := wk_cltf (by omega) (by omega) c_52
    exact wx_throw (nL := 5) hx hb hlf hown hml hl.1 (by decide) (by decide) (hts _ (List.mem_of_getElem? (i := 3) rfl)) (hts _ (List.mem_of_getElem? (i := 4) rfl)) (List.mem_of_getElem? (i := 6) rfl) (fun w h => hts w (List.mem_cons_of_mem _ (List.mem_append_right _ h))) wx_bad_ISE wx_good_ISE hV htab hlocks dX5_addAntenna_55 dX5_addAntenna_58 dX5_addAntenna_59 dX5_addAntenna_61 dX5_addAntenna_64 ⟨(Nat.le_of_ble_eq_true rfl), (Nat.le_of_ble_eq_true rfl), (Nat.le_of_ble_eq_true rfl), (Nat.le_of_ble_eq_true rfl)⟩
  have e_27 : (v_in z 1 100) = false := wk_b0 c_27
  exact absurd hok (by simp [v_ant, e_7, e_17, e_27])

abbrev rme_X5_addSatellite : Room := { frames := 13, cells := 2, slots := 30, locals := 421 }
set_option maxHeartbeats 4000000 in
set_option maxRecDepth 100000 in
theorem e_X5_addSatellite (l : Launch) (E : wk_E) {T : Nat → Nat × Nat} {X : z_X} {σ : z_S} {H : Heap} (hA : DA E T X σ H) (hI : z_Ok σ) (hZ : z_Zr σ) {w x y z : Int32} (hok : v_sat w x y z = true) (hn : z_n σ 1 < 8) : we_Met l yX5_addSatellite wsX5_addSatellite rme_X5_addSatellite E H [.ref (X.1 0 0), .int w, .int x, .int y, .int z] (z_FD T) 2 30 (fun v H1 => v = some (.int (nI (z_n σ 1))) ∧ z_DN E T X (f_addS σ w x y z) H H1) := by
  refine Met.ofW (cc := cX5_addSatellite) (maxL := 6) (ret := (some .int)) (by decide) rfl ?_
  intro p e s m args below meth c s₁ B hml hv
  obtain ⟨rfl, hH, hV⟩ := hv
  subst hH
  have hK := hV.k
  have hx := B.exec
  have hb := B.bytes
  have hr := B.returns
  have hts := atoms_spec (ws := wsX5_addSatellite) B.pre
  have hown : s.vm.findClass RX5 = some m.cls := findClass_of_methodNamed B.named
  have hlocks := B.notSynchronized
  have hS : va_S (fun q => (z_FD T) q ∨ s.heap.size ≤ q) s.heap s.heap [] := va_S.rf
  have hA9 : ∀ q : Nat, s.heap.size ≤ q → ((z_FD T) q ∨ s.heap.size ≤ q) := fun _ h => Or.inr h
  have hbA : ∀ q : Nat, q < E.2.2.1 → ¬ ((z_FD T) q ∨ s.heap.size ≤ q) := fun q hq z => z.elim (z_FDb hA.2.1 hq) (fun z => absurd (Nat.lt_of_lt_of_le hq hV.2.2.2.2.2.2) (Nat.not_lt.mpr z))
  have i_X5 : ∀ w ∈ u_ws RX5 TX5 7, w ∈ wsX5_addSatellite := fun w h => (List.mem_cons_of_mem _ (List.mem_append_left _ (List.mem_append_left _ (List.mem_append_left _ (List.mem_append_left _ (List.mem_append_right _ h))))))
  have i_X3 : ∀ w ∈ u_ws RX3 TX3 8, w ∈ wsX5_addSatellite := fun w h => (List.mem_cons_of_mem _ (List.mem_append_left _ (List.mem_append_left _ (List.mem_append_left _ (List.mem_append_right _ h)))))
  have hl := lv_entry [.ref (X.1 0 0), .int w, .int x, .int y, .int z] (n := 6) (Nat.le_of_ble_eq_true rfl)
  rw [lg_entry_eq]
  generalize (lg_sl [.ref (X.1 0 0), .int w, .int x, .int y, .int z] ++ List.replicate (6 - (lg_sl [.ref (X.1 0 0), .int w, .int x, .int y, .int z]).length) Slot.unset).toArray = ls at hl ⊢
  have hl : lv_has ls 6 [(0, .ref (X.1 0 0)), (1, .int w), (2, .int x), (3, .int y), (4, .int z)] := hl
  have b0 := hI.n0
  have b1 := hI.n1
  have b2 := hI.n2
  have b3 := hI.n3
  refine lv_iload_n hx hb dX5_addSatellite_0 rfl (lv_at hl 1 rfl) ?_
  refine lv_iconst (v := 0) hx hb dX5_addSatellite_1 (by decide) ?_
  refine lv_iconst (v := 3) hx hb dX5_addSatellite_2 (by decide) ?_
  refine wk_S (As := [.int w, .int 0, .int 3]) (rest := []) ⟨hx, hb, hml, hown, hts⟩ (c_X5_isWithin l E (x := w) (y := 0) (z := 3)) (va_cwS 3 hts gX5_addSatellite_X5_isWithin rfl rfl rfl (by decide +kernel) ⟨(Nat.le_of_ble_eq_true rfl), (Nat.le_of_ble_eq_true rfl)⟩) hK rfl hl.1 rfl (Nat.le_of_ble_eq_true rfl) dX5_addSatellite_3 ⟨Nat.zero_le _, Nat.zero_le _⟩ ?_
  refine lv_if_eq (tgt := 40) hx hb dX5_addSatellite_6 (by decide) (fun c_6 => ?_) (fun c_6 => ?_)
  · skip
    have e_6 : (v_in w 0 3) = false := wk_b0 c_6
    exact absurd hok (by simp [v_sat, e_6])
  have e_6 : (v_in w 0 3) = true := wk_b1 c_6
  refine lv_iload_n hx hb dX5_addSatellite_9 rfl (lv_at hl 2 rfl) ?_
  refine lv_iconst (v := 1) hx hb dX5_addSatellite_10 (by decide) ?_
  refine lv_bipush (v := 9) hx hb dX5_addSatellite_11 (by decide) ?_
  refine wk_S (As := [.int x, .int 1, .int 9]) (rest := []) ⟨hx, hb, hml, hown, hts⟩ (c_X5_isWithin l E (x := x) (y := 1) (z := 9)) (va_cwS 3 hts gX5_addSatellite_X5_isWithin rfl rfl rfl (by decide +kernel) ⟨(Nat.le_of_ble_eq_true rfl), (Nat.le_of_ble_eq_true rfl)⟩) hK rfl hl.1 rfl (Nat.le_of_ble_eq_true rfl) dX5_addSatellite_13 ⟨Nat.zero_le _, Nat.zero_le _⟩ ?_
  refine lv_if_eq (tgt := 40) hx hb dX5_addSatellite_16 (by decide) (fun c_16 => ?_) (fun c_16 => ?_)
  · skip
    have e_16 : (v_in x 1 9) = false := wk_b0 c_16
    exact absurd hok (by simp [v_sat, e_6, e_16])
  have e_16 : (v_in x 1 9) = true := wk_b1 c_16
  refine lv_iload_n hx hb dX5_addSatellite_19 rfl (lv_at hl 3 rfl) ?_
  refine lv_iconst (v := 0) hx hb dX5_addSatellite_20 (by decide) ?_
  refine lv_bipush (v := 50) hx hb dX5_addSatellite_21 (by decide) ?_
  refine wk_S (As := [.int y, .int 0, .int 50]) (rest := []) ⟨hx, hb, hml, hown, hts⟩ (c_X5_isWithin l E (x := y) (y := 0) (z := 50)) (va_cwS 3 hts gX5_addSatellite_X5_isWithin rfl rfl rfl (by decide +kernel) ⟨(Nat.le_of_ble_eq_true rfl), (Nat.le_of_ble_eq_true rfl)⟩) hK rfl hl.1 rfl (Nat.le_of_ble_eq_true rfl) dX5_addSatellite_23 ⟨Nat.zero_le _, Nat.zero_le _⟩ ?_
  refine lv_if_eq (tgt := 40) hx hb dX5_addSatellite_26 (by decide) (fun c_26 => ?_) (fun c_26 => ?_)
  · skip
    have e_26 : (v_in y 0 50) = false := wk_b0 c_26
    exact absurd hok (by simp [v_sat, e_6, e_16, e_26])
  have e_26 : (v_in y 0 50) = true := wk_b1 c_26
  refine lv_iload hx hb dX5_addSatellite_29 (lv_at hl 4 rfl) ?_
  refine lv_iconst (v := 1) hx hb dX5_addSatellite_31 (by decide) ?_
  refine lv_ldc (own := RX5) (v := (100000)) hx hb hown (hts _ (List.mem_of_getElem? (i := 5) rfl)) dX5_addSatellite_32 ?_
  refine wk_S (As := [.int z, .int 1, .int (100000)]) (rest := []) ⟨hx, hb, hml, hown, hts⟩ (c_X5_isWithin l E (x := z) (y := 1) (z := (100000))) (va_cwS 3 hts gX5_addSatellite_X5_isWithin rfl rfl rfl (by decide +kernel) ⟨(Nat.le_of_ble_eq_true rfl), (Nat.le_of_ble_eq_true rfl)⟩) hK rfl hl.1 rfl (Nat.le_of_ble_eq_true rfl) dX5_addSatellite_34 ⟨Nat.zero_le _, Nat.zero_le _⟩ ?_
  refine lv_if_ne (tgt := 50) hx hb dX5_addSatellite_37 (by decide) (fun c_37 => ?_) (fun c_37 => ?_)
  · skip
    have e_37 : (v_in z 1 (100000)) = true := wk_b1 c_37
    refine lv_aload_n hx hb dX5_addSatellite_50 rfl (lv_at hl 0 rfl) ?_
    refine wk_get (own := RX5) (C := RX5) (T := TX5) (N := 7) (ci := 6) (v := .ref (X.1 1 1)) hx hb hts i_X5 hown hK hA.desk rfl 1 (by decide) (hts _ (List.mem_of_getElem? (i := 6) rfl)) (fun _ h9 => h9) rfl dX5_addSatellite_51 ?_
    refine wk_V (As := []) (rest := []) ⟨hx, hb, hml, hown, hts⟩ (c_size1 l E hA) (cwV 0 hts gX5_addSatellite_Jx4a65c_size_8abf5 rfl rfl rfl (by decide +kernel) ⟨(Nat.le_of_ble_eq_true rfl), (Nat.le_of_ble_eq_true rfl)⟩) (wk_recv hK (hA.list (j := 1) (by decide)) rfl) hK rfl hl.1 rfl (Nat.le_of_ble_eq_true rfl) dX5_addSatellite_54 ⟨Nat.zero_le _, Nat.zero_le _⟩ ?_
    refine lv_istore (lv' := [(5, .int (nI (z_n σ 1))), (0, .ref (X.1 0 0)), (1, .int w), (2, .int x), (3, .int y), (4, .int z)]) hx hb dX5_addSatellite_57 hl (by decide) rfl (fun ls hl => ?_)
    refine lv_iload hx hb dX5_addSatellite_59 (lv_at hl 0 rfl) ?_
    refine lv_bipush (v := 8) hx hb dX5_addSatellite_61 (by decide) ?_
    refine lv_icmp_lt (tgt := 76) hx hb dX5_addSatellite_63 (by decide) (fun c_63 => ?_) (fun c_63 => ?_)
    · skip
      have e_63 : (z_n σ 1) < 8 := wk_cltt (by omega) (by omega) c_63
      refine lv_aload_n hx hb dX5_addSatellite_76 rfl (lv_at hl 1 rfl) ?_
      refine wk_get (own := RX5) (C := RX5) (T := TX5) (N := 7) (ci := 6) (v := .ref (X.1 1 1)) hx hb hts i_X5 hown hK hA.desk rfl 1 (by decide) (hts _ (List.mem_of_getElem? (i := 6) rfl)) (fun _ h9 => h9) rfl dX5_addSatellite_77 ?_
      refine wk_newv (own := RX5) (C := RX3) (T := TX3) (N := 8) (ci := 4) (fs := [.int 0, .int 0, .int 0, .int 0, .int 0, .int 0, .int 0, .int 0]) hx hb hts i_X3 tyX3 tyX3_ok hown (hts _ (List.mem_of_getElem? (i := 7) rfl)) (hts _ (List.mem_of_getElem? (i := 8) rfl)) (hts _ (List.mem_of_getElem? (i := 9) rfl)) hK hS rfl (fun j hj => by rcases (show j = 0 ∨ j = 1 ∨ j = 2 ∨ j = 3 ∨ j = 4 ∨ j = 5 ∨ j = 6 ∨ j = 7 by omega) with rfl | rfl | rfl | rfl | rfl | rfl | rfl | rfl <;> rfl) (Nat.le_of_ble_eq_true rfl) (Nat.le_of_ble_eq_true rfl) dX5_addSatellite_80 (fun o9 H ho9 hN9 hz9 hk9 hS => ?_)
      have hO := hN9
      have hA0 := hA
      have hxs : ∀ (i k : Nat) (ae : Nat × va_E), z_cell E X σ i k = some ae → ¬ o9 = ae.1 := fun i k ae hc => by have hz := hA0.1.lt hc; rw [ho9]; exact Nat.ne_of_gt hz
      have hob : E.2.2.1 ≤ o9 := by rw [ho9]; exact hV.2.2.2.2.2.2
      have hA := hA.keptc (fun i k ae hc => hk9 _ (hA0.1.lt hc))
      have hkn9 := hk9
      have hzn9 := hz9
      refine lv_dup hx hb dX5_addSatellite_83 rfl ?_
      refine lv_iload hx hb dX5_addSatellite_84 (lv_at hl 0 rfl) ?_
      refine lv_iload_n hx hb dX5_addSatellite_86 rfl (lv_at hl 2 rfl) ?_
      refine lv_iload_n hx hb dX5_addSatellite_87 rfl (lv_at hl 3 rfl) ?_
      refine lv_iload_n hx hb dX5_addSatellite_88 rfl (lv_at hl 4 rfl) ?_
      refine lv_iload hx hb dX5_addSatellite_89 (lv_at hl 5 rfl) ?_
      refine we_I (As := [.int (nI (z_n σ 1)), .int w, .int x, .int y, .int z]) (rest := [.ref o9, .ref (X.1 1 1)]) ⟨hx, hb, hml, hown, hts⟩ (e_X3_init l E hO hob) (cwI 5 hts gX5_addSatellite_X3_init rfl rfl rfl (hts _ (List.mem_of_getElem? (i := 9) rfl)) (hts _ (List.mem_of_getElem? (i := 20) rfl)) (hts _ (List.mem_of_getElem? (i := 21) rfl)) rfl (by decide +kernel) ⟨(Nat.le_of_ble_eq_true rfl), (Nat.le_of_ble_eq_true rfl)⟩) (hV.heap hS.1 (fun q hq => hS.2.1 q (Nat.lt_of_lt_of_le hq hV.2.2.2.2.2.2) (hbA q hq))) hS (fun q h => Or.inr (by rw [h, ho9]; exact Nat.le_refl _)) hA9 rfl hl.1 rfl (Nat.le_of_ble_eq_true rfl) dX5_addSatellite_91 ⟨(Nat.le_of_ble_eq_true rfl), (Nat.le_of_ble_eq_true rfl)⟩ (fun v9 H locs hR9 hz9 hk9 hS => ?_)
      obtain ⟨rfl, hO⟩ := hR9
      have hA1 := hA
      have hA := hA.keptc (fun i k ae hc => hk9 _ (hA1.1.lt hc) (fun z => hxs i k ae hc z.symm))
      have hki9 := hk9
      have hzi9 := hz9
      refine wk_eqls (st' := [.ref o9, .ref (X.1 1 1)]) rfl ?_
      refine we_V (As := [.ref o9]) (rest := []) ⟨hx, hb, hml, hown, hts⟩ (e_listadd l E hA (j := 1) (by decide) (ci := 4) rfl (by decide) hO hxs (by omega) (fun i hi => ⟨_, hA.sat hi⟩) (fun i hi z => by have t1 := hA.satT hi; have t3 : T (X.1 1 1) = (1, 1) := z_cl1T hA (by decide); rw [← z] at t3; exact absurd (Prod.mk.inj (t1.symm.trans t3)).1 (by decide))) (cwV 1 hts gX5_addSatellite_Jx4a65c_add_9ea2d rfl rfl rfl (by decide +kernel) ⟨(Nat.le_of_ble_eq_true rfl), (Nat.le_of_ble_eq_true rfl)⟩) (wk_recv hK (hA.list (j := 1) (by decide)) rfl) (hV.heap hS.1 (fun q hq => hS.2.1 q (Nat.lt_of_lt_of_le hq hV.2.2.2.2.2.2) (hbA q hq))) hS (fun q h => Or.inl (h.elim (fun z => by rw [z]; exact hA.tag (z_cl1 (j := 1) (by decide))) (fun z => z_row_tag hA (by decide) z.1 z.2 hV.2.2.2.2.2.1))) hA9 rfl hl.1 rfl (Nat.le_of_ble_eq_true rfl) dX5_addSatellite_94 ⟨(Nat.le_of_ble_eq_true rfl), (Nat.le_of_ble_eq_true rfl)⟩ (fun v9 H locs hR9 hz9 hk9 hS => ?_)
      obtain ⟨rfl, q8, cap8, mo8, hq8, hc8, hrow8, hlist8⟩ := hR9
      refine wk_eqls (st' := [.int 1]) rfl ?_
      have hO := va_at.kept hO (hk9 _ hO.lt (fun z => z.elim (hxs 1 1 _ (z_cl1 (by decide))) (fun z => z_row_ne hA (by decide) hxs z.1 z.2 hV.2.2.2.2.2.1)))
      obtain ⟨T9, X9, hT9, hX9, hX8, hA⟩ := hA0.add (j := 1) (σ' := f_addS σ w x y z) (by decide) hV.2.2.2.2.2.2 hV.2.2.2.2.2.1 (Nat.le_of_eq ho9.symm) (hq8.imp id (fun z => ⟨by omega, by omega⟩)) hc8 hO hrow8 hlist8 (fun a ha hn => (hk9 a (by omega) hn).trans ((hki9 a (by omega) (by omega)).trans (hkn9 a ha))) (z_cellS hZ) (z_othS hI) (fun i => by first | rfl | (match i with | 0 => rfl | 1 => rfl | 2 => rfl | 3 => rfl | i + 4 => rfl))
      refine lv_pop hx hb dX5_addSatellite_97 rfl ?_
      refine lv_iload hx hb dX5_addSatellite_98 (lv_at hl 0 rfl) ?_
      refine W.widen (k := 2) (n := 30) (Nat.le_of_ble_eq_true rfl) (Nat.le_of_ble_eq_true rfl) ?_
      exact W.iret hx hb hr (we_end (Rt := fun v H1 => v = some (.int (nI (z_n σ 1))) ∧ z_DN E T X (f_addS σ w x y z) s.heap H1) (F := z_FD T) (⟨rfl, T9, X9, hT9, hX9, hA⟩) hS) hS.2.2 dX5_addSatellite_100
    have e_63 : 8 ≤ (z_n σ 1) := wk_cltf (by omega) (by omega) c_63
    omega
  have e_37 : (v_in z 1 (100000)) = false := wk_b0 c_37
  exact absurd hok (by simp [v_sat, e_6, e_16, e_26, e_37])
