abbrev rme_X5_addSatellite : Room := { frames := 13, cells := 2, slots := 30, locals := 421 }
set_option maxHeartbeats 4000000 in
set_option maxRecDepth 100000 in
theorem e_X5_addSatellite (l : Launch) (E : wk_E) {T : Nat → Nat × Nat} {X : z_X} {σ : z_S} {H : Heap} (hA : DA E T X σ H) (hI : z_Ok σ) (hZ : z_Zr σ) {w x y z : Int32} (hok : v_sat w x y z = true) (hn : z_n σ 1 < 8) : we_Met l yX5_addSatellite wsX5_addSatellite rme_X5_addSatellite E H [.ref (X.1 0 0), .int w, .int x, .int y, .int z] (z_FD T) 2 30 (fun v H1 => v = some (.int (nI (z_n σ 1))) ∧ z_DN E T X (f_addS σ w x y z) H H1) := by
  refine Met.ofW (cc := cX5_addSatellite) (maxL := 6) (ret := (some .int)) (by decide) rfl ?_
  intro p e s m args below meth c s₁ B hml hv
  obtain ⟨rfl, hH, hV⟩ := hv
  subst hH
  have hK := hV.k
  have hx := B.exec
  have hb := B.bytes
  have hr := B.returns
  have hts := atoms_spec (ws := wsX5_addSatellite) B.pre
  have hown : s.vm.findClass RX5 = some m.cls := findClass_of_methodNamed B.named
  have hlocks := B.notSynchronized
  have hS : va_S (fun q => (z_FD T) q ∨ s.heap.size ≤ q) s.heap s.heap [] := va_S.rf
  have hA9 : ∀ q : Nat, s.heap.size ≤ q → ((z_FD T) q ∨ s.heap.size ≤ q) := fun _ h => Or.inr h
  have hbA : ∀ q : Nat, q < E.2.2.1 → ¬ ((z_FD T) q ∨ s.heap.size ≤ q) := fun q hq z => z.elim (z_FDb hA.2.1 hq) (fun z => absurd (Nat.lt_of_lt_of_le hq hV.2.2.2.2.2.2) (Nat.not_lt.mpr z))
  have i_X5 : ∀ w ∈ u_ws RX5 TX5 7, w ∈ wsX5_addSatellite := fun w h => (List.mem_cons_of_mem _ (List.mem_append_left _ (List.mem_append_left _ (List.mem_append_left _ (List.mem_append_left _ (List.mem_append_right _ h))))))
  have i_X3 : ∀ w ∈ u_ws RX3 TX3 8, w ∈ wsX5_addSatellite := fun w h => (List.mem_cons_of_mem _ (List.mem_append_left _ (List.mem_append_left _ (List.mem_append_left _ (List.mem_append_right _ h)))))
  have hl := lv_entry [.ref (X.1 0 0), .int w, .int x, .int y, .int z] (n := 6) (Nat.le_of_ble_eq_true rfl)
  rw [lg_entry_eq]
  generalize (lg_sl [.ref (X.1 0 0), .int w, .int x, .int y, .int z] ++ List.replicate (6 - (lg_sl [.ref (X.1 0 0), .int w, .int x, .int y, .int z]).length) Slot.unset).toArray = ls at hl ⊢
  have hl : lv_has ls 6 [(0, .ref (X.1 0 0)), (1, .int w), (2, .int x), (3, .int y), (4, .int z)] := hl
  have b0 := hI.n0
  have b1 := hI.n1
  have b2 := hI.n2
  have b3 := hI.n3
  refine lv_iload_n hx hb dX5_addSatellite_0 rfl (lv_at hl 1 rfl) ?_
  refine lv_iconst (v := 0) hx hb dX5_addSatellite_1 (by decide) ?_
  refine lv_iconst (v := 3) hx hb dX5_addSatellite_2 (by decide) ?_
  refine wk_S (As := [.int w, .int 0, .int 3]) (rest := []) ⟨hx, hb, hml, hown, hts⟩ (c_X5_isWithin l E (x := w) (y := 0) (z := 3)) (va_cwS 3 hts gX5_addSatellite_X5_isWithin rfl rfl rfl (by decide +kernel) ⟨(Nat.le_of_ble_eq_true rfl), (Nat.le_of_ble_eq_true rfl)⟩) hK rfl hl.1 rfl (Nat.le_of_ble_eq_true rfl) dX5_addSatellite_3 ⟨Nat.zero_le _, Nat.zero_le _⟩ ?_
  refine lv_if_eq (tgt := 40) hx hb dX5_addSatellite_6 (by decide) (fun c_6 => ?_) (fun c_6 => ?_)
  · skip
    have e_6 : (v_in w 0 3) = false := wk_b0 c_6
    exact absurd hok (by simp [v_sat, e_6])
  have e_6 : (v_in w 0 3) = true := wk_b1 c_6
  refine lv_iload_n hx hb dX5_addSatellite_9 rfl (lv_at hl 2 rfl) ?_
  refine lv_iconst (v := 1) hx hb dX5_addSatellite_10 (by decide) ?_
  refine lv_bipush (v := 9) hx hb dX5_addSatellite_11 (by decide) ?_
  refine wk_S (As := [.int x, .int 1, .int 9]) (rest := []) ⟨hx, hb, hml, hown, hts⟩ (c_X5_isWithin l E (x := x) (y := 1) (z := 9)) (va_cwS 3 hts gX5_addSatellite_X5_isWithin rfl rfl rfl (by decide +kernel) ⟨(Nat.le_of_ble_eq_true rfl), (Nat.le_of_ble_eq_true rfl)⟩) hK rfl hl.1 rfl (Nat.le_of_ble_eq_true rfl) dX5_addSatellite_13 ⟨Nat.zero_le _, Nat.zero_le _⟩ ?_
  refine lv_if_eq (tgt := 40) hx hb dX5_addSatellite_16 (by decide) (fun c_16 => ?_) (fun c_16 => ?_)
  · skip
    have e_16 : (v_in x 1 9) = false := wk_b0 c_16
    exact absurd hok (by simp [v_sat, e_6, e_16])
  have e_16 : (v_in x 1 9) = true := wk_b1 c_16
  refine lv_iload_n hx hb dX5_addSatellite_19 rfl (lv_at hl 3 rfl) ?_
  refine lv_iconst (v := 0) hx hb dX5_addSatellite_20 (by decide) ?_
  refine lv_bipush (v := 50) hx hb dX5_addSatellite_21 (by decide) ?_
  refine wk_S (As := [.int y, .int 0, .int 50]) (rest := []) ⟨hx, hb, hml, hown, hts⟩ (c_X5_isWithin l E (x := y) (y := 0) (z := 50)) (va_cwS 3 hts gX5_addSatellite_X5_isWithin rfl rfl rfl (by decide +kernel) ⟨(Nat.le_of_ble_eq_true rfl), (Nat.le_of_ble_eq_true rfl)⟩) hK rfl hl.1 rfl (Nat.le_of_ble_eq_true rfl) dX5_addSatellite_23 ⟨Nat.zero_le _, Nat.zero_le _⟩ ?_
  refine lv_if_eq (tgt := 40) hx hb dX5_addSatellite_26 (by decide) (fun c_26 => ?_) (fun c_26 => ?_)
  · skip
    have e_26 : (v_in y 0 50) = false := wk_b0 c_26
    exact absurd hok (by simp [v_sat, e_6, e_16, e_26])
  have e_26 : (v_in y 0 50) = true := wk_b1 c_26
  refine lv_iload hx hb dX5_addSatellite_29 (lv_at hl 4 rfl) ?_
  refine lv_iconst (v := 1) hx hb dX5_addSatellite_31 (by decide) ?_
  refine lv_ldc (own := RX5) (v := (100000)) hx hb hown (hts _ (List.mem_of_getElem? (i := 5) rfl)) dX5_addSatellite_32 ?_
  refine wk_S (As := [.int z, .int 1, .int (100000)]) (rest := []) ⟨hx, hb, hml, hown, hts⟩ (c_X5_isWithin l E (x := z) (y := 1) (z := (100000))) (va_cwS 3 hts gX5_addSatellite_X5_isWithin rfl rfl rfl (by decide +kernel) ⟨(Nat.le_of_ble_eq_true rfl), (Nat.le_of_ble_eq_true rfl)⟩) hK rfl hl.1 rfl (Nat.le_of_ble_eq_true rfl) dX5_addSatellite_34 ⟨Nat.zero_le _, Nat.zero_le _⟩ ?_
  refine lv_if_ne (tgt := 50) hx hb dX5_addSatellite_37 (by decide) (fun c_37 => ?_) (fun c_37 => ?_)
  · skip
    have e_37 : (v_in z 1 (100000)) = true := wk_b1 c_37
    refine lv_aload_n hx hb dX5_addSatellite_50 rfl (lv_at hl 0 rfl) ?_
    refine wk_get (own := RX5) (C := RX5) (T := TX5) (N := 7) (ci := 6) (v := .ref (X.1 1 1)) hx hb hts i_X5 hown hK hA.desk rfl 1 (by decide) (hts _ (List.mem_of_getElem? (i := 6) rfl)) (fun _ h9 => h9) rfl dX5_addSatellite_51 ?_
    refine wk_V (As := []) (rest := []) ⟨hx, hb, hml, hown, hts⟩ (c_size1 l E hA) (cwV 0 hts gX5_addSatellite_Jx4a65c_size_8abf5 rfl rfl rfl (by decide +kernel) ⟨(Nat.le_of_ble_eq_true rfl), (Nat.le_of_ble_eq_true rfl)⟩) (wk_recv hK (hA.list (j := 1) (by decide)) rfl) hK rfl hl.1 rfl (Nat.le_of_ble_eq_true rfl) dX5_addSatellite_54 ⟨Nat.zero_le _, Nat.zero_le _⟩ ?_
    refine lv_istore (lv' := [(5, .int (nI (z_n σ 1))), (0, .ref (X.1 0 0)), (1, .int w), (2, .int x), (3, .int y), (4, .int z)]) hx hb dX5_addSatellite_57 hl (by decide) rfl (fun ls hl => ?_)
    refine lv_iload hx hb dX5_addSatellite_59 (lv_at hl 0 rfl) ?_
    refine lv_bipush (v := 8) hx hb dX5_addSatellite_61 (by decide) ?_
    refine lv_icmp_lt (tgt := 76) hx hb dX5_addSatellite_63 (by decide) (fun c_63 => ?_) (fun c_63 => ?_)
    · skip
      have e_63 : (z_n σ 1) < 8 := wk_cltt (by omega) (by omega) c_63
      refine lv_aload_n hx hb dX5_addSatellite_76 rfl (lv_at hl 1 rfl) ?_
      refine wk_get (own := RX5) (C := RX5) (T := TX5) (N := 7) (ci := 6) (v := .ref (X.1 1 1)) hx hb hts i_X5 hown hK hA.desk rfl 1 (by decide) (hts _ (List.mem_of_getElem? (i := 6) rfl)) (fun _ h9 => h9) rfl dX5_addSatellite_77 ?_
      refine wk_newv (own := RX5) (C := RX3) (T := TX3) (N := 8) (ci := 4) (fs := [.int 0, .int 0, .int 0, .int 0, .int 0, .int 0, .int 0, .int 0]) hx hb hts i_X3 tyX3 tyX3_ok hown (hts _ (List.mem_of_getElem? (i := 7) rfl)) (hts _ (List.mem_of_getElem? (i := 8) rfl)) (hts _ (List.mem_of_getElem? (i := 9) rfl)) hK hS rfl (fun j hj => by rcases (show j = 0 ∨ j = 1 ∨ j = 2 ∨ j = 3 ∨ j = 4 ∨ j = 5 ∨ j = 6 ∨ j = 7 by omega) with rfl | rfl | rfl | rfl | rfl | rfl | rfl | rfl <;> rfl) (Nat.le_of_ble_eq_true rfl) (Nat.le_of_ble_eq_true rfl) dX5_addSatellite_80 (fun o9 H ho9 hN9 hz9 hk9 hS => ?_)
      have hO := hN9
      have hA0 := hA
      have hxs : ∀ (i k : Nat) (ae : Nat × va_E), z_cell E X σ i k = some ae → ¬ o9 = ae.1 := fun i k ae hc => by have hz := hA0.1.lt hc; rw [ho9]; exact Nat.ne_of_gt hz
      have hob : E.2.2.1 ≤ o9 := by rw [ho9]; exact hV.2.2.2.2.2.2
      have hA := hA.keptc (fun i k ae hc => hk9 _ (hA0.1.lt hc))
      have hkn9 := hk9
      have hzn9 := hz9
      refine lv_dup hx hb dX5_addSatellite_83 rfl ?_
      refine lv_iload hx hb dX5_addSatellite_84 (lv_at hl 0 rfl) ?_
      refine lv_iload_n hx hb dX5_addSatellite_86 rfl (lv_at hl 2 rfl) ?_
      refine lv_iload_n hx hb dX5_addSatellite_87 rfl (lv_at hl 3 rfl) ?_
      refine lv_iload_n hx hb dX5_addSatellite_88 rfl (lv_at hl 4 rfl) ?_
      refine lv_iload hx hb dX5_addSatellite_89 (lv_at hl 5 rfl) ?_
      refine we_I (As := [.int (nI (z_n σ 1)), .int w, .int x, .int y, .int z]) (rest := [.ref o9, .ref (X.1 1 1)]) ⟨hx, hb, hml, hown, hts⟩ (e_X3_init l E hO hob) (cwI 5 hts gX5_addSatellite_X3_init rfl rfl rfl (hts _ (List.mem_of_getElem? (i := 9) rfl)) (hts _ (List.mem_of_getElem? (i := 20) rfl)) (hts _ (List.mem_of_getElem? (i := 21) rfl)) rfl (by decide +kernel) ⟨(Nat.le_of_ble_eq_true rfl), (Nat.le_of_ble_eq_true rfl)⟩) (hV.heap hS.1 (fun q hq => hS.2.1 q (Nat.lt_of_lt_of_le hq hV.2.2.2.2.2.2) (hbA q hq))) hS (fun q h => Or.inr (by rw [h, ho9]; exact Nat.le_refl _)) hA9 rfl hl.1 rfl (Nat.le_of_ble_eq_true rfl) dX5_addSatellite_91 ⟨(Nat.le_of_ble_eq_true rfl), (Nat.le_of_ble_eq_true rfl)⟩ (fun v9 H locs hR9 hz9 hk9 hS => ?_)
      obtain ⟨rfl, hO⟩ := hR9
      have hA1 := hA
      have hA := hA.keptc (fun i k ae hc => hk9 _ (hA1.1.lt hc) (fun z => hxs i k ae hc z.symm))
      have hki9 := hk9
      have hzi9 := hz9
      refine wk_eqls (st' := [.ref o9, .ref (X.1 1 1)]) rfl ?_
      refine we_V (As := [.ref o9]) (rest := []) ⟨hx, hb, hml, hown, hts⟩ (e_listadd l E hA (j := 1) (by decide) (ci := 4) rfl (by decide) hO hxs (by omega) (fun i hi => ⟨_, hA.sat hi⟩) (fun i hi z => by have t1 := hA.satT hi; have t3 : T (X.1 1 1) = (1, 1) := z_cl1T hA (by decide); rw [← z] at t3; exact absurd (Prod.mk.inj (t1.symm.trans t3)).1 (by decide))) (cwV 1 hts gX5_addSatellite_Jx4a65c_add_9ea2d rfl rfl rfl (by decide +kernel) ⟨(Nat.le_of_ble_eq_true rfl), (Nat.le_of_ble_eq_true rfl)⟩) (wk_recv hK (hA.list (j := 1) (by decide)) rfl) (hV.heap hS.1 (fun q hq => hS.2.1 q (Nat.lt_of_lt_of_le hq hV.2.2.2.2.2.2) (hbA q hq))) hS (fun q h => Or.inl (h.elim (fun z => by rw [z]; exact hA.tag (z_cl1 (j := 1) (by decide))) (fun z => z_row_tag hA (by decide) z.1 z.2 hV.2.2.2.2.2.1))) hA9 rfl hl.1 rfl (Nat.le_of_ble_eq_true rfl) dX5_addSatellite_94 ⟨(Nat.le_of_ble_eq_true rfl), (Nat.le_of_ble_eq_true rfl)⟩ (fun v9 H locs hR9 hz9 hk9 hS => ?_)
      obtain ⟨rfl, q8, cap8, mo8, hq8, hc8, hrow8, hlist8⟩ := hR9
      refine wk_eqls (st' := [.int 1]) rfl ?_
      have hO := va_at.kept hO (hk9 _ hO.lt (fun z => z.elim (hxs 1 1 _ (z_cl1 (by decide))) (fun z => z_row_ne hA (by decide) hxs z.1 z.2 hV.2.2.2.2.2.1)))
      obtain ⟨T9, X9, hT9, hX9, hX8, hA⟩ := hA0.add (j := 1) (σ' := f_addS σ w x y z) (by decide) hV.2.2.2.2.2.2 hV.2.2.2.2.2.1 (Nat.le_of_eq ho9.symm) (hq8.imp id (fun z => ⟨by omega, by omega⟩)) hc8 hO hrow8 hlist8 (fun a ha hn => (hk9 a (by omega) hn).trans ((hki9 a (by omega) (by omega)).trans (hkn9 a ha))) (z_cellS hZ) (z_othS hI) (fun i => by first | rfl | (match i with | 0 => rfl | 1 => rfl | 2 => rfl | 3 => rfl | i + 4 => rfl))
      refine lv_pop hx hb dX5_addSatellite_97 rfl ?_
      refine lv_iload hx hb dX5_addSatellite_98 (lv_at hl 0 rfl) ?_
      refine W.widen (k := 2) (n := 30) (Nat.le_of_ble_eq_true rfl) (Nat.le_of_ble_eq_true rfl) ?_
      exact W.iret hx hb hr (we_end (Rt := fun v H1 => v = some (.int (nI (z_n σ 1))) ∧ z_DN E T X (f_addS σ w x y z) s.heap H1) (F := z_FD T) (⟨rfl, T9, X9, hT9, hX9, hA⟩) hS) hS.2.2 dX5_addSatellite_100
    have e_63 : 8 ≤ (z_n σ 1) := wk_cltf (by omega) (by omega) c_63
    omega
  have e_37 : (v_in z 1 (100000)) = false := wk_b0 c_37
  exact absurd hok (by simp [v_sat, e_6, e_16, e_26, e_37])

abbrev rme_X5_addPass : Room := { frames := 13, cells := 2, slots := 30, locals := 421 }
set_option maxHeartbeats 4000000 in
set_option maxRecDepth 100000 in
theorem e_X5_addPass (l : Launch) (E : wk_E) {T : Nat → Nat × Nat} {X : z_X} {σ : z_S} {H : Heap} (hA : DA E T X σ H) (hI : z_Ok σ) (hZ : z_Zr σ) {i a : Nat} {x y : Int32} (hi : i < z_n σ 1) (ha : a < z_n σ 0) (hsp : v_span σ x y = true) (hlen : y - x ≤ 600) (hhe : f_hears σ a i = true) (hn : z_n σ 2 < 16) : we_Met l yX5_addPass wsX5_addPass rme_X5_addPass E H [.ref (X.1 0 0), .int (nI i), .int (nI a), .int x, .int y] (z_FD T) 2 30 (fun v H1 => v = some (.int (nI (z_n σ 2))) ∧ z_DN E T X (f_addP σ i a x y) H H1) := by
  refine Met.ofW (cc := cX5_addPass) (maxL := 8) (ret := (some .int)) (by decide) rfl ?_
  intro p e s m args below meth c s₁ B hml hv
  obtain ⟨rfl, hH, hV⟩ := hv
  subst hH
  have hK := hV.k
  have hx := B.exec
  have hb := B.bytes
  have hr := B.returns
  have hts := atoms_spec (ws := wsX5_addPass) B.pre
  have hown : s.vm.findClass RX5 = some m.cls := findClass_of_methodNamed B.named
  have hlocks := B.notSynchronized
  have hS : va_S (fun q => (z_FD T) q ∨ s.heap.size ≤ q) s.heap s.heap [] := va_S.rf
  have hA9 : ∀ q : Nat, s.heap.size ≤ q → ((z_FD T) q ∨ s.heap.size ≤ q) := fun _ h => Or.inr h
  have hbA : ∀ q : Nat, q < E.2.2.1 → ¬ ((z_FD T) q ∨ s.heap.size ≤ q) := fun q hq z => z.elim (z_FDb hA.2.1 hq) (fun z => absurd (Nat.lt_of_lt_of_le hq hV.2.2.2.2.2.2) (Nat.not_lt.mpr z))
  have i_X0 : ∀ w ∈ u_ws RX0 TX0 5, w ∈ wsX5_addPass := fun w h => (List.mem_cons_of_mem _ (List.mem_append_left _ (List.mem_append_left _ (List.mem_append_left _ (List.mem_append_left _ (List.mem_append_left _ (List.mem_append_left _ (List.mem_append_left _ (List.mem_append_right _ h)))))))))
  have i_X3 : ∀ w ∈ u_ws RX3 TX3 8, w ∈ wsX5_addPass := fun w h => (List.mem_cons_of_mem _ (List.mem_append_left _ (List.mem_append_left _ (List.mem_append_left _ (List.mem_append_left _ (List.mem_append_left _ (List.mem_append_left _ (List.mem_append_right _ h))))))))
  have i_X5 : ∀ w ∈ u_ws RX5 TX5 7, w ∈ wsX5_addPass := fun w h => (List.mem_cons_of_mem _ (List.mem_append_left _ (List.mem_append_left _ (List.mem_append_left _ (List.mem_append_left _ (List.mem_append_left _ (List.mem_append_right _ h)))))))
  have i_X2 : ∀ w ∈ u_ws RX2 TX2 7, w ∈ wsX5_addPass := fun w h => (List.mem_cons_of_mem _ (List.mem_append_left _ (List.mem_append_left _ (List.mem_append_left _ (List.mem_append_left _ (List.mem_append_right _ h))))))
  have hl := lv_entry [.ref (X.1 0 0), .int (nI i), .int (nI a), .int x, .int y] (n := 8) (Nat.le_of_ble_eq_true rfl)
  rw [lg_entry_eq]
  generalize (lg_sl [.ref (X.1 0 0), .int (nI i), .int (nI a), .int x, .int y] ++ List.replicate (8 - (lg_sl [.ref (X.1 0 0), .int (nI i), .int (nI a), .int x, .int y]).length) Slot.unset).toArray = ls at hl ⊢
  have hl : lv_has ls 8 [(0, .ref (X.1 0 0)), (1, .int (nI i)), (2, .int (nI a)), (3, .int x), (4, .int y)] := hl
  have b0 := hI.n0
  have b1 := hI.n1
  have b2 := hI.n2
  have b3 := hI.n3
  refine lv_aload_n hx hb dX5_addPass_0 rfl (lv_at hl 0 rfl) ?_
  refine lv_iload_n hx hb dX5_addPass_1 rfl (lv_at hl 1 rfl) ?_
  refine wk_V (As := [.int (nI i)]) (rest := []) ⟨hx, hb, hml, hown, hts⟩ (c_X5_satelliteAt l E hA hI hi) (cwV 1 hts gX5_addPass_X5_satelliteAt rfl rfl rfl (by decide +kernel) ⟨(Nat.le_of_ble_eq_true rfl), (Nat.le_of_ble_eq_true rfl)⟩) (wk_recv hK hA.desk rfl) hK rfl hl.1 rfl (Nat.le_of_ble_eq_true rfl) dX5_addPass_2 ⟨Nat.zero_le _, Nat.zero_le _⟩ ?_
  refine lv_astore (lv' := [(5, .ref (X.1 6 i)), (0, .ref (X.1 0 0)), (1, .int (nI i)), (2, .int (nI a)), (3, .int x), (4, .int y)]) hx hb dX5_addPass_5 hl (by decide) rfl (fun ls hl => ?_)
  refine lv_aload_n hx hb dX5_addPass_7 rfl (lv_at hl 1 rfl) ?_
  refine lv_iload_n hx hb dX5_addPass_8 rfl (lv_at hl 3 rfl) ?_
  refine wk_V (As := [.int (nI a)]) (rest := []) ⟨hx, hb, hml, hown, hts⟩ (c_X5_antennaAt l E hA hI ha) (cwV 1 hts gX5_addPass_X5_antennaAt rfl rfl rfl (by decide +kernel) ⟨(Nat.le_of_ble_eq_true rfl), (Nat.le_of_ble_eq_true rfl)⟩) (wk_recv hK hA.desk rfl) hK rfl hl.1 rfl (Nat.le_of_ble_eq_true rfl) dX5_addPass_9 ⟨Nat.zero_le _, Nat.zero_le _⟩ ?_
  refine lv_astore (lv' := [(6, .ref (X.1 5 a)), (5, .ref (X.1 6 i)), (0, .ref (X.1 0 0)), (1, .int (nI i)), (2, .int (nI a)), (3, .int x), (4, .int y)]) hx hb dX5_addPass_12 hl (by decide) rfl (fun ls hl => ?_)
  refine lv_aload_n hx hb dX5_addPass_14 rfl (lv_at hl 2 rfl) ?_
  refine lv_iload_n hx hb dX5_addPass_15 rfl (lv_at hl 5 rfl) ?_
  refine lv_iload hx hb dX5_addPass_16 (lv_at hl 6 rfl) ?_
  refine wk_Vv (As := [.int x, .int y]) (rest := []) ⟨hx, hb, hml, hown, hts⟩ (c_X5_checkSpan l E hA hI hsp) (cwV 2 hts gX5_addPass_X5_checkSpan rfl rfl rfl (by decide +kernel) ⟨(Nat.le_of_ble_eq_true rfl), (Nat.le_of_ble_eq_true rfl)⟩) (wk_recv hK hA.desk rfl) hK rfl hl.1 rfl (Nat.le_of_ble_eq_true rfl) dX5_addPass_18 ⟨Nat.zero_le _, Nat.zero_le _⟩ ?_
  refine lv_iload hx hb dX5_addPass_21 (lv_at hl 6 rfl) ?_
  refine lv_iload_n hx hb dX5_addPass_23 rfl (lv_at hl 5 rfl) ?_
  refine lv_isub hx hb dX5_addPass_24 ?_
  refine lv_sipush (v := 600) hx hb dX5_addPass_25 (by decide) ?_
  refine lv_icmp_le (tgt := 41) hx hb dX5_addPass_28 (by decide) (fun c_28 => ?_) (fun c_28 => ?_)
  · skip
    have d_28 := Int32.not_lt.mpr c_28
    refine lv_aload hx hb dX5_addPass_41 (lv_at hl 0 rfl) ?_
    refine wk_get (own := RX5) (C := RX0) (T := TX0) (N := 5) (ci := 1) (v := .int (z_ab σ a)) hx hb hts i_X0 hown hK (hA.ant ha) rfl 1 (by decide) (hts _ (List.mem_of_getElem? (i := 5) rfl)) (fun _ h9 => h9) rfl dX5_addPass_43 ?_
    refine lv_aload hx hb dX5_addPass_46 (lv_at hl 1 rfl) ?_
    refine wk_get (own := RX5) (C := RX3) (T := TX3) (N := 8) (ci := 4) (v := .int (z_sb σ i)) hx hb hts i_X3 hown hK (hA.sat hi) rfl 1 (by decide) (hts _ (List.mem_of_getElem? (i := 6) rfl)) (fun _ h9 => h9) rfl dX5_addPass_48 ?_
    obtain ⟨mm, bb, hmm, hbb, emm, ebb, ehe⟩ := f_hearsN hI ha hi
    refine wk_eqls (st' := [.int (nI bb), .int (nI mm)]) (by rw [emm, ebb]) ?_
    refine wk_S (As := [.int (nI mm), .int (nI bb)]) (rest := []) ⟨hx, hb, hml, hown, hts⟩ (c_X5_contains l E (mm := mm) (k := bb) (by omega)) (va_cwS 2 hts gX5_addPass_X5_contains rfl rfl rfl (by decide +kernel) ⟨(Nat.le_of_ble_eq_true rfl), (Nat.le_of_ble_eq_true rfl)⟩) hK rfl hl.1 rfl (Nat.le_of_ble_eq_true rfl) dX5_addPass_51 ⟨Nat.zero_le _, Nat.zero_le _⟩ ?_
    refine lv_if_ne (tgt := 67) hx hb dX5_addPass_54 (by decide) (fun c_54 => ?_) (fun c_54 => ?_)
    · skip
      have e_54 : (Nat.testBit mm bb) = true := wk_b1 c_54
      refine lv_aload_n hx hb dX5_addPass_67 rfl (lv_at hl 2 rfl) ?_
      refine wk_get (own := RX5) (C := RX5) (T := TX5) (N := 7) (ci := 6) (v := .ref (X.1 1 2)) hx hb hts i_X5 hown hK hA.desk rfl 2 (by decide) (hts _ (List.mem_of_getElem? (i := 7) rfl)) (fun _ h9 => h9) rfl dX5_addPass_68 ?_
      refine wk_V (As := []) (rest := []) ⟨hx, hb, hml, hown, hts⟩ (c_size2 l E hA) (cwV 0 hts gX5_addPass_Jx4a65c_size_8abf5 rfl rfl rfl (by decide +kernel) ⟨(Nat.le_of_ble_eq_true rfl), (Nat.le_of_ble_eq_true rfl)⟩) (wk_recv hK (hA.list (j := 2) (by decide)) rfl) hK rfl hl.1 rfl (Nat.le_of_ble_eq_true rfl) dX5_addPass_71 ⟨Nat.zero_le _, Nat.zero_le _⟩ ?_
      refine lv_istore (lv' := [(7, .int (nI (z_n σ 2))), (6, .ref (X.1 5 a)), (5, .ref (X.1 6 i)), (0, .ref (X.1 0 0)), (1, .int (nI i)), (2, .int (nI a)), (3, .int x), (4, .int y)]) hx hb dX5_addPass_74 hl (by decide) rfl (fun ls hl => ?_)
      refine lv_iload hx hb dX5_addPass_76 (lv_at hl 0 rfl) ?_
      refine lv_bipush (v := 16) hx hb dX5_addPass_78 (by decide) ?_
      refine lv_icmp_lt (tgt := 93) hx hb dX5_addPass_80 (by decide) (fun c_80 => ?_) (fun c_80 => ?_)
      · skip
        have e_80 : (z_n σ 2) < 16 := wk_cltt (by omega) (by omega) c_80
        refine lv_aload_n hx hb dX5_addPass_93 rfl (lv_at hl 3 rfl) ?_
        refine wk_get (own := RX5) (C := RX5) (T := TX5) (N := 7) (ci := 6) (v := .ref (X.1 1 2)) hx hb hts i_X5 hown hK hA.desk rfl 2 (by decide) (hts _ (List.mem_of_getElem? (i := 7) rfl)) (fun _ h9 => h9) rfl dX5_addPass_94 ?_
        refine wk_newv (own := RX5) (C := RX2) (T := TX2) (N := 7) (ci := 3) (fs := [.int 0, .null, .null, .int 0, .int 0, .int 0, .int 0]) hx hb hts i_X2 tyX2 tyX2_ok hown (hts _ (List.mem_of_getElem? (i := 8) rfl)) (hts _ (List.mem_of_getElem? (i := 9) rfl)) (hts _ (List.mem_of_getElem? (i := 10) rfl)) hK hS rfl (fun j hj => by rcases (show j = 0 ∨ j = 1 ∨ j = 2 ∨ j = 3 ∨ j = 4 ∨ j = 5 ∨ j = 6 by omega) with rfl | rfl | rfl | rfl | rfl | rfl | rfl <;> rfl) (Nat.le_of_ble_eq_true rfl) (Nat.le_of_ble_eq_true rfl) dX5_addPass_97 (fun o9 H ho9 hN9 hz9 hk9 hS => ?_)
        have hO := hN9
        have hA0 := hA
        have hxs : ∀ (i k : Nat) (ae : Nat × va_E), z_cell E X σ i k = some ae → ¬ o9 = ae.1 := fun i k ae hc => by have hz := hA0.1.lt hc; rw [ho9]; exact Nat.ne_of_gt hz
        have hob : E.2.2.1 ≤ o9 := by rw [ho9]; exact hV.2.2.2.2.2.2
        have hA := hA.keptc (fun i k ae hc => hk9 _ (hA0.1.lt hc))
        have hkn9 := hk9
        have hzn9 := hz9
        refine lv_dup hx hb dX5_addPass_100 rfl ?_
        refine lv_iload hx hb dX5_addPass_101 (lv_at hl 0 rfl) ?_
        refine lv_aload hx hb dX5_addPass_103 (lv_at hl 2 rfl) ?_
        refine lv_aload hx hb dX5_addPass_105 (lv_at hl 1 rfl) ?_
        refine lv_iload_n hx hb dX5_addPass_107 rfl (lv_at hl 6 rfl) ?_
        refine lv_iload hx hb dX5_addPass_108 (lv_at hl 7 rfl) ?_
        refine we_I (As := [.int (nI (z_n σ 2)), .ref (X.1 6 i), .ref (X.1 5 a), .int x, .int y]) (rest := [.ref o9, .ref (X.1 1 2)]) ⟨hx, hb, hml, hown, hts⟩ (e_X2_init l E hO hob) (cwI 5 hts gX5_addPass_X2_init rfl rfl rfl (hts _ (List.mem_of_getElem? (i := 10) rfl)) (hts _ (List.mem_of_getElem? (i := 57) rfl)) (hts _ (List.mem_of_getElem? (i := 58) rfl)) rfl (by decide +kernel) ⟨(Nat.le_of_ble_eq_true rfl), (Nat.le_of_ble_eq_true rfl)⟩) (hV.heap hS.1 (fun q hq => hS.2.1 q (Nat.lt_of_lt_of_le hq hV.2.2.2.2.2.2) (hbA q hq))) hS (fun q h => Or.inr (by rw [h, ho9]; exact Nat.le_refl _)) hA9 rfl hl.1 rfl (Nat.le_of_ble_eq_true rfl) dX5_addPass_110 ⟨(Nat.le_of_ble_eq_true rfl), (Nat.le_of_ble_eq_true rfl)⟩ (fun v9 H locs hR9 hz9 hk9 hS => ?_)
        obtain ⟨rfl, hO⟩ := hR9
        have hA1 := hA
        have hA := hA.keptc (fun i k ae hc => hk9 _ (hA1.1.lt hc) (fun z => hxs i k ae hc z.symm))
        have hki9 := hk9
        have hzi9 := hz9
        refine wk_eqls (st' := [.ref o9, .ref (X.1 1 2)]) rfl ?_
        refine we_V (As := [.ref o9]) (rest := []) ⟨hx, hb, hml, hown, hts⟩ (e_listadd l E hA (j := 2) (by decide) (ci := 3) rfl (by decide) hO hxs (by omega) (fun i hi => ⟨_, hA.pass hi⟩) (fun i hi z => by have t1 := hA.passT hi; have t3 : T (X.1 1 2) = (1, 2) := z_cl1T hA (by decide); rw [← z] at t3; exact absurd (Prod.mk.inj (t1.symm.trans t3)).1 (by decide))) (cwV 1 hts gX5_addPass_Jx4a65c_add_9ea2d rfl rfl rfl (by decide +kernel) ⟨(Nat.le_of_ble_eq_true rfl), (Nat.le_of_ble_eq_true rfl)⟩) (wk_recv hK (hA.list (j := 2) (by decide)) rfl) (hV.heap hS.1 (fun q hq => hS.2.1 q (Nat.lt_of_lt_of_le hq hV.2.2.2.2.2.2) (hbA q hq))) hS (fun q h => Or.inl (h.elim (fun z => by rw [z]; exact hA.tag (z_cl1 (j := 2) (by decide))) (fun z => z_row_tag hA (by decide) z.1 z.2 hV.2.2.2.2.2.1))) hA9 rfl hl.1 rfl (Nat.le_of_ble_eq_true rfl) dX5_addPass_113 ⟨(Nat.le_of_ble_eq_true rfl), (Nat.le_of_ble_eq_true rfl)⟩ (fun v9 H locs hR9 hz9 hk9 hS => ?_)
        obtain ⟨rfl, q8, cap8, mo8, hq8, hc8, hrow8, hlist8⟩ := hR9
        refine wk_eqls (st' := [.int 1]) rfl ?_
        have hO := va_at.kept hO (hk9 _ hO.lt (fun z => z.elim (hxs 1 2 _ (z_cl1 (by decide))) (fun z => z_row_ne hA (by decide) hxs z.1 z.2 hV.2.2.2.2.2.1)))
        obtain ⟨T9, X9, hT9, hX9, hX8, hA⟩ := hA0.add (j := 2) (σ' := f_addP σ i a x y) (by decide) hV.2.2.2.2.2.2 hV.2.2.2.2.2.1 (Nat.le_of_eq ho9.symm) (hq8.imp id (fun z => ⟨by omega, by omega⟩)) hc8 hO hrow8 hlist8 (fun a ha hn => (hk9 a (by omega) hn).trans ((hki9 a (by omega) (by omega)).trans (hkn9 a ha))) (z_cellP hI hZ) (z_othP hI) (fun i => by first | rfl | (match i with | 0 => rfl | 1 => rfl | 2 => rfl | 3 => rfl | i + 4 => rfl))
        refine lv_pop hx hb dX5_addPass_116 rfl ?_
        refine lv_iload hx hb dX5_addPass_117 (lv_at hl 0 rfl) ?_
        refine W.widen (k := 2) (n := 30) (Nat.le_of_ble_eq_true rfl) (Nat.le_of_ble_eq_true rfl) ?_
        exact W.iret hx hb hr (we_end (Rt := fun v H1 => v = some (.int (nI (z_n σ 2))) ∧ z_DN E T X (f_addP σ i a x y) s.heap H1) (F := z_FD T) (⟨rfl, T9, X9, hT9, hX9, hA⟩) hS) hS.2.2 dX5_addPass_119
      have e_80 : 16 ≤ (z_n σ 2) := wk_cltf (by omega) (by omega) c_80
      omega
    have e_54 : (Nat.testBit mm bb) = false := wk_b0 c_54
    exact absurd (hhe.symm.trans (ehe.trans e_54)) (by decide)
  have d_28 := Int32.not_le.mp c_28
  exact absurd hlen c_28

abbrev rmt5_X5_addPass : Room := { frames := 6, cells := 1, slots := 6, locals := 90 }
set_option maxHeartbeats 4000000 in
set_option maxRecDepth 100000 in
theorem t5_X5_addPass (l : Launch) (hlf : l.stackTraces = false) (E : wk_E) {T : Nat → Nat × Nat} {X : z_X} {σ : z_S} {H : Heap} (hA : DA E T X σ H) (hI : z_Ok σ) {i a : Nat} {x y : Int32} (hi : i < z_n σ 1) (ha : a < z_n σ 0) (hsp : v_span σ x y = true) (hlen : y - x ≤ 600) (hbad : f_hears σ a i = false) : wx_Met l yX5_addPass wsX5_addPass rmt5_X5_addPass E H [.ref (X.1 0 0), .int (nI i), .int (nI a), .int x, .int y] "java/lang/IllegalArgumentException" := by
  refine vx_ofW (cc := cX5_addPass) (maxL := 8) (ret := (some .int)) (by decide) rfl ?_
  intro p e s m args below meth c s₁ B hml htab hv
  obtain ⟨rfl, hH, hV⟩ := hv
  subst hH
  have hK := hV.k
  have hx := B.exec
  have hb := B.bytes
  have hr := B.returns
  have hts := atoms_spec (ws := wsX5_addPass) B.pre
  have hown : s.vm.findClass RX5 = some m.cls := findClass_of_methodNamed B.named
  have hlocks := B.notSynchronized
  have i_X0 : ∀ w ∈ u_ws RX0 TX0 5, w ∈ wsX5_addPass := fun w h => (List.mem_cons_of_mem _ (List.mem_append_left _ (List.mem_append_left _ (List.mem_append_left _ (List.mem_append_left _ (List.mem_append_left _ (List.mem_append_left _ (List.mem_append_left _ (List.mem_append_right _ h)))))))))
  have i_X3 : ∀ w ∈ u_ws RX3 TX3 8, w ∈ wsX5_addPass := fun w h => (List.mem_cons_of_mem _ (List.mem_append_left _ (List.mem_append_left _ (List.mem_append_left _ (List.mem_append_left _ (List.mem_append_left _ (List.mem_append_left _ (List.mem_append_right _ h))))))))
  have hl := lv_entry [.ref (X.1 0 0), .int (nI i), .int (nI a), .int x, .int y] (n := 8) (Nat.le_of_ble_eq_true rfl)
  rw [lg_entry_eq]
  generalize (lg_sl [.ref (X.1 0 0), .int (nI i), .int (nI a), .int x, .int y] ++ List.replicate (8 - (lg_sl [.ref (X.1 0 0), .int (nI i), .int (nI a), .int x, .int y]).length) Slot.unset).toArray = ls at hl ⊢
  have hl : lv_has ls 8 [(0, .ref (X.1 0 0)), (1, .int (nI i)), (2, .int (nI a)), (3, .int x), (4, .int y)] := hl
  have b0 := hI.n0
  have b1 := hI.n1
  have b2 := hI.n2
  have b3 := hI.n3
  refine lv_aload_n hx hb dX5_addPass_0 rfl (lv_at hl 0 rfl) ?_
  refine lv_iload_n hx hb dX5_addPass_1 rfl (lv_at hl 1 rfl) ?_
  refine wk_V (As := [.int (nI i)]) (rest := []) ⟨hx, hb, hml, hown, hts⟩ (c_X5_satelliteAt l E hA hI hi) (cwV 1 hts gX5_addPass_X5_satelliteAt rfl rfl rfl (by decide +kernel) ⟨(Nat.le_of_ble_eq_true rfl), (Nat.le_of_ble_eq_true rfl)⟩) (wk_recv hK hA.desk rfl) hK rfl hl.1 rfl (Nat.le_of_ble_eq_true rfl) dX5_addPass_2 ⟨Nat.zero_le _, Nat.zero_le _⟩ ?_
  refine lv_astore (lv' := [(5, .ref (X.1 6 i)), (0, .ref (X.1 0 0)), (1, .int (nI i)), (2, .int (nI a)), (3, .int x), (4, .int y)]) hx hb dX5_addPass_5 hl (by decide) rfl (fun ls hl => ?_)
  refine lv_aload_n hx hb dX5_addPass_7 rfl (lv_at hl 1 rfl) ?_
  refine lv_iload_n hx hb dX5_addPass_8 rfl (lv_at hl 3 rfl) ?_
  refine wk_V (As := [.int (nI a)]) (rest := []) ⟨hx, hb, hml, hown, hts⟩ (c_X5_antennaAt l E hA hI ha) (cwV 1 hts gX5_addPass_X5_antennaAt rfl rfl rfl (by decide +kernel) ⟨(Nat.le_of_ble_eq_true rfl), (Nat.le_of_ble_eq_true rfl)⟩) (wk_recv hK hA.desk rfl) hK rfl hl.1 rfl (Nat.le_of_ble_eq_true rfl) dX5_addPass_9 ⟨Nat.zero_le _, Nat.zero_le _⟩ ?_
  refine lv_astore (lv' := [(6, .ref (X.1 5 a)), (5, .ref (X.1 6 i)), (0, .ref (X.1 0 0)), (1, .int (nI i)), (2, .int (nI a)), (3, .int x), (4, .int y)]) hx hb dX5_addPass_12 hl (by decide) rfl (fun ls hl => ?_)
  refine lv_aload_n hx hb dX5_addPass_14 rfl (lv_at hl 2 rfl) ?_
  refine lv_iload_n hx hb dX5_addPass_15 rfl (lv_at hl 5 rfl) ?_
  refine lv_iload hx hb dX5_addPass_16 (lv_at hl 6 rfl) ?_
  refine wk_Vv (As := [.int x, .int y]) (rest := []) ⟨hx, hb, hml, hown, hts⟩ (c_X5_checkSpan l E hA hI hsp) (cwV 2 hts gX5_addPass_X5_checkSpan rfl rfl rfl (by decide +kernel) ⟨(Nat.le_of_ble_eq_true rfl), (Nat.le_of_ble_eq_true rfl)⟩) (wk_recv hK hA.desk rfl) hK rfl hl.1 rfl (Nat.le_of_ble_eq_true rfl) dX5_addPass_18 ⟨Nat.zero_le _, Nat.zero_le _⟩ ?_
  refine lv_iload hx hb dX5_addPass_21 (lv_at hl 6 rfl) ?_
  refine lv_iload_n hx hb dX5_addPass_23 rfl (lv_at hl 5 rfl) ?_
  refine lv_isub hx hb dX5_addPass_24 ?_
  refine lv_sipush (v := 600) hx hb dX5_addPass_25 (by decide) ?_
  refine lv_icmp_le (tgt := 41) hx hb dX5_addPass_28 (by decide) (fun c_28 => ?_) (fun c_28 => ?_)
  · skip
    have d_28 := Int32.not_lt.mpr c_28
    refine lv_aload hx hb dX5_addPass_41 (lv_at hl 0 rfl) ?_
    refine wk_get (own := RX5) (C := RX0) (T := TX0) (N := 5) (ci := 1) (v := .int (z_ab σ a)) hx hb hts i_X0 hown hK (hA.ant ha) rfl 1 (by decide) (hts _ (List.mem_of_getElem? (i := 5) rfl)) (fun _ h9 => h9) rfl dX5_addPass_43 ?_
    refine lv_aload hx hb dX5_addPass_46 (lv_at hl 1 rfl) ?_
    refine wk_get (own := RX5) (C := RX3) (T := TX3) (N := 8) (ci := 4) (v := .int (z_sb σ i)) hx hb hts i_X3 hown hK (hA.sat hi) rfl 1 (by decide) (hts _ (List.mem_of_getElem? (i := 6) rfl)) (fun _ h9 => h9) rfl dX5_addPass_48 ?_
    obtain ⟨mm, bb, hmm, hbb, emm, ebb, ehe⟩ := f_hearsN hI ha hi
    refine wk_eqls (st' := [.int (nI bb), .int (nI mm)]) (by rw [emm, ebb]) ?_
    refine wk_S (As := [.int (nI mm), .int (nI bb)]) (rest := []) ⟨hx, hb, hml, hown, hts⟩ (c_X5_contains l E (mm := mm) (k := bb) (by omega)) (va_cwS 2 hts gX5_addPass_X5_contains rfl rfl rfl (by decide +kernel) ⟨(Nat.le_of_ble_eq_true rfl), (Nat.le_of_ble_eq_true rfl)⟩) hK rfl hl.1 rfl (Nat.le_of_ble_eq_true rfl) dX5_addPass_51 ⟨Nat.zero_le _, Nat.zero_le _⟩ ?_
    refine lv_if_ne (tgt := 67) hx hb dX5_addPass_54 (by decide) (fun c_54 => ?_) (fun c_54 => ?_)
    · skip
      have e_54 : (Nat.testBit mm bb) = true := wk_b1 c_54
      exact absurd (hbad.symm.trans (ehe.trans e_54)) (by decide)
    have e_54 : (Nat.testBit mm bb) = false := wk_b0 c_54
    exact wx_throw (nL := 8) hx hb hlf hown hml hl.1 (by decide) (by decide) (hts _ (List.mem_of_getElem? (i := 1) rfl)) (hts _ (List.mem_of_getElem? (i := 2) rfl)) (List.mem_of_getElem? (i := 17) rfl) (fun w h => hts w (List.mem_cons_of_mem _ (List.mem_append_left _ (List.mem_append_left _ (List.mem_append_right _ h))))) wx_bad_IAE wx_good_IAE hV htab hlocks dX5_addPass_57 dX5_addPass_60 dX5_addPass_61 dX5_addPass_63 dX5_addPass_66 ⟨(Nat.le_of_ble_eq_true rfl), (Nat.le_of_ble_eq_true rfl), (Nat.le_of_ble_eq_true rfl), (Nat.le_of_ble_eq_true rfl)⟩
  have d_28 := Int32.not_le.mp c_28
  exact absurd hlen c_28
