abbrev rmf2_X6_addSatellite : Room := { frames := 1, cells := 0, slots := 0, locals := 22 }
set_option maxHeartbeats 4000000 in
set_option maxRecDepth 100000 in
theorem f2_X6_addSatellite (l : Launch) (E : wk_E) {T : Nat → Nat × Nat} {Y : Nat → Nat → Nat} {σ : z_S} {th : Int32} {gt : Int64} {H : Heap} (hA : MA E T Y σ th gt H) (hI : z_Ok σ) {w x y z : Int32} (hok : v_sat w x y z = true) (hn : ¬ z_n σ 1 < 8) : we_Met l yX6_addSatellite wsX6_addSatellite rmf2_X6_addSatellite E H [.ref (Y 10 0), .int w, .int x, .int y, .int z] (z_FM T) 0 0 (fun v H1 => v = some (.int (0)) ∧ MA E T Y σ 2 gt H1) := by
  refine Met.ofW (cc := cX6_addSatellite) (maxL := 5) (ret := (some .int)) (by decide) rfl ?_
  intro p e s m args below meth c s₁ B hml hv
  obtain ⟨rfl, hH, hV⟩ := hv
  subst hH
  have hK := hV.k
  have hx := B.exec
  have hb := B.bytes
  have hr := B.returns
  have hts := atoms_spec (ws := wsX6_addSatellite) B.pre
  have hown : s.vm.findClass RX6 = some m.cls := findClass_of_methodNamed B.named
  have hlocks := B.notSynchronized
  have hS : va_S (fun q => (z_FM T) q ∨ s.heap.size ≤ q) s.heap s.heap [] := va_S.rf
  have hA9 : ∀ q : Nat, s.heap.size ≤ q → ((z_FM T) q ∨ s.heap.size ≤ q) := fun _ h => Or.inr h
  have hbA : ∀ q : Nat, q < E.2.2.1 → ¬ ((z_FM T) q ∨ s.heap.size ≤ q) := fun q hq z => z.elim (z_FMb hA.2 hq) (fun z => absurd (Nat.lt_of_lt_of_le hq hV.2.2.2.2.2.2) (Nat.not_lt.mpr z))
  have i_X6 : ∀ w ∈ u_ws RX6 TX6 26, w ∈ wsX6_addSatellite := fun w h => (List.mem_cons_of_mem _ (List.mem_append_right _ h))
  have hl := lv_entry [.ref (Y 10 0), .int w, .int x, .int y, .int z] (n := 5) (Nat.le_of_ble_eq_true rfl)
  rw [lg_entry_eq]
  generalize (lg_sl [.ref (Y 10 0), .int w, .int x, .int y, .int z] ++ List.replicate (5 - (lg_sl [.ref (Y 10 0), .int w, .int x, .int y, .int z]).length) Slot.unset).toArray = ls at hl ⊢
  have hl : lv_has ls 5 [(0, .ref (Y 10 0)), (1, .int w), (2, .int x), (3, .int y), (4, .int z)] := hl
  have b0 := hI.n0
  have b1 := hI.n1
  have b2 := hI.n2
  have b3 := hI.n3
  refine lv_aload_n hx hb dX6_addSatellite_0 rfl (lv_at hl 0 rfl) ?_
  refine lv_iconst (v := 0) hx hb dX6_addSatellite_1 (by decide) ?_
  refine wk_put (own := RX6) (C := RX6) (T := TX6) (N := 26) (ci := 7) (v := .int 0) hx hb hts i_X6 tyX6 tyX6_ok nmX6 hown hK hA.obj (Or.inl hA.tagO) hS rfl 0 (by decide) (hts _ (List.mem_of_getElem? (i := 1) rfl)) (fun _ h9 => h9) rfl (tyX6_ok 0 (by decide)) rfl rfl (Nat.le_of_ble_eq_true rfl) dX6_addSatellite_2 (fun H locs hP9 hz9 hk9 hS => ?_)
  have hA := hA.setTh hP9 hk9
  refine lv_iload_n hx hb dX6_addSatellite_5 rfl (lv_at hl 1 rfl) ?_
  refine lv_iconst (v := 0) hx hb dX6_addSatellite_6 (by decide) ?_
  refine lv_iconst (v := 3) hx hb dX6_addSatellite_7 (by decide) ?_
  refine wk_S (As := [.int w, .int 0, .int 3]) (rest := []) ⟨hx, hb, hml, hown, hts⟩ (c_X6_isIn l E (x := w) (y := 0) (z := 3)) (va_cwS 3 hts gX6_addSatellite_X6_isIn rfl rfl rfl (by decide +kernel) ⟨(Nat.le_of_ble_eq_true rfl), (Nat.le_of_ble_eq_true rfl)⟩) hK rfl hl.1 rfl (Nat.le_of_ble_eq_true rfl) dX6_addSatellite_8 ⟨Nat.zero_le _, Nat.zero_le _⟩ ?_
  refine lv_if_eq (tgt := 45) hx hb dX6_addSatellite_11 (by decide) (fun c_11 => ?_) (fun c_11 => ?_)
  · skip
    have e_11 : (v_in w 0 3) = false := wk_b0 c_11
    exact absurd hok (by simp [v_sat, e_11])
  have e_11 : (v_in w 0 3) = true := wk_b1 c_11
  refine lv_iload_n hx hb dX6_addSatellite_14 rfl (lv_at hl 2 rfl) ?_
  refine lv_iconst (v := 1) hx hb dX6_addSatellite_15 (by decide) ?_
  refine lv_bipush (v := 9) hx hb dX6_addSatellite_16 (by decide) ?_
  refine wk_S (As := [.int x, .int 1, .int 9]) (rest := []) ⟨hx, hb, hml, hown, hts⟩ (c_X6_isIn l E (x := x) (y := 1) (z := 9)) (va_cwS 3 hts gX6_addSatellite_X6_isIn rfl rfl rfl (by decide +kernel) ⟨(Nat.le_of_ble_eq_true rfl), (Nat.le_of_ble_eq_true rfl)⟩) hK rfl hl.1 rfl (Nat.le_of_ble_eq_true rfl) dX6_addSatellite_18 ⟨Nat.zero_le _, Nat.zero_le _⟩ ?_
  refine lv_if_eq (tgt := 45) hx hb dX6_addSatellite_21 (by decide) (fun c_21 => ?_) (fun c_21 => ?_)
  · skip
    have e_21 : (v_in x 1 9) = false := wk_b0 c_21
    exact absurd hok (by simp [v_sat, e_11, e_21])
  have e_21 : (v_in x 1 9) = true := wk_b1 c_21
  refine lv_iload_n hx hb dX6_addSatellite_24 rfl (lv_at hl 3 rfl) ?_
  refine lv_iconst (v := 0) hx hb dX6_addSatellite_25 (by decide) ?_
  refine lv_bipush (v := 50) hx hb dX6_addSatellite_26 (by decide) ?_
  refine wk_S (As := [.int y, .int 0, .int 50]) (rest := []) ⟨hx, hb, hml, hown, hts⟩ (c_X6_isIn l E (x := y) (y := 0) (z := 50)) (va_cwS 3 hts gX6_addSatellite_X6_isIn rfl rfl rfl (by decide +kernel) ⟨(Nat.le_of_ble_eq_true rfl), (Nat.le_of_ble_eq_true rfl)⟩) hK rfl hl.1 rfl (Nat.le_of_ble_eq_true rfl) dX6_addSatellite_28 ⟨Nat.zero_le _, Nat.zero_le _⟩ ?_
  refine lv_if_eq (tgt := 45) hx hb dX6_addSatellite_31 (by decide) (fun c_31 => ?_) (fun c_31 => ?_)
  · skip
    have e_31 : (v_in y 0 50) = false := wk_b0 c_31
    exact absurd hok (by simp [v_sat, e_11, e_21, e_31])
  have e_31 : (v_in y 0 50) = true := wk_b1 c_31
  refine lv_iload hx hb dX6_addSatellite_34 (lv_at hl 4 rfl) ?_
  refine lv_iconst (v := 1) hx hb dX6_addSatellite_36 (by decide) ?_
  refine lv_ldc (own := RX6) (v := (100000)) hx hb hown (hts _ (List.mem_of_getElem? (i := 2) rfl)) dX6_addSatellite_37 ?_
  refine wk_S (As := [.int z, .int 1, .int (100000)]) (rest := []) ⟨hx, hb, hml, hown, hts⟩ (c_X6_isIn l E (x := z) (y := 1) (z := (100000))) (va_cwS 3 hts gX6_addSatellite_X6_isIn rfl rfl rfl (by decide +kernel) ⟨(Nat.le_of_ble_eq_true rfl), (Nat.le_of_ble_eq_true rfl)⟩) hK rfl hl.1 rfl (Nat.le_of_ble_eq_true rfl) dX6_addSatellite_39 ⟨Nat.zero_le _, Nat.zero_le _⟩ ?_
  refine lv_if_ne (tgt := 51) hx hb dX6_addSatellite_42 (by decide) (fun c_42 => ?_) (fun c_42 => ?_)
  · skip
    have e_42 : (v_in z 1 (100000)) = true := wk_b1 c_42
    refine lv_aload_n hx hb dX6_addSatellite_51 rfl (lv_at hl 0 rfl) ?_
    refine wk_get (own := RX6) (C := RX6) (T := TX6) (N := 26) (ci := 7) (v := .int (nI (z_n σ 1))) hx hb hts i_X6 hown hK hA.obj rfl 10 (by decide) (hts _ (List.mem_of_getElem? (i := 3) rfl)) (fun _ h9 => h9) rfl dX6_addSatellite_52 ?_
    refine lv_bipush (v := 8) hx hb dX6_addSatellite_55 (by decide) ?_
    refine lv_icmp_ne (tgt := 66) hx hb dX6_addSatellite_57 (by decide) (fun c_57 => ?_) (fun c_57 => ?_)
    · skip
      have e_57 : ¬ (z_n σ 1) = 8 := wk_cnet (by omega) (by omega) c_57
      omega
    have e_57 : (z_n σ 1) = 8 := wk_cnef (by omega) (by omega) c_57
    refine lv_aload_n hx hb dX6_addSatellite_60 rfl (lv_at hl 0 rfl) ?_
    refine lv_iconst (v := 2) hx hb dX6_addSatellite_61 (by decide) ?_
    refine we_V (As := [.int 2]) (rest := []) ⟨hx, hb, hml, hown, hts⟩ (e_X6_fail l E hA hI) (cwV 1 hts gX6_addSatellite_X6_fail rfl rfl rfl (by decide +kernel) ⟨(Nat.le_of_ble_eq_true rfl), (Nat.le_of_ble_eq_true rfl)⟩) (wk_recv hK hA.obj rfl) (hV.heap hS.1 (fun q hq => hS.2.1 q (Nat.lt_of_lt_of_le hq hV.2.2.2.2.2.2) (hbA q hq))) hS (fun _ h => Or.inl h) hA9 rfl hl.1 rfl (Nat.le_of_ble_eq_true rfl) dX6_addSatellite_62 ⟨Nat.zero_le _, Nat.zero_le _⟩ (fun v9 H locs hR9 hz9 hk9 hS => ?_)
    obtain ⟨rfl, hA⟩ := hR9
    refine wk_eqls (st' := [.int 0]) rfl ?_
    exact W.iret hx hb hr (we_end (Rt := fun v H1 => v = some (.int (0)) ∧ MA E T Y σ 2 gt H1) (F := z_FM T) (⟨rfl, hA⟩) hS) hS.2.2 dX6_addSatellite_65
  have e_42 : (v_in z 1 (100000)) = false := wk_b0 c_42
  exact absurd hok (by simp [v_sat, e_11, e_21, e_31, e_42])
