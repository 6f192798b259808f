abbrev rmf2_X6_addSatellite : Room := { frames := 1, cells := 0, slots := 0, locals := 22 }
set_option maxHeartbeats 4000000 in
set_option maxRecDepth 100000 in
theorem f2_X6_addSatellite (l : Launch) (E : wk_E) {T : Nat → Nat × Nat} {Y : Nat → Nat → Nat} {σ : z_S} {th : Int32} {gt : Int64} {H : Heap} (hA : MA E T Y σ th gt H) (hI : z_Ok σ) {w x y z : Int32} (hok : v_sat w x y z = true) (hn : ¬ z_n σ 1 < 8) : we_Met l yX6_addSatellite wsX6_addSatellite rmf2_X6_addSatellite E H [.ref (Y 10 0), .int w, .int x, .int y, .int z] (z_FM T) 0 0 (fun v H1 => v = some (.int (0)) ∧ MA E T Y σ 2 gt H1) := by
  refine Met.ofW (cc := cX6_addSatellite) (maxL := 5) (ret := (some .int)) (by decide) rfl ?_
  intro p e s m args below meth c s₁ B hml hv
  obtain ⟨rfl, hH, hV⟩ := hv
  subst hH
  have hK := hV.k
  have hx := B.exec
  have hb := B.bytes
  have hr := B.returns
  have hts := atoms_spec (ws := wsX6_addSatellite) B.pre
  have hown : s.vm.findClass RX6 = some m.cls := findClass_of_methodNamed B.named
  have hlocks := B.notSynchronized
  have hS : va_S (fun q => (z_FM T) q ∨ s.heap.size ≤ q) s.heap s.heap [] := va_S.rf
  have hA9 : ∀ q : Nat, s.heap.size ≤ q → ((z_FM T) q ∨ s.heap.size ≤ q) := fun _ h => Or.inr h
  have hbA : ∀ q : Nat, q < E.2.2.1 → ¬ ((z_FM T) q ∨ s.heap.size ≤ q) := fun q hq z => z.elim (z_FMb hA.2 hq) (fun z => absurd (Nat.lt_of_lt_of_le hq hV.2.2.2.2.2.2) (Nat.not_lt.mpr z))
  have i_X6 : ∀ w ∈ u_ws RX6 TX6 26, w ∈ wsX6_addSatellite := fun w h => (List.mem_cons_of_mem _ (List.mem_append_right _ h))
  have hl := lv_entry [.ref (Y 10 0), .int w, .int x, .int y, .int z] (n := 5) (Nat.le_of_ble_eq_true rfl)
  rw [lg_entry_eq]
  generalize (lg_sl [.ref (Y 10 0), .int w, .int x, .int y, .int z] ++ List.replicate (5 - (lg_sl [.ref (Y 10 0), .int w, .int x, .int y, .int z]).length) Slot.unset).toArray = ls at hl ⊢
  have hl : lv_has ls 5 [(0, .ref (Y 10 0)), (1, .int w), (2, .int x), (3, .int y), (4, .int z)] := hl
  have b0 := hI.n0
  have b1 := hI.n1
  have b2 := hI.n2
  have b3 := hI.n3
  refine lv_aload_n hx hb dX6_addSatellite_0 rfl (lv_at hl 0 rfl) ?_
  refine lv_iconst (v := 0) hx hb dX6_addSatellite_1 (by decide) ?_
  refine wk_put (own := RX6) (C := RX6) (T := TX6) (N := 26) (ci := 7) (v := .int 0) hx hb hts i_X6 tyX6 tyX6_ok nmX6 hown hK hA.obj (Or.inl hA.tagO) hS rfl 0 (by decide) (hts _ (List.mem_of_getElem? (i := 1) rfl)) (fun _ h9 => h9) rfl (tyX6_ok 0 (by decide)) rfl rfl (Nat.le_of_ble_eq_true rfl) dX6_addSatellite_2 (fun H locs hP9 hz9 hk9 hS => ?_)
  have hA := hA.setTh hP9 hk9
  refine lv_iload_n hx hb dX6_addSatellite_5 rfl (lv_at hl 1 rfl) ?_
  refine lv_iconst (v := 0) hx hb dX6_addSatellite_6 (by decide) ?_
  refine lv_iconst (v := 3) hx hb dX6_addSatellite_7 (by decide) ?_
  refine wk_S (As := [.int w, .int 0, .int 3]) (rest := []) ⟨hx, hb, hml, hown, hts⟩ (c_X6_isIn l E (x := w) (y := 0) (z := 3)) (va_cwS 3 hts gX6_addSatellite_X6_isIn rfl rfl rfl (by decide +kernel) ⟨(Nat.le_of_ble_eq_true rfl), (Nat.le_of_ble_eq_true rfl)⟩) hK rfl hl.1 rfl (Nat.le_of_ble_eq_true rfl) dX6_addSatellite_8 ⟨Nat.zero_le _, Nat.zero_le _⟩ ?_
  refine lv_if_eq (tgt := 45) hx hb dX6_addSatellite_11 (by decide) (fun c_11 => ?_) (fun c_11 => ?_)
  · skip
    have e_11 : (v_in w 0 3) = false := wk_b0 c_11
    exact absurd hok (by simp [v_sat, e_11])
  have e_11 : (v_in w 0 3) = true := wk_b1 c_11
  refine lv_iload_n hx hb dX6_addSatellite_14 rfl (lv_at hl 2 rfl) ?_
  refine lv_iconst (v := 1) hx hb dX6_addSatellite_15 (by decide) ?_
  refine lv_bipush (v := 9) hx hb dX6_addSatellite_16 (by decide) ?_
  refine wk_S (As := [.int x, .int 1, .int 9]) (rest := []) ⟨hx, hb, hml, hown, hts⟩ (c_X6_isIn l E (x := x) (y := 1) (z := 9)) (va_cwS 3 hts gX6_addSatellite_X6_isIn rfl rfl rfl (by decide +kernel) ⟨(Nat.le_of_ble_eq_true rfl), (Nat.le_of_ble_eq_true rfl)⟩) hK rfl hl.1 rfl (Nat.le_of_ble_eq_true rfl) dX6_addSatellite_18 ⟨Nat.zero_le _, Nat.zero_le _⟩ ?_
  refine lv_if_eq (tgt := 45) hx hb dX6_addSatellite_21 (by decide) (fun c_21 => ?_) (fun c_21 => ?_)
  · skip
    have e_21 : (v_in x 1 9) = false := wk_b0 c_21
    exact absurd hok (by simp [v_sat, e_11, e_21])
  have e_21 : (v_in x 1 9) = true := wk_b1 c_21
  refine lv_iload_n hx hb dX6_addSatellite_24 rfl (lv_at hl 3 rfl) ?_
  refine lv_iconst (v := 0) hx hb dX6_addSatellite_25 (by decide) ?_
  refine lv_bipush (v := 50) hx hb dX6_addSatellite_26 (by decide) ?_
  refine wk_S (As := [.int y, .int 0, .int 50]) (rest := []) ⟨hx, hb, hml, hown, hts⟩ (c_X6_isIn l E (x := y) (y := 0) (z := 50)) (va_cwS 3 hts gX6_addSatellite_X6_isIn rfl rfl rfl (by decide +kernel) ⟨(Nat.le_of_ble_eq_true rfl), (Nat.le_of_ble_eq_true rfl)⟩) hK rfl hl.1 rfl (Nat.le_of_ble_eq_true rfl) dX6_addSatellite_28 ⟨Nat.zero_le _, Nat.zero_le _⟩ ?_
  refine lv_if_eq (tgt := 45) hx hb dX6_addSatellite_31 (by decide) (fun c_31 => ?_) (fun c_31 => ?_)
  · skip
    have e_31 : (v_in y 0 50) = false := wk_b0 c_31
    exact absurd hok (by simp [v_sat, e_11, e_21, e_31])
  have e_31 : (v_in y 0 50) = true := wk_b1 c_31
  refine lv_iload hx hb dX6_addSatellite_34 (lv_at hl 4 rfl) ?_
  refine lv_iconst (v := 1) hx hb dX6_addSatellite_36 (by decide) ?_
  refine lv_ldc (own := RX6) (v := (100000)) hx hb hown (hts _ (List.mem_of_getElem? (i := 2) rfl)) dX6_addSatellite_37 ?_
  refine wk_S (As := [.int z, .int 1, .int (100000)]) (rest := []) ⟨hx, hb, hml, hown, hts⟩ (c_X6_isIn l E (x := z) (y := 1) (z := (100000))) (va_cwS 3 hts gX6_addSatellite_X6_isIn rfl rfl rfl (by decide +kernel) ⟨(Nat.le_of_ble_eq_true rfl), (Nat.le_of_ble_eq_true rfl)⟩) hK rfl hl.1 rfl (Nat.le_of_ble_eq_true rfl) dX6_addSatellite_39 ⟨Nat.zero_le _, Nat.zero_le _⟩ ?_
  refine lv_if_ne (tgt := 51) hx hb dX6_addSatellite_42 (by decide) (fun c_42 => ?_) (fun c_42 => ?_)
  · skip
    have e_42 : (v_in z 1 (100000)) = true := wk_b1 c_42
    refine lv_aload_n hx hb dX6_addSatellite_51 rfl (lv_at hl 0 rfl) ?_
    refine wk_get (own := RX6) (C := RX6) (T := TX6) (N := 26) (ci := 7) (v := .int (nI (z_n σ 1))) hx hb hts i_X6 hown hK hA.obj rfl 10 (by decide) (hts _ (List.mem_of_getElem? (i := 3) rfl)) (fun _ h9 => h9) rfl dX6_addSatellite_52 ?_
    refine lv_bipush (v := 8) hx hb dX6_addSatellite_55 (by decide) ?_
    refine lv_icmp_ne (tgt := 66) hx hb dX6_addSatellite_57 (by decide) (fun c_57 => ?_) (fun c_57 => ?_)
    · skip
      have e_57 : ¬ (z_n σ 1) = 8 := wk_cnet (by omega) (by omega) c_57
      omega
    have e_57 : (z_n σ 1) = 8 := wk_cnef (by omega) (by omega) c_57
    refine lv_aload_n hx hb dX6_addSatellite_60 rfl (lv_at hl 0 rfl) ?_
    refine lv_iconst (v := 2) hx hb dX6_addSatellite_61 (by decide) ?_
    refine we_V (As := [.int 2]) (rest := []) ⟨hx, hb, hml, hown, hts⟩ (e_X6_fail l E hA hI) (cwV 1 hts gX6_addSatellite_X6_fail rfl rfl rfl (by decide +kernel) ⟨(Nat.le_of_ble_eq_true rfl), (Nat.le_of_ble_eq_true rfl)⟩) (wk_recv hK hA.obj rfl) (hV.heap hS.1 (fun q hq => hS.2.1 q (Nat.lt_of_lt_of_le hq hV.2.2.2.2.2.2) (hbA q hq))) hS (fun _ h => Or.inl h) hA9 rfl hl.1 rfl (Nat.le_of_ble_eq_true rfl) dX6_addSatellite_62 ⟨Nat.zero_le _, Nat.zero_le _⟩ (fun v9 H locs hR9 hz9 hk9 hS => ?_)
    obtain ⟨rfl, hA⟩ := hR9
    refine wk_eqls (st' := [.int 0]) rfl ?_
    exact W.iret hx hb hr (we_end (Rt := fun v H1 => v = some (.int (0)) ∧ MA E T Y σ 2 gt H1) (F := z_FM T) (⟨rfl, hA⟩) hS) hS.2.2 dX6_addSatellite_65
  have e_42 : (v_in z 1 (100000)) = false := wk_b0 c_42
  exact absurd hok (by simp [v_sat, e_11, e_21, e_31, e_42])

abbrev rme_X6_giveUp : Room := { frames := 2, cells := 0, slots := 0, locals := 43 }
set_option maxHeartbeats 4000000 in
set_option maxRecDepth 100000 in
theorem e_X6_giveUp (l : Launch) (E : wk_E) {T : Nat → Nat × Nat} {Y : Nat → Nat → Nat} {σ : z_S} {th : Int32} {gt : Int64} {H : Heap} (hA : MA E T Y σ th gt H) (hI : z_Ok σ) {i : Nat} (hi : i < z_n σ 2) (htk : z_tk σ i = true) (hnb : z_now σ ≤ z_pb σ i) : we_Met l yX6_giveUp wsX6_giveUp rme_X6_giveUp E H [.ref (Y 10 0), .int (nI i)] (z_FM T) 0 0 (fun v H1 => v = some (.int (nI (z_mk (f_give σ i)))) ∧ MA E T Y (f_give σ i) 0 gt H1) := by
  refine Met.ofW (cc := cX6_giveUp) (maxL := 2) (ret := (some .int)) (by decide) rfl ?_
  intro p e s m args below meth c s₁ B hml hv
  obtain ⟨rfl, hH, hV⟩ := hv
  subst hH
  have hK := hV.k
  have hx := B.exec
  have hb := B.bytes
  have hr := B.returns
  have hts := atoms_spec (ws := wsX6_giveUp) B.pre
  have hown : s.vm.findClass RX6 = some m.cls := findClass_of_methodNamed B.named
  have hlocks := B.notSynchronized
  have hS : va_S (fun q => (z_FM T) q ∨ s.heap.size ≤ q) s.heap s.heap [] := va_S.rf
  have hA9 : ∀ q : Nat, s.heap.size ≤ q → ((z_FM T) q ∨ s.heap.size ≤ q) := fun _ h => Or.inr h
  have hbA : ∀ q : Nat, q < E.2.2.1 → ¬ ((z_FM T) q ∨ s.heap.size ≤ q) := fun q hq z => z.elim (z_FMb hA.2 hq) (fun z => absurd (Nat.lt_of_lt_of_le hq hV.2.2.2.2.2.2) (Nat.not_lt.mpr z))
  have i_X6 : ∀ w ∈ u_ws RX6 TX6 26, w ∈ wsX6_giveUp := fun w h => (List.mem_cons_of_mem _ (List.mem_append_right _ h))
  have hl := lv_entry [.ref (Y 10 0), .int (nI i)] (n := 2) (Nat.le_of_ble_eq_true rfl)
  rw [lg_entry_eq]
  generalize (lg_sl [.ref (Y 10 0), .int (nI i)] ++ List.replicate (2 - (lg_sl [.ref (Y 10 0), .int (nI i)]).length) Slot.unset).toArray = ls at hl ⊢
  have hl : lv_has ls 2 [(0, .ref (Y 10 0)), (1, .int (nI i))] := hl
  have b0 := hI.n0
  have b1 := hI.n1
  have b2 := hI.n2
  have b3 := hI.n3
  refine lv_aload_n hx hb dX6_giveUp_0 rfl (lv_at hl 0 rfl) ?_
  refine lv_iconst (v := 0) hx hb dX6_giveUp_1 (by decide) ?_
  refine wk_put (own := RX6) (C := RX6) (T := TX6) (N := 26) (ci := 7) (v := .int 0) hx hb hts i_X6 tyX6 tyX6_ok nmX6 hown hK hA.obj (Or.inl hA.tagO) hS rfl 0 (by decide) (hts _ (List.mem_of_getElem? (i := 1) rfl)) (fun _ h9 => h9) rfl (tyX6_ok 0 (by decide)) rfl rfl (Nat.le_of_ble_eq_true rfl) dX6_giveUp_2 (fun H locs hP9 hz9 hk9 hS => ?_)
  have hA := hA.setTh hP9 hk9
  refine lv_aload_n hx hb dX6_giveUp_5 rfl (lv_at hl 0 rfl) ?_
  refine lv_iload_n hx hb dX6_giveUp_6 rfl (lv_at hl 1 rfl) ?_
  refine wk_V (As := [.int (nI i)]) (rest := []) ⟨hx, hb, hml, hown, hts⟩ (c_X6_isPass l E hA hI (x := nI i)) (cwV 1 hts gX6_giveUp_X6_isPass rfl rfl rfl (by decide +kernel) ⟨(Nat.le_of_ble_eq_true rfl), (Nat.le_of_ble_eq_true rfl)⟩) (wk_recv hK hA.obj rfl) hK rfl hl.1 rfl (Nat.le_of_ble_eq_true rfl) dX6_giveUp_7 ⟨Nat.zero_le _, Nat.zero_le _⟩ ?_
  refine lv_if_ne (tgt := 19) hx hb dX6_giveUp_10 (by decide) (fun c_10 => ?_) (fun c_10 => ?_)
  · skip
    have e_10 : (v_ix (nI i) (z_n σ 2)) = true := wk_b1 c_10
    refine lv_aload_n hx hb dX6_giveUp_19 rfl (lv_at hl 0 rfl) ?_
    refine wk_get (own := RX6) (C := RX6) (T := TX6) (N := 26) (ci := 7) (v := .int (nI (z_mk σ))) hx hb hts i_X6 hown hK hA.obj rfl 24 (by decide) (hts _ (List.mem_of_getElem? (i := 2) rfl)) (fun _ h9 => h9) rfl dX6_giveUp_20 ?_
    refine lv_iload_n hx hb dX6_giveUp_23 rfl (lv_at hl 1 rfl) ?_
    refine wk_S (As := [.int (nI (z_mk σ)), .int (nI i)]) (rest := []) ⟨hx, hb, hml, hown, hts⟩ (c_X6_has l E (mm := z_mk σ) (k := i) (z_mklt hI) (by omega)) (va_cwS 2 hts gX6_giveUp_X6_has rfl rfl rfl (by decide +kernel) ⟨(Nat.le_of_ble_eq_true rfl), (Nat.le_of_ble_eq_true rfl)⟩) hK rfl hl.1 rfl (Nat.le_of_ble_eq_true rfl) dX6_giveUp_24 ⟨Nat.zero_le _, Nat.zero_le _⟩ ?_
    refine lv_if_eq (tgt := 43) hx hb dX6_giveUp_27 (by decide) (fun c_27 => ?_) (fun c_27 => ?_)
    · skip
      have e_27 : (z_tk σ i) = false := wk_b0 c_27
      exact absurd (htk.symm.trans e_27) (by decide)
    have e_27 : (z_tk σ i) = true := wk_b1 c_27
    refine lv_aload_n hx hb dX6_giveUp_30 rfl (lv_at hl 0 rfl) ?_
    refine wk_get (own := RX6) (C := RX6) (T := TX6) (N := 26) (ci := 7) (v := .ref (Y 11 14)) hx hb hts i_X6 hown hK hA.obj rfl 21 (by decide) (hts _ (List.mem_of_getElem? (i := 3) rfl)) (fun _ h9 => h9) rfl dX6_giveUp_31 ?_
    refine lv_iload_n hx hb dX6_giveUp_34 rfl (lv_at hl 1 rfl) ?_
    refine wk_iald (n := 16) (f := fun j => z_pb σ j) hx hb hK hA.a14 i rfl (by have := hi; omega) (by decide) dX6_giveUp_35 ?_
    refine lv_aload_n hx hb dX6_giveUp_36 rfl (lv_at hl 0 rfl) ?_
    refine wk_get (own := RX6) (C := RX6) (T := TX6) (N := 26) (ci := 7) (v := .int (z_now σ)) hx hb hts i_X6 hown hK hA.obj rfl 1 (by decide) (hts _ (List.mem_of_getElem? (i := 4) rfl)) (fun _ h9 => h9) rfl dX6_giveUp_37 ?_
    refine lv_icmp_ge (tgt := 49) hx hb dX6_giveUp_40 (by decide) (fun c_40 => ?_) (fun c_40 => ?_)
    · skip
      have d_40 := Int32.not_lt.mpr c_40
      refine lv_aload_n hx hb dX6_giveUp_49 rfl (lv_at hl 0 rfl) ?_
      refine lv_dup hx hb dX6_giveUp_50 rfl ?_
      refine wk_get (own := RX6) (C := RX6) (T := TX6) (N := 26) (ci := 7) (v := .int (nI (z_mk σ))) hx hb hts i_X6 hown hK hA.obj rfl 24 (by decide) (hts _ (List.mem_of_getElem? (i := 2) rfl)) (fun _ h9 => h9) rfl dX6_giveUp_51 ?_
      refine lv_iconst (v := 1) hx hb dX6_giveUp_54 (by decide) ?_
      refine lv_iload_n hx hb dX6_giveUp_55 rfl (lv_at hl 1 rfl) ?_
      refine lv_ishl hx hb dX6_giveUp_56 ?_
      refine lv_iconst (v := (-1)) hx hb dX6_giveUp_57 (by decide) ?_
      refine lv_ixor hx hb dX6_giveUp_58 ?_
      refine lv_iand hx hb dX6_giveUp_59 ?_
      refine wk_eqi (show _ = nI (z_mk σ ^^^ 2 ^ i) from f_giveI hI hi htk) ?_
      refine wk_put (own := RX6) (C := RX6) (T := TX6) (N := 26) (ci := 7) (v := .int (nI (z_mk σ ^^^ 2 ^ i))) hx hb hts i_X6 tyX6 tyX6_ok nmX6 hown hK hA.obj (Or.inl hA.tagO) hS rfl 24 (by decide) (hts _ (List.mem_of_getElem? (i := 2) rfl)) (fun _ h9 => h9) rfl (tyX6_ok 24 (by decide)) rfl rfl (Nat.le_of_ble_eq_true rfl) dX6_giveUp_60 (fun H locs hP9 hz9 hk9 hS => ?_)
      have hA := hA.setMk (v := (z_mk σ ^^^ 2 ^ i)) hP9 hk9
      refine lv_aload_n hx hb dX6_giveUp_63 rfl (lv_at hl 0 rfl) ?_
      refine wk_get (own := RX6) (C := RX6) (T := TX6) (N := 26) (ci := 7) (v := .int (nI (z_mk (s2 σ 1 0 (z_mk σ ^^^ 2 ^ i))))) hx hb hts i_X6 hown hK hA.obj rfl 24 (by decide) (hts _ (List.mem_of_getElem? (i := 2) rfl)) (fun _ h9 => h9) rfl dX6_giveUp_64 ?_
      exact W.iret hx hb hr (we_end (Rt := fun v H1 => v = some (.int (nI (z_mk (f_give σ i)))) ∧ MA E T Y (f_give σ i) 0 gt H1) (F := z_FM T) (⟨rfl, hA⟩) hS) hS.2.2 dX6_giveUp_67
    have d_40 := Int32.not_le.mp c_40
    exact absurd hnb c_40
  have e_10 : (v_ix (nI i) (z_n σ 2)) = false := wk_b0 c_10
  exact absurd (e_10.symm.trans (v_ix_nI hi (by omega))) (by decide)

abbrev rmf_X6_giveUp : Room := { frames := 2, cells := 0, slots := 0, locals := 43 }
set_option maxHeartbeats 4000000 in
set_option maxRecDepth 100000 in
theorem f_X6_giveUp (l : Launch) (E : wk_E) {T : Nat → Nat × Nat} {Y : Nat → Nat → Nat} {σ : z_S} {th : Int32} {gt : Int64} {H : Heap} (hA : MA E T Y σ th gt H) (hI : z_Ok σ) {x : Int32} (hbad : v_ix x (z_n σ 2) = false) : we_Met l yX6_giveUp wsX6_giveUp rmf_X6_giveUp E H [.ref (Y 10 0), .int x] (z_FM T) 0 0 (fun v H1 => v = some (.int (0)) ∧ MA E T Y σ 1 gt H1) := by
  refine Met.ofW (cc := cX6_giveUp) (maxL := 2) (ret := (some .int)) (by decide) rfl ?_
  intro p e s m args below meth c s₁ B hml hv
  obtain ⟨rfl, hH, hV⟩ := hv
  subst hH
  have hK := hV.k
  have hx := B.exec
  have hb := B.bytes
  have hr := B.returns
  have hts := atoms_spec (ws := wsX6_giveUp) B.pre
  have hown : s.vm.findClass RX6 = some m.cls := findClass_of_methodNamed B.named
  have hlocks := B.notSynchronized
  have hS : va_S (fun q => (z_FM T) q ∨ s.heap.size ≤ q) s.heap s.heap [] := va_S.rf
  have hA9 : ∀ q : Nat, s.heap.size ≤ q → ((z_FM T) q ∨ s.heap.size ≤ q) := fun _ h => Or.inr h
  have hbA : ∀ q : Nat, q < E.2.2.1 → ¬ ((z_FM T) q ∨ s.heap.size ≤ q) := fun q hq z => z.elim (z_FMb hA.2 hq) (fun z => absurd (Nat.lt_of_lt_of_le hq hV.2.2.2.2.2.2) (Nat.not_lt.mpr z))
  have i_X6 : ∀ w ∈ u_ws RX6 TX6 26, w ∈ wsX6_giveUp := fun w h => (List.mem_cons_of_mem _ (List.mem_append_right _ h))
  have hl := lv_entry [.ref (Y 10 0), .int x] (n := 2) (Nat.le_of_ble_eq_true rfl)
  rw [lg_entry_eq]
  generalize (lg_sl [.ref (Y 10 0), .int x] ++ List.replicate (2 - (lg_sl [.ref (Y 10 0), .int x]).length) Slot.unset).toArray = ls at hl ⊢
  have hl : lv_has ls 2 [(0, .ref (Y 10 0)), (1, .int x)] := hl
  have b0 := hI.n0
  have b1 := hI.n1
  have b2 := hI.n2
  have b3 := hI.n3
  refine lv_aload_n hx hb dX6_giveUp_0 rfl (lv_at hl 0 rfl) ?_
  refine lv_iconst (v := 0) hx hb dX6_giveUp_1 (by decide) ?_
  refine wk_put (own := RX6) (C := RX6) (T := TX6) (N := 26) (ci := 7) (v := .int 0) hx hb hts i_X6 tyX6 tyX6_ok nmX6 hown hK hA.obj (Or.inl hA.tagO) hS rfl 0 (by decide) (hts _ (List.mem_of_getElem? (i := 1) rfl)) (fun _ h9 => h9) rfl (tyX6_ok 0 (by decide)) rfl rfl (Nat.le_of_ble_eq_true rfl) dX6_giveUp_2 (fun H locs hP9 hz9 hk9 hS => ?_)
  have hA := hA.setTh hP9 hk9
  refine lv_aload_n hx hb dX6_giveUp_5 rfl (lv_at hl 0 rfl) ?_
  refine lv_iload_n hx hb dX6_giveUp_6 rfl (lv_at hl 1 rfl) ?_
  refine wk_V (As := [.int x]) (rest := []) ⟨hx, hb, hml, hown, hts⟩ (c_X6_isPass l E hA hI (x := x)) (cwV 1 hts gX6_giveUp_X6_isPass rfl rfl rfl (by decide +kernel) ⟨(Nat.le_of_ble_eq_true rfl), (Nat.le_of_ble_eq_true rfl)⟩) (wk_recv hK hA.obj rfl) hK rfl hl.1 rfl (Nat.le_of_ble_eq_true rfl) dX6_giveUp_7 ⟨Nat.zero_le _, Nat.zero_le _⟩ ?_
  refine lv_if_ne (tgt := 19) hx hb dX6_giveUp_10 (by decide) (fun c_10 => ?_) (fun c_10 => ?_)
  · skip
    have e_10 : (v_ix x (z_n σ 2)) = true := wk_b1 c_10
    exact absurd (hbad.symm.trans e_10) (by decide)
  have e_10 : (v_ix x (z_n σ 2)) = false := wk_b0 c_10
  refine lv_aload_n hx hb dX6_giveUp_13 rfl (lv_at hl 0 rfl) ?_
  refine lv_iconst (v := 1) hx hb dX6_giveUp_14 (by decide) ?_
  refine we_V (As := [.int 1]) (rest := []) ⟨hx, hb, hml, hown, hts⟩ (e_X6_fail l E hA hI) (cwV 1 hts gX6_giveUp_X6_fail rfl rfl rfl (by decide +kernel) ⟨(Nat.le_of_ble_eq_true rfl), (Nat.le_of_ble_eq_true rfl)⟩) (wk_recv hK hA.obj rfl) (hV.heap hS.1 (fun q hq => hS.2.1 q (Nat.lt_of_lt_of_le hq hV.2.2.2.2.2.2) (hbA q hq))) hS (fun _ h => Or.inl h) hA9 rfl hl.1 rfl (Nat.le_of_ble_eq_true rfl) dX6_giveUp_15 ⟨Nat.zero_le _, Nat.zero_le _⟩ (fun v9 H locs hR9 hz9 hk9 hS => ?_)
  obtain ⟨rfl, hA⟩ := hR9
  refine wk_eqls (st' := [.int 0]) rfl ?_
  exact W.iret hx hb hr (we_end (Rt := fun v H1 => v = some (.int (0)) ∧ MA E T Y σ 1 gt H1) (F := z_FM T) (⟨rfl, hA⟩) hS) hS.2.2 dX6_giveUp_18

abbrev rmf2_X6_giveUp : Room := { frames := 2, cells := 0, slots := 0, locals := 43 }
set_option maxHeartbeats 4000000 in
set_option maxRecDepth 100000 in
theorem f2_X6_giveUp (l : Launch) (E : wk_E) {T : Nat → Nat × Nat} {Y : Nat → Nat → Nat} {σ : z_S} {th : Int32} {gt : Int64} {H : Heap} (hA : MA E T Y σ th gt H) (hI : z_Ok σ) {i : Nat} (hi : i < z_n σ 2) (hbad : (z_tk σ i && decide (z_now σ ≤ z_pb σ i)) = false) : we_Met l yX6_giveUp wsX6_giveUp rmf2_X6_giveUp E H [.ref (Y 10 0), .int (nI i)] (z_FM T) 0 0 (fun v H1 => v = some (.int (0)) ∧ MA E T Y σ 2 gt H1) := by
  refine Met.ofW (cc := cX6_giveUp) (maxL := 2) (ret := (some .int)) (by decide) rfl ?_
  intro p e s m args below meth c s₁ B hml hv
  obtain ⟨rfl, hH, hV⟩ := hv
  subst hH
  have hK := hV.k
  have hx := B.exec
  have hb := B.bytes
  have hr := B.returns
  have hts := atoms_spec (ws := wsX6_giveUp) B.pre
  have hown : s.vm.findClass RX6 = some m.cls := findClass_of_methodNamed B.named
  have hlocks := B.notSynchronized
  have hS : va_S (fun q => (z_FM T) q ∨ s.heap.size ≤ q) s.heap s.heap [] := va_S.rf
  have hA9 : ∀ q : Nat, s.heap.size ≤ q → ((z_FM T) q ∨ s.heap.size ≤ q) := fun _ h => Or.inr h
  have hbA : ∀ q : Nat, q < E.2.2.1 → ¬ ((z_FM T) q ∨ s.heap.size ≤ q) := fun q hq z => z.elim (z_FMb hA.2 hq) (fun z => absurd (Nat.lt_of_lt_of_le hq hV.2.2.2.2.2.2) (Nat.not_lt.mpr z))
  have i_X6 : ∀ w ∈ u_ws RX6 TX6 26, w ∈ wsX6_giveUp := fun w h => (List.mem_cons_of_mem _ (List.mem_append_right _ h))
  have hl := lv_entry [.ref (Y 10 0), .int (nI i)] (n := 2) (Nat.le_of_ble_eq_true rfl)
  rw [lg_entry_eq]
  generalize (lg_sl [.ref (Y 10 0), .int (nI i)] ++ List.replicate (2 - (lg_sl [.ref (Y 10 0), .int (nI i)]).length) Slot.unset).toArray = ls at hl ⊢
  have hl : lv_has ls 2 [(0, .ref (Y 10 0)), (1, .int (nI i))] := hl
  have b0 := hI.n0
  have b1 := hI.n1
  have b2 := hI.n2
  have b3 := hI.n3
  refine lv_aload_n hx hb dX6_giveUp_0 rfl (lv_at hl 0 rfl) ?_
  refine lv_iconst (v := 0) hx hb dX6_giveUp_1 (by decide) ?_
  refine wk_put (own := RX6) (C := RX6) (T := TX6) (N := 26) (ci := 7) (v := .int 0) hx hb hts i_X6 tyX6 tyX6_ok nmX6 hown hK hA.obj (Or.inl hA.tagO) hS rfl 0 (by decide) (hts _ (List.mem_of_getElem? (i := 1) rfl)) (fun _ h9 => h9) rfl (tyX6_ok 0 (by decide)) rfl rfl (Nat.le_of_ble_eq_true rfl) dX6_giveUp_2 (fun H locs hP9 hz9 hk9 hS => ?_)
  have hA := hA.setTh hP9 hk9
  refine lv_aload_n hx hb dX6_giveUp_5 rfl (lv_at hl 0 rfl) ?_
  refine lv_iload_n hx hb dX6_giveUp_6 rfl (lv_at hl 1 rfl) ?_
  refine wk_V (As := [.int (nI i)]) (rest := []) ⟨hx, hb, hml, hown, hts⟩ (c_X6_isPass l E hA hI (x := nI i)) (cwV 1 hts gX6_giveUp_X6_isPass rfl rfl rfl (by decide +kernel) ⟨(Nat.le_of_ble_eq_true rfl), (Nat.le_of_ble_eq_true rfl)⟩) (wk_recv hK hA.obj rfl) hK rfl hl.1 rfl (Nat.le_of_ble_eq_true rfl) dX6_giveUp_7 ⟨Nat.zero_le _, Nat.zero_le _⟩ ?_
  refine lv_if_ne (tgt := 19) hx hb dX6_giveUp_10 (by decide) (fun c_10 => ?_) (fun c_10 => ?_)
  · skip
    have e_10 : (v_ix (nI i) (z_n σ 2)) = true := wk_b1 c_10
    refine lv_aload_n hx hb dX6_giveUp_19 rfl (lv_at hl 0 rfl) ?_
    refine wk_get (own := RX6) (C := RX6) (T := TX6) (N := 26) (ci := 7) (v := .int (nI (z_mk σ))) hx hb hts i_X6 hown hK hA.obj rfl 24 (by decide) (hts _ (List.mem_of_getElem? (i := 2) rfl)) (fun _ h9 => h9) rfl dX6_giveUp_20 ?_
    refine lv_iload_n hx hb dX6_giveUp_23 rfl (lv_at hl 1 rfl) ?_
    refine wk_S (As := [.int (nI (z_mk σ)), .int (nI i)]) (rest := []) ⟨hx, hb, hml, hown, hts⟩ (c_X6_has l E (mm := z_mk σ) (k := i) (z_mklt hI) (by omega)) (va_cwS 2 hts gX6_giveUp_X6_has rfl rfl rfl (by decide +kernel) ⟨(Nat.le_of_ble_eq_true rfl), (Nat.le_of_ble_eq_true rfl)⟩) hK rfl hl.1 rfl (Nat.le_of_ble_eq_true rfl) dX6_giveUp_24 ⟨Nat.zero_le _, Nat.zero_le _⟩ ?_
    refine lv_if_eq (tgt := 43) hx hb dX6_giveUp_27 (by decide) (fun c_27 => ?_) (fun c_27 => ?_)
    · skip
      have e_27 : (z_tk σ i) = false := wk_b0 c_27
      refine lv_aload_n hx hb dX6_giveUp_43 rfl (lv_at hl 0 rfl) ?_
      refine lv_iconst (v := 2) hx hb dX6_giveUp_44 (by decide) ?_
      refine we_V (As := [.int 2]) (rest := []) ⟨hx, hb, hml, hown, hts⟩ (e_X6_fail l E hA hI) (cwV 1 hts gX6_giveUp_X6_fail rfl rfl rfl (by decide +kernel) ⟨(Nat.le_of_ble_eq_true rfl), (Nat.le_of_ble_eq_true rfl)⟩) (wk_recv hK hA.obj rfl) (hV.heap hS.1 (fun q hq => hS.2.1 q (Nat.lt_of_lt_of_le hq hV.2.2.2.2.2.2) (hbA q hq))) hS (fun _ h => Or.inl h) hA9 rfl hl.1 rfl (Nat.le_of_ble_eq_true rfl) dX6_giveUp_45 ⟨Nat.zero_le _, Nat.zero_le _⟩ (fun v9 H locs hR9 hz9 hk9 hS => ?_)
      obtain ⟨rfl, hA⟩ := hR9
      refine wk_eqls (st' := [.int 0]) rfl ?_
      exact W.iret hx hb hr (we_end (Rt := fun v H1 => v = some (.int (0)) ∧ MA E T Y σ 2 gt H1) (F := z_FM T) (⟨rfl, hA⟩) hS) hS.2.2 dX6_giveUp_48
    have e_27 : (z_tk σ i) = true := wk_b1 c_27
    refine lv_aload_n hx hb dX6_giveUp_30 rfl (lv_at hl 0 rfl) ?_
    refine wk_get (own := RX6) (C := RX6) (T := TX6) (N := 26) (ci := 7) (v := .ref (Y 11 14)) hx hb hts i_X6 hown hK hA.obj rfl 21 (by decide) (hts _ (List.mem_of_getElem? (i := 3) rfl)) (fun _ h9 => h9) rfl dX6_giveUp_31 ?_
    refine lv_iload_n hx hb dX6_giveUp_34 rfl (lv_at hl 1 rfl) ?_
    refine wk_iald (n := 16) (f := fun j => z_pb σ j) hx hb hK hA.a14 i rfl (by have := hi; omega) (by decide) dX6_giveUp_35 ?_
    refine lv_aload_n hx hb dX6_giveUp_36 rfl (lv_at hl 0 rfl) ?_
    refine wk_get (own := RX6) (C := RX6) (T := TX6) (N := 26) (ci := 7) (v := .int (z_now σ)) hx hb hts i_X6 hown hK hA.obj rfl 1 (by decide) (hts _ (List.mem_of_getElem? (i := 4) rfl)) (fun _ h9 => h9) rfl dX6_giveUp_37 ?_
    refine lv_icmp_ge (tgt := 49) hx hb dX6_giveUp_40 (by decide) (fun c_40 => ?_) (fun c_40 => ?_)
    · skip
      have d_40 := Int32.not_lt.mpr c_40
      exact absurd hbad (by simp [e_10, e_27, c_40, d_40])
    have d_40 := Int32.not_le.mp c_40
    refine lv_aload_n hx hb dX6_giveUp_43 rfl (lv_at hl 0 rfl) ?_
    refine lv_iconst (v := 2) hx hb dX6_giveUp_44 (by decide) ?_
    refine we_V (As := [.int 2]) (rest := []) ⟨hx, hb, hml, hown, hts⟩ (e_X6_fail l E hA hI) (cwV 1 hts gX6_giveUp_X6_fail rfl rfl rfl (by decide +kernel) ⟨(Nat.le_of_ble_eq_true rfl), (Nat.le_of_ble_eq_true rfl)⟩) (wk_recv hK hA.obj rfl) (hV.heap hS.1 (fun q hq => hS.2.1 q (Nat.lt_of_lt_of_le hq hV.2.2.2.2.2.2) (hbA q hq))) hS (fun _ h => Or.inl h) hA9 rfl hl.1 rfl (Nat.le_of_ble_eq_true rfl) dX6_giveUp_45 ⟨Nat.zero_le _, Nat.zero_le _⟩ (fun v9 H locs hR9 hz9 hk9 hS => ?_)
    obtain ⟨rfl, hA⟩ := hR9
    refine wk_eqls (st' := [.int 0]) rfl ?_
    exact W.iret hx hb hr (we_end (Rt := fun v H1 => v = some (.int (0)) ∧ MA E T Y σ 2 gt H1) (F := z_FM T) (⟨rfl, hA⟩) hS) hS.2.2 dX6_giveUp_48
  have e_10 : (v_ix (nI i) (z_n σ 2)) = false := wk_b0 c_10
  exact absurd (e_10.symm.trans (v_ix_nI hi (by omega))) (by decide)

abbrev rme_X6_take : Room := { frames := 4, cells := 0, slots := 0, locals := 92 }
set_option maxHeartbeats 4000000 in
set_option maxRecDepth 100000 in
theorem e_X6_take (l : Launch) (E : wk_E) {T : Nat → Nat × Nat} {Y : Nat → Nat → Nat} {σ : z_S} {th : Int32} {gt : Int64} {H : Heap} (hA : MA E T Y σ th gt H) (hI : z_Ok σ) {w : Nat} (hw : w < 2 ^ z_n σ 2) (hok : f_tog σ w = true) : we_Met l yX6_take wsX6_take rme_X6_take E H [.ref (Y 10 0), .int (nI w)] (z_FM T) 0 0 (fun v H1 => v = some (.int (nI (z_mk (f_take σ w)))) ∧ MA E T Y (f_take σ w) 0 gt H1) := by
  refine Met.ofW (cc := cX6_take) (maxL := 3) (ret := (some .int)) (by decide) rfl ?_
  intro p e s m args below meth c s₁ B hml hv
  obtain ⟨rfl, hH, hV⟩ := hv
  subst hH
  have hK := hV.k
  have hx := B.exec
  have hb := B.bytes
  have hr := B.returns
  have hts := atoms_spec (ws := wsX6_take) B.pre
  have hown : s.vm.findClass RX6 = some m.cls := findClass_of_methodNamed B.named
  have hlocks := B.notSynchronized
  have hS : va_S (fun q => (z_FM T) q ∨ s.heap.size ≤ q) s.heap s.heap [] := va_S.rf
  have hA9 : ∀ q : Nat, s.heap.size ≤ q → ((z_FM T) q ∨ s.heap.size ≤ q) := fun _ h => Or.inr h
  have hbA : ∀ q : Nat, q < E.2.2.1 → ¬ ((z_FM T) q ∨ s.heap.size ≤ q) := fun q hq z => z.elim (z_FMb hA.2 hq) (fun z => absurd (Nat.lt_of_lt_of_le hq hV.2.2.2.2.2.2) (Nat.not_lt.mpr z))
  have i_X6 : ∀ w ∈ u_ws RX6 TX6 26, w ∈ wsX6_take := fun w h => (List.mem_cons_of_mem _ (List.mem_append_right _ h))
  have hl := lv_entry [.ref (Y 10 0), .int (nI w)] (n := 3) (Nat.le_of_ble_eq_true rfl)
  rw [lg_entry_eq]
  generalize (lg_sl [.ref (Y 10 0), .int (nI w)] ++ List.replicate (3 - (lg_sl [.ref (Y 10 0), .int (nI w)]).length) Slot.unset).toArray = ls at hl ⊢
  have hl : lv_has ls 3 [(0, .ref (Y 10 0)), (1, .int (nI w))] := hl
  have b0 := hI.n0
  have b1 := hI.n1
  have b2 := hI.n2
  have b3 := hI.n3
  refine lv_aload_n hx hb dX6_take_0 rfl (lv_at hl 0 rfl) ?_
  refine lv_iconst (v := 0) hx hb dX6_take_1 (by decide) ?_
  refine wk_put (own := RX6) (C := RX6) (T := TX6) (N := 26) (ci := 7) (v := .int 0) hx hb hts i_X6 tyX6 tyX6_ok nmX6 hown hK hA.obj (Or.inl hA.tagO) hS rfl 0 (by decide) (hts _ (List.mem_of_getElem? (i := 1) rfl)) (fun _ h9 => h9) rfl (tyX6_ok 0 (by decide)) rfl rfl (Nat.le_of_ble_eq_true rfl) dX6_take_2 (fun H locs hP9 hz9 hk9 hS => ?_)
  have hA := hA.setTh hP9 hk9
  refine lv_aload_n hx hb dX6_take_5 rfl (lv_at hl 0 rfl) ?_
  refine lv_iload_n hx hb dX6_take_6 rfl (lv_at hl 1 rfl) ?_
  refine wk_V (As := [.int (nI w)]) (rest := []) ⟨hx, hb, hml, hown, hts⟩ (c_X6_arePasses l E hA hI (x := nI w)) (cwV 1 hts gX6_take_X6_arePasses rfl rfl rfl (by decide +kernel) ⟨(Nat.le_of_ble_eq_true rfl), (Nat.le_of_ble_eq_true rfl)⟩) (wk_recv hK hA.obj rfl) hK rfl hl.1 rfl (Nat.le_of_ble_eq_true rfl) dX6_take_7 ⟨Nat.zero_le _, Nat.zero_le _⟩ ?_
  refine lv_if_ne (tgt := 19) hx hb dX6_take_10 (by decide) (fun c_10 => ?_) (fun c_10 => ?_)
  · skip
    have e_10 : (v_set (nI w) (z_n σ 2)) = true := wk_b1 c_10
    refine lv_iconst (v := 0) hx hb dX6_take_19 (by decide) ?_
    refine lv_istore_n (lv' := [(2, .int 0), (0, .ref (Y 10 0)), (1, .int (nI w))]) hx hb dX6_take_20 rfl hl (by decide) rfl (fun ls hl => ?_)
    have L_21 : ∀ (n_21 : Nat) (k : Nat), z_n σ 2 - k < n_21 → (k ≤ z_n σ 2) → (f_any (f_notTog σ w) k = false) → ∀ ls : Array Slot, lv_has ls 3 [(0, .ref (Y 10 0)), (1, .int (nI w)), (2, .int (nI k))] → W p l e (headSpec wsX6_take rme_X6_take).room s m ([.ref (Y 10 0), .int (nI w)] : List Value).toArray below meth c H locs 0 0 (MQ below (fun _ _ oc t => (∃ v, oc = .returned v ∧ (fun v H1 => v = some (.int (nI (z_mk (f_take σ w)))) ∧ MA E T Y (f_take σ w) 0 gt H1) v t.heap) ∧ s.heap.size ≤ t.heap.size ∧ ∀ q : Nat, q < s.heap.size → ¬ (z_FM T) q → t.heap[q]? = s.heap[q]?) ([.ref (Y 10 0), .int (nI w)] : List Value).toArray s 0 0 (fun q => (z_FM T) q ∨ s.heap.size ≤ q)) (F0 m 21 ls []) := by
      intro n_21
      induction n_21 with
      | zero => intro k hm; exact absurd hm (Nat.not_lt_zero _)
      | succ n_21 ih_21 =>
        intro k hm_21 hk_k hf ls hl
        refine lv_iload_n hx hb dX6_take_21 rfl (lv_at hl 2 rfl) ?_
        refine lv_aload_n hx hb dX6_take_22 rfl (lv_at hl 0 rfl) ?_
        refine wk_get (own := RX6) (C := RX6) (T := TX6) (N := 26) (ci := 7) (v := .int (nI (z_n σ 2))) hx hb hts i_X6 hown hK hA.obj rfl 18 (by decide) (hts _ (List.mem_of_getElem? (i := 2) rfl)) (fun _ h9 => h9) rfl dX6_take_23 ?_
        refine lv_icmp_ge (tgt := 67) hx hb dX6_take_26 (by decide) (fun c_26 => ?_) (fun c_26 => ?_)
        · skip
          have e_26 : (z_n σ 2) ≤ k := wk_cget (by omega) (by omega) c_26
          have hkN : k = z_n σ 2 := by omega
          refine lv_aload_n hx hb dX6_take_67 rfl (lv_at hl 0 rfl) ?_
          refine lv_dup hx hb dX6_take_68 rfl ?_
          refine wk_get (own := RX6) (C := RX6) (T := TX6) (N := 26) (ci := 7) (v := .int (nI (z_mk σ))) hx hb hts i_X6 hown hK hA.obj rfl 24 (by decide) (hts _ (List.mem_of_getElem? (i := 3) rfl)) (fun _ h9 => h9) rfl dX6_take_69 ?_
          refine lv_iload_n hx hb dX6_take_72 rfl (lv_at hl 1 rfl) ?_
          refine lv_ior hx hb dX6_take_73 ?_
          refine wk_eqi (show (nI (z_mk σ)) ||| (nI w) = nI ((z_mk σ) ||| w) from fa_or (z_mk σ) w) ?_
          refine wk_put (own := RX6) (C := RX6) (T := TX6) (N := 26) (ci := 7) (v := .int (nI ((z_mk σ) ||| w))) hx hb hts i_X6 tyX6 tyX6_ok nmX6 hown hK hA.obj (Or.inl hA.tagO) hS rfl 24 (by decide) (hts _ (List.mem_of_getElem? (i := 3) rfl)) (fun _ h9 => h9) rfl (tyX6_ok 24 (by decide)) rfl rfl (Nat.le_of_ble_eq_true rfl) dX6_take_74 (fun H locs hP9 hz9 hk9 hS => ?_)
          have hA := hA.setMk (v := ((z_mk σ) ||| w)) hP9 hk9
          refine lv_aload_n hx hb dX6_take_77 rfl (lv_at hl 0 rfl) ?_
          refine wk_get (own := RX6) (C := RX6) (T := TX6) (N := 26) (ci := 7) (v := .int (nI (z_mk (s2 σ 1 0 ((z_mk σ) ||| w))))) hx hb hts i_X6 hown hK hA.obj rfl 24 (by decide) (hts _ (List.mem_of_getElem? (i := 3) rfl)) (fun _ h9 => h9) rfl dX6_take_78 ?_
          exact W.iret hx hb hr (we_end (Rt := fun v H1 => v = some (.int (nI (z_mk (f_take σ w)))) ∧ MA E T Y (f_take σ w) 0 gt H1) (F := z_FM T) (⟨rfl, hA⟩) hS) hS.2.2 dX6_take_81
        have e_26 : k < (z_n σ 2) := wk_cgef (by omega) (by omega) c_26
        refine lv_iload_n hx hb dX6_take_29 rfl (lv_at hl 1 rfl) ?_
        refine lv_iload_n hx hb dX6_take_30 rfl (lv_at hl 2 rfl) ?_
        refine wk_S (As := [.int (nI w), .int (nI k)]) (rest := []) ⟨hx, hb, hml, hown, hts⟩ (c_X6_has l E (mm := w) (k := k) (v_set_31 b2 hw) (by omega)) (va_cwS 2 hts gX6_take_X6_has rfl rfl rfl (by decide +kernel) ⟨(Nat.le_of_ble_eq_true rfl), (Nat.le_of_ble_eq_true rfl)⟩) hK rfl hl.1 rfl (Nat.le_of_ble_eq_true rfl) dX6_take_31 ⟨Nat.zero_le _, Nat.zero_le _⟩ ?_
        refine lv_if_eq (tgt := 61) hx hb dX6_take_34 (by decide) (fun c_34 => ?_) (fun c_34 => ?_)
        · skip
          have e_34 : (Nat.testBit w k) = false := wk_b0 c_34
          refine lv_iinc (v := nI (k + 1)) (lv' := [(2, .int (nI (k + 1))), (0, .ref (Y 10 0)), (1, .int (nI w))]) hx hb dX6_take_61 hl (k := 2) rfl (nI_1 _) (by decide) rfl (fun ls hl => ?_)
          refine lv_goto (tgt := 21) hx hb dX6_take_64 (by decide) ?_
          exact ih_21 (k + 1) (by omega) (by omega) (f_any_step hf (by simp [f_notTog, e_34])) ls (lv_sub hl [1, 2, 0] rfl)
        have e_34 : (Nat.testBit w k) = true := wk_b1 c_34
        refine lv_aload_n hx hb dX6_take_37 rfl (lv_at hl 0 rfl) ?_
        refine lv_iload_n hx hb dX6_take_38 rfl (lv_at hl 2 rfl) ?_
        refine wk_V (As := [.int (nI k)]) (rest := []) ⟨hx, hb, hml, hown, hts⟩ (c_X6_canBeTaken l E hA hI e_26) (cwV 1 hts gX6_take_X6_canBeTaken rfl rfl rfl (by decide +kernel) ⟨(Nat.le_of_ble_eq_true rfl), (Nat.le_of_ble_eq_true rfl)⟩) (wk_recv hK hA.obj rfl) hK rfl hl.1 rfl (Nat.le_of_ble_eq_true rfl) dX6_take_39 ⟨Nat.zero_le _, Nat.zero_le _⟩ ?_
        refine lv_if_eq (tgt := 55) hx hb dX6_take_42 (by decide) (fun c_42 => ?_) (fun c_42 => ?_)
        · skip
          have e_42 : (f_free σ k) = false := wk_b0 c_42
          exact absurd hok (by rw [f_tog, f_any_yes e_26 (by simp [f_notTog, e_34, e_42])]; decide)
        have e_42 : (f_free σ k) = true := wk_b1 c_42
        refine lv_aload_n hx hb dX6_take_45 rfl (lv_at hl 0 rfl) ?_
        refine lv_iload_n hx hb dX6_take_46 rfl (lv_at hl 2 rfl) ?_
        refine wk_V (As := [.int (nI k)]) (rest := []) ⟨hx, hb, hml, hown, hts⟩ (c_X6_conflictsOf l E hA hI e_26) (cwV 1 hts gX6_take_X6_conflictsOf rfl rfl rfl (by decide +kernel) ⟨(Nat.le_of_ble_eq_true rfl), (Nat.le_of_ble_eq_true rfl)⟩) (wk_recv hK hA.obj rfl) hK rfl hl.1 rfl (Nat.le_of_ble_eq_true rfl) dX6_take_47 ⟨Nat.zero_le _, Nat.zero_le _⟩ ?_
        refine lv_iload_n hx hb dX6_take_50 rfl (lv_at hl 1 rfl) ?_
        refine lv_iand hx hb dX6_take_51 ?_
        refine wk_eqi (show (nI (f_cfl σ k)) &&& (nI w) = nI ((f_cfl σ k) &&& w) from fa_and (f_cfl σ k) w) ?_
        refine lv_if_eq (tgt := 61) hx hb dX6_take_52 (by decide) (fun c_52 => ?_) (fun c_52 => ?_)
        · skip
          have e_52 : ((f_cfl σ k) &&& w) = 0 := wk_ceqt (b := 0) (Nat.lt_of_le_of_lt Nat.and_le_left (f_cfl_lt hI k)) (by decide) c_52
          refine lv_iinc (v := nI (k + 1)) (lv' := [(2, .int (nI (k + 1))), (0, .ref (Y 10 0)), (1, .int (nI w))]) hx hb dX6_take_61 hl (k := 2) rfl (nI_1 _) (by decide) rfl (fun ls hl => ?_)
          refine lv_goto (tgt := 21) hx hb dX6_take_64 (by decide) ?_
          exact ih_21 (k + 1) (by omega) (by omega) (f_any_step hf (by simp [f_notTog, e_34, e_42, e_52])) ls (lv_sub hl [1, 2, 0] rfl)
        have e_52 : ¬ ((f_cfl σ k) &&& w) = 0 := wk_ceqf (b := 0) (Nat.lt_of_le_of_lt Nat.and_le_left (f_cfl_lt hI k)) (by decide) c_52
        exact absurd hok (by rw [f_tog, f_any_yes e_26 (by simp [f_notTog, e_34, e_42, e_52])]; decide)
    exact L_21 _ 0 (Nat.lt_succ_self _) (Nat.zero_le _) rfl ls (lv_sub hl [1, 2, 0] rfl)
  have e_10 : (v_set (nI w) (z_n σ 2)) = false := wk_b0 c_10
  exact absurd (e_10.symm.trans (v_set_nI b2 hw)) (by decide)

abbrev rmf_X6_take : Room := { frames := 2, cells := 0, slots := 0, locals := 43 }
set_option maxHeartbeats 4000000 in
set_option maxRecDepth 100000 in
theorem f_X6_take (l : Launch) (E : wk_E) {T : Nat → Nat × Nat} {Y : Nat → Nat → Nat} {σ : z_S} {th : Int32} {gt : Int64} {H : Heap} (hA : MA E T Y σ th gt H) (hI : z_Ok σ) {x : Int32} (hbad : v_set x (z_n σ 2) = false) : we_Met l yX6_take wsX6_take rmf_X6_take E H [.ref (Y 10 0), .int x] (z_FM T) 0 0 (fun v H1 => v = some (.int (0)) ∧ MA E T Y σ 1 gt H1) := by
  refine Met.ofW (cc := cX6_take) (maxL := 3) (ret := (some .int)) (by decide) rfl ?_
  intro p e s m args below meth c s₁ B hml hv
  obtain ⟨rfl, hH, hV⟩ := hv
  subst hH
  have hK := hV.k
  have hx := B.exec
  have hb := B.bytes
  have hr := B.returns
  have hts := atoms_spec (ws := wsX6_take) B.pre
  have hown : s.vm.findClass RX6 = some m.cls := findClass_of_methodNamed B.named
  have hlocks := B.notSynchronized
  have hS : va_S (fun q => (z_FM T) q ∨ s.heap.size ≤ q) s.heap s.heap [] := va_S.rf
  have hA9 : ∀ q : Nat, s.heap.size ≤ q → ((z_FM T) q ∨ s.heap.size ≤ q) := fun _ h => Or.inr h
  have hbA : ∀ q : Nat, q < E.2.2.1 → ¬ ((z_FM T) q ∨ s.heap.size ≤ q) := fun q hq z => z.elim (z_FMb hA.2 hq) (fun z => absurd (Nat.lt_of_lt_of_le hq hV.2.2.2.2.2.2) (Nat.not_lt.mpr z))
  have i_X6 : ∀ w ∈ u_ws RX6 TX6 26, w ∈ wsX6_take := fun w h => (List.mem_cons_of_mem _ (List.mem_append_right _ h))
  have hl := lv_entry [.ref (Y 10 0), .int x] (n := 3) (Nat.le_of_ble_eq_true rfl)
  rw [lg_entry_eq]
  generalize (lg_sl [.ref (Y 10 0), .int x] ++ List.replicate (3 - (lg_sl [.ref (Y 10 0), .int x]).length) Slot.unset).toArray = ls at hl ⊢
  have hl : lv_has ls 3 [(0, .ref (Y 10 0)), (1, .int x)] := hl
  have b0 := hI.n0
  have b1 := hI.n1
  have b2 := hI.n2
  have b3 := hI.n3
  refine lv_aload_n hx hb dX6_take_0 rfl (lv_at hl 0 rfl) ?_
  refine lv_iconst (v := 0) hx hb dX6_take_1 (by decide) ?_
  refine wk_put (own := RX6) (C := RX6) (T := TX6) (N := 26) (ci := 7) (v := .int 0) hx hb hts i_X6 tyX6 tyX6_ok nmX6 hown hK hA.obj (Or.inl hA.tagO) hS rfl 0 (by decide) (hts _ (List.mem_of_getElem? (i := 1) rfl)) (fun _ h9 => h9) rfl (tyX6_ok 0 (by decide)) rfl rfl (Nat.le_of_ble_eq_true rfl) dX6_take_2 (fun H locs hP9 hz9 hk9 hS => ?_)
  have hA := hA.setTh hP9 hk9
  refine lv_aload_n hx hb dX6_take_5 rfl (lv_at hl 0 rfl) ?_
  refine lv_iload_n hx hb dX6_take_6 rfl (lv_at hl 1 rfl) ?_
  refine wk_V (As := [.int x]) (rest := []) ⟨hx, hb, hml, hown, hts⟩ (c_X6_arePasses l E hA hI (x := x)) (cwV 1 hts gX6_take_X6_arePasses rfl rfl rfl (by decide +kernel) ⟨(Nat.le_of_ble_eq_true rfl), (Nat.le_of_ble_eq_true rfl)⟩) (wk_recv hK hA.obj rfl) hK rfl hl.1 rfl (Nat.le_of_ble_eq_true rfl) dX6_take_7 ⟨Nat.zero_le _, Nat.zero_le _⟩ ?_
  refine lv_if_ne (tgt := 19) hx hb dX6_take_10 (by decide) (fun c_10 => ?_) (fun c_10 => ?_)
  · skip
    have e_10 : (v_set x (z_n σ 2)) = true := wk_b1 c_10
    exact absurd (hbad.symm.trans e_10) (by decide)
  have e_10 : (v_set x (z_n σ 2)) = false := wk_b0 c_10
  refine lv_aload_n hx hb dX6_take_13 rfl (lv_at hl 0 rfl) ?_
  refine lv_iconst (v := 1) hx hb dX6_take_14 (by decide) ?_
  refine we_V (As := [.int 1]) (rest := []) ⟨hx, hb, hml, hown, hts⟩ (e_X6_fail l E hA hI) (cwV 1 hts gX6_take_X6_fail rfl rfl rfl (by decide +kernel) ⟨(Nat.le_of_ble_eq_true rfl), (Nat.le_of_ble_eq_true rfl)⟩) (wk_recv hK hA.obj rfl) (hV.heap hS.1 (fun q hq => hS.2.1 q (Nat.lt_of_lt_of_le hq hV.2.2.2.2.2.2) (hbA q hq))) hS (fun _ h => Or.inl h) hA9 rfl hl.1 rfl (Nat.le_of_ble_eq_true rfl) dX6_take_15 ⟨Nat.zero_le _, Nat.zero_le _⟩ (fun v9 H locs hR9 hz9 hk9 hS => ?_)
  obtain ⟨rfl, hA⟩ := hR9
  refine wk_eqls (st' := [.int 0]) rfl ?_
  exact W.iret hx hb hr (we_end (Rt := fun v H1 => v = some (.int (0)) ∧ MA E T Y σ 1 gt H1) (F := z_FM T) (⟨rfl, hA⟩) hS) hS.2.2 dX6_take_18
