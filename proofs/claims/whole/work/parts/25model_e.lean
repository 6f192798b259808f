abbrev rmf3_X6_isConflict : Room := { frames := 2, cells := 0, slots := 0, locals := 43 }
set_option maxHeartbeats 4000000 in
set_option maxRecDepth 100000 in
theorem f3_X6_isConflict (l : Launch) (E : wk_E) {T : Nat → Nat × Nat} {Y : Nat → Nat → Nat} {σ : z_S} {th : Int32} {gt : Int64} {H : Heap} (hA : MA E T Y σ th gt H) (hI : z_Ok σ) {i : Nat} (hi : i < z_n σ 2) : we_Met l yX6_isConflict wsX6_isConflict rmf3_X6_isConflict E H [.ref (Y 10 0), .int (nI i), .int (nI i)] (z_FM T) 0 0 (fun v H1 => v = some (.int (0)) ∧ MA E T Y σ 2 gt H1) := by
  refine Met.ofW (cc := cX6_isConflict) (maxL := 3) (ret := (some .boolean)) (by decide) rfl ?_
  intro p e s m args below meth c s₁ B hml hv
  obtain ⟨rfl, hH, hV⟩ := hv
  subst hH
  have hK := hV.k
  have hx := B.exec
  have hb := B.bytes
  have hr := B.returns
  have hts := atoms_spec (ws := wsX6_isConflict) B.pre
  have hown : s.vm.findClass RX6 = some m.cls := findClass_of_methodNamed B.named
  have hlocks := B.notSynchronized
  have hS : va_S (fun q => (z_FM T) q ∨ s.heap.size ≤ q) s.heap s.heap [] := va_S.rf
  have hA9 : ∀ q : Nat, s.heap.size ≤ q → ((z_FM T) q ∨ s.heap.size ≤ q) := fun _ h => Or.inr h
  have hbA : ∀ q : Nat, q < E.2.2.1 → ¬ ((z_FM T) q ∨ s.heap.size ≤ q) := fun q hq z => z.elim (z_FMb hA.2 hq) (fun z => absurd (Nat.lt_of_lt_of_le hq hV.2.2.2.2.2.2) (Nat.not_lt.mpr z))
  have i_X6 : ∀ w ∈ u_ws RX6 TX6 26, w ∈ wsX6_isConflict := fun w h => (List.mem_cons_of_mem _ (List.mem_append_right _ h))
  have hl := lv_entry [.ref (Y 10 0), .int (nI i), .int (nI i)] (n := 3) (Nat.le_of_ble_eq_true rfl)
  rw [lg_entry_eq]
  generalize (lg_sl [.ref (Y 10 0), .int (nI i), .int (nI i)] ++ List.replicate (3 - (lg_sl [.ref (Y 10 0), .int (nI i), .int (nI i)]).length) Slot.unset).toArray = ls at hl ⊢
  have hl : lv_has ls 3 [(0, .ref (Y 10 0)), (1, .int (nI i)), (2, .int (nI i))] := hl
  have b0 := hI.n0
  have b1 := hI.n1
  have b2 := hI.n2
  have b3 := hI.n3
  refine lv_aload_n hx hb dX6_isConflict_0 rfl (lv_at hl 0 rfl) ?_
  refine lv_aload_n hx hb dX6_isConflict_1 rfl (lv_at hl 0 rfl) ?_
  refine lv_iload_n hx hb dX6_isConflict_2 rfl (lv_at hl 1 rfl) ?_
  refine wk_V (As := [.int (nI i)]) (rest := [.ref (Y 10 0)]) ⟨hx, hb, hml, hown, hts⟩ (c_X6_isPass l E hA hI (x := nI i)) (cwV 1 hts gX6_isConflict_X6_isPass rfl rfl rfl (by decide +kernel) ⟨(Nat.le_of_ble_eq_true rfl), (Nat.le_of_ble_eq_true rfl)⟩) (wk_recv hK hA.obj rfl) hK rfl hl.1 rfl (Nat.le_of_ble_eq_true rfl) dX6_isConflict_3 ⟨Nat.zero_le _, Nat.zero_le _⟩ ?_
  refine lv_if_eq (tgt := 17) hx hb dX6_isConflict_6 (by decide) (fun c_6 => ?_) (fun c_6 => ?_)
  · skip
    have e_6 : (v_ix (nI i) (z_n σ 2)) = false := wk_b0 c_6
    exact absurd (e_6.symm.trans (v_ix_nI hi (by omega))) (by decide)
  have e_6 : (v_ix (nI i) (z_n σ 2)) = true := wk_b1 c_6
  refine lv_aload_n hx hb dX6_isConflict_9 rfl (lv_at hl 0 rfl) ?_
  refine lv_iload_n hx hb dX6_isConflict_10 rfl (lv_at hl 2 rfl) ?_
  refine wk_V (As := [.int (nI i)]) (rest := [.ref (Y 10 0)]) ⟨hx, hb, hml, hown, hts⟩ (c_X6_isPass l E hA hI (x := nI i)) (cwV 1 hts gX6_isConflict_X6_isPass rfl rfl rfl (by decide +kernel) ⟨(Nat.le_of_ble_eq_true rfl), (Nat.le_of_ble_eq_true rfl)⟩) (wk_recv hK hA.obj rfl) hK rfl hl.1 rfl (Nat.le_of_ble_eq_true rfl) dX6_isConflict_11 ⟨Nat.zero_le _, Nat.zero_le _⟩ ?_
  refine lv_if_ne (tgt := 21) hx hb dX6_isConflict_14 (by decide) (fun c_14 => ?_) (fun c_14 => ?_)
  · skip
    have e_14 : (v_ix (nI i) (z_n σ 2)) = true := wk_b1 c_14
    refine lv_iload_n hx hb dX6_isConflict_21 rfl (lv_at hl 1 rfl) ?_
    refine lv_iload_n hx hb dX6_isConflict_22 rfl (lv_at hl 2 rfl) ?_
    refine lv_icmp_ne (tgt := 30) hx hb dX6_isConflict_23 (by decide) (fun c_23 => ?_) (fun c_23 => ?_)
    · skip
      have e_23 : ¬ i = i := wk_cnet (by omega) (by omega) c_23
      exact absurd rfl c_23
    have e_23 : i = i := wk_cnef (by omega) (by omega) c_23
    refine lv_iconst (v := 2) hx hb dX6_isConflict_26 (by decide) ?_
    refine lv_goto (tgt := 31) hx hb dX6_isConflict_27 (by decide) ?_
    refine wk_put (own := RX6) (C := RX6) (T := TX6) (N := 26) (ci := 7) (v := .int 2) hx hb hts i_X6 tyX6 tyX6_ok nmX6 hown hK hA.obj (Or.inl hA.tagO) hS rfl 0 (by decide) (hts _ (List.mem_of_getElem? (i := 1) rfl)) (fun _ h9 => h9) rfl (tyX6_ok 0 (by decide)) rfl rfl (Nat.le_of_ble_eq_true rfl) dX6_isConflict_31 (fun H locs hP9 hz9 hk9 hS => ?_)
    have hA := hA.setTh hP9 hk9
    refine lv_aload_n hx hb dX6_isConflict_34 rfl (lv_at hl 0 rfl) ?_
    refine wk_get (own := RX6) (C := RX6) (T := TX6) (N := 26) (ci := 7) (v := .int 2) hx hb hts i_X6 hown hK hA.obj rfl 0 (by decide) (hts _ (List.mem_of_getElem? (i := 1) rfl)) (fun _ h9 => h9) rfl dX6_isConflict_35 ?_
    refine lv_if_ne (tgt := 54) hx hb dX6_isConflict_38 (by decide) (fun c_38 => ?_) (fun c_38 => ?_)
    · skip
      refine lv_iconst (v := 0) hx hb dX6_isConflict_54 (by decide) ?_
      exact W.zret hx hb hr rfl (we_end (Rt := fun v H1 => v = some (.int (0)) ∧ MA E T Y σ 2 gt H1) (F := z_FM T) (⟨rfl, hA⟩) hS) hS.2.2 dX6_isConflict_55
    exact absurd c_38 (by decide)
  have e_14 : (v_ix (nI i) (z_n σ 2)) = false := wk_b0 c_14
  exact absurd (e_14.symm.trans (v_ix_nI hi (by omega))) (by decide)

abbrev rme_X6_addAntenna : Room := { frames := 1, cells := 0, slots := 0, locals := 22 }
set_option maxHeartbeats 4000000 in
set_option maxRecDepth 100000 in
theorem e_X6_addAntenna (l : Launch) (E : wk_E) {T : Nat → Nat × Nat} {Y : Nat → Nat → Nat} {σ : z_S} {th : Int32} {gt : Int64} {H : Heap} (hA : MA E T Y σ th gt H) (hI : z_Ok σ) {x y z : Int32} (hok : v_ant x y z = true) (hn : z_n σ 0 < 5) : we_Met l yX6_addAntenna wsX6_addAntenna rme_X6_addAntenna E H [.ref (Y 10 0), .int x, .int y, .int z] (z_FM T) 0 0 (fun v H1 => v = some (.int (nI (z_n σ 0))) ∧ MA E T Y (f_addA σ x y z) 0 gt H1) := by
  refine Met.ofW (cc := cX6_addAntenna) (maxL := 4) (ret := (some .int)) (by decide) rfl ?_
  intro p e s m args below meth c s₁ B hml hv
  obtain ⟨rfl, hH, hV⟩ := hv
  subst hH
  have hK := hV.k
  have hx := B.exec
  have hb := B.bytes
  have hr := B.returns
  have hts := atoms_spec (ws := wsX6_addAntenna) B.pre
  have hown : s.vm.findClass RX6 = some m.cls := findClass_of_methodNamed B.named
  have hlocks := B.notSynchronized
  have hS : va_S (fun q => (z_FM T) q ∨ s.heap.size ≤ q) s.heap s.heap [] := va_S.rf
  have hA9 : ∀ q : Nat, s.heap.size ≤ q → ((z_FM T) q ∨ s.heap.size ≤ q) := fun _ h => Or.inr h
  have hbA : ∀ q : Nat, q < E.2.2.1 → ¬ ((z_FM T) q ∨ s.heap.size ≤ q) := fun q hq z => z.elim (z_FMb hA.2 hq) (fun z => absurd (Nat.lt_of_lt_of_le hq hV.2.2.2.2.2.2) (Nat.not_lt.mpr z))
  have i_X6 : ∀ w ∈ u_ws RX6 TX6 26, w ∈ wsX6_addAntenna := fun w h => (List.mem_cons_of_mem _ (List.mem_append_right _ h))
  have hl := lv_entry [.ref (Y 10 0), .int x, .int y, .int z] (n := 4) (Nat.le_of_ble_eq_true rfl)
  rw [lg_entry_eq]
  generalize (lg_sl [.ref (Y 10 0), .int x, .int y, .int z] ++ List.replicate (4 - (lg_sl [.ref (Y 10 0), .int x, .int y, .int z]).length) Slot.unset).toArray = ls at hl ⊢
  have hl : lv_has ls 4 [(0, .ref (Y 10 0)), (1, .int x), (2, .int y), (3, .int z)] := hl
  have b0 := hI.n0
  have b1 := hI.n1
  have b2 := hI.n2
  have b3 := hI.n3
  refine lv_aload_n hx hb dX6_addAntenna_0 rfl (lv_at hl 0 rfl) ?_
  refine lv_iconst (v := 0) hx hb dX6_addAntenna_1 (by decide) ?_
  refine wk_put (own := RX6) (C := RX6) (T := TX6) (N := 26) (ci := 7) (v := .int 0) hx hb hts i_X6 tyX6 tyX6_ok nmX6 hown hK hA.obj (Or.inl hA.tagO) hS rfl 0 (by decide) (hts _ (List.mem_of_getElem? (i := 1) rfl)) (fun _ h9 => h9) rfl (tyX6_ok 0 (by decide)) rfl rfl (Nat.le_of_ble_eq_true rfl) dX6_addAntenna_2 (fun H locs hP9 hz9 hk9 hS => ?_)
  have hA := hA.setTh hP9 hk9
  refine lv_iload_n hx hb dX6_addAntenna_5 rfl (lv_at hl 1 rfl) ?_
  refine lv_iconst (v := 1) hx hb dX6_addAntenna_6 (by decide) ?_
  refine lv_bipush (v := 15) hx hb dX6_addAntenna_7 (by decide) ?_
  refine wk_S (As := [.int x, .int 1, .int 15]) (rest := []) ⟨hx, hb, hml, hown, hts⟩ (c_X6_isIn l E (x := x) (y := 1) (z := 15)) (va_cwS 3 hts gX6_addAntenna_X6_isIn rfl rfl rfl (by decide +kernel) ⟨(Nat.le_of_ble_eq_true rfl), (Nat.le_of_ble_eq_true rfl)⟩) hK rfl hl.1 rfl (Nat.le_of_ble_eq_true rfl) dX6_addAntenna_9 ⟨Nat.zero_le _, Nat.zero_le _⟩ ?_
  refine lv_if_eq (tgt := 35) hx hb dX6_addAntenna_12 (by decide) (fun c_12 => ?_) (fun c_12 => ?_)
  · skip
    have e_12 : (v_in x 1 15) = false := wk_b0 c_12
    exact absurd hok (by simp [v_ant, e_12])
  have e_12 : (v_in x 1 15) = true := wk_b1 c_12
  refine lv_iload_n hx hb dX6_addAntenna_15 rfl (lv_at hl 2 rfl) ?_
  refine lv_iconst (v := 0) hx hb dX6_addAntenna_16 (by decide) ?_
  refine lv_bipush (v := 30) hx hb dX6_addAntenna_17 (by decide) ?_
  refine wk_S (As := [.int y, .int 0, .int 30]) (rest := []) ⟨hx, hb, hml, hown, hts⟩ (c_X6_isIn l E (x := y) (y := 0) (z := 30)) (va_cwS 3 hts gX6_addAntenna_X6_isIn rfl rfl rfl (by decide +kernel) ⟨(Nat.le_of_ble_eq_true rfl), (Nat.le_of_ble_eq_true rfl)⟩) hK rfl hl.1 rfl (Nat.le_of_ble_eq_true rfl) dX6_addAntenna_19 ⟨Nat.zero_le _, Nat.zero_le _⟩ ?_
  refine lv_if_eq (tgt := 35) hx hb dX6_addAntenna_22 (by decide) (fun c_22 => ?_) (fun c_22 => ?_)
  · skip
    have e_22 : (v_in y 0 30) = false := wk_b0 c_22
    exact absurd hok (by simp [v_ant, e_12, e_22])
  have e_22 : (v_in y 0 30) = true := wk_b1 c_22
  refine lv_iload_n hx hb dX6_addAntenna_25 rfl (lv_at hl 3 rfl) ?_
  refine lv_iconst (v := 1) hx hb dX6_addAntenna_26 (by decide) ?_
  refine lv_bipush (v := 100) hx hb dX6_addAntenna_27 (by decide) ?_
  refine wk_S (As := [.int z, .int 1, .int 100]) (rest := []) ⟨hx, hb, hml, hown, hts⟩ (c_X6_isIn l E (x := z) (y := 1) (z := 100)) (va_cwS 3 hts gX6_addAntenna_X6_isIn rfl rfl rfl (by decide +kernel) ⟨(Nat.le_of_ble_eq_true rfl), (Nat.le_of_ble_eq_true rfl)⟩) hK rfl hl.1 rfl (Nat.le_of_ble_eq_true rfl) dX6_addAntenna_29 ⟨Nat.zero_le _, Nat.zero_le _⟩ ?_
  refine lv_if_ne (tgt := 41) hx hb dX6_addAntenna_32 (by decide) (fun c_32 => ?_) (fun c_32 => ?_)
  · skip
    have e_32 : (v_in z 1 100) = true := wk_b1 c_32
    refine lv_aload_n hx hb dX6_addAntenna_41 rfl (lv_at hl 0 rfl) ?_
    refine wk_get (own := RX6) (C := RX6) (T := TX6) (N := 26) (ci := 7) (v := .int (nI (z_n σ 0))) hx hb hts i_X6 hown hK hA.obj rfl 3 (by decide) (hts _ (List.mem_of_getElem? (i := 2) rfl)) (fun _ h9 => h9) rfl dX6_addAntenna_42 ?_
    refine lv_iconst (v := 5) hx hb dX6_addAntenna_45 (by decide) ?_
    refine lv_icmp_ne (tgt := 55) hx hb dX6_addAntenna_46 (by decide) (fun c_46 => ?_) (fun c_46 => ?_)
    · skip
      have e_46 : ¬ (z_n σ 0) = 5 := wk_cnet (by omega) (by omega) c_46
      refine lv_aload_n hx hb dX6_addAntenna_55 rfl (lv_at hl 0 rfl) ?_
      refine wk_get (own := RX6) (C := RX6) (T := TX6) (N := 26) (ci := 7) (v := .ref (Y 11 0)) hx hb hts i_X6 hown hK hA.obj rfl 4 (by decide) (hts _ (List.mem_of_getElem? (i := 3) rfl)) (fun _ h9 => h9) rfl dX6_addAntenna_56 ?_
      refine lv_aload_n hx hb dX6_addAntenna_59 rfl (lv_at hl 0 rfl) ?_
      refine wk_get (own := RX6) (C := RX6) (T := TX6) (N := 26) (ci := 7) (v := .int (nI (z_n σ 0))) hx hb hts i_X6 hown hK hA.obj rfl 3 (by decide) (hts _ (List.mem_of_getElem? (i := 2) rfl)) (fun _ h9 => h9) rfl dX6_addAntenna_60 ?_
      refine wk_eqi (show _ = nI (z_n σ 0) from rfl) ?_
      refine lv_iload_n hx hb dX6_addAntenna_63 rfl (lv_at hl 1 rfl) ?_
      refine wk_iast (nn := 5) hx hb hK hA.a0 (Or.inl (hA.tagA (k := 0) rfl)) hS (z_n σ 0) rfl (by omega) (by decide) dX6_addAntenna_64 (fun H locs hP9 hz9 hk9 hS => ?_)
      have hA := hA.setA0 (j := z_n σ 0) (v := x) hP9 hk9
      refine lv_aload_n hx hb dX6_addAntenna_65 rfl (lv_at hl 0 rfl) ?_
      refine wk_get (own := RX6) (C := RX6) (T := TX6) (N := 26) (ci := 7) (v := .ref (Y 11 1)) hx hb hts i_X6 hown hK hA.obj rfl 5 (by decide) (hts _ (List.mem_of_getElem? (i := 4) rfl)) (fun _ h9 => h9) rfl dX6_addAntenna_66 ?_
      refine lv_aload_n hx hb dX6_addAntenna_69 rfl (lv_at hl 0 rfl) ?_
      refine wk_get (own := RX6) (C := RX6) (T := TX6) (N := 26) (ci := 7) (v := .int (nI (z_n (s1 σ 10 (z_n σ 0) x) 0))) hx hb hts i_X6 hown hK hA.obj rfl 3 (by decide) (hts _ (List.mem_of_getElem? (i := 2) rfl)) (fun _ h9 => h9) rfl dX6_addAntenna_70 ?_
      refine wk_eqi (show _ = nI (z_n σ 0) from rfl) ?_
      refine lv_iload_n hx hb dX6_addAntenna_73 rfl (lv_at hl 2 rfl) ?_
      refine wk_iast (nn := 5) hx hb hK hA.a1 (Or.inl (hA.tagA (k := 1) rfl)) hS (z_n σ 0) rfl (by omega) (by decide) dX6_addAntenna_74 (fun H locs hP9 hz9 hk9 hS => ?_)
      have hA := hA.setA1 (j := z_n σ 0) (v := y) hP9 hk9
      refine lv_aload_n hx hb dX6_addAntenna_75 rfl (lv_at hl 0 rfl) ?_
      refine wk_get (own := RX6) (C := RX6) (T := TX6) (N := 26) (ci := 7) (v := .ref (Y 11 2)) hx hb hts i_X6 hown hK hA.obj rfl 6 (by decide) (hts _ (List.mem_of_getElem? (i := 5) rfl)) (fun _ h9 => h9) rfl dX6_addAntenna_76 ?_
      refine lv_aload_n hx hb dX6_addAntenna_79 rfl (lv_at hl 0 rfl) ?_
      refine wk_get (own := RX6) (C := RX6) (T := TX6) (N := 26) (ci := 7) (v := .int (nI (z_n (s1 (s1 σ 10 (z_n σ 0) x) 11 (z_n σ 0) y) 0))) hx hb hts i_X6 hown hK hA.obj rfl 3 (by decide) (hts _ (List.mem_of_getElem? (i := 2) rfl)) (fun _ h9 => h9) rfl dX6_addAntenna_80 ?_
      refine wk_eqi (show _ = nI (z_n σ 0) from rfl) ?_
      refine lv_iload_n hx hb dX6_addAntenna_83 rfl (lv_at hl 3 rfl) ?_
      refine wk_iast (nn := 5) hx hb hK hA.a2 (Or.inl (hA.tagA (k := 2) rfl)) hS (z_n σ 0) rfl (by omega) (by decide) dX6_addAntenna_84 (fun H locs hP9 hz9 hk9 hS => ?_)
      have hA := hA.setA2 (j := z_n σ 0) (v := z) hP9 hk9
      refine lv_aload_n hx hb dX6_addAntenna_85 rfl (lv_at hl 0 rfl) ?_
      refine lv_dup hx hb dX6_addAntenna_86 rfl ?_
      refine wk_get (own := RX6) (C := RX6) (T := TX6) (N := 26) (ci := 7) (v := .int (nI (z_n (s1 (s1 (s1 σ 10 (z_n σ 0) x) 11 (z_n σ 0) y) 12 (z_n σ 0) z) 0))) hx hb hts i_X6 hown hK hA.obj rfl 3 (by decide) (hts _ (List.mem_of_getElem? (i := 2) rfl)) (fun _ h9 => h9) rfl dX6_addAntenna_87 ?_
      refine wk_eqi (show _ = nI (z_n σ 0) from rfl) ?_
      refine lv_iconst (v := 1) hx hb dX6_addAntenna_90 (by decide) ?_
      refine lv_iadd hx hb dX6_addAntenna_91 ?_
      refine wk_eqi (show (nI (z_n σ 0)) + 1 = nI ((z_n σ 0) + 1) from nI_add (z_n σ 0) 1) ?_
      refine wk_put (own := RX6) (C := RX6) (T := TX6) (N := 26) (ci := 7) (v := .int (nI ((z_n σ 0) + 1))) hx hb hts i_X6 tyX6 tyX6_ok nmX6 hown hK hA.obj (Or.inl hA.tagO) hS rfl 3 (by decide) (hts _ (List.mem_of_getElem? (i := 2) rfl)) (fun _ h9 => h9) rfl (tyX6_ok 3 (by decide)) rfl rfl (Nat.le_of_ble_eq_true rfl) dX6_addAntenna_92 (fun H locs hP9 hz9 hk9 hS => ?_)
      have hA := hA.setN0 (v := ((z_n σ 0) + 1)) hP9 hk9
      refine lv_aload_n hx hb dX6_addAntenna_95 rfl (lv_at hl 0 rfl) ?_
      refine wk_get (own := RX6) (C := RX6) (T := TX6) (N := 26) (ci := 7) (v := .int (nI (z_n (s2 (s1 (s1 (s1 σ 10 (z_n σ 0) x) 11 (z_n σ 0) y) 12 (z_n σ 0) z) 0 0 ((z_n σ 0) + 1)) 0))) hx hb hts i_X6 hown hK hA.obj rfl 3 (by decide) (hts _ (List.mem_of_getElem? (i := 2) rfl)) (fun _ h9 => h9) rfl dX6_addAntenna_96 ?_
      refine lv_iconst (v := 1) hx hb dX6_addAntenna_99 (by decide) ?_
      refine lv_isub hx hb dX6_addAntenna_100 ?_
      refine wk_eqi (show _ = nI (z_n σ 0) from wk_pred (by omega)) ?_
      exact W.iret hx hb hr (we_end (Rt := fun v H1 => v = some (.int (nI (z_n σ 0))) ∧ MA E T Y (f_addA σ x y z) 0 gt H1) (F := z_FM T) (⟨rfl, hA⟩) hS) hS.2.2 dX6_addAntenna_101
    have e_46 : (z_n σ 0) = 5 := wk_cnef (by omega) (by omega) c_46
    omega
  have e_32 : (v_in z 1 100) = false := wk_b0 c_32
  exact absurd hok (by simp [v_ant, e_12, e_22, e_32])

abbrev rmf_X6_addAntenna : Room := { frames := 1, cells := 0, slots := 0, locals := 22 }
set_option maxHeartbeats 4000000 in
set_option maxRecDepth 100000 in
theorem f_X6_addAntenna (l : Launch) (E : wk_E) {T : Nat → Nat × Nat} {Y : Nat → Nat → Nat} {σ : z_S} {th : Int32} {gt : Int64} {H : Heap} (hA : MA E T Y σ th gt H) (hI : z_Ok σ) {x y z : Int32} (hbad : v_ant x y z = false) : we_Met l yX6_addAntenna wsX6_addAntenna rmf_X6_addAntenna E H [.ref (Y 10 0), .int x, .int y, .int z] (z_FM T) 0 0 (fun v H1 => v = some (.int (0)) ∧ MA E T Y σ 1 gt H1) := by
  refine Met.ofW (cc := cX6_addAntenna) (maxL := 4) (ret := (some .int)) (by decide) rfl ?_
  intro p e s m args below meth c s₁ B hml hv
  obtain ⟨rfl, hH, hV⟩ := hv
  subst hH
  have hK := hV.k
  have hx := B.exec
  have hb := B.bytes
  have hr := B.returns
  have hts := atoms_spec (ws := wsX6_addAntenna) B.pre
  have hown : s.vm.findClass RX6 = some m.cls := findClass_of_methodNamed B.named
  have hlocks := B.notSynchronized
  have hS : va_S (fun q => (z_FM T) q ∨ s.heap.size ≤ q) s.heap s.heap [] := va_S.rf
  have hA9 : ∀ q : Nat, s.heap.size ≤ q → ((z_FM T) q ∨ s.heap.size ≤ q) := fun _ h => Or.inr h
  have hbA : ∀ q : Nat, q < E.2.2.1 → ¬ ((z_FM T) q ∨ s.heap.size ≤ q) := fun q hq z => z.elim (z_FMb hA.2 hq) (fun z => absurd (Nat.lt_of_lt_of_le hq hV.2.2.2.2.2.2) (Nat.not_lt.mpr z))
  have i_X6 : ∀ w ∈ u_ws RX6 TX6 26, w ∈ wsX6_addAntenna := fun w h => (List.mem_cons_of_mem _ (List.mem_append_right _ h))
  have hl := lv_entry [.ref (Y 10 0), .int x, .int y, .int z] (n := 4) (Nat.le_of_ble_eq_true rfl)
  rw [lg_entry_eq]
  generalize (lg_sl [.ref (Y 10 0), .int x, .int y, .int z] ++ List.replicate (4 - (lg_sl [.ref (Y 10 0), .int x, .int y, .int z]).length) Slot.unset).toArray = ls at hl ⊢
  have hl : lv_has ls 4 [(0, .ref (Y 10 0)), (1, .int x), (2, .int y), (3, .int z)] := hl
  have b0 := hI.n0
  have b1 := hI.n1
  have b2 := hI.n2
  have b3 := hI.n3
  refine lv_aload_n hx hb dX6_addAntenna_0 rfl (lv_at hl 0 rfl) ?_
  refine lv_iconst (v := 0) hx hb dX6_addAntenna_1 (by decide) ?_
  refine wk_put (own := RX6) (C := RX6) (T := TX6) (N := 26) (ci := 7) (v := .int 0) hx hb hts i_X6 tyX6 tyX6_ok nmX6 hown hK hA.obj (Or.inl hA.tagO) hS rfl 0 (by decide) (hts _ (List.mem_of_getElem? (i := 1) rfl)) (fun _ h9 => h9) rfl (tyX6_ok 0 (by decide)) rfl rfl (Nat.le_of_ble_eq_true rfl) dX6_addAntenna_2 (fun H locs hP9 hz9 hk9 hS => ?_)
  have hA := hA.setTh hP9 hk9
  refine lv_iload_n hx hb dX6_addAntenna_5 rfl (lv_at hl 1 rfl) ?_
  refine lv_iconst (v := 1) hx hb dX6_addAntenna_6 (by decide) ?_
  refine lv_bipush (v := 15) hx hb dX6_addAntenna_7 (by decide) ?_
  refine wk_S (As := [.int x, .int 1, .int 15]) (rest := []) ⟨hx, hb, hml, hown, hts⟩ (c_X6_isIn l E (x := x) (y := 1) (z := 15)) (va_cwS 3 hts gX6_addAntenna_X6_isIn rfl rfl rfl (by decide +kernel) ⟨(Nat.le_of_ble_eq_true rfl), (Nat.le_of_ble_eq_true rfl)⟩) hK rfl hl.1 rfl (Nat.le_of_ble_eq_true rfl) dX6_addAntenna_9 ⟨Nat.zero_le _, Nat.zero_le _⟩ ?_
  refine lv_if_eq (tgt := 35) hx hb dX6_addAntenna_12 (by decide) (fun c_12 => ?_) (fun c_12 => ?_)
  · skip
    have e_12 : (v_in x 1 15) = false := wk_b0 c_12
    refine lv_aload_n hx hb dX6_addAntenna_35 rfl (lv_at hl 0 rfl) ?_
    refine lv_iconst (v := 1) hx hb dX6_addAntenna_36 (by decide) ?_
    refine we_V (As := [.int 1]) (rest := []) ⟨hx, hb, hml, hown, hts⟩ (e_X6_fail l E hA hI) (cwV 1 hts gX6_addAntenna_X6_fail rfl rfl rfl (by decide +kernel) ⟨(Nat.le_of_ble_eq_true rfl), (Nat.le_of_ble_eq_true rfl)⟩) (wk_recv hK hA.obj rfl) (hV.heap hS.1 (fun q hq => hS.2.1 q (Nat.lt_of_lt_of_le hq hV.2.2.2.2.2.2) (hbA q hq))) hS (fun _ h => Or.inl h) hA9 rfl hl.1 rfl (Nat.le_of_ble_eq_true rfl) dX6_addAntenna_37 ⟨Nat.zero_le _, Nat.zero_le _⟩ (fun v9 H locs hR9 hz9 hk9 hS => ?_)
    obtain ⟨rfl, hA⟩ := hR9
    refine wk_eqls (st' := [.int 0]) rfl ?_
    exact W.iret hx hb hr (we_end (Rt := fun v H1 => v = some (.int (0)) ∧ MA E T Y σ 1 gt H1) (F := z_FM T) (⟨rfl, hA⟩) hS) hS.2.2 dX6_addAntenna_40
  have e_12 : (v_in x 1 15) = true := wk_b1 c_12
  refine lv_iload_n hx hb dX6_addAntenna_15 rfl (lv_at hl 2 rfl) ?_
  refine lv_iconst (v := 0) hx hb dX6_addAntenna_16 (by decide) ?_
  refine lv_bipush (v := 30) hx hb dX6_addAntenna_17 (by decide) ?_
  refine wk_S (As := [.int y, .int 0, .int 30]) (rest := []) ⟨hx, hb, hml, hown, hts⟩ (c_X6_isIn l E (x := y) (y := 0) (z := 30)) (va_cwS 3 hts gX6_addAntenna_X6_isIn rfl rfl rfl (by decide +kernel) ⟨(Nat.le_of_ble_eq_true rfl), (Nat.le_of_ble_eq_true rfl)⟩) hK rfl hl.1 rfl (Nat.le_of_ble_eq_true rfl) dX6_addAntenna_19 ⟨Nat.zero_le _, Nat.zero_le _⟩ ?_
  refine lv_if_eq (tgt := 35) hx hb dX6_addAntenna_22 (by decide) (fun c_22 => ?_) (fun c_22 => ?_)
  · skip
    have e_22 : (v_in y 0 30) = false := wk_b0 c_22
    refine lv_aload_n hx hb dX6_addAntenna_35 rfl (lv_at hl 0 rfl) ?_
    refine lv_iconst (v := 1) hx hb dX6_addAntenna_36 (by decide) ?_
    refine we_V (As := [.int 1]) (rest := []) ⟨hx, hb, hml, hown, hts⟩ (e_X6_fail l E hA hI) (cwV 1 hts gX6_addAntenna_X6_fail rfl rfl rfl (by decide +kernel) ⟨(Nat.le_of_ble_eq_true rfl), (Nat.le_of_ble_eq_true rfl)⟩) (wk_recv hK hA.obj rfl) (hV.heap hS.1 (fun q hq => hS.2.1 q (Nat.lt_of_lt_of_le hq hV.2.2.2.2.2.2) (hbA q hq))) hS (fun _ h => Or.inl h) hA9 rfl hl.1 rfl (Nat.le_of_ble_eq_true rfl) dX6_addAntenna_37 ⟨Nat.zero_le _, Nat.zero_le _⟩ (fun v9 H locs hR9 hz9 hk9 hS => ?_)
    obtain ⟨rfl, hA⟩ := hR9
    refine wk_eqls (st' := [.int 0]) rfl ?_
    exact W.iret hx hb hr (we_end (Rt := fun v H1 => v = some (.int (0)) ∧ MA E T Y σ 1 gt H1) (F := z_FM T) (⟨rfl, hA⟩) hS) hS.2.2 dX6_addAntenna_40
  have e_22 : (v_in y 0 30) = true := wk_b1 c_22
  refine lv_iload_n hx hb dX6_addAntenna_25 rfl (lv_at hl 3 rfl) ?_
  refine lv_iconst (v := 1) hx hb dX6_addAntenna_26 (by decide) ?_
  refine lv_bipush (v := 100) hx hb dX6_addAntenna_27 (by decide) ?_
  refine wk_S (As := [.int z, .int 1, .int 100]) (rest := []) ⟨hx, hb, hml, hown, hts⟩ (c_X6_isIn l E (x := z) (y := 1) (z := 100)) (va_cwS 3 hts gX6_addAntenna_X6_isIn rfl rfl rfl (by decide +kernel) ⟨(Nat.le_of_ble_eq_true rfl), (Nat.le_of_ble_eq_true rfl)⟩) hK rfl hl.1 rfl (Nat.le_of_ble_eq_true rfl) dX6_addAntenna_29 ⟨Nat.zero_le _, Nat.zero_le _⟩ ?_
  refine lv_if_ne (tgt := 41) hx hb dX6_addAntenna_32 (by decide) (fun c_32 => ?_) (fun c_32 => ?_)
  · skip
    have e_32 : (v_in z 1 100) = true := wk_b1 c_32
    exact absurd hbad (by simp [v_ant, e_12, e_22, e_32])
  have e_32 : (v_in z 1 100) = false := wk_b0 c_32
  refine lv_aload_n hx hb dX6_addAntenna_35 rfl (lv_at hl 0 rfl) ?_
  refine lv_iconst (v := 1) hx hb dX6_addAntenna_36 (by decide) ?_
  refine we_V (As := [.int 1]) (rest := []) ⟨hx, hb, hml, hown, hts⟩ (e_X6_fail l E hA hI) (cwV 1 hts gX6_addAntenna_X6_fail rfl rfl rfl (by decide +kernel) ⟨(Nat.le_of_ble_eq_true rfl), (Nat.le_of_ble_eq_true rfl)⟩) (wk_recv hK hA.obj rfl) (hV.heap hS.1 (fun q hq => hS.2.1 q (Nat.lt_of_lt_of_le hq hV.2.2.2.2.2.2) (hbA q hq))) hS (fun _ h => Or.inl h) hA9 rfl hl.1 rfl (Nat.le_of_ble_eq_true rfl) dX6_addAntenna_37 ⟨Nat.zero_le _, Nat.zero_le _⟩ (fun v9 H locs hR9 hz9 hk9 hS => ?_)
  obtain ⟨rfl, hA⟩ := hR9
  refine wk_eqls (st' := [.int 0]) rfl ?_
  exact W.iret hx hb hr (we_end (Rt := fun v H1 => v = some (.int (0)) ∧ MA E T Y σ 1 gt H1) (F := z_FM T) (⟨rfl, hA⟩) hS) hS.2.2 dX6_addAntenna_40

abbrev rmf2_X6_addAntenna : Room := { frames := 1, cells := 0, slots := 0, locals := 22 }
set_option maxHeartbeats 4000000 in
set_option maxRecDepth 100000 in
theorem f2_X6_addAntenna (l : Launch) (E : wk_E) {T : Nat → Nat × Nat} {Y : Nat → Nat → Nat} {σ : z_S} {th : Int32} {gt : Int64} {H : Heap} (hA : MA E T Y σ th gt H) (hI : z_Ok σ) {x y z : Int32} (hok : v_ant x y z = true) (hn : ¬ z_n σ 0 < 5) : we_Met l yX6_addAntenna wsX6_addAntenna rmf2_X6_addAntenna E H [.ref (Y 10 0), .int x, .int y, .int z] (z_FM T) 0 0 (fun v H1 => v = some (.int (0)) ∧ MA E T Y σ 2 gt H1) := by
  refine Met.ofW (cc := cX6_addAntenna) (maxL := 4) (ret := (some .int)) (by decide) rfl ?_
  intro p e s m args below meth c s₁ B hml hv
  obtain ⟨rfl, hH, hV⟩ := hv
  subst hH
  have hK := hV.k
  have hx := B.exec
  have hb := B.bytes
  have hr := B.returns
  have hts := atoms_spec (ws := wsX6_addAntenna) B.pre
  have hown : s.vm.findClass RX6 = some m.cls := findClass_of_methodNamed B.named
  have hlocks := B.notSynchronized
  have hS : va_S (fun q => (z_FM T) q ∨ s.heap.size ≤ q) s.heap s.heap [] := va_S.rf
  have hA9 : ∀ q : Nat, s.heap.size ≤ q → ((z_FM T) q ∨ s.heap.size ≤ q) := fun _ h => Or.inr h
  have hbA : ∀ q : Nat, q < E.2.2.1 → ¬ ((z_FM T) q ∨ s.heap.size ≤ q) := fun q hq z => z.elim (z_FMb hA.2 hq) (fun z => absurd (Nat.lt_of_lt_of_le hq hV.2.2.2.2.2.2) (Nat.not_lt.mpr z))
  have i_X6 : ∀ w ∈ u_ws RX6 TX6 26, w ∈ wsX6_addAntenna := fun w h => (List.mem_cons_of_mem _ (List.mem_append_right _ h))
  have hl := lv_entry [.ref (Y 10 0), .int x, .int y, .int z] (n := 4) (Nat.le_of_ble_eq_true rfl)
  rw [lg_entry_eq]
  generalize (lg_sl [.ref (Y 10 0), .int x, .int y, .int z] ++ List.replicate (4 - (lg_sl [.ref (Y 10 0), .int x, .int y, .int z]).length) Slot.unset).toArray = ls at hl ⊢
  have hl : lv_has ls 4 [(0, .ref (Y 10 0)), (1, .int x), (2, .int y), (3, .int z)] := hl
  have b0 := hI.n0
  have b1 := hI.n1
  have b2 := hI.n2
  have b3 := hI.n3
  refine lv_aload_n hx hb dX6_addAntenna_0 rfl (lv_at hl 0 rfl) ?_
  refine lv_iconst (v := 0) hx hb dX6_addAntenna_1 (by decide) ?_
  refine wk_put (own := RX6) (C := RX6) (T := TX6) (N := 26) (ci := 7) (v := .int 0) hx hb hts i_X6 tyX6 tyX6_ok nmX6 hown hK hA.obj (Or.inl hA.tagO) hS rfl 0 (by decide) (hts _ (List.mem_of_getElem? (i := 1) rfl)) (fun _ h9 => h9) rfl (tyX6_ok 0 (by decide)) rfl rfl (Nat.le_of_ble_eq_true rfl) dX6_addAntenna_2 (fun H locs hP9 hz9 hk9 hS => ?_)
  have hA := hA.setTh hP9 hk9
  refine lv_iload_n hx hb dX6_addAntenna_5 rfl (lv_at hl 1 rfl) ?_
  refine lv_iconst (v := 1) hx hb dX6_addAntenna_6 (by decide) ?_
  refine lv_bipush (v := 15) hx hb dX6_addAntenna_7 (by decide) ?_
  refine wk_S (As := [.int x, .int 1, .int 15]) (rest := []) ⟨hx, hb, hml, hown, hts⟩ (c_X6_isIn l E (x := x) (y := 1) (z := 15)) (va_cwS 3 hts gX6_addAntenna_X6_isIn rfl rfl rfl (by decide +kernel) ⟨(Nat.le_of_ble_eq_true rfl), (Nat.le_of_ble_eq_true rfl)⟩) hK rfl hl.1 rfl (Nat.le_of_ble_eq_true rfl) dX6_addAntenna_9 ⟨Nat.zero_le _, Nat.zero_le _⟩ ?_
  refine lv_if_eq (tgt := 35) hx hb dX6_addAntenna_12 (by decide) (fun c_12 => ?_) (fun c_12 => ?_)
  · skip
    have e_12 : (v_in x 1 15) = false := wk_b0 c_12
    exact absurd hok (by simp [v_ant, e_12])
  have e_12 : (v_in x 1 15) = true := wk_b1 c_12
  refine lv_iload_n hx hb dX6_addAntenna_15 rfl (lv_at hl 2 rfl) ?_
  refine lv_iconst (v := 0) hx hb dX6_addAntenna_16 (by decide) ?_
  refine lv_bipush (v := 30) hx hb dX6_addAntenna_17 (by decide) ?_
  refine wk_S (As := [.int y, .int 0, .int 30]) (rest := []) ⟨hx, hb, hml, hown, hts⟩ (c_X6_isIn l E (x := y) (y := 0) (z := 30)) (va_cwS 3 hts gX6_addAntenna_X6_isIn rfl rfl rfl (by decide +kernel) ⟨(Nat.le_of_ble_eq_true rfl), (Nat.le_of_ble_eq_true rfl)⟩) hK rfl hl.1 rfl (Nat.le_of_ble_eq_true rfl) dX6_addAntenna_19 ⟨Nat.zero_le _, Nat.zero_le _⟩ ?_
  refine lv_if_eq (tgt := 35) hx hb dX6_addAntenna_22 (by decide) (fun c_22 => ?_) (fun c_22 => ?_)
  · skip
    have e_22 : (v_in y 0 30) = false := wk_b0 c_22
    exact absurd hok (by simp [v_ant, e_12, e_22])
  have e_22 : (v_in y 0 30) = true := wk_b1 c_22
  refine lv_iload_n hx hb dX6_addAntenna_25 rfl (lv_at hl 3 rfl) ?_
  refine lv_iconst (v := 1) hx hb dX6_addAntenna_26 (by decide) ?_
  refine lv_bipush (v := 100) hx hb dX6_addAntenna_27 (by decide) ?_
  refine wk_S (As := [.int z, .int 1, .int 100]) (rest := []) ⟨hx, hb, hml, hown, hts⟩ (c_X6_isIn l E (x := z) (y := 1) (z := 100)) (va_cwS 3 hts gX6_addAntenna_X6_isIn rfl rfl rfl (by decide +kernel) ⟨(Nat.le_of_ble_eq_true rfl), (Nat.le_of_ble_eq_true rfl)⟩) hK rfl hl.1 rfl (Nat.le_of_ble_eq_true rfl) dX6_addAntenna_29 ⟨Nat.zero_le _, Nat.zero_le _⟩ ?_
  refine lv_if_ne (tgt := 41) hx hb dX6_addAntenna_32 (by decide) (fun c_32 => ?_) (fun c_32 => ?_)
  · skip
    have e_32 : (v_in z 1 100) = true := wk_b1 c_32
    refine lv_aload_n hx hb dX6_addAntenna_41 rfl (lv_at hl 0 rfl) ?_
    refine wk_get (own := RX6) (C := RX6) (T := TX6) (N := 26) (ci := 7) (v := .int (nI (z_n σ 0))) hx hb hts i_X6 hown hK hA.obj rfl 3 (by decide) (hts _ (List.mem_of_getElem? (i := 2) rfl)) (fun _ h9 => h9) rfl dX6_addAntenna_42 ?_
    refine lv_iconst (v := 5) hx hb dX6_addAntenna_45 (by decide) ?_
    refine lv_icmp_ne (tgt := 55) hx hb dX6_addAntenna_46 (by decide) (fun c_46 => ?_) (fun c_46 => ?_)
    · skip
      have e_46 : ¬ (z_n σ 0) = 5 := wk_cnet (by omega) (by omega) c_46
      omega
    have e_46 : (z_n σ 0) = 5 := wk_cnef (by omega) (by omega) c_46
    refine lv_aload_n hx hb dX6_addAntenna_49 rfl (lv_at hl 0 rfl) ?_
    refine lv_iconst (v := 2) hx hb dX6_addAntenna_50 (by decide) ?_
    refine we_V (As := [.int 2]) (rest := []) ⟨hx, hb, hml, hown, hts⟩ (e_X6_fail l E hA hI) (cwV 1 hts gX6_addAntenna_X6_fail rfl rfl rfl (by decide +kernel) ⟨(Nat.le_of_ble_eq_true rfl), (Nat.le_of_ble_eq_true rfl)⟩) (wk_recv hK hA.obj rfl) (hV.heap hS.1 (fun q hq => hS.2.1 q (Nat.lt_of_lt_of_le hq hV.2.2.2.2.2.2) (hbA q hq))) hS (fun _ h => Or.inl h) hA9 rfl hl.1 rfl (Nat.le_of_ble_eq_true rfl) dX6_addAntenna_51 ⟨Nat.zero_le _, Nat.zero_le _⟩ (fun v9 H locs hR9 hz9 hk9 hS => ?_)
    obtain ⟨rfl, hA⟩ := hR9
    refine wk_eqls (st' := [.int 0]) rfl ?_
    exact W.iret hx hb hr (we_end (Rt := fun v H1 => v = some (.int (0)) ∧ MA E T Y σ 2 gt H1) (F := z_FM T) (⟨rfl, hA⟩) hS) hS.2.2 dX6_addAntenna_54
  have e_32 : (v_in z 1 100) = false := wk_b0 c_32
  exact absurd hok (by simp [v_ant, e_12, e_22, e_32])

abbrev rme_X6_addSatellite : Room := { frames := 1, cells := 0, slots := 0, locals := 22 }
set_option maxHeartbeats 4000000 in
set_option maxRecDepth 100000 in
theorem e_X6_addSatellite (l : Launch) (E : wk_E) {T : Nat → Nat × Nat} {Y : Nat → Nat → Nat} {σ : z_S} {th : Int32} {gt : Int64} {H : Heap} (hA : MA E T Y σ th gt H) (hI : z_Ok σ) {w x y z : Int32} (hok : v_sat w x y z = true) (hn : z_n σ 1 < 8) : we_Met l yX6_addSatellite wsX6_addSatellite rme_X6_addSatellite E H [.ref (Y 10 0), .int w, .int x, .int y, .int z] (z_FM T) 0 0 (fun v H1 => v = some (.int (nI (z_n σ 1))) ∧ MA E T Y (f_addS σ w x y z) 0 gt H1) := by
  refine Met.ofW (cc := cX6_addSatellite) (maxL := 5) (ret := (some .int)) (by decide) rfl ?_
  intro p e s m args below meth c s₁ B hml hv
  obtain ⟨rfl, hH, hV⟩ := hv
  subst hH
  have hK := hV.k
  have hx := B.exec
  have hb := B.bytes
  have hr := B.returns
  have hts := atoms_spec (ws := wsX6_addSatellite) B.pre
  have hown : s.vm.findClass RX6 = some m.cls := findClass_of_methodNamed B.named
  have hlocks := B.notSynchronized
  have hS : va_S (fun q => (z_FM T) q ∨ s.heap.size ≤ q) s.heap s.heap [] := va_S.rf
  have hA9 : ∀ q : Nat, s.heap.size ≤ q → ((z_FM T) q ∨ s.heap.size ≤ q) := fun _ h => Or.inr h
  have hbA : ∀ q : Nat, q < E.2.2.1 → ¬ ((z_FM T) q ∨ s.heap.size ≤ q) := fun q hq z => z.elim (z_FMb hA.2 hq) (fun z => absurd (Nat.lt_of_lt_of_le hq hV.2.2.2.2.2.2) (Nat.not_lt.mpr z))
  have i_X6 : ∀ w ∈ u_ws RX6 TX6 26, w ∈ wsX6_addSatellite := fun w h => (List.mem_cons_of_mem _ (List.mem_append_right _ h))
  have hl := lv_entry [.ref (Y 10 0), .int w, .int x, .int y, .int z] (n := 5) (Nat.le_of_ble_eq_true rfl)
  rw [lg_entry_eq]
  generalize (lg_sl [.ref (Y 10 0), .int w, .int x, .int y, .int z] ++ List.replicate (5 - (lg_sl [.ref (Y 10 0), .int w, .int x, .int y, .int z]).length) Slot.unset).toArray = ls at hl ⊢
  have hl : lv_has ls 5 [(0, .ref (Y 10 0)), (1, .int w), (2, .int x), (3, .int y), (4, .int z)] := hl
  have b0 := hI.n0
  have b1 := hI.n1
  have b2 := hI.n2
  have b3 := hI.n3
  refine lv_aload_n hx hb dX6_addSatellite_0 rfl (lv_at hl 0 rfl) ?_
  refine lv_iconst (v := 0) hx hb dX6_addSatellite_1 (by decide) ?_
  refine wk_put (own := RX6) (C := RX6) (T := TX6) (N := 26) (ci := 7) (v := .int 0) hx hb hts i_X6 tyX6 tyX6_ok nmX6 hown hK hA.obj (Or.inl hA.tagO) hS rfl 0 (by decide) (hts _ (List.mem_of_getElem? (i := 1) rfl)) (fun _ h9 => h9) rfl (tyX6_ok 0 (by decide)) rfl rfl (Nat.le_of_ble_eq_true rfl) dX6_addSatellite_2 (fun H locs hP9 hz9 hk9 hS => ?_)
  have hA := hA.setTh hP9 hk9
  refine lv_iload_n hx hb dX6_addSatellite_5 rfl (lv_at hl 1 rfl) ?_
  refine lv_iconst (v := 0) hx hb dX6_addSatellite_6 (by decide) ?_
  refine lv_iconst (v := 3) hx hb dX6_addSatellite_7 (by decide) ?_
  refine wk_S (As := [.int w, .int 0, .int 3]) (rest := []) ⟨hx, hb, hml, hown, hts⟩ (c_X6_isIn l E (x := w) (y := 0) (z := 3)) (va_cwS 3 hts gX6_addSatellite_X6_isIn rfl rfl rfl (by decide +kernel) ⟨(Nat.le_of_ble_eq_true rfl), (Nat.le_of_ble_eq_true rfl)⟩) hK rfl hl.1 rfl (Nat.le_of_ble_eq_true rfl) dX6_addSatellite_8 ⟨Nat.zero_le _, Nat.zero_le _⟩ ?_
  refine lv_if_eq (tgt := 45) hx hb dX6_addSatellite_11 (by decide) (fun c_11 => ?_) (fun c_11 => ?_)
  · skip
    have e_11 : (v_in w 0 3) = false := wk_b0 c_11
    exact absurd hok (by simp [v_sat, e_11])
  have e_11 : (v_in w 0 3) = true := wk_b1 c_11
  refine lv_iload_n hx hb dX6_addSatellite_14 rfl (lv_at hl 2 rfl) ?_
  refine lv_iconst (v := 1) hx hb dX6_addSatellite_15 (by decide) ?_
  refine lv_bipush (v := 9) hx hb dX6_addSatellite_16 (by decide) ?_
  refine wk_S (As := [.int x, .int 1, .int 9]) (rest := []) ⟨hx, hb, hml, hown, hts⟩ (c_X6_isIn l E (x := x) (y := 1) (z := 9)) (va_cwS 3 hts gX6_addSatellite_X6_isIn rfl rfl rfl (by decide +kernel) ⟨(Nat.le_of_ble_eq_true rfl), (Nat.le_of_ble_eq_true rfl)⟩) hK rfl hl.1 rfl (Nat.le_of_ble_eq_true rfl) dX6_addSatellite_18 ⟨Nat.zero_le _, Nat.zero_le _⟩ ?_
  refine lv_if_eq (tgt := 45) hx hb dX6_addSatellite_21 (by decide) (fun c_21 => ?_) (fun c_21 => ?_)
  · skip
    have e_21 : (v_in x 1 9) = false := wk_b0 c_21
    exact absurd hok (by simp [v_sat, e_11, e_21])
  have e_21 : (v_in x 1 9) = true := wk_b1 c_21
  refine lv_iload_n hx hb dX6_addSatellite_24 rfl (lv_at hl 3 rfl) ?_
  refine lv_iconst (v := 0) hx hb dX6_addSatellite_25 (by decide) ?_
  refine lv_bipush (v := 50) hx hb dX6_addSatellite_26 (by decide) ?_
  refine wk_S (As := [.int y, .int 0, .int 50]) (rest := []) ⟨hx, hb, hml, hown, hts⟩ (c_X6_isIn l E (x := y) (y := 0) (z := 50)) (va_cwS 3 hts gX6_addSatellite_X6_isIn rfl rfl rfl (by decide +kernel) ⟨(Nat.le_of_ble_eq_true rfl), (Nat.le_of_ble_eq_true rfl)⟩) hK rfl hl.1 rfl (Nat.le_of_ble_eq_true rfl) dX6_addSatellite_28 ⟨Nat.zero_le _, Nat.zero_le _⟩ ?_
  refine lv_if_eq (tgt := 45) hx hb dX6_addSatellite_31 (by decide) (fun c_31 => ?_) (fun c_31 => ?_)
  · skip
    have e_31 : (v_in y 0 50) = false := wk_b0 c_31
    exact absurd hok (by simp [v_sat, e_11, e_21, e_31])
  have e_31 : (v_in y 0 50) = true := wk_b1 c_31
  refine lv_iload hx hb dX6_addSatellite_34 (lv_at hl 4 rfl) ?_
  refine lv_iconst (v := 1) hx hb dX6_addSatellite_36 (by decide) ?_
  refine lv_ldc (own := RX6) (v := (100000)) hx hb hown (hts _ (List.mem_of_getElem? (i := 2) rfl)) dX6_addSatellite_37 ?_
  refine wk_S (As := [.int z, .int 1, .int (100000)]) (rest := []) ⟨hx, hb, hml, hown, hts⟩ (c_X6_isIn l E (x := z) (y := 1) (z := (100000))) (va_cwS 3 hts gX6_addSatellite_X6_isIn rfl rfl rfl (by decide +kernel) ⟨(Nat.le_of_ble_eq_true rfl), (Nat.le_of_ble_eq_true rfl)⟩) hK rfl hl.1 rfl (Nat.le_of_ble_eq_true rfl) dX6_addSatellite_39 ⟨Nat.zero_le _, Nat.zero_le _⟩ ?_
  refine lv_if_ne (tgt := 51) hx hb dX6_addSatellite_42 (by decide) (fun c_42 => ?_) (fun c_42 => ?_)
  · skip
    have e_42 : (v_in z 1 (100000)) = true := wk_b1 c_42
    refine lv_aload_n hx hb dX6_addSatellite_51 rfl (lv_at hl 0 rfl) ?_
    refine wk_get (own := RX6) (C := RX6) (T := TX6) (N := 26) (ci := 7) (v := .int (nI (z_n σ 1))) hx hb hts i_X6 hown hK hA.obj rfl 10 (by decide) (hts _ (List.mem_of_getElem? (i := 3) rfl)) (fun _ h9 => h9) rfl dX6_addSatellite_52 ?_
    refine lv_bipush (v := 8) hx hb dX6_addSatellite_55 (by decide) ?_
    refine lv_icmp_ne (tgt := 66) hx hb dX6_addSatellite_57 (by decide) (fun c_57 => ?_) (fun c_57 => ?_)
    · skip
      have e_57 : ¬ (z_n σ 1) = 8 := wk_cnet (by omega) (by omega) c_57
      refine lv_aload_n hx hb dX6_addSatellite_66 rfl (lv_at hl 0 rfl) ?_
      refine wk_get (own := RX6) (C := RX6) (T := TX6) (N := 26) (ci := 7) (v := .ref (Y 11 5)) hx hb hts i_X6 hown hK hA.obj rfl 11 (by decide) (hts _ (List.mem_of_getElem? (i := 4) rfl)) (fun _ h9 => h9) rfl dX6_addSatellite_67 ?_
      refine lv_aload_n hx hb dX6_addSatellite_70 rfl (lv_at hl 0 rfl) ?_
      refine wk_get (own := RX6) (C := RX6) (T := TX6) (N := 26) (ci := 7) (v := .int (nI (z_n σ 1))) hx hb hts i_X6 hown hK hA.obj rfl 10 (by decide) (hts _ (List.mem_of_getElem? (i := 3) rfl)) (fun _ h9 => h9) rfl dX6_addSatellite_71 ?_
      refine wk_eqi (show _ = nI (z_n σ 1) from rfl) ?_
      refine lv_iload_n hx hb dX6_addSatellite_74 rfl (lv_at hl 1 rfl) ?_
      refine wk_iast (nn := 8) hx hb hK hA.a5 (Or.inl (hA.tagA (k := 5) rfl)) hS (z_n σ 1) rfl (by omega) (by decide) dX6_addSatellite_75 (fun H locs hP9 hz9 hk9 hS => ?_)
      have hA := hA.setA5 (j := z_n σ 1) (v := w) hP9 hk9
      refine lv_aload_n hx hb dX6_addSatellite_76 rfl (lv_at hl 0 rfl) ?_
      refine wk_get (own := RX6) (C := RX6) (T := TX6) (N := 26) (ci := 7) (v := .ref (Y 11 6)) hx hb hts i_X6 hown hK hA.obj rfl 12 (by decide) (hts _ (List.mem_of_getElem? (i := 5) rfl)) (fun _ h9 => h9) rfl dX6_addSatellite_77 ?_
      refine lv_aload_n hx hb dX6_addSatellite_80 rfl (lv_at hl 0 rfl) ?_
      refine wk_get (own := RX6) (C := RX6) (T := TX6) (N := 26) (ci := 7) (v := .int (nI (z_n (s1 σ 20 (z_n σ 1) w) 1))) hx hb hts i_X6 hown hK hA.obj rfl 10 (by decide) (hts _ (List.mem_of_getElem? (i := 3) rfl)) (fun _ h9 => h9) rfl dX6_addSatellite_81 ?_
      refine wk_eqi (show _ = nI (z_n σ 1) from rfl) ?_
      refine lv_iload_n hx hb dX6_addSatellite_84 rfl (lv_at hl 2 rfl) ?_
      refine wk_iast (nn := 8) hx hb hK hA.a6 (Or.inl (hA.tagA (k := 6) rfl)) hS (z_n σ 1) rfl (by omega) (by decide) dX6_addSatellite_85 (fun H locs hP9 hz9 hk9 hS => ?_)
      have hA := hA.setA6 (j := z_n σ 1) (v := x) hP9 hk9
      refine lv_aload_n hx hb dX6_addSatellite_86 rfl (lv_at hl 0 rfl) ?_
      refine wk_get (own := RX6) (C := RX6) (T := TX6) (N := 26) (ci := 7) (v := .ref (Y 11 7)) hx hb hts i_X6 hown hK hA.obj rfl 13 (by decide) (hts _ (List.mem_of_getElem? (i := 6) rfl)) (fun _ h9 => h9) rfl dX6_addSatellite_87 ?_
      refine lv_aload_n hx hb dX6_addSatellite_90 rfl (lv_at hl 0 rfl) ?_
      refine wk_get (own := RX6) (C := RX6) (T := TX6) (N := 26) (ci := 7) (v := .int (nI (z_n (s1 (s1 σ 20 (z_n σ 1) w) 21 (z_n σ 1) x) 1))) hx hb hts i_X6 hown hK hA.obj rfl 10 (by decide) (hts _ (List.mem_of_getElem? (i := 3) rfl)) (fun _ h9 => h9) rfl dX6_addSatellite_91 ?_
      refine wk_eqi (show _ = nI (z_n σ 1) from rfl) ?_
      refine lv_iload_n hx hb dX6_addSatellite_94 rfl (lv_at hl 3 rfl) ?_
      refine wk_iast (nn := 8) hx hb hK hA.a7 (Or.inl (hA.tagA (k := 7) rfl)) hS (z_n σ 1) rfl (by omega) (by decide) dX6_addSatellite_95 (fun H locs hP9 hz9 hk9 hS => ?_)
      have hA := hA.setA7 (j := z_n σ 1) (v := y) hP9 hk9
      refine lv_aload_n hx hb dX6_addSatellite_96 rfl (lv_at hl 0 rfl) ?_
      refine wk_get (own := RX6) (C := RX6) (T := TX6) (N := 26) (ci := 7) (v := .ref (Y 11 8)) hx hb hts i_X6 hown hK hA.obj rfl 14 (by decide) (hts _ (List.mem_of_getElem? (i := 7) rfl)) (fun _ h9 => h9) rfl dX6_addSatellite_97 ?_
      refine lv_aload_n hx hb dX6_addSatellite_100 rfl (lv_at hl 0 rfl) ?_
      refine wk_get (own := RX6) (C := RX6) (T := TX6) (N := 26) (ci := 7) (v := .int (nI (z_n (s1 (s1 (s1 σ 20 (z_n σ 1) w) 21 (z_n σ 1) x) 22 (z_n σ 1) y) 1))) hx hb hts i_X6 hown hK hA.obj rfl 10 (by decide) (hts _ (List.mem_of_getElem? (i := 3) rfl)) (fun _ h9 => h9) rfl dX6_addSatellite_101 ?_
      refine wk_eqi (show _ = nI (z_n σ 1) from rfl) ?_
      refine lv_iload hx hb dX6_addSatellite_104 (lv_at hl 4 rfl) ?_
      refine wk_iast (nn := 8) hx hb hK hA.a8 (Or.inl (hA.tagA (k := 8) rfl)) hS (z_n σ 1) rfl (by omega) (by decide) dX6_addSatellite_106 (fun H locs hP9 hz9 hk9 hS => ?_)
      have hA := hA.setA8 (j := z_n σ 1) (v := z) hP9 hk9
      refine lv_aload_n hx hb dX6_addSatellite_107 rfl (lv_at hl 0 rfl) ?_
      refine lv_dup hx hb dX6_addSatellite_108 rfl ?_
      refine wk_get (own := RX6) (C := RX6) (T := TX6) (N := 26) (ci := 7) (v := .int (nI (z_n (s1 (s1 (s1 (s1 σ 20 (z_n σ 1) w) 21 (z_n σ 1) x) 22 (z_n σ 1) y) 23 (z_n σ 1) z) 1))) hx hb hts i_X6 hown hK hA.obj rfl 10 (by decide) (hts _ (List.mem_of_getElem? (i := 3) rfl)) (fun _ h9 => h9) rfl dX6_addSatellite_109 ?_
      refine wk_eqi (show _ = nI (z_n σ 1) from rfl) ?_
      refine lv_iconst (v := 1) hx hb dX6_addSatellite_112 (by decide) ?_
      refine lv_iadd hx hb dX6_addSatellite_113 ?_
      refine wk_eqi (show (nI (z_n σ 1)) + 1 = nI ((z_n σ 1) + 1) from nI_add (z_n σ 1) 1) ?_
      refine wk_put (own := RX6) (C := RX6) (T := TX6) (N := 26) (ci := 7) (v := .int (nI ((z_n σ 1) + 1))) hx hb hts i_X6 tyX6 tyX6_ok nmX6 hown hK hA.obj (Or.inl hA.tagO) hS rfl 10 (by decide) (hts _ (List.mem_of_getElem? (i := 3) rfl)) (fun _ h9 => h9) rfl (tyX6_ok 10 (by decide)) rfl rfl (Nat.le_of_ble_eq_true rfl) dX6_addSatellite_114 (fun H locs hP9 hz9 hk9 hS => ?_)
      have hA := hA.setN1 (v := ((z_n σ 1) + 1)) hP9 hk9
      refine lv_aload_n hx hb dX6_addSatellite_117 rfl (lv_at hl 0 rfl) ?_
      refine wk_get (own := RX6) (C := RX6) (T := TX6) (N := 26) (ci := 7) (v := .int (nI (z_n (s2 (s1 (s1 (s1 (s1 σ 20 (z_n σ 1) w) 21 (z_n σ 1) x) 22 (z_n σ 1) y) 23 (z_n σ 1) z) 0 1 ((z_n σ 1) + 1)) 1))) hx hb hts i_X6 hown hK hA.obj rfl 10 (by decide) (hts _ (List.mem_of_getElem? (i := 3) rfl)) (fun _ h9 => h9) rfl dX6_addSatellite_118 ?_
      refine lv_iconst (v := 1) hx hb dX6_addSatellite_121 (by decide) ?_
      refine lv_isub hx hb dX6_addSatellite_122 ?_
      refine wk_eqi (show _ = nI (z_n σ 1) from wk_pred (by omega)) ?_
      exact W.iret hx hb hr (we_end (Rt := fun v H1 => v = some (.int (nI (z_n σ 1))) ∧ MA E T Y (f_addS σ w x y z) 0 gt H1) (F := z_FM T) (⟨rfl, hA⟩) hS) hS.2.2 dX6_addSatellite_123
    have e_57 : (z_n σ 1) = 8 := wk_cnef (by omega) (by omega) c_57
    omega
  have e_42 : (v_in z 1 (100000)) = false := wk_b0 c_42
  exact absurd hok (by simp [v_sat, e_11, e_21, e_31, e_42])

abbrev rmf_X6_addSatellite : Room := { frames := 1, cells := 0, slots := 0, locals := 22 }
set_option maxHeartbeats 4000000 in
set_option maxRecDepth 100000 in
theorem f_X6_addSatellite (l : Launch) (E : wk_E) {T : Nat → Nat × Nat} {Y : Nat → Nat → Nat} {σ : z_S} {th : Int32} {gt : Int64} {H : Heap} (hA : MA E T Y σ th gt H) (hI : z_Ok σ) {w x y z : Int32} (hbad : v_sat w x y z = false) : we_Met l yX6_addSatellite wsX6_addSatellite rmf_X6_addSatellite E H [.ref (Y 10 0), .int w, .int x, .int y, .int z] (z_FM T) 0 0 (fun v H1 => v = some (.int (0)) ∧ MA E T Y σ 1 gt H1) := by
  refine Met.ofW (cc := cX6_addSatellite) (maxL := 5) (ret := (some .int)) (by decide) rfl ?_
  intro p e s m args below meth c s₁ B hml hv
  obtain ⟨rfl, hH, hV⟩ := hv
  subst hH
  have hK := hV.k
  have hx := B.exec
  have hb := B.bytes
  have hr := B.returns
  have hts := atoms_spec (ws := wsX6_addSatellite) B.pre
  have hown : s.vm.findClass RX6 = some m.cls := findClass_of_methodNamed B.named
  have hlocks := B.notSynchronized
  have hS : va_S (fun q => (z_FM T) q ∨ s.heap.size ≤ q) s.heap s.heap [] := va_S.rf
  have hA9 : ∀ q : Nat, s.heap.size ≤ q → ((z_FM T) q ∨ s.heap.size ≤ q) := fun _ h => Or.inr h
  have hbA : ∀ q : Nat, q < E.2.2.1 → ¬ ((z_FM T) q ∨ s.heap.size ≤ q) := fun q hq z => z.elim (z_FMb hA.2 hq) (fun z => absurd (Nat.lt_of_lt_of_le hq hV.2.2.2.2.2.2) (Nat.not_lt.mpr z))
  have i_X6 : ∀ w ∈ u_ws RX6 TX6 26, w ∈ wsX6_addSatellite := fun w h => (List.mem_cons_of_mem _ (List.mem_append_right _ h))
  have hl := lv_entry [.ref (Y 10 0), .int w, .int x, .int y, .int z] (n := 5) (Nat.le_of_ble_eq_true rfl)
  rw [lg_entry_eq]
  generalize (lg_sl [.ref (Y 10 0), .int w, .int x, .int y, .int z] ++ List.replicate (5 - (lg_sl [.ref (Y 10 0), .int w, .int x, .int y, .int z]).length) Slot.unset).toArray = ls at hl ⊢
  have hl : lv_has ls 5 [(0, .ref (Y 10 0)), (1, .int w), (2, .int x), (3, .int y), (4, .int z)] := hl
  have b0 := hI.n0
  have b1 := hI.n1
  have b2 := hI.n2
  have b3 := hI.n3
  refine lv_aload_n hx hb dX6_addSatellite_0 rfl (lv_at hl 0 rfl) ?_
  refine lv_iconst (v := 0) hx hb dX6_addSatellite_1 (by decide) ?_
  refine wk_put (own := RX6) (C := RX6) (T := TX6) (N := 26) (ci := 7) (v := .int 0) hx hb hts i_X6 tyX6 tyX6_ok nmX6 hown hK hA.obj (Or.inl hA.tagO) hS rfl 0 (by decide) (hts _ (List.mem_of_getElem? (i := 1) rfl)) (fun _ h9 => h9) rfl (tyX6_ok 0 (by decide)) rfl rfl (Nat.le_of_ble_eq_true rfl) dX6_addSatellite_2 (fun H locs hP9 hz9 hk9 hS => ?_)
  have hA := hA.setTh hP9 hk9
  refine lv_iload_n hx hb dX6_addSatellite_5 rfl (lv_at hl 1 rfl) ?_
  refine lv_iconst (v := 0) hx hb dX6_addSatellite_6 (by decide) ?_
  refine lv_iconst (v := 3) hx hb dX6_addSatellite_7 (by decide) ?_
  refine wk_S (As := [.int w, .int 0, .int 3]) (rest := []) ⟨hx, hb, hml, hown, hts⟩ (c_X6_isIn l E (x := w) (y := 0) (z := 3)) (va_cwS 3 hts gX6_addSatellite_X6_isIn rfl rfl rfl (by decide +kernel) ⟨(Nat.le_of_ble_eq_true rfl), (Nat.le_of_ble_eq_true rfl)⟩) hK rfl hl.1 rfl (Nat.le_of_ble_eq_true rfl) dX6_addSatellite_8 ⟨Nat.zero_le _, Nat.zero_le _⟩ ?_
  refine lv_if_eq (tgt := 45) hx hb dX6_addSatellite_11 (by decide) (fun c_11 => ?_) (fun c_11 => ?_)
  · skip
    have e_11 : (v_in w 0 3) = false := wk_b0 c_11
    refine lv_aload_n hx hb dX6_addSatellite_45 rfl (lv_at hl 0 rfl) ?_
    refine lv_iconst (v := 1) hx hb dX6_addSatellite_46 (by decide) ?_
    refine we_V (As := [.int 1]) (rest := []) ⟨hx, hb, hml, hown, hts⟩ (e_X6_fail l E hA hI) (cwV 1 hts gX6_addSatellite_X6_fail rfl rfl rfl (by decide +kernel) ⟨(Nat.le_of_ble_eq_true rfl), (Nat.le_of_ble_eq_true rfl)⟩) (wk_recv hK hA.obj rfl) (hV.heap hS.1 (fun q hq => hS.2.1 q (Nat.lt_of_lt_of_le hq hV.2.2.2.2.2.2) (hbA q hq))) hS (fun _ h => Or.inl h) hA9 rfl hl.1 rfl (Nat.le_of_ble_eq_true rfl) dX6_addSatellite_47 ⟨Nat.zero_le _, Nat.zero_le _⟩ (fun v9 H locs hR9 hz9 hk9 hS => ?_)
    obtain ⟨rfl, hA⟩ := hR9
    refine wk_eqls (st' := [.int 0]) rfl ?_
    exact W.iret hx hb hr (we_end (Rt := fun v H1 => v = some (.int (0)) ∧ MA E T Y σ 1 gt H1) (F := z_FM T) (⟨rfl, hA⟩) hS) hS.2.2 dX6_addSatellite_50
  have e_11 : (v_in w 0 3) = true := wk_b1 c_11
  refine lv_iload_n hx hb dX6_addSatellite_14 rfl (lv_at hl 2 rfl) ?_
  refine lv_iconst (v := 1) hx hb dX6_addSatellite_15 (by decide) ?_
  refine lv_bipush (v := 9) hx hb dX6_addSatellite_16 (by decide) ?_
  refine wk_S (As := [.int x, .int 1, .int 9]) (rest := []) ⟨hx, hb, hml, hown, hts⟩ (c_X6_isIn l E (x := x) (y := 1) (z := 9)) (va_cwS 3 hts gX6_addSatellite_X6_isIn rfl rfl rfl (by decide +kernel) ⟨(Nat.le_of_ble_eq_true rfl), (Nat.le_of_ble_eq_true rfl)⟩) hK rfl hl.1 rfl (Nat.le_of_ble_eq_true rfl) dX6_addSatellite_18 ⟨Nat.zero_le _, Nat.zero_le _⟩ ?_
  refine lv_if_eq (tgt := 45) hx hb dX6_addSatellite_21 (by decide) (fun c_21 => ?_) (fun c_21 => ?_)
  · skip
    have e_21 : (v_in x 1 9) = false := wk_b0 c_21
    refine lv_aload_n hx hb dX6_addSatellite_45 rfl (lv_at hl 0 rfl) ?_
    refine lv_iconst (v := 1) hx hb dX6_addSatellite_46 (by decide) ?_
    refine we_V (As := [.int 1]) (rest := []) ⟨hx, hb, hml, hown, hts⟩ (e_X6_fail l E hA hI) (cwV 1 hts gX6_addSatellite_X6_fail rfl rfl rfl (by decide +kernel) ⟨(Nat.le_of_ble_eq_true rfl), (Nat.le_of_ble_eq_true rfl)⟩) (wk_recv hK hA.obj rfl) (hV.heap hS.1 (fun q hq => hS.2.1 q (Nat.lt_of_lt_of_le hq hV.2.2.2.2.2.2) (hbA q hq))) hS (fun _ h => Or.inl h) hA9 rfl hl.1 rfl (Nat.le_of_ble_eq_true rfl) dX6_addSatellite_47 ⟨Nat.zero_le _, Nat.zero_le _⟩ (fun v9 H locs hR9 hz9 hk9 hS => ?_)
    obtain ⟨rfl, hA⟩ := hR9
    refine wk_eqls (st' := [.int 0]) rfl ?_
    exact W.iret hx hb hr (we_end (Rt := fun v H1 => v = some (.int (0)) ∧ MA E T Y σ 1 gt H1) (F := z_FM T) (⟨rfl, hA⟩) hS) hS.2.2 dX6_addSatellite_50
  have e_21 : (v_in x 1 9) = true := wk_b1 c_21
  refine lv_iload_n hx hb dX6_addSatellite_24 rfl (lv_at hl 3 rfl) ?_
  refine lv_iconst (v := 0) hx hb dX6_addSatellite_25 (by decide) ?_
  refine lv_bipush (v := 50) hx hb dX6_addSatellite_26 (by decide) ?_
  refine wk_S (As := [.int y, .int 0, .int 50]) (rest := []) ⟨hx, hb, hml, hown, hts⟩ (c_X6_isIn l E (x := y) (y := 0) (z := 50)) (va_cwS 3 hts gX6_addSatellite_X6_isIn rfl rfl rfl (by decide +kernel) ⟨(Nat.le_of_ble_eq_true rfl), (Nat.le_of_ble_eq_true rfl)⟩) hK rfl hl.1 rfl (Nat.le_of_ble_eq_true rfl) dX6_addSatellite_28 ⟨Nat.zero_le _, Nat.zero_le _⟩ ?_
  refine lv_if_eq (tgt := 45) hx hb dX6_addSatellite_31 (by decide) (fun c_31 => ?_) (fun c_31 => ?_)
  · skip
    have e_31 : (v_in y 0 50) = false := wk_b0 c_31
    refine lv_aload_n hx hb dX6_addSatellite_45 rfl (lv_at hl 0 rfl) ?_
    refine lv_iconst (v := 1) hx hb dX6_addSatellite_46 (by decide) ?_
    refine we_V (As := [.int 1]) (rest := []) ⟨hx, hb, hml, hown, hts⟩ (e_X6_fail l E hA hI) (cwV 1 hts gX6_addSatellite_X6_fail rfl rfl rfl (by decide +kernel) ⟨(Nat.le_of_ble_eq_true rfl), (Nat.le_of_ble_eq_true rfl)⟩) (wk_recv hK hA.obj rfl) (hV.heap hS.1 (fun q hq => hS.2.1 q (Nat.lt_of_lt_of_le hq hV.2.2.2.2.2.2) (hbA q hq))) hS (fun _ h => Or.inl h) hA9 rfl hl.1 rfl (Nat.le_of_ble_eq_true rfl) dX6_addSatellite_47 ⟨Nat.zero_le _, Nat.zero_le _⟩ (fun v9 H locs hR9 hz9 hk9 hS => ?_)
    obtain ⟨rfl, hA⟩ := hR9
    refine wk_eqls (st' := [.int 0]) rfl ?_
    exact W.iret hx hb hr (we_end (Rt := fun v H1 => v = some (.int (0)) ∧ MA E T Y σ 1 gt H1) (F := z_FM T) (⟨rfl, hA⟩) hS) hS.2.2 dX6_addSatellite_50
  have e_31 : (v_in y 0 50) = true := wk_b1 c_31
  refine lv_iload hx hb dX6_addSatellite_34 (lv_at hl 4 rfl) ?_
  refine lv_iconst (v := 1) hx hb dX6_addSatellite_36 (by decide) ?_
  refine lv_ldc (own := RX6) (v := (100000)) hx hb hown (hts _ (List.mem_of_getElem? (i := 2) rfl)) dX6_addSatellite_37 ?_
  refine wk_S (As := [.int z, .int 1, .int (100000)]) (rest := []) ⟨hx, hb, hml, hown, hts⟩ (c_X6_isIn l E (x := z) (y := 1) (z := (100000))) (va_cwS 3 hts gX6_addSatellite_X6_isIn rfl rfl rfl (by decide +kernel) ⟨(Nat.le_of_ble_eq_true rfl), (Nat.le_of_ble_eq_true rfl)⟩) hK rfl hl.1 rfl (Nat.le_of_ble_eq_true rfl) dX6_addSatellite_39 ⟨Nat.zero_le _, Nat.zero_le _⟩ ?_
  refine lv_if_ne (tgt := 51) hx hb dX6_addSatellite_42 (by decide) (fun c_42 => ?_) (fun c_42 => ?_)
  · skip
    have e_42 : (v_in z 1 (100000)) = true := wk_b1 c_42
    exact absurd hbad (by simp [v_sat, e_11, e_21, e_31, e_42])
  have e_42 : (v_in z 1 (100000)) = false := wk_b0 c_42
  refine lv_aload_n hx hb dX6_addSatellite_45 rfl (lv_at hl 0 rfl) ?_
  refine lv_iconst (v := 1) hx hb dX6_addSatellite_46 (by decide) ?_
  refine we_V (As := [.int 1]) (rest := []) ⟨hx, hb, hml, hown, hts⟩ (e_X6_fail l E hA hI) (cwV 1 hts gX6_addSatellite_X6_fail rfl rfl rfl (by decide +kernel) ⟨(Nat.le_of_ble_eq_true rfl), (Nat.le_of_ble_eq_true rfl)⟩) (wk_recv hK hA.obj rfl) (hV.heap hS.1 (fun q hq => hS.2.1 q (Nat.lt_of_lt_of_le hq hV.2.2.2.2.2.2) (hbA q hq))) hS (fun _ h => Or.inl h) hA9 rfl hl.1 rfl (Nat.le_of_ble_eq_true rfl) dX6_addSatellite_47 ⟨Nat.zero_le _, Nat.zero_le _⟩ (fun v9 H locs hR9 hz9 hk9 hS => ?_)
  obtain ⟨rfl, hA⟩ := hR9
  refine wk_eqls (st' := [.int 0]) rfl ?_
  exact W.iret hx hb hr (we_end (Rt := fun v H1 => v = some (.int (0)) ∧ MA E T Y σ 1 gt H1) (F := z_FM T) (⟨rfl, hA⟩) hS) hS.2.2 dX6_addSatellite_50
