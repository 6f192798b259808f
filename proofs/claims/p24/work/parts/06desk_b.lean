abbrev rmX5_contains : Room := { frames := 0, cells := 0, slots := 0, locals := 0 }
set_option maxHeartbeats 4000000 in
set_option maxRecDepth 100000 in
theorem c_X5_contains (l : Launch) (E : wk_E) {H : Heap} {mm k : Nat} (hk : k < 31) : wk_Met l yX5_contains wsX5_contains rmX5_contains E H [.int (nI mm), .int (nI k)] (some (.int (wk_b (mm.testBit k)))) := by
  refine Met.ofW (cc := cX5_contains) (maxL := 2) (ret := (some .boolean)) (by decide) rfl ?_
  intro p e s m args below meth c s₁ B hml hv
  obtain ⟨rfl, hH, hK⟩ := hv
  subst hH
  have hx := B.exec
  have hb := B.bytes
  have hr := B.returns
  have hts := atoms_spec (ws := wsX5_contains) B.pre
  have hown : s.vm.findClass RX5 = some m.cls := findClass_of_methodNamed B.named
  have hlocks := B.notSynchronized
  have hl := lv_entry [.int (nI mm), .int (nI k)] (n := 2) (Nat.le_of_ble_eq_true rfl)
  rw [lg_entry_eq]
  generalize (lg_sl [.int (nI mm), .int (nI k)] ++ List.replicate (2 - (lg_sl [.int (nI mm), .int (nI k)]).length) Slot.unset).toArray = ls at hl ⊢
  have hl : lv_has ls 2 [(0, .int (nI mm)), (1, .int (nI k))] := hl
  refine lv_iload_n hx hb dX5_contains_0 rfl (lv_at hl 0 rfl) ?_
  refine lv_iconst (v := 1) hx hb dX5_contains_1 (by decide) ?_
  refine lv_iload_n hx hb dX5_contains_2 rfl (lv_at hl 1 rfl) ?_
  refine lv_ishl hx hb dX5_contains_3 ?_
  refine lv_iand hx hb dX5_contains_4 ?_
  refine lv_if_eq (tgt := 12) hx hb dX5_contains_5 (by decide) (fun c_5 => ?_) (fun c_5 => ?_)
  · skip
    refine lv_iconst (v := 0) hx hb dX5_contains_12 (by decide) ?_
    exact W.zret hx hb hr rfl (fun t ht _ => wk_ret (congrArg Value.int ((wk_bf (wk_has0 hk c_5)).symm)) ht) wk_nil dX5_contains_13
  refine lv_iconst (v := 1) hx hb dX5_contains_8 (by decide) ?_
  refine lv_goto (tgt := 13) hx hb dX5_contains_9 (by decide) ?_
  exact W.zret hx hb hr rfl (fun t ht _ => wk_ret (congrArg Value.int ((wk_bt (wk_has1 hk c_5)).symm)) ht) wk_nil dX5_contains_13

abbrev rmX5_areInConflict : Room := { frames := 1, cells := 0, slots := 0, locals := 21 }
set_option maxHeartbeats 4000000 in
set_option maxRecDepth 100000 in
theorem c_X5_areInConflict (l : Launch) (E : wk_E) {T : Nat → Nat × Nat} {X : z_X} {σ : z_S} {H : Heap} (hA : DA E T X σ H) (hI : z_Ok σ) {i : Nat} (hi : i < z_n σ 2) {j : Nat} (hj : j < z_n σ 2) (hij : ¬ i = j) : wk_Met l yX5_areInConflict wsX5_areInConflict rmX5_areInConflict E H [.ref (X.1 0 0), .ref (X.1 7 i), .ref (X.1 7 j)] (some (.int (wk_b (f_conf σ i j)))) := by
  refine Met.ofW (cc := cX5_areInConflict) (maxL := 5) (ret := (some .boolean)) (by decide) rfl ?_
  intro p e s m args below meth c s₁ B hml hv
  obtain ⟨rfl, hH, hK⟩ := hv
  subst hH
  have hx := B.exec
  have hb := B.bytes
  have hr := B.returns
  have hts := atoms_spec (ws := wsX5_areInConflict) B.pre
  have hown : s.vm.findClass RX5 = some m.cls := findClass_of_methodNamed B.named
  have hlocks := B.notSynchronized
  have i_X2 : ∀ w ∈ u_ws RX2 TX2 7, w ∈ wsX5_areInConflict := fun w h => (List.mem_cons_of_mem _ (List.mem_append_left _ (List.mem_append_left _ (List.mem_append_right _ h))))
  have i_X0 : ∀ w ∈ u_ws RX0 TX0 5, w ∈ wsX5_areInConflict := fun w h => (List.mem_cons_of_mem _ (List.mem_append_left _ (List.mem_append_right _ h)))
  have i_X5 : ∀ w ∈ u_ws RX5 TX5 7, w ∈ wsX5_areInConflict := fun w h => (List.mem_cons_of_mem _ (List.mem_append_right _ h))
  have hl := lv_entry [.ref (X.1 0 0), .ref (X.1 7 i), .ref (X.1 7 j)] (n := 5) (Nat.le_of_ble_eq_true rfl)
  rw [lg_entry_eq]
  generalize (lg_sl [.ref (X.1 0 0), .ref (X.1 7 i), .ref (X.1 7 j)] ++ List.replicate (5 - (lg_sl [.ref (X.1 0 0), .ref (X.1 7 i), .ref (X.1 7 j)]).length) Slot.unset).toArray = ls at hl ⊢
  have hl : lv_has ls 5 [(0, .ref (X.1 0 0)), (1, .ref (X.1 7 i)), (2, .ref (X.1 7 j))] := hl
  have b0 := hI.n0
  have b1 := hI.n1
  have b2 := hI.n2
  have b3 := hI.n3
  refine lv_aload_n hx hb dX5_areInConflict_0 rfl (lv_at hl 1 rfl) ?_
  refine lv_aload_n hx hb dX5_areInConflict_1 rfl (lv_at hl 2 rfl) ?_
  refine wk_V (As := [.ref (X.1 7 j)]) (rest := []) ⟨hx, hb, hml, hown, hts⟩ (c_X2_isEarlierThan l E hA hI hi hj) (cwV 1 hts gX5_areInConflict_X2_isEarlierThan rfl rfl rfl (by decide +kernel) ⟨(Nat.le_of_ble_eq_true rfl), (Nat.le_of_ble_eq_true rfl)⟩) (wk_recv hK (hA.pass hi) rfl) hK rfl hl.1 rfl (Nat.le_of_ble_eq_true rfl) dX5_areInConflict_2 ⟨Nat.zero_le _, Nat.zero_le _⟩ ?_
  refine lv_if_eq (tgt := 12) hx hb dX5_areInConflict_5 (by decide) (fun c_5 => ?_) (fun c_5 => ?_)
  · skip
    have e_5 : (f_earl σ i j) = false := wk_b0 c_5
    refine lv_aload_n hx hb dX5_areInConflict_12 rfl (lv_at hl 2 rfl) ?_
    refine lv_astore_n (lv' := [(3, .ref (X.1 7 j)), (0, .ref (X.1 0 0)), (1, .ref (X.1 7 i)), (2, .ref (X.1 7 j))]) hx hb dX5_areInConflict_13 rfl hl (by decide) rfl (fun ls hl => ?_)
    refine lv_aload_n hx hb dX5_areInConflict_14 rfl (lv_at hl 0 rfl) ?_
    refine lv_aload_n hx hb dX5_areInConflict_15 rfl (lv_at hl 2 rfl) ?_
    refine lv_acmp_ne (rx := some (X.1 7 j)) (ry := some (X.1 7 i)) (tgt := 23) hx hb dX5_areInConflict_16 (by decide) (fun c_16 => ?_) (fun c_16 => ?_)
    · skip
      have e_16 : ¬ j = i := fun q => c_16 (by rw [q])
      refine lv_aload_n hx hb dX5_areInConflict_23 rfl (lv_at hl 2 rfl) ?_
      refine lv_astore (lv' := [(4, .ref (X.1 7 i)), (3, .ref (X.1 7 j)), (0, .ref (X.1 0 0)), (1, .ref (X.1 7 i)), (2, .ref (X.1 7 j))]) hx hb dX5_areInConflict_24 hl (by decide) rfl (fun ls hl => ?_)
      refine lv_aload_n hx hb dX5_areInConflict_26 rfl (lv_at hl 3 rfl) ?_
      refine wk_get (own := RX5) (C := RX2) (T := TX2) (N := 7) (ci := 3) (v := .ref (X.1 5 (z_pA σ i))) hx hb hts i_X2 hown hK (hA.pass hi) rfl 2 (by decide) (hts _ (List.mem_of_getElem? (i := 1) rfl)) (fun _ h9 => h9) rfl dX5_areInConflict_27 ?_
      refine lv_aload_n hx hb dX5_areInConflict_30 rfl (lv_at hl 4 rfl) ?_
      refine wk_get (own := RX5) (C := RX2) (T := TX2) (N := 7) (ci := 3) (v := .ref (X.1 5 (z_pA σ j))) hx hb hts i_X2 hown hK (hA.pass hj) rfl 2 (by decide) (hts _ (List.mem_of_getElem? (i := 1) rfl)) (fun _ h9 => h9) rfl dX5_areInConflict_31 ?_
      refine lv_acmp_ne (rx := some (X.1 5 (z_pA σ i))) (ry := some (X.1 5 (z_pA σ j))) (tgt := 63) hx hb dX5_areInConflict_34 (by decide) (fun c_34 => ?_) (fun c_34 => ?_)
      · skip
        have e_34 : ¬ (z_pA σ i) = (z_pA σ j) := fun q => c_34 (by rw [q])
        refine lv_aload_n hx hb dX5_areInConflict_63 rfl (lv_at hl 3 rfl) ?_
        refine wk_get (own := RX5) (C := RX2) (T := TX2) (N := 7) (ci := 3) (v := .ref (X.1 6 (z_pS σ i))) hx hb hts i_X2 hown hK (hA.pass hi) rfl 1 (by decide) (hts _ (List.mem_of_getElem? (i := 5) rfl)) (fun _ h9 => h9) rfl dX5_areInConflict_64 ?_
        refine lv_aload_n hx hb dX5_areInConflict_67 rfl (lv_at hl 4 rfl) ?_
        refine wk_get (own := RX5) (C := RX2) (T := TX2) (N := 7) (ci := 3) (v := .ref (X.1 6 (z_pS σ j))) hx hb hts i_X2 hown hK (hA.pass hj) rfl 1 (by decide) (hts _ (List.mem_of_getElem? (i := 5) rfl)) (fun _ h9 => h9) rfl dX5_areInConflict_68 ?_
        refine lv_acmp_eq (rx := some (X.1 6 (z_pS σ i))) (ry := some (X.1 6 (z_pS σ j))) (tgt := 76) hx hb dX5_areInConflict_71 (by decide) (fun c_71 => ?_) (fun c_71 => ?_)
        · skip
          have e_71 : (z_pS σ i) = (z_pS σ j) := hA.satI (hI.pS hi) (hI.pS hj) (Option.some.inj c_71)
          refine lv_aload hx hb dX5_areInConflict_76 (lv_at hl 0 rfl) ?_
          refine wk_get (own := RX5) (C := RX2) (T := TX2) (N := 7) (ci := 3) (v := .int (z_pe σ i)) hx hb hts i_X2 hown hK (hA.pass hi) rfl 4 (by decide) (hts _ (List.mem_of_getElem? (i := 3) rfl)) (fun _ h9 => h9) rfl dX5_areInConflict_78 ?_
          refine lv_aload_n hx hb dX5_areInConflict_81 rfl (lv_at hl 1 rfl) ?_
          refine wk_get (own := RX5) (C := RX2) (T := TX2) (N := 7) (ci := 3) (v := .int (z_pe σ j)) hx hb hts i_X2 hown hK (hA.pass hj) rfl 4 (by decide) (hts _ (List.mem_of_getElem? (i := 3) rfl)) (fun _ h9 => h9) rfl dX5_areInConflict_82 ?_
          refine lv_icmp_le (tgt := 105) hx hb dX5_areInConflict_85 (by decide) (fun c_85 => ?_) (fun c_85 => ?_)
          · skip
            have d_85 := Int32.not_lt.mpr c_85
            refine lv_iconst (v := 1) hx hb dX5_areInConflict_105 (by decide) ?_
            refine lv_goto (tgt := 110) hx hb dX5_areInConflict_106 (by decide) ?_
            exact W.zret hx hb hr rfl (fun t ht _ => wk_ret (congrArg Value.int (by simp [f_conf, f_conf2, wk_b, e_5, e_16, e_34, e_71, c_85, d_85])) ht) wk_nil dX5_areInConflict_110
          have d_85 := Int32.not_le.mp c_85
          refine lv_aload_n hx hb dX5_areInConflict_88 rfl (lv_at hl 1 rfl) ?_
          refine wk_get (own := RX5) (C := RX2) (T := TX2) (N := 7) (ci := 3) (v := .int (z_pe σ j)) hx hb hts i_X2 hown hK (hA.pass hj) rfl 4 (by decide) (hts _ (List.mem_of_getElem? (i := 3) rfl)) (fun _ h9 => h9) rfl dX5_areInConflict_89 ?_
          refine lv_aload hx hb dX5_areInConflict_92 (lv_at hl 0 rfl) ?_
          refine wk_get (own := RX5) (C := RX2) (T := TX2) (N := 7) (ci := 3) (v := .int (z_pb σ i)) hx hb hts i_X2 hown hK (hA.pass hi) rfl 3 (by decide) (hts _ (List.mem_of_getElem? (i := 2) rfl)) (fun _ h9 => h9) rfl dX5_areInConflict_94 ?_
          refine lv_isub hx hb dX5_areInConflict_97 ?_
          refine lv_aload_n hx hb dX5_areInConflict_98 rfl (lv_at hl 2 rfl) ?_
          refine wk_get (own := RX5) (C := RX5) (T := TX5) (N := 7) (ci := 6) (v := .int (z_ho σ)) hx hb hts i_X5 hown hK hA.desk rfl 6 (by decide) (hts _ (List.mem_of_getElem? (i := 6) rfl)) (fun _ h9 => h9) rfl dX5_areInConflict_99 ?_
          refine lv_icmp_le (tgt := 109) hx hb dX5_areInConflict_102 (by decide) (fun c_102 => ?_) (fun c_102 => ?_)
          · skip
            have d_102 := Int32.not_lt.mpr c_102
            refine lv_iconst (v := 0) hx hb dX5_areInConflict_109 (by decide) ?_
            exact W.zret hx hb hr rfl (fun t ht _ => wk_ret (congrArg Value.int (by simp [f_conf, f_conf2, wk_b, e_5, e_16, e_34, e_71, c_85, d_85, c_102, d_102])) ht) wk_nil dX5_areInConflict_110
          have d_102 := Int32.not_le.mp c_102
          refine lv_iconst (v := 1) hx hb dX5_areInConflict_105 (by decide) ?_
          refine lv_goto (tgt := 110) hx hb dX5_areInConflict_106 (by decide) ?_
          exact W.zret hx hb hr rfl (fun t ht _ => wk_ret (congrArg Value.int (by simp [f_conf, f_conf2, wk_b, e_5, e_16, e_34, e_71, c_85, d_85, c_102, d_102])) ht) wk_nil dX5_areInConflict_110
        have e_71 : ¬ (z_pS σ i) = (z_pS σ j) := fun q => c_71 (by rw [q])
        refine lv_iconst (v := 0) hx hb dX5_areInConflict_74 (by decide) ?_
        exact W.zret hx hb hr rfl (fun t ht _ => wk_ret (congrArg Value.int (by simp [f_conf, f_conf2, wk_b, e_5, e_16, e_34, e_71])) ht) wk_nil dX5_areInConflict_75
      have e_34 : (z_pA σ i) = (z_pA σ j) := hA.antI (hI.pA hi) (hI.pA hj) (Option.some.inj c_34)
      refine lv_aload hx hb dX5_areInConflict_37 (lv_at hl 0 rfl) ?_
      refine wk_get (own := RX5) (C := RX2) (T := TX2) (N := 7) (ci := 3) (v := .int (z_pb σ i)) hx hb hts i_X2 hown hK (hA.pass hi) rfl 3 (by decide) (hts _ (List.mem_of_getElem? (i := 2) rfl)) (fun _ h9 => h9) rfl dX5_areInConflict_39 ?_
      refine lv_aload_n hx hb dX5_areInConflict_42 rfl (lv_at hl 1 rfl) ?_
      refine wk_get (own := RX5) (C := RX2) (T := TX2) (N := 7) (ci := 3) (v := .int (z_pe σ j)) hx hb hts i_X2 hown hK (hA.pass hj) rfl 4 (by decide) (hts _ (List.mem_of_getElem? (i := 3) rfl)) (fun _ h9 => h9) rfl dX5_areInConflict_43 ?_
      refine lv_aload_n hx hb dX5_areInConflict_46 rfl (lv_at hl 3 rfl) ?_
      refine wk_get (own := RX5) (C := RX2) (T := TX2) (N := 7) (ci := 3) (v := .ref (X.1 5 (z_pA σ i))) hx hb hts i_X2 hown hK (hA.pass hi) rfl 2 (by decide) (hts _ (List.mem_of_getElem? (i := 1) rfl)) (fun _ h9 => h9) rfl dX5_areInConflict_47 ?_
      refine wk_get (own := RX5) (C := RX0) (T := TX0) (N := 5) (ci := 1) (v := .int (z_au σ (z_pA σ i))) hx hb hts i_X0 hown hK (hA.ant (hI.pA hi)) rfl 2 (by decide) (hts _ (List.mem_of_getElem? (i := 4) rfl)) (fun _ h9 => h9) rfl dX5_areInConflict_50 ?_
      refine lv_iadd hx hb dX5_areInConflict_53 ?_
      refine lv_icmp_ge (tgt := 61) hx hb dX5_areInConflict_54 (by decide) (fun c_54 => ?_) (fun c_54 => ?_)
      · skip
        have d_54 := Int32.not_lt.mpr c_54
        refine lv_iconst (v := 0) hx hb dX5_areInConflict_61 (by decide) ?_
        exact W.zret hx hb hr rfl (fun t ht _ => wk_ret (congrArg Value.int (by rw [e_34] at c_54 d_54; simp [f_conf, f_conf2, wk_b, e_5, e_16, e_34, c_54, d_54])) ht) wk_nil dX5_areInConflict_62
      have d_54 := Int32.not_le.mp c_54
      refine lv_iconst (v := 1) hx hb dX5_areInConflict_57 (by decide) ?_
      refine lv_goto (tgt := 62) hx hb dX5_areInConflict_58 (by decide) ?_
      exact W.zret hx hb hr rfl (fun t ht _ => wk_ret (congrArg Value.int (by rw [e_34] at c_54 d_54; simp [f_conf, f_conf2, wk_b, e_5, e_16, e_34, c_54, d_54])) ht) wk_nil dX5_areInConflict_62
    have e_16 : j = i := hA.passI hj hi (Option.some.inj c_16)
    exact absurd e_16.symm hij
  have e_5 : (f_earl σ i j) = true := wk_b1 c_5
  refine lv_aload_n hx hb dX5_areInConflict_8 rfl (lv_at hl 1 rfl) ?_
  refine lv_goto (tgt := 13) hx hb dX5_areInConflict_9 (by decide) ?_
  refine lv_astore_n (lv' := [(3, .ref (X.1 7 i)), (0, .ref (X.1 0 0)), (1, .ref (X.1 7 i)), (2, .ref (X.1 7 j))]) hx hb dX5_areInConflict_13 rfl hl (by decide) rfl (fun ls hl => ?_)
  refine lv_aload_n hx hb dX5_areInConflict_14 rfl (lv_at hl 0 rfl) ?_
  refine lv_aload_n hx hb dX5_areInConflict_15 rfl (lv_at hl 2 rfl) ?_
  refine lv_acmp_ne (rx := some (X.1 7 i)) (ry := some (X.1 7 i)) (tgt := 23) hx hb dX5_areInConflict_16 (by decide) (fun c_16 => ?_) (fun c_16 => ?_)
  · skip
    have e_16 : ¬ i = i := fun q => c_16 (by rw [q])
    exact absurd rfl e_16
  have e_16 : i = i := hA.passI hi hi (Option.some.inj c_16)
  refine lv_aload_n hx hb dX5_areInConflict_19 rfl (lv_at hl 3 rfl) ?_
  refine lv_goto (tgt := 24) hx hb dX5_areInConflict_20 (by decide) ?_
  refine lv_astore (lv' := [(4, .ref (X.1 7 j)), (3, .ref (X.1 7 i)), (0, .ref (X.1 0 0)), (1, .ref (X.1 7 i)), (2, .ref (X.1 7 j))]) hx hb dX5_areInConflict_24 hl (by decide) rfl (fun ls hl => ?_)
  refine lv_aload_n hx hb dX5_areInConflict_26 rfl (lv_at hl 3 rfl) ?_
  refine wk_get (own := RX5) (C := RX2) (T := TX2) (N := 7) (ci := 3) (v := .ref (X.1 5 (z_pA σ i))) hx hb hts i_X2 hown hK (hA.pass hi) rfl 2 (by decide) (hts _ (List.mem_of_getElem? (i := 1) rfl)) (fun _ h9 => h9) rfl dX5_areInConflict_27 ?_
  refine lv_aload_n hx hb dX5_areInConflict_30 rfl (lv_at hl 4 rfl) ?_
  refine wk_get (own := RX5) (C := RX2) (T := TX2) (N := 7) (ci := 3) (v := .ref (X.1 5 (z_pA σ j))) hx hb hts i_X2 hown hK (hA.pass hj) rfl 2 (by decide) (hts _ (List.mem_of_getElem? (i := 1) rfl)) (fun _ h9 => h9) rfl dX5_areInConflict_31 ?_
  refine lv_acmp_ne (rx := some (X.1 5 (z_pA σ i))) (ry := some (X.1 5 (z_pA σ j))) (tgt := 63) hx hb dX5_areInConflict_34 (by decide) (fun c_34 => ?_) (fun c_34 => ?_)
  · skip
    have e_34 : ¬ (z_pA σ i) = (z_pA σ j) := fun q => c_34 (by rw [q])
    refine lv_aload_n hx hb dX5_areInConflict_63 rfl (lv_at hl 3 rfl) ?_
    refine wk_get (own := RX5) (C := RX2) (T := TX2) (N := 7) (ci := 3) (v := .ref (X.1 6 (z_pS σ i))) hx hb hts i_X2 hown hK (hA.pass hi) rfl 1 (by decide) (hts _ (List.mem_of_getElem? (i := 5) rfl)) (fun _ h9 => h9) rfl dX5_areInConflict_64 ?_
    refine lv_aload_n hx hb dX5_areInConflict_67 rfl (lv_at hl 4 rfl) ?_
    refine wk_get (own := RX5) (C := RX2) (T := TX2) (N := 7) (ci := 3) (v := .ref (X.1 6 (z_pS σ j))) hx hb hts i_X2 hown hK (hA.pass hj) rfl 1 (by decide) (hts _ (List.mem_of_getElem? (i := 5) rfl)) (fun _ h9 => h9) rfl dX5_areInConflict_68 ?_
    refine lv_acmp_eq (rx := some (X.1 6 (z_pS σ i))) (ry := some (X.1 6 (z_pS σ j))) (tgt := 76) hx hb dX5_areInConflict_71 (by decide) (fun c_71 => ?_) (fun c_71 => ?_)
    · skip
      have e_71 : (z_pS σ i) = (z_pS σ j) := hA.satI (hI.pS hi) (hI.pS hj) (Option.some.inj c_71)
      refine lv_aload hx hb dX5_areInConflict_76 (lv_at hl 0 rfl) ?_
      refine wk_get (own := RX5) (C := RX2) (T := TX2) (N := 7) (ci := 3) (v := .int (z_pe σ j)) hx hb hts i_X2 hown hK (hA.pass hj) rfl 4 (by decide) (hts _ (List.mem_of_getElem? (i := 3) rfl)) (fun _ h9 => h9) rfl dX5_areInConflict_78 ?_
      refine lv_aload_n hx hb dX5_areInConflict_81 rfl (lv_at hl 1 rfl) ?_
      refine wk_get (own := RX5) (C := RX2) (T := TX2) (N := 7) (ci := 3) (v := .int (z_pe σ i)) hx hb hts i_X2 hown hK (hA.pass hi) rfl 4 (by decide) (hts _ (List.mem_of_getElem? (i := 3) rfl)) (fun _ h9 => h9) rfl dX5_areInConflict_82 ?_
      refine lv_icmp_le (tgt := 105) hx hb dX5_areInConflict_85 (by decide) (fun c_85 => ?_) (fun c_85 => ?_)
      · skip
        have d_85 := Int32.not_lt.mpr c_85
        refine lv_iconst (v := 1) hx hb dX5_areInConflict_105 (by decide) ?_
        refine lv_goto (tgt := 110) hx hb dX5_areInConflict_106 (by decide) ?_
        exact W.zret hx hb hr rfl (fun t ht _ => wk_ret (congrArg Value.int (by simp [f_conf, f_conf2, wk_b, e_5, e_16, e_34, e_71, c_85, d_85])) ht) wk_nil dX5_areInConflict_110
      have d_85 := Int32.not_le.mp c_85
      refine lv_aload_n hx hb dX5_areInConflict_88 rfl (lv_at hl 1 rfl) ?_
      refine wk_get (own := RX5) (C := RX2) (T := TX2) (N := 7) (ci := 3) (v := .int (z_pe σ i)) hx hb hts i_X2 hown hK (hA.pass hi) rfl 4 (by decide) (hts _ (List.mem_of_getElem? (i := 3) rfl)) (fun _ h9 => h9) rfl dX5_areInConflict_89 ?_
      refine lv_aload hx hb dX5_areInConflict_92 (lv_at hl 0 rfl) ?_
      refine wk_get (own := RX5) (C := RX2) (T := TX2) (N := 7) (ci := 3) (v := .int (z_pb σ j)) hx hb hts i_X2 hown hK (hA.pass hj) rfl 3 (by decide) (hts _ (List.mem_of_getElem? (i := 2) rfl)) (fun _ h9 => h9) rfl dX5_areInConflict_94 ?_
      refine lv_isub hx hb dX5_areInConflict_97 ?_
      refine lv_aload_n hx hb dX5_areInConflict_98 rfl (lv_at hl 2 rfl) ?_
      refine wk_get (own := RX5) (C := RX5) (T := TX5) (N := 7) (ci := 6) (v := .int (z_ho σ)) hx hb hts i_X5 hown hK hA.desk rfl 6 (by decide) (hts _ (List.mem_of_getElem? (i := 6) rfl)) (fun _ h9 => h9) rfl dX5_areInConflict_99 ?_
      refine lv_icmp_le (tgt := 109) hx hb dX5_areInConflict_102 (by decide) (fun c_102 => ?_) (fun c_102 => ?_)
      · skip
        have d_102 := Int32.not_lt.mpr c_102
        refine lv_iconst (v := 0) hx hb dX5_areInConflict_109 (by decide) ?_
        exact W.zret hx hb hr rfl (fun t ht _ => wk_ret (congrArg Value.int (by simp [f_conf, f_conf2, wk_b, e_5, e_16, e_34, e_71, c_85, d_85, c_102, d_102])) ht) wk_nil dX5_areInConflict_110
      have d_102 := Int32.not_le.mp c_102
      refine lv_iconst (v := 1) hx hb dX5_areInConflict_105 (by decide) ?_
      refine lv_goto (tgt := 110) hx hb dX5_areInConflict_106 (by decide) ?_
      exact W.zret hx hb hr rfl (fun t ht _ => wk_ret (congrArg Value.int (by simp [f_conf, f_conf2, wk_b, e_5, e_16, e_34, e_71, c_85, d_85, c_102, d_102])) ht) wk_nil dX5_areInConflict_110
    have e_71 : ¬ (z_pS σ i) = (z_pS σ j) := fun q => c_71 (by rw [q])
    refine lv_iconst (v := 0) hx hb dX5_areInConflict_74 (by decide) ?_
    exact W.zret hx hb hr rfl (fun t ht _ => wk_ret (congrArg Value.int (by simp [f_conf, f_conf2, wk_b, e_5, e_16, e_34, e_71])) ht) wk_nil dX5_areInConflict_75
  have e_34 : (z_pA σ i) = (z_pA σ j) := hA.antI (hI.pA hi) (hI.pA hj) (Option.some.inj c_34)
  refine lv_aload hx hb dX5_areInConflict_37 (lv_at hl 0 rfl) ?_
  refine wk_get (own := RX5) (C := RX2) (T := TX2) (N := 7) (ci := 3) (v := .int (z_pb σ j)) hx hb hts i_X2 hown hK (hA.pass hj) rfl 3 (by decide) (hts _ (List.mem_of_getElem? (i := 2) rfl)) (fun _ h9 => h9) rfl dX5_areInConflict_39 ?_
  refine lv_aload_n hx hb dX5_areInConflict_42 rfl (lv_at hl 1 rfl) ?_
  refine wk_get (own := RX5) (C := RX2) (T := TX2) (N := 7) (ci := 3) (v := .int (z_pe σ i)) hx hb hts i_X2 hown hK (hA.pass hi) rfl 4 (by decide) (hts _ (List.mem_of_getElem? (i := 3) rfl)) (fun _ h9 => h9) rfl dX5_areInConflict_43 ?_
  refine lv_aload_n hx hb dX5_areInConflict_46 rfl (lv_at hl 3 rfl) ?_
  refine wk_get (own := RX5) (C := RX2) (T := TX2) (N := 7) (ci := 3) (v := .ref (X.1 5 (z_pA σ i))) hx hb hts i_X2 hown hK (hA.pass hi) rfl 2 (by decide) (hts _ (List.mem_of_getElem? (i := 1) rfl)) (fun _ h9 => h9) rfl dX5_areInConflict_47 ?_
  refine wk_get (own := RX5) (C := RX0) (T := TX0) (N := 5) (ci := 1) (v := .int (z_au σ (z_pA σ i))) hx hb hts i_X0 hown hK (hA.ant (hI.pA hi)) rfl 2 (by decide) (hts _ (List.mem_of_getElem? (i := 4) rfl)) (fun _ h9 => h9) rfl dX5_areInConflict_50 ?_
  refine lv_iadd hx hb dX5_areInConflict_53 ?_
  refine lv_icmp_ge (tgt := 61) hx hb dX5_areInConflict_54 (by decide) (fun c_54 => ?_) (fun c_54 => ?_)
  · skip
    have d_54 := Int32.not_lt.mpr c_54
    refine lv_iconst (v := 0) hx hb dX5_areInConflict_61 (by decide) ?_
    exact W.zret hx hb hr rfl (fun t ht _ => wk_ret (congrArg Value.int (by rw [e_34] at c_54 d_54; simp [f_conf, f_conf2, wk_b, e_5, e_16, e_34, c_54, d_54])) ht) wk_nil dX5_areInConflict_62
  have d_54 := Int32.not_le.mp c_54
  refine lv_iconst (v := 1) hx hb dX5_areInConflict_57 (by decide) ?_
  refine lv_goto (tgt := 62) hx hb dX5_areInConflict_58 (by decide) ?_
  exact W.zret hx hb hr rfl (fun t ht _ => wk_ret (congrArg Value.int (by rw [e_34] at c_54 d_54; simp [f_conf, f_conf2, wk_b, e_5, e_16, e_34, c_54, d_54])) ht) wk_nil dX5_areInConflict_62

abbrev rmX5_conflictsOf : Room := { frames := 3, cells := 0, slots := 0, locals := 64 }
set_option maxHeartbeats 4000000 in
set_option maxRecDepth 100000 in
theorem c_X5_conflictsOf (l : Launch) (E : wk_E) {T : Nat → Nat × Nat} {X : z_X} {σ : z_S} {H : Heap} (hA : DA E T X σ H) (hI : z_Ok σ) {i : Nat} (hi : i < z_n σ 2) : wk_Met l yX5_conflictsOf wsX5_conflictsOf rmX5_conflictsOf E H [.ref (X.1 0 0), .ref (X.1 7 i)] (some (.int (nI (f_cfl σ i)))) := by
  refine Met.ofW (cc := cX5_conflictsOf) (maxL := 5) (ret := (some .int)) (by decide) rfl ?_
  intro p e s m args below meth c s₁ B hml hv
  obtain ⟨rfl, hH, hK⟩ := hv
  subst hH
  have hx := B.exec
  have hb := B.bytes
  have hr := B.returns
  have hts := atoms_spec (ws := wsX5_conflictsOf) B.pre
  have hown : s.vm.findClass RX5 = some m.cls := findClass_of_methodNamed B.named
  have hlocks := B.notSynchronized
  have i_X5 : ∀ w ∈ u_ws RX5 TX5 7, w ∈ wsX5_conflictsOf := fun w h => (List.mem_cons_of_mem _ (List.mem_append_left _ (List.mem_append_left _ (List.mem_append_left _ (List.mem_append_right _ h)))))
  have hl := lv_entry [.ref (X.1 0 0), .ref (X.1 7 i)] (n := 5) (Nat.le_of_ble_eq_true rfl)
  rw [lg_entry_eq]
  generalize (lg_sl [.ref (X.1 0 0), .ref (X.1 7 i)] ++ List.replicate (5 - (lg_sl [.ref (X.1 0 0), .ref (X.1 7 i)]).length) Slot.unset).toArray = ls at hl ⊢
  have hl : lv_has ls 5 [(0, .ref (X.1 0 0)), (1, .ref (X.1 7 i))] := hl
  have b0 := hI.n0
  have b1 := hI.n1
  have b2 := hI.n2
  have b3 := hI.n3
  refine lv_iconst (v := 0) hx hb dX5_conflictsOf_0 (by decide) ?_
  refine lv_istore_n (lv' := [(2, .int 0), (0, .ref (X.1 0 0)), (1, .ref (X.1 7 i))]) hx hb dX5_conflictsOf_1 rfl hl (by decide) rfl (fun ls hl => ?_)
  refine lv_iconst (v := 0) hx hb dX5_conflictsOf_2 (by decide) ?_
  refine lv_istore_n (lv' := [(3, .int 0), (2, .int 0), (0, .ref (X.1 0 0)), (1, .ref (X.1 7 i))]) hx hb dX5_conflictsOf_3 rfl hl (by decide) rfl (fun ls hl => ?_)
  have L_4 : ∀ (n_4 : Nat) (k : Nat), z_n σ 2 - k < n_4 → (k ≤ z_n σ 2) → ∀ ls : Array Slot, lv_has ls 5 [(0, .ref (X.1 0 0)), (1, .ref (X.1 7 i)), (2, .int (nI (f_set (fun k => !decide (k = i) && f_conf σ i k) k))), (3, .int (nI k))] → W p l e (headSpec wsX5_conflictsOf rmX5_conflictsOf).room s m ([.ref (X.1 0 0), .ref (X.1 7 i)] : List Value).toArray below meth c s.heap [] 0 0 (MQ below (wk_Q (some (.int (nI (f_cfl σ i))))) ([.ref (X.1 0 0), .ref (X.1 7 i)] : List Value).toArray s 0 0 (fun _ => False)) (F0 m 4 ls []) := by
    intro n_4
    induction n_4 with
    | zero => intro k hm; exact absurd hm (Nat.not_lt_zero _)
    | succ n_4 ih_4 =>
      intro k hm_4 hk_k ls hl
      refine lv_iload_n hx hb dX5_conflictsOf_4 rfl (lv_at hl 3 rfl) ?_
      refine lv_aload_n hx hb dX5_conflictsOf_5 rfl (lv_at hl 0 rfl) ?_
      refine wk_get (own := RX5) (C := RX5) (T := TX5) (N := 7) (ci := 6) (v := .ref (X.1 1 2)) hx hb hts i_X5 hown hK hA.desk rfl 2 (by decide) (hts _ (List.mem_of_getElem? (i := 1) rfl)) (fun _ h9 => h9) rfl dX5_conflictsOf_6 ?_
      refine wk_V (As := []) (rest := [.int (nI k)]) ⟨hx, hb, hml, hown, hts⟩ (c_size2 l E hA) (cwV 0 hts gX5_conflictsOf_Jx4a65c_size_8abf5 rfl rfl rfl (by decide +kernel) ⟨(Nat.le_of_ble_eq_true rfl), (Nat.le_of_ble_eq_true rfl)⟩) (wk_recv hK (hA.list (j := 2) (by decide)) rfl) hK rfl hl.1 rfl (Nat.le_of_ble_eq_true rfl) dX5_conflictsOf_9 ⟨Nat.zero_le _, Nat.zero_le _⟩ ?_
      refine lv_icmp_ge (tgt := 56) hx hb dX5_conflictsOf_12 (by decide) (fun c_12 => ?_) (fun c_12 => ?_)
      · skip
        have e_12 : (z_n σ 2) ≤ k := wk_cget (by omega) (by omega) c_12
        have hkN : k = z_n σ 2 := by omega
        refine lv_iload_n hx hb dX5_conflictsOf_56 rfl (lv_at hl 2 rfl) ?_
        exact W.iret hx hb hr (fun t ht _ => wk_ret (congrArg Value.int (by rw [hkN]; rfl)) ht) wk_nil dX5_conflictsOf_57
      have e_12 : k < (z_n σ 2) := wk_cgef (by omega) (by omega) c_12
      refine lv_aload_n hx hb dX5_conflictsOf_15 rfl (lv_at hl 0 rfl) ?_
      refine wk_get (own := RX5) (C := RX5) (T := TX5) (N := 7) (ci := 6) (v := .ref (X.1 1 2)) hx hb hts i_X5 hown hK hA.desk rfl 2 (by decide) (hts _ (List.mem_of_getElem? (i := 1) rfl)) (fun _ h9 => h9) rfl dX5_conflictsOf_16 ?_
      refine lv_iload_n hx hb dX5_conflictsOf_19 rfl (lv_at hl 3 rfl) ?_
      refine wk_V (As := [.int (nI k)]) (rest := []) ⟨hx, hb, hml, hown, hts⟩ (c_get2 l E hA hI e_12) (cwV 1 hts gX5_conflictsOf_Jx4a65c_get_915e3 rfl rfl rfl (by decide +kernel) ⟨(Nat.le_of_ble_eq_true rfl), (Nat.le_of_ble_eq_true rfl)⟩) (wk_recv hK (hA.list (j := 2) (by decide)) rfl) hK rfl hl.1 rfl (Nat.le_of_ble_eq_true rfl) dX5_conflictsOf_20 ⟨Nat.zero_le _, Nat.zero_le _⟩ ?_
      refine va_castS (own := RX5) hx hb hown (hts _ (List.mem_of_getElem? (i := 2) rfl)) (hK.1.1 3 _ rfl).2 (wk_recv hK (hA.pass e_12) rfl) dX5_conflictsOf_23 ?_
      refine lv_astore (lv' := [(4, .ref (X.1 7 k)), (0, .ref (X.1 0 0)), (1, .ref (X.1 7 i)), (2, .int (nI (f_set (fun k => !decide (k = i) && f_conf σ i k) k))), (3, .int (nI k))]) hx hb dX5_conflictsOf_26 hl (by decide) rfl (fun ls hl => ?_)
      refine lv_aload hx hb dX5_conflictsOf_28 (lv_at hl 0 rfl) ?_
      refine lv_aload_n hx hb dX5_conflictsOf_30 rfl (lv_at hl 2 rfl) ?_
      refine lv_acmp_eq (rx := some (X.1 7 k)) (ry := some (X.1 7 i)) (tgt := 50) hx hb dX5_conflictsOf_31 (by decide) (fun c_31 => ?_) (fun c_31 => ?_)
      · skip
        have e_31 : k = i := hA.passI e_12 hi (Option.some.inj c_31)
        refine lv_iinc (v := nI (k + 1)) (lv' := [(3, .int (nI (k + 1))), (4, .ref (X.1 7 k)), (0, .ref (X.1 0 0)), (1, .ref (X.1 7 i)), (2, .int (nI (f_set (fun k => !decide (k = i) && f_conf σ i k) k)))]) hx hb dX5_conflictsOf_50 hl (k := 4) rfl (nI_1 _) (by decide) rfl (fun ls hl => ?_)
        refine lv_goto (tgt := 4) hx hb dX5_conflictsOf_53 (by decide) ?_
        have hl : lv_has ls 5 [(3, .int (nI (k + 1))), (4, .ref (X.1 7 k)), (0, .ref (X.1 0 0)), (1, .ref (X.1 7 i)), (2, .int (nI (f_set (fun k => !decide (k = i) && f_conf σ i k) (k + 1))))] := by rw [show nI (f_set (fun k => !decide (k = i) && f_conf σ i k) (k + 1)) = nI (f_set (fun k => !decide (k = i) && f_conf σ i k) k) from (by simp [f_set, e_31])]; exact hl
        exact ih_4 (k + 1) (by omega) (by omega) ls (lv_sub hl [2, 3, 4, 0] rfl)
      have e_31 : ¬ k = i := fun q => c_31 (by rw [q])
      refine lv_aload_n hx hb dX5_conflictsOf_34 rfl (lv_at hl 1 rfl) ?_
      refine lv_aload_n hx hb dX5_conflictsOf_35 rfl (lv_at hl 2 rfl) ?_
      refine lv_aload hx hb dX5_conflictsOf_36 (lv_at hl 0 rfl) ?_
      refine wk_V (As := [.ref (X.1 7 i), .ref (X.1 7 k)]) (rest := []) ⟨hx, hb, hml, hown, hts⟩ (c_X5_areInConflict l E hA hI hi e_12 (fun q => e_31 q.symm)) (cwV 2 hts gX5_conflictsOf_X5_areInConflict rfl rfl rfl (by decide +kernel) ⟨(Nat.le_of_ble_eq_true rfl), (Nat.le_of_ble_eq_true rfl)⟩) (wk_recv hK hA.desk rfl) hK rfl hl.1 rfl (Nat.le_of_ble_eq_true rfl) dX5_conflictsOf_38 ⟨Nat.zero_le _, Nat.zero_le _⟩ ?_
      refine lv_if_eq (tgt := 50) hx hb dX5_conflictsOf_41 (by decide) (fun c_41 => ?_) (fun c_41 => ?_)
      · skip
        have e_41 : (f_conf σ i k) = false := wk_b0 c_41
        refine lv_iinc (v := nI (k + 1)) (lv' := [(3, .int (nI (k + 1))), (4, .ref (X.1 7 k)), (0, .ref (X.1 0 0)), (1, .ref (X.1 7 i)), (2, .int (nI (f_set (fun k => !decide (k = i) && f_conf σ i k) k)))]) hx hb dX5_conflictsOf_50 hl (k := 4) rfl (nI_1 _) (by decide) rfl (fun ls hl => ?_)
        refine lv_goto (tgt := 4) hx hb dX5_conflictsOf_53 (by decide) ?_
        have hl : lv_has ls 5 [(3, .int (nI (k + 1))), (4, .ref (X.1 7 k)), (0, .ref (X.1 0 0)), (1, .ref (X.1 7 i)), (2, .int (nI (f_set (fun k => !decide (k = i) && f_conf σ i k) (k + 1))))] := by rw [show nI (f_set (fun k => !decide (k = i) && f_conf σ i k) (k + 1)) = nI (f_set (fun k => !decide (k = i) && f_conf σ i k) k) from (by simp [f_set, e_31, e_41])]; exact hl
        exact ih_4 (k + 1) (by omega) (by omega) ls (lv_sub hl [2, 3, 4, 0] rfl)
      have e_41 : (f_conf σ i k) = true := wk_b1 c_41
      refine lv_iload_n hx hb dX5_conflictsOf_44 rfl (lv_at hl 3 rfl) ?_
      refine lv_iconst (v := 1) hx hb dX5_conflictsOf_45 (by decide) ?_
      refine lv_iload_n hx hb dX5_conflictsOf_46 rfl (lv_at hl 4 rfl) ?_
      refine lv_ishl hx hb dX5_conflictsOf_47 ?_
      refine lv_ior hx hb dX5_conflictsOf_48 ?_
      refine lv_istore_n (lv' := [(2, .int ((nI (f_set (fun k => !decide (k = i) && f_conf σ i k) k)) ||| (1 <<< ((nI k) &&& 31)))), (4, .ref (X.1 7 k)), (0, .ref (X.1 0 0)), (1, .ref (X.1 7 i)), (3, .int (nI k))]) hx hb dX5_conflictsOf_49 rfl hl (by decide) rfl (fun ls hl => ?_)
      refine lv_iinc (v := nI (k + 1)) (lv' := [(3, .int (nI (k + 1))), (2, .int ((nI (f_set (fun k => !decide (k = i) && f_conf σ i k) k)) ||| (1 <<< ((nI k) &&& 31)))), (4, .ref (X.1 7 k)), (0, .ref (X.1 0 0)), (1, .ref (X.1 7 i))]) hx hb dX5_conflictsOf_50 hl (k := 4) rfl (nI_1 _) (by decide) rfl (fun ls hl => ?_)
      refine lv_goto (tgt := 4) hx hb dX5_conflictsOf_53 (by decide) ?_
      have hl : lv_has ls 5 [(3, .int (nI (k + 1))), (2, .int (nI (f_set (fun k => !decide (k = i) && f_conf σ i k) (k + 1)))), (4, .ref (X.1 7 k)), (0, .ref (X.1 0 0)), (1, .ref (X.1 7 i))] := by rw [show nI (f_set (fun k => !decide (k = i) && f_conf σ i k) (k + 1)) = (nI (f_set (fun k => !decide (k = i) && f_conf σ i k) k)) ||| (1 <<< ((nI k) &&& 31)) from (by simp [f_set, e_31, e_41, wk_or1 (show k < 31 by omega)])]; exact hl
      exact ih_4 (k + 1) (by omega) (by omega) ls (lv_sub hl [3, 4, 1, 0] rfl)
  exact L_4 _ 0 (Nat.lt_succ_self _) (Nat.zero_le _) ls (lv_sub hl [2, 3, 1, 0] rfl)

abbrev rmX5_isInConflictWithTaken : Room := { frames := 3, cells := 0, slots := 0, locals := 64 }
set_option maxHeartbeats 4000000 in
set_option maxRecDepth 100000 in
theorem c_X5_isInConflictWithTaken (l : Launch) (E : wk_E) {T : Nat → Nat × Nat} {X : z_X} {σ : z_S} {H : Heap} (hA : DA E T X σ H) (hI : z_Ok σ) {i : Nat} (hi : i < z_n σ 2) : wk_Met l yX5_isInConflictWithTaken wsX5_isInConflictWithTaken rmX5_isInConflictWithTaken E H [.ref (X.1 0 0), .ref (X.1 7 i)] (some (.int (wk_b (f_inc σ i)))) := by
  refine Met.ofW (cc := cX5_isInConflictWithTaken) (maxL := 4) (ret := (some .boolean)) (by decide) rfl ?_
  intro p e s m args below meth c s₁ B hml hv
  obtain ⟨rfl, hH, hK⟩ := hv
  subst hH
  have hx := B.exec
  have hb := B.bytes
  have hr := B.returns
  have hts := atoms_spec (ws := wsX5_isInConflictWithTaken) B.pre
  have hown : s.vm.findClass RX5 = some m.cls := findClass_of_methodNamed B.named
  have hlocks := B.notSynchronized
  have i_X5 : ∀ w ∈ u_ws RX5 TX5 7, w ∈ wsX5_isInConflictWithTaken := fun w h => (List.mem_cons_of_mem _ (List.mem_append_left _ (List.mem_append_left _ (List.mem_append_left _ (List.mem_append_right _ h)))))
  have i_X2 : ∀ w ∈ u_ws RX2 TX2 7, w ∈ wsX5_isInConflictWithTaken := fun w h => (List.mem_cons_of_mem _ (List.mem_append_left _ (List.mem_append_left _ (List.mem_append_right _ h))))
  have hl := lv_entry [.ref (X.1 0 0), .ref (X.1 7 i)] (n := 4) (Nat.le_of_ble_eq_true rfl)
  rw [lg_entry_eq]
  generalize (lg_sl [.ref (X.1 0 0), .ref (X.1 7 i)] ++ List.replicate (4 - (lg_sl [.ref (X.1 0 0), .ref (X.1 7 i)]).length) Slot.unset).toArray = ls at hl ⊢
  have hl : lv_has ls 4 [(0, .ref (X.1 0 0)), (1, .ref (X.1 7 i))] := hl
  have b0 := hI.n0
  have b1 := hI.n1
  have b2 := hI.n2
  have b3 := hI.n3
  refine lv_iconst (v := 0) hx hb dX5_isInConflictWithTaken_0 (by decide) ?_
  refine lv_istore_n (lv' := [(2, .int 0), (0, .ref (X.1 0 0)), (1, .ref (X.1 7 i))]) hx hb dX5_isInConflictWithTaken_1 rfl hl (by decide) rfl (fun ls hl => ?_)
  have L_2 : ∀ (n_2 : Nat) (k : Nat), z_n σ 2 - k < n_2 → (k ≤ z_n σ 2) → (f_any (fun k => !decide (k = i) && (z_tk σ k && f_conf σ i k)) k = false) → ∀ ls : Array Slot, lv_has ls 4 [(0, .ref (X.1 0 0)), (1, .ref (X.1 7 i)), (2, .int (nI k))] → W p l e (headSpec wsX5_isInConflictWithTaken rmX5_isInConflictWithTaken).room s m ([.ref (X.1 0 0), .ref (X.1 7 i)] : List Value).toArray below meth c s.heap [] 0 0 (MQ below (wk_Q (some (.int (wk_b (f_inc σ i))))) ([.ref (X.1 0 0), .ref (X.1 7 i)] : List Value).toArray s 0 0 (fun _ => False)) (F0 m 2 ls []) := by
    intro n_2
    induction n_2 with
    | zero => intro k hm; exact absurd hm (Nat.not_lt_zero _)
    | succ n_2 ih_2 =>
      intro k hm_2 hk_k hf ls hl
      refine lv_iload_n hx hb dX5_isInConflictWithTaken_2 rfl (lv_at hl 2 rfl) ?_
      refine lv_aload_n hx hb dX5_isInConflictWithTaken_3 rfl (lv_at hl 0 rfl) ?_
      refine wk_get (own := RX5) (C := RX5) (T := TX5) (N := 7) (ci := 6) (v := .ref (X.1 1 2)) hx hb hts i_X5 hown hK hA.desk rfl 2 (by decide) (hts _ (List.mem_of_getElem? (i := 1) rfl)) (fun _ h9 => h9) rfl dX5_isInConflictWithTaken_4 ?_
      refine wk_V (As := []) (rest := [.int (nI k)]) ⟨hx, hb, hml, hown, hts⟩ (c_size2 l E hA) (cwV 0 hts gX5_isInConflictWithTaken_Jx4a65c_size_8abf5 rfl rfl rfl (by decide +kernel) ⟨(Nat.le_of_ble_eq_true rfl), (Nat.le_of_ble_eq_true rfl)⟩) (wk_recv hK (hA.list (j := 2) (by decide)) rfl) hK rfl hl.1 rfl (Nat.le_of_ble_eq_true rfl) dX5_isInConflictWithTaken_7 ⟨Nat.zero_le _, Nat.zero_le _⟩ ?_
      refine lv_icmp_ge (tgt := 54) hx hb dX5_isInConflictWithTaken_10 (by decide) (fun c_10 => ?_) (fun c_10 => ?_)
      · skip
        have e_10 : (z_n σ 2) ≤ k := wk_cget (by omega) (by omega) c_10
        have hkN : k = z_n σ 2 := by omega
        refine lv_iconst (v := 0) hx hb dX5_isInConflictWithTaken_54 (by decide) ?_
        exact W.zret hx hb hr rfl (fun t ht _ => wk_ret (congrArg Value.int ((wk_bf (by rw [f_inc, ← hkN]; exact hf)).symm)) ht) wk_nil dX5_isInConflictWithTaken_55
      have e_10 : k < (z_n σ 2) := wk_cgef (by omega) (by omega) c_10
      refine lv_aload_n hx hb dX5_isInConflictWithTaken_13 rfl (lv_at hl 0 rfl) ?_
      refine wk_get (own := RX5) (C := RX5) (T := TX5) (N := 7) (ci := 6) (v := .ref (X.1 1 2)) hx hb hts i_X5 hown hK hA.desk rfl 2 (by decide) (hts _ (List.mem_of_getElem? (i := 1) rfl)) (fun _ h9 => h9) rfl dX5_isInConflictWithTaken_14 ?_
      refine lv_iload_n hx hb dX5_isInConflictWithTaken_17 rfl (lv_at hl 2 rfl) ?_
      refine wk_V (As := [.int (nI k)]) (rest := []) ⟨hx, hb, hml, hown, hts⟩ (c_get2 l E hA hI e_10) (cwV 1 hts gX5_isInConflictWithTaken_Jx4a65c_get_915e3 rfl rfl rfl (by decide +kernel) ⟨(Nat.le_of_ble_eq_true rfl), (Nat.le_of_ble_eq_true rfl)⟩) (wk_recv hK (hA.list (j := 2) (by decide)) rfl) hK rfl hl.1 rfl (Nat.le_of_ble_eq_true rfl) dX5_isInConflictWithTaken_18 ⟨Nat.zero_le _, Nat.zero_le _⟩ ?_
      refine va_castS (own := RX5) hx hb hown (hts _ (List.mem_of_getElem? (i := 2) rfl)) (hK.1.1 3 _ rfl).2 (wk_recv hK (hA.pass e_10) rfl) dX5_isInConflictWithTaken_21 ?_
      refine lv_astore_n (lv' := [(3, .ref (X.1 7 k)), (0, .ref (X.1 0 0)), (1, .ref (X.1 7 i)), (2, .int (nI k))]) hx hb dX5_isInConflictWithTaken_24 rfl hl (by decide) rfl (fun ls hl => ?_)
      refine lv_aload_n hx hb dX5_isInConflictWithTaken_25 rfl (lv_at hl 0 rfl) ?_
      refine lv_aload_n hx hb dX5_isInConflictWithTaken_26 rfl (lv_at hl 2 rfl) ?_
      refine lv_acmp_eq (rx := some (X.1 7 k)) (ry := some (X.1 7 i)) (tgt := 48) hx hb dX5_isInConflictWithTaken_27 (by decide) (fun c_27 => ?_) (fun c_27 => ?_)
      · skip
        have e_27 : k = i := hA.passI e_10 hi (Option.some.inj c_27)
        refine lv_iinc (v := nI (k + 1)) (lv' := [(2, .int (nI (k + 1))), (3, .ref (X.1 7 k)), (0, .ref (X.1 0 0)), (1, .ref (X.1 7 i))]) hx hb dX5_isInConflictWithTaken_48 hl (k := 3) rfl (nI_1 _) (by decide) rfl (fun ls hl => ?_)
        refine lv_goto (tgt := 2) hx hb dX5_isInConflictWithTaken_51 (by decide) ?_
        exact ih_2 (k + 1) (by omega) (by omega) (f_any_step hf (by simp [e_27])) ls (lv_sub hl [2, 3, 0] rfl)
      have e_27 : ¬ k = i := fun q => c_27 (by rw [q])
      refine lv_aload_n hx hb dX5_isInConflictWithTaken_30 rfl (lv_at hl 0 rfl) ?_
      refine wk_get (own := RX5) (C := RX2) (T := TX2) (N := 7) (ci := 3) (v := .int (wk_b (z_tk σ k))) hx hb hts i_X2 hown hK (hA.pass e_10) rfl 5 (by decide) (hts _ (List.mem_of_getElem? (i := 3) rfl)) (fun _ h9 => h9) rfl dX5_isInConflictWithTaken_31 ?_
      refine lv_if_eq (tgt := 48) hx hb dX5_isInConflictWithTaken_34 (by decide) (fun c_34 => ?_) (fun c_34 => ?_)
      · skip
        have e_34 : (z_tk σ k) = false := wk_b0 c_34
        refine lv_iinc (v := nI (k + 1)) (lv' := [(2, .int (nI (k + 1))), (3, .ref (X.1 7 k)), (0, .ref (X.1 0 0)), (1, .ref (X.1 7 i))]) hx hb dX5_isInConflictWithTaken_48 hl (k := 3) rfl (nI_1 _) (by decide) rfl (fun ls hl => ?_)
        refine lv_goto (tgt := 2) hx hb dX5_isInConflictWithTaken_51 (by decide) ?_
        exact ih_2 (k + 1) (by omega) (by omega) (f_any_step hf (by simp [e_27, e_34])) ls (lv_sub hl [2, 3, 0] rfl)
      have e_34 : (z_tk σ k) = true := wk_b1 c_34
      refine lv_aload_n hx hb dX5_isInConflictWithTaken_37 rfl (lv_at hl 1 rfl) ?_
      refine lv_aload_n hx hb dX5_isInConflictWithTaken_38 rfl (lv_at hl 2 rfl) ?_
      refine lv_aload_n hx hb dX5_isInConflictWithTaken_39 rfl (lv_at hl 0 rfl) ?_
      refine wk_V (As := [.ref (X.1 7 i), .ref (X.1 7 k)]) (rest := []) ⟨hx, hb, hml, hown, hts⟩ (c_X5_areInConflict l E hA hI hi e_10 (fun q => e_27 q.symm)) (cwV 2 hts gX5_isInConflictWithTaken_X5_areInConflict rfl rfl rfl (by decide +kernel) ⟨(Nat.le_of_ble_eq_true rfl), (Nat.le_of_ble_eq_true rfl)⟩) (wk_recv hK hA.desk rfl) hK rfl hl.1 rfl (Nat.le_of_ble_eq_true rfl) dX5_isInConflictWithTaken_40 ⟨Nat.zero_le _, Nat.zero_le _⟩ ?_
      refine lv_if_eq (tgt := 48) hx hb dX5_isInConflictWithTaken_43 (by decide) (fun c_43 => ?_) (fun c_43 => ?_)
      · skip
        have e_43 : (f_conf σ i k) = false := wk_b0 c_43
        refine lv_iinc (v := nI (k + 1)) (lv' := [(2, .int (nI (k + 1))), (3, .ref (X.1 7 k)), (0, .ref (X.1 0 0)), (1, .ref (X.1 7 i))]) hx hb dX5_isInConflictWithTaken_48 hl (k := 3) rfl (nI_1 _) (by decide) rfl (fun ls hl => ?_)
        refine lv_goto (tgt := 2) hx hb dX5_isInConflictWithTaken_51 (by decide) ?_
        exact ih_2 (k + 1) (by omega) (by omega) (f_any_step hf (by simp [e_27, e_34, e_43])) ls (lv_sub hl [2, 3, 0] rfl)
      have e_43 : (f_conf σ i k) = true := wk_b1 c_43
      refine lv_iconst (v := 1) hx hb dX5_isInConflictWithTaken_46 (by decide) ?_
      exact W.zret hx hb hr rfl (fun t ht _ => wk_ret (congrArg Value.int ((wk_bt (f_any_yes e_10 (by simp [e_27, e_34, e_43]))).symm)) ht) wk_nil dX5_isInConflictWithTaken_47
  exact L_2 _ 0 (Nat.lt_succ_self _) (Nat.zero_le _) rfl ls (lv_sub hl [1, 2, 0] rfl)
