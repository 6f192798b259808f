section ZGET
variable {T : Nat → Nat × Nat} {X : z_X} {σ : z_S} {H : Heap}
theorem c_size0 (l : Launch) (E : wk_E) (hA : DA E T X σ H) : wk_Met l yJx4a65c_size_8abf5 wsJx4a65c_size_8abf5 rmJx4a65c_size_8abf5 E H [.ref (X.1 1 0)] (some (.int (nI (z_n σ 0)))) := c_Jx4a65c_size_8abf5 l E (hA.list (j := 0) (by decide))
theorem c_get0 (l : Launch) (E : wk_E) (hA : DA E T X σ H) (hI : z_Ok σ) {k : Nat} (hk : k < z_n σ 0) : wk_Met l yJx4a65c_get_915e3 wsJx4a65c_get_915e3 rmJx4a65c_get_915e3 E H [.ref (X.1 1 0), .int (nI k)] (some (.ref (X.1 5 k))) :=
  have hc := hA.cap (j := 0) (by decide) (Nat.lt_of_le_of_lt (Nat.zero_le k) hk)
  c_Jx4a65c_get_915e3 l E (hA.list (j := 0) (by decide)) (hA.row (j := 0) (by decide) (Nat.lt_of_le_of_lt (Nat.zero_le k) hk)) hk hc.1 (by omega) (if_pos hk)
theorem c_size1 (l : Launch) (E : wk_E) (hA : DA E T X σ H) : wk_Met l yJx4a65c_size_8abf5 wsJx4a65c_size_8abf5 rmJx4a65c_size_8abf5 E H [.ref (X.1 1 1)] (some (.int (nI (z_n σ 1)))) := c_Jx4a65c_size_8abf5 l E (hA.list (j := 1) (by decide))
theorem c_get1 (l : Launch) (E : wk_E) (hA : DA E T X σ H) (hI : z_Ok σ) {k : Nat} (hk : k < z_n σ 1) : wk_Met l yJx4a65c_get_915e3 wsJx4a65c_get_915e3 rmJx4a65c_get_915e3 E H [.ref (X.1 1 1), .int (nI k)] (some (.ref (X.1 6 k))) :=
  have hc := hA.cap (j := 1) (by decide) (Nat.lt_of_le_of_lt (Nat.zero_le k) hk)
  c_Jx4a65c_get_915e3 l E (hA.list (j := 1) (by decide)) (hA.row (j := 1) (by decide) (Nat.lt_of_le_of_lt (Nat.zero_le k) hk)) hk hc.1 (by omega) (if_pos hk)
theorem c_size2 (l : Launch) (E : wk_E) (hA : DA E T X σ H) : wk_Met l yJx4a65c_size_8abf5 wsJx4a65c_size_8abf5 rmJx4a65c_size_8abf5 E H [.ref (X.1 1 2)] (some (.int (nI (z_n σ 2)))) := c_Jx4a65c_size_8abf5 l E (hA.list (j := 2) (by decide))
theorem c_get2 (l : Launch) (E : wk_E) (hA : DA E T X σ H) (hI : z_Ok σ) {k : Nat} (hk : k < z_n σ 2) : wk_Met l yJx4a65c_get_915e3 wsJx4a65c_get_915e3 rmJx4a65c_get_915e3 E H [.ref (X.1 1 2), .int (nI k)] (some (.ref (X.1 7 k))) :=
  have hc := hA.cap (j := 2) (by decide) (Nat.lt_of_le_of_lt (Nat.zero_le k) hk)
  c_Jx4a65c_get_915e3 l E (hA.list (j := 2) (by decide)) (hA.row (j := 2) (by decide) (Nat.lt_of_le_of_lt (Nat.zero_le k) hk)) hk hc.1 (by omega) (if_pos hk)
theorem c_size3 (l : Launch) (E : wk_E) (hA : DA E T X σ H) : wk_Met l yJx4a65c_size_8abf5 wsJx4a65c_size_8abf5 rmJx4a65c_size_8abf5 E H [.ref (X.1 1 3)] (some (.int (nI (z_n σ 3)))) := c_Jx4a65c_size_8abf5 l E (hA.list (j := 3) (by decide))
theorem c_get3 (l : Launch) (E : wk_E) (hA : DA E T X σ H) (hI : z_Ok σ) {k : Nat} (hk : k < z_n σ 3) : wk_Met l yJx4a65c_get_915e3 wsJx4a65c_get_915e3 rmJx4a65c_get_915e3 E H [.ref (X.1 1 3), .int (nI k)] (some (.ref (X.1 8 k))) :=
  have hc := hA.cap (j := 3) (by decide) (Nat.lt_of_le_of_lt (Nat.zero_le k) hk)
  c_Jx4a65c_get_915e3 l E (hA.list (j := 3) (by decide)) (hA.row (j := 3) (by decide) (Nat.lt_of_le_of_lt (Nat.zero_le k) hk)) hk hc.1 (by omega) (if_pos hk)
end ZGET

abbrev rmX2_worth : Room := { frames := 0, cells := 0, slots := 0, locals := 0 }
set_option maxHeartbeats 4000000 in
set_option maxRecDepth 100000 in
theorem c_X2_worth (l : Launch) (E : wk_E) {T : Nat → Nat × Nat} {X : z_X} {σ : z_S} {H : Heap} (hA : DA E T X σ H) (hI : z_Ok σ) {i : Nat} (hi : i < z_n σ 2) : wk_Met l yX2_worth wsX2_worth rmX2_worth E H [.ref (X.1 7 i)] (some (.int (f_worth σ i))) := by
  refine Met.ofW (cc := cX2_worth) (maxL := 1) (ret := (some .int)) (by decide) rfl ?_
  intro p e s m args below meth c s₁ B hml hv
  obtain ⟨rfl, hH, hK⟩ := hv
  subst hH
  have hx := B.exec
  have hb := B.bytes
  have hr := B.returns
  have hts := atoms_spec (ws := wsX2_worth) B.pre
  have hown : s.vm.findClass RX2 = some m.cls := findClass_of_methodNamed B.named
  have hlocks := B.notSynchronized
  have i_X2 : ∀ w ∈ u_ws RX2 TX2 7, w ∈ wsX2_worth := fun w h => (List.mem_cons_of_mem _ (List.mem_append_left _ (List.mem_append_right _ h)))
  have i_X3 : ∀ w ∈ u_ws RX3 TX3 8, w ∈ wsX2_worth := fun w h => (List.mem_cons_of_mem _ (List.mem_append_right _ h))
  have hl := lv_entry [.ref (X.1 7 i)] (n := 1) (Nat.le_of_ble_eq_true rfl)
  rw [lg_entry_eq]
  generalize (lg_sl [.ref (X.1 7 i)] ++ List.replicate (1 - (lg_sl [.ref (X.1 7 i)]).length) Slot.unset).toArray = ls at hl ⊢
  have hl : lv_has ls 1 [(0, .ref (X.1 7 i))] := hl
  have b0 := hI.n0
  have b1 := hI.n1
  have b2 := hI.n2
  have b3 := hI.n3
  refine lv_aload_n hx hb dX2_worth_0 rfl (lv_at hl 0 rfl) ?_
  refine wk_get (own := RX2) (C := RX2) (T := TX2) (N := 7) (ci := 3) (v := .ref (X.1 6 (z_pS σ i))) hx hb hts i_X2 hown hK (hA.pass hi) rfl 1 (by decide) (hts _ (List.mem_of_getElem? (i := 1) rfl)) (fun _ h9 => h9) rfl dX2_worth_1 ?_
  refine wk_get (own := RX2) (C := RX3) (T := TX3) (N := 8) (ci := 4) (v := .int (z_sp σ (z_pS σ i))) hx hb hts i_X3 hown hK (hA.sat (hI.pS hi)) rfl 2 (by decide) (hts _ (List.mem_of_getElem? (i := 2) rfl)) (fun _ h9 => h9) rfl dX2_worth_4 ?_
  refine lv_aload_n hx hb dX2_worth_7 rfl (lv_at hl 0 rfl) ?_
  refine wk_get (own := RX2) (C := RX2) (T := TX2) (N := 7) (ci := 3) (v := .int (z_pe σ i)) hx hb hts i_X2 hown hK (hA.pass hi) rfl 4 (by decide) (hts _ (List.mem_of_getElem? (i := 3) rfl)) (fun _ h9 => h9) rfl dX2_worth_8 ?_
  refine lv_aload_n hx hb dX2_worth_11 rfl (lv_at hl 0 rfl) ?_
  refine wk_get (own := RX2) (C := RX2) (T := TX2) (N := 7) (ci := 3) (v := .int (z_pb σ i)) hx hb hts i_X2 hown hK (hA.pass hi) rfl 3 (by decide) (hts _ (List.mem_of_getElem? (i := 4) rfl)) (fun _ h9 => h9) rfl dX2_worth_12 ?_
  refine lv_isub hx hb dX2_worth_15 ?_
  refine lv_imul hx hb dX2_worth_16 ?_
  exact W.iret hx hb hr (fun t ht _ => wk_ret (congrArg Value.int rfl) ht) wk_nil dX2_worth_17

abbrev rmX2_isEarlierThan : Room := { frames := 0, cells := 0, slots := 0, locals := 0 }
set_option maxHeartbeats 4000000 in
set_option maxRecDepth 100000 in
theorem c_X2_isEarlierThan (l : Launch) (E : wk_E) {T : Nat → Nat × Nat} {X : z_X} {σ : z_S} {H : Heap} (hA : DA E T X σ H) (hI : z_Ok σ) {i : Nat} (hi : i < z_n σ 2) {j : Nat} (hj : j < z_n σ 2) : wk_Met l yX2_isEarlierThan wsX2_isEarlierThan rmX2_isEarlierThan E H [.ref (X.1 7 i), .ref (X.1 7 j)] (some (.int (wk_b (f_earl σ i j)))) := by
  refine Met.ofW (cc := cX2_isEarlierThan) (maxL := 2) (ret := (some .boolean)) (by decide) rfl ?_
  intro p e s m args below meth c s₁ B hml hv
  obtain ⟨rfl, hH, hK⟩ := hv
  subst hH
  have hx := B.exec
  have hb := B.bytes
  have hr := B.returns
  have hts := atoms_spec (ws := wsX2_isEarlierThan) B.pre
  have hown : s.vm.findClass RX2 = some m.cls := findClass_of_methodNamed B.named
  have hlocks := B.notSynchronized
  have i_X2 : ∀ w ∈ u_ws RX2 TX2 7, w ∈ wsX2_isEarlierThan := fun w h => (List.mem_cons_of_mem _ (List.mem_append_right _ h))
  have hl := lv_entry [.ref (X.1 7 i), .ref (X.1 7 j)] (n := 2) (Nat.le_of_ble_eq_true rfl)
  rw [lg_entry_eq]
  generalize (lg_sl [.ref (X.1 7 i), .ref (X.1 7 j)] ++ List.replicate (2 - (lg_sl [.ref (X.1 7 i), .ref (X.1 7 j)]).length) Slot.unset).toArray = ls at hl ⊢
  have hl : lv_has ls 2 [(0, .ref (X.1 7 i)), (1, .ref (X.1 7 j))] := hl
  have b0 := hI.n0
  have b1 := hI.n1
  have b2 := hI.n2
  have b3 := hI.n3
  refine lv_aload_n hx hb dX2_isEarlierThan_0 rfl (lv_at hl 0 rfl) ?_
  refine wk_get (own := RX2) (C := RX2) (T := TX2) (N := 7) (ci := 3) (v := .int (z_pb σ i)) hx hb hts i_X2 hown hK (hA.pass hi) rfl 3 (by decide) (hts _ (List.mem_of_getElem? (i := 1) rfl)) (fun _ h9 => h9) rfl dX2_isEarlierThan_1 ?_
  refine lv_aload_n hx hb dX2_isEarlierThan_4 rfl (lv_at hl 1 rfl) ?_
  refine wk_get (own := RX2) (C := RX2) (T := TX2) (N := 7) (ci := 3) (v := .int (z_pb σ j)) hx hb hts i_X2 hown hK (hA.pass hj) rfl 3 (by decide) (hts _ (List.mem_of_getElem? (i := 1) rfl)) (fun _ h9 => h9) rfl dX2_isEarlierThan_5 ?_
  refine lv_icmp_ne (tgt := 30) hx hb dX2_isEarlierThan_8 (by decide) (fun c_8 => ?_) (fun c_8 => ?_)
  · skip
    refine lv_aload_n hx hb dX2_isEarlierThan_30 rfl (lv_at hl 0 rfl) ?_
    refine wk_get (own := RX2) (C := RX2) (T := TX2) (N := 7) (ci := 3) (v := .int (z_pb σ i)) hx hb hts i_X2 hown hK (hA.pass hi) rfl 3 (by decide) (hts _ (List.mem_of_getElem? (i := 1) rfl)) (fun _ h9 => h9) rfl dX2_isEarlierThan_31 ?_
    refine lv_aload_n hx hb dX2_isEarlierThan_34 rfl (lv_at hl 1 rfl) ?_
    refine wk_get (own := RX2) (C := RX2) (T := TX2) (N := 7) (ci := 3) (v := .int (z_pb σ j)) hx hb hts i_X2 hown hK (hA.pass hj) rfl 3 (by decide) (hts _ (List.mem_of_getElem? (i := 1) rfl)) (fun _ h9 => h9) rfl dX2_isEarlierThan_35 ?_
    refine lv_icmp_ge (tgt := 45) hx hb dX2_isEarlierThan_38 (by decide) (fun c_38 => ?_) (fun c_38 => ?_)
    · skip
      have d_38 := Int32.not_lt.mpr c_38
      refine lv_iconst (v := 0) hx hb dX2_isEarlierThan_45 (by decide) ?_
      exact W.zret hx hb hr rfl (fun t ht _ => wk_ret (congrArg Value.int (by simp [f_earl, wk_b, c_8, c_38, d_38])) ht) wk_nil dX2_isEarlierThan_46
    have d_38 := Int32.not_le.mp c_38
    refine lv_iconst (v := 1) hx hb dX2_isEarlierThan_41 (by decide) ?_
    refine lv_goto (tgt := 46) hx hb dX2_isEarlierThan_42 (by decide) ?_
    exact W.zret hx hb hr rfl (fun t ht _ => wk_ret (congrArg Value.int (by simp [f_earl, wk_b, c_8, c_38, d_38])) ht) wk_nil dX2_isEarlierThan_46
  refine lv_aload_n hx hb dX2_isEarlierThan_11 rfl (lv_at hl 0 rfl) ?_
  refine wk_get (own := RX2) (C := RX2) (T := TX2) (N := 7) (ci := 3) (v := .int (nI i)) hx hb hts i_X2 hown hK (hA.pass hi) rfl 0 (by decide) (hts _ (List.mem_of_getElem? (i := 2) rfl)) (fun _ h9 => h9) rfl dX2_isEarlierThan_12 ?_
  refine lv_aload_n hx hb dX2_isEarlierThan_15 rfl (lv_at hl 1 rfl) ?_
  refine wk_get (own := RX2) (C := RX2) (T := TX2) (N := 7) (ci := 3) (v := .int (nI j)) hx hb hts i_X2 hown hK (hA.pass hj) rfl 0 (by decide) (hts _ (List.mem_of_getElem? (i := 2) rfl)) (fun _ h9 => h9) rfl dX2_isEarlierThan_16 ?_
  refine lv_icmp_ge (tgt := 26) hx hb dX2_isEarlierThan_19 (by decide) (fun c_19 => ?_) (fun c_19 => ?_)
  · skip
    have e_19 : j ≤ i := wk_cget (by omega) (by omega) c_19
    have d_19 := Nat.not_lt.mpr e_19
    refine lv_iconst (v := 0) hx hb dX2_isEarlierThan_26 (by decide) ?_
    refine lv_goto (tgt := 46) hx hb dX2_isEarlierThan_27 (by decide) ?_
    exact W.zret hx hb hr rfl (fun t ht _ => wk_ret (congrArg Value.int (by simp [f_earl, wk_b, c_8, e_19, d_19])) ht) wk_nil dX2_isEarlierThan_46
  have e_19 : i < j := wk_cgef (by omega) (by omega) c_19
  have d_19 := Nat.not_le.mpr e_19
  refine lv_iconst (v := 1) hx hb dX2_isEarlierThan_22 (by decide) ?_
  refine lv_goto (tgt := 46) hx hb dX2_isEarlierThan_23 (by decide) ?_
  exact W.zret hx hb hr rfl (fun t ht _ => wk_ret (congrArg Value.int (by simp [f_earl, wk_b, c_8, e_19, d_19])) ht) wk_nil dX2_isEarlierThan_46

abbrev rmX5_isWithin : Room := { frames := 0, cells := 0, slots := 0, locals := 0 }
set_option maxHeartbeats 4000000 in
set_option maxRecDepth 100000 in
theorem c_X5_isWithin (l : Launch) (E : wk_E) {H : Heap} {x y z : Int32} : wk_Met l yX5_isWithin wsX5_isWithin rmX5_isWithin E H [.int x, .int y, .int z] (some (.int (wk_b (v_in x y z)))) := by
  refine Met.ofW (cc := cX5_isWithin) (maxL := 3) (ret := (some .boolean)) (by decide) rfl ?_
  intro p e s m args below meth c s₁ B hml hv
  obtain ⟨rfl, hH, hK⟩ := hv
  subst hH
  have hx := B.exec
  have hb := B.bytes
  have hr := B.returns
  have hts := atoms_spec (ws := wsX5_isWithin) B.pre
  have hown : s.vm.findClass RX5 = some m.cls := findClass_of_methodNamed B.named
  have hlocks := B.notSynchronized
  have hl := lv_entry [.int x, .int y, .int z] (n := 3) (Nat.le_of_ble_eq_true rfl)
  rw [lg_entry_eq]
  generalize (lg_sl [.int x, .int y, .int z] ++ List.replicate (3 - (lg_sl [.int x, .int y, .int z]).length) Slot.unset).toArray = ls at hl ⊢
  have hl : lv_has ls 3 [(0, .int x), (1, .int y), (2, .int z)] := hl
  refine lv_iload_n hx hb dX5_isWithin_0 rfl (lv_at hl 0 rfl) ?_
  refine lv_iload_n hx hb dX5_isWithin_1 rfl (lv_at hl 1 rfl) ?_
  refine lv_icmp_lt (tgt := 14) hx hb dX5_isWithin_2 (by decide) (fun c_2 => ?_) (fun c_2 => ?_)
  · skip
    have d_2 := Int32.not_le.mpr c_2
    refine lv_iconst (v := 0) hx hb dX5_isWithin_14 (by decide) ?_
    exact W.zret hx hb hr rfl (fun t ht _ => wk_ret (congrArg Value.int (by simp [v_in, wk_b, c_2, d_2])) ht) wk_nil dX5_isWithin_15
  have d_2 := Int32.not_lt.mp c_2
  refine lv_iload_n hx hb dX5_isWithin_5 rfl (lv_at hl 0 rfl) ?_
  refine lv_iload_n hx hb dX5_isWithin_6 rfl (lv_at hl 2 rfl) ?_
  refine lv_icmp_gt (tgt := 14) hx hb dX5_isWithin_7 (by decide) (fun c_7 => ?_) (fun c_7 => ?_)
  · skip
    have d_7 := Int32.not_le.mpr c_7
    refine lv_iconst (v := 0) hx hb dX5_isWithin_14 (by decide) ?_
    exact W.zret hx hb hr rfl (fun t ht _ => wk_ret (congrArg Value.int (by simp [v_in, wk_b, c_2, d_2, c_7, d_7])) ht) wk_nil dX5_isWithin_15
  have d_7 := Int32.not_lt.mp c_7
  refine lv_iconst (v := 1) hx hb dX5_isWithin_10 (by decide) ?_
  refine lv_goto (tgt := 15) hx hb dX5_isWithin_11 (by decide) ?_
  exact W.zret hx hb hr rfl (fun t ht _ => wk_ret (congrArg Value.int (by simp [v_in, wk_b, c_2, d_2, c_7, d_7])) ht) wk_nil dX5_isWithin_15
