section ZGET
variable {T : Nat → Nat × Nat} {X : z_X} {σ : z_S} {H : Heap}
theorem c_size0 (l : Launch) (E : wk_E) (hA : DA E T X σ H) : wk_Met l yJx4a65c_size_8abf5 wsJx4a65c_size_8abf5 rmJx4a65c_size_8abf5 E H [.ref (X.1 1 0)] (some (.int (nI (z_n σ 0)))) := c_Jx4a65c_size_8abf5 l E (hA.list (j := 0) (by decide))
theorem c_get0 (l : Launch) (E : wk_E) (hA : DA E T X σ H) (hI : z_Ok σ) {k : Nat} (hk : k < z_n σ 0) : wk_Met l yJx4a65c_get_915e3 wsJx4a65c_get_915e3 rmJx4a65c_get_915e3 E H [.ref (X.1 1 0), .int (nI k)] (some (.ref (X.1 5 k))) :=
  have hc := hA.cap (j := 0) (by decide) (Nat.lt_of_le_of_lt (Nat.zero_le k) hk)
  c_Jx4a65c_get_915e3 l E (hA.list (j := 0) (by decide)) (hA.row (j := 0) (by decide) (Nat.lt_of_le_of_lt (Nat.zero_le k) hk)) hk hc.1 (by omega) (if_pos hk)
theorem c_size1 (l : Launch) (E : wk_E) (hA : DA E T X σ H) : wk_Met l yJx4a65c_size_8abf5 wsJx4a65c_size_8abf5 rmJx4a65c_size_8abf5 E H [.ref (X.1 1 1)] (some (.int (nI (z_n σ 1)))) := c_Jx4a65c_size_8abf5 l E (hA.list (j := 1) (by decide))
theorem c_get1 (l : Launch) (E : wk_E) (hA : DA E T X σ H) (hI : z_Ok σ) {k : Nat} (hk : k < z_n σ 1) : wk_Met l yJx4a65c_get_915e3 wsJx4a65c_get_915e3 rmJx4a65c_get_915e3 E H [.ref (X.1 1 1), .int (nI k)] (some (.ref (X.1 6 k))) :=
  have hc := hA.cap (j := 1) (by decide) (Nat.lt_of_le_of_lt (Nat.zero_le k) hk)
  c_Jx4a65c_get_915e3 l E (hA.list (j := 1) (by decide)) (hA.row (j := 1) (by decide) (Nat.lt_of_le_of_lt (Nat.zero_le k) hk)) hk hc.1 (by omega) (if_pos hk)
theorem c_size2 (l : Launch) (E : wk_E) (hA : DA E T X σ H) : wk_Met l yJx4a65c_size_8abf5 wsJx4a65c_size_8abf5 rmJx4a65c_size_8abf5 E H [.ref (X.1 1 2)] (some (.int (nI (z_n σ 2)))) := c_Jx4a65c_size_8abf5 l E (hA.list (j := 2) (by decide))
theorem c_get2 (l : Launch) (E : wk_E) (hA : DA E T X σ H) (hI : z_Ok σ) {k : Nat} (hk : k < z_n σ 2) : wk_Met l yJx4a65c_get_915e3 wsJx4a65c_get_915e3 rmJx4a65c_get_915e3 E H [.ref (X.1 1 2), .int (nI k)] (some (.ref (X.1 7 k))) :=
  have hc := hA.cap (j := 2) (by decide) (Nat.lt_of_le_of_lt (Nat.zero_le k) hk)
  c_Jx4a65c_get_915e3 l E (hA.list (j := 2) (by decide)) (hA.row (j := 2) (by decide) (Nat.lt_of_le_of_lt (Nat.zero_le k) hk)) hk hc.1 (by omega) (if_pos hk)
theorem c_size3 (l : Launch) (E : wk_E) (hA : DA E T X σ H) : wk_Met l yJx4a65c_size_8abf5 wsJx4a65c_size_8abf5 rmJx4a65c_size_8abf5 E H [.ref (X.1 1 3)] (some (.int (nI (z_n σ 3)))) := c_Jx4a65c_size_8abf5 l E (hA.list (j := 3) (by decide))
theorem c_get3 (l : Launch) (E : wk_E) (hA : DA E T X σ H) (hI : z_Ok σ) {k : Nat} (hk : k < z_n σ 3) : wk_Met l yJx4a65c_get_915e3 wsJx4a65c_get_915e3 rmJx4a65c_get_915e3 E H [.ref (X.1 1 3), .int (nI k)] (some (.ref (X.1 8 k))) :=
  have hc := hA.cap (j := 3) (by decide) (Nat.lt_of_le_of_lt (Nat.zero_le k) hk)
  c_Jx4a65c_get_915e3 l E (hA.list (j := 3) (by decide)) (hA.row (j := 3) (by decide) (Nat.lt_of_le_of_lt (Nat.zero_le k) hk)) hk hc.1 (by omega) (if_pos hk)
end ZGET

abbrev rmX2_worth : Room := { frames := 0, cells := 0, slots := 0, locals := 0 }
set_option maxHeartbeats 4000000 in
set_option maxRecDepth 100000 in
theorem c_X2_worth (l : Launch) (E : wk_E) {T : Nat → Nat × Nat} {X : z_X} {σ : z_S} {H : Heap} (hA : DA E T X σ H) (hI : z_Ok σ) {i : Nat} (hi : i < z_n σ 2) : wk_Met l yX2_worth wsX2_worth rmX2_worth E H [.ref (X.1 7 i)] (some (.int (f_worth σ i))) := by
  refine Met.ofW (cc := cX2_worth) (maxL := 1) (ret := (some .int)) (by decide) rfl ?_
  intro p e s m args below meth c s₁ B hml hv
  obtain ⟨rfl, hH, hK⟩ := hv
  subst hH
  have hx := B.exec
  have hb := B.bytes
  have hr := B.returns
  have hts := atoms_spec (ws := wsX2_worth) B.pre
  have hown : s.vm.findClass RX2 = some m.cls := findClass_of_methodNamed B.named
  have hlocks := B.notSynchronized
  have i_X2 : ∀ w ∈ u_ws RX2 TX2 7, w ∈ wsX2_worth := fun w h => (List.mem_cons_of_mem _ (List.mem_append_left _ (List.mem_append_right _ h)))
  have i_X3 : ∀ w ∈ u_ws RX3 TX3 8, w ∈ wsX2_worth := fun w h => (List.mem_cons_of_mem _ (List.mem_append_right _ h))
  have hl := lv_entry [.ref (X.1 7 i)] (n := 1) (Nat.le_of_ble_eq_true rfl)
  rw [lg_entry_eq]
  generalize (lg_sl [.ref (X.1 7 i)] ++ List.replicate (1 - (lg_sl [.ref (X.1 7 i)]).length) Slot.unset).toArray = ls at hl ⊢
  have hl : lv_has ls 1 [(0, .ref (X.1 7 i))] := hl
  have b0 := hI.n0
  have b1 := hI.n1
  have b2 := hI.n2
  have b3 := hI.n3
  refine lv_aload_n hx hb dX2_worth_0 rfl (lv_at hl 0 rfl) ?_
  refine wk_get (own := RX2) (C := RX2) (T := TX2) (N := 7) (ci := 3) (v := .ref (X.1 6 (z_pS σ i))) hx hb hts i_X2 hown hK (hA.pass hi) rfl 1 (by decide) (hts _ (List.mem_of_getElem? (i := 1) rfl)) (fun _ h9 => h9) rfl dX2_worth_1 ?_
  refine wk_get (own := RX2) (C := RX3) (T := TX3) (N := 8) (ci := 4) (v := .int (z_sp σ (z_pS σ i))) hx hb hts i_X3 hown hK (hA.sat (hI.pS hi)) rfl 2 (by decide) (hts _ (List.mem_of_getElem? (i := 2) rfl)) (fun _ h9 => h9) rfl dX2_worth_4 ?_
  refine lv_aload_n hx hb dX2_worth_7 rfl (lv_at hl 0 rfl) ?_
  refine wk_get (own := RX2) (C := RX2) (T := TX2) (N := 7) (ci := 3) (v := .int (z_pe σ i)) hx hb hts i_X2 hown hK (hA.pass hi) rfl 4 (by decide) (hts _ (List.mem_of_getElem? (i := 3) rfl)) (fun _ h9 => h9) rfl dX2_worth_8 ?_
  refine lv_aload_n hx hb dX2_worth_11 rfl (lv_at hl 0 rfl) ?_
  refine wk_get (own := RX2) (C := RX2) (T := TX2) (N := 7) (ci := 3) (v := .int (z_pb σ i)) hx hb hts i_X2 hown hK (hA.pass hi) rfl 3 (by decide) (hts _ (List.mem_of_getElem? (i := 4) rfl)) (fun _ h9 => h9) rfl dX2_worth_12 ?_
  refine lv_isub hx hb dX2_worth_15 ?_
  refine lv_imul hx hb dX2_worth_16 ?_
  exact W.iret hx hb hr (fun t ht _ => wk_ret (congrArg Value.int rfl) ht) wk_nil dX2_worth_17

abbrev rmX2_isEarlierThan : Room := { frames := 0, cells := 0, slots := 0, locals := 0 }
set_option maxHeartbeats 4000000 in
set_option maxRecDepth 100000 in
theorem c_X2_isEarlierThan (l : Launch) (E : wk_E) {T : Nat → Nat × Nat} {X : z_X} {σ : z_S} {H : Heap} (hA : DA E T X σ H) (hI : z_Ok σ) {i : Nat} (hi : i < z_n σ 2) {j : Nat} (hj : j < z_n σ 2) : wk_Met l yX2_isEarlierThan wsX2_isEarlierThan rmX2_isEarlierThan E H [.ref (X.1 7 i), .ref (X.1 7 j)] (some (.int (wk_b (f_earl σ i j)))) := by
  refine Met.ofW (cc := cX2_isEarlierThan) (maxL := 2) (ret := (some .boolean)) (by decide) rfl ?_
  intro p e s m args below meth c s₁ B hml hv
  obtain ⟨rfl, hH, hK⟩ := hv
  subst hH
  have hx := B.exec
  have hb := B.bytes
  have hr := B.returns
  have hts := atoms_spec (ws := wsX2_isEarlierThan) B.pre
  have hown : s.vm.findClass RX2 = some m.cls := findClass_of_methodNamed B.named
  have hlocks := B.notSynchronized
  have i_X2 : ∀ w ∈ u_ws RX2 TX2 7, w ∈ wsX2_isEarlierThan := fun w h => (List.mem_cons_of_mem _ (List.mem_append_right _ h))
  have hl := lv_entry [.ref (X.1 7 i), .ref (X.1 7 j)] (n := 2) (Nat.le_of_ble_eq_true rfl)
  rw [lg_entry_eq]
  generalize (lg_sl [.ref (X.1 7 i), .ref (X.1 7 j)] ++ List.replicate (2 - (lg_sl [.ref (X.1 7 i), .ref (X.1 7 j)]).length) Slot.unset).toArray = ls at hl ⊢
  have hl : lv_has ls 2 [(0, .ref (X.1 7 i)), (1, .ref (X.1 7 j))] := hl
  have b0 := hI.n0
  have b1 := hI.n1
  have b2 := hI.n2
  have b3 := hI.n3
  refine lv_aload_n hx hb dX2_isEarlierThan_0 rfl (lv_at hl 0 rfl) ?_
  refine wk_get (own := RX2) (C := RX2) (T := TX2) (N := 7) (ci := 3) (v := .int (z_pb σ i)) hx hb hts i_X2 hown hK (hA.pass hi) rfl 3 (by decide) (hts _ (List.mem_of_getElem? (i := 1) rfl)) (fun _ h9 => h9) rfl dX2_isEarlierThan_1 ?_
  refine lv_aload_n hx hb dX2_isEarlierThan_4 rfl (lv_at hl 1 rfl) ?_
  refine wk_get (own := RX2) (C := RX2) (T := TX2) (N := 7) (ci := 3) (v := .int (z_pb σ j)) hx hb hts i_X2 hown hK (hA.pass hj) rfl 3 (by decide) (hts _ (List.mem_of_getElem? (i := 1) rfl)) (fun _ h9 => h9) rfl dX2_isEarlierThan_5 ?_
  refine lv_icmp_ne (tgt := 30) hx hb dX2_isEarlierThan_8 (by decide) (fun c_8 => ?_) (fun c_8 => ?_)
  · skip
    refine lv_aload_n hx hb dX2_isEarlierThan_30 rfl (lv_at hl 0 rfl) ?_
    refine wk_get (own := RX2) (C := RX2) (T := TX2) (N := 7) (ci := 3) (v := .int (z_pb σ i)) hx hb hts i_X2 hown hK (hA.pass hi) rfl 3 (by decide) (hts _ (List.mem_of_getElem? (i := 1) rfl)) (fun _ h9 => h9) rfl dX2_isEarlierThan_31 ?_
    refine lv_aload_n hx hb dX2_isEarlierThan_34 rfl (lv_at hl 1 rfl) ?_
    refine wk_get (own := RX2) (C := RX2) (T := TX2) (N := 7) (ci := 3) (v := .int (z_pb σ j)) hx hb hts i_X2 hown hK (hA.pass hj) rfl 3 (by decide) (hts _ (List.mem_of_getElem? (i := 1) rfl)) (fun _ h9 => h9) rfl dX2_isEarlierThan_35 ?_
    refine lv_icmp_ge (tgt := 45) hx hb dX2_isEarlierThan_38 (by decide) (fun c_38 => ?_) (fun c_38 => ?_)
    · skip
      refine lv_iconst (v := 0) hx hb dX2_isEarlierThan_45 (by decide) ?_
      exact W.zret hx hb hr rfl (fun t ht _ => wk_ret (congrArg Value.int (by simp [f_earl, wk_b, c_8, c_38])) ht) wk_nil dX2_isEarlierThan_46
    refine lv_iconst (v := 1) hx hb dX2_isEarlierThan_41 (by decide) ?_
    refine lv_goto (tgt := 46) hx hb dX2_isEarlierThan_42 (by decide) ?_
    exact W.zret hx hb hr rfl (fun t ht _ => wk_ret (congrArg Value.int (by simp [f_earl, wk_b, c_8, c_38])) ht) wk_nil dX2_isEarlierThan_46
  refine lv_aload_n hx hb dX2_isEarlierThan_11 rfl (lv_at hl 0 rfl) ?_
  refine wk_get (own := RX2) (C := RX2) (T := TX2) (N := 7) (ci := 3) (v := .int (nI i)) hx hb hts i_X2 hown hK (hA.pass hi) rfl 0 (by decide) (hts _ (List.mem_of_getElem? (i := 2) rfl)) (fun _ h9 => h9) rfl dX2_isEarlierThan_12 ?_
  refine lv_aload_n hx hb dX2_isEarlierThan_15 rfl (lv_at hl 1 rfl) ?_
  refine wk_get (own := RX2) (C := RX2) (T := TX2) (N := 7) (ci := 3) (v := .int (nI j)) hx hb hts i_X2 hown hK (hA.pass hj) rfl 0 (by decide) (hts _ (List.mem_of_getElem? (i := 2) rfl)) (fun _ h9 => h9) rfl dX2_isEarlierThan_16 ?_
  refine lv_icmp_ge (tgt := 26) hx hb dX2_isEarlierThan_19 (by decide) (fun c_19 => ?_) (fun c_19 => ?_)
  · skip
    have e_19 : j ≤ i := wk_cget (by omega) (by omega) c_19
    refine lv_iconst (v := 0) hx hb dX2_isEarlierThan_26 (by decide) ?_
    refine lv_goto (tgt := 46) hx hb dX2_isEarlierThan_27 (by decide) ?_
    exact W.zret hx hb hr rfl (fun t ht _ => wk_ret (congrArg Value.int (by simp [f_earl, wk_b, c_8, e_19])) ht) wk_nil dX2_isEarlierThan_46
  have e_19 : i < j := wk_cgef (by omega) (by omega) c_19
  refine lv_iconst (v := 1) hx hb dX2_isEarlierThan_22 (by decide) ?_
  refine lv_goto (tgt := 46) hx hb dX2_isEarlierThan_23 (by decide) ?_
  exact W.zret hx hb hr rfl (fun t ht _ => wk_ret (congrArg Value.int (by simp [f_earl, wk_b, c_8, e_19])) ht) wk_nil dX2_isEarlierThan_46

abbrev rmX1_meets : Room := { frames := 0, cells := 0, slots := 0, locals := 0 }
set_option maxHeartbeats 4000000 in
set_option maxRecDepth 100000 in
theorem c_X1_meets (l : Launch) (E : wk_E) {T : Nat → Nat × Nat} {X : z_X} {σ : z_S} {H : Heap} (hA : DA E T X σ H) (hI : z_Ok σ) {k : Nat} (hk : k < z_n σ 3) {x y : Int32} : wk_Met l yX1_meets wsX1_meets rmX1_meets E H [.ref (X.1 8 k), .int x, .int y] (some (.int (wk_b (f_meets σ k x y)))) := by
  refine Met.ofW (cc := cX1_meets) (maxL := 3) (ret := (some .boolean)) (by decide) rfl ?_
  intro p e s m args below meth c s₁ B hml hv
  obtain ⟨rfl, hH, hK⟩ := hv
  subst hH
  have hx := B.exec
  have hb := B.bytes
  have hr := B.returns
  have hts := atoms_spec (ws := wsX1_meets) B.pre
  have hown : s.vm.findClass RX1 = some m.cls := findClass_of_methodNamed B.named
  have hlocks := B.notSynchronized
  have i_X1 : ∀ w ∈ u_ws RX1 TX1 3, w ∈ wsX1_meets := fun w h => (List.mem_cons_of_mem _ (List.mem_append_right _ h))
  have hl := lv_entry [.ref (X.1 8 k), .int x, .int y] (n := 3) (Nat.le_of_ble_eq_true rfl)
  rw [lg_entry_eq]
  generalize (lg_sl [.ref (X.1 8 k), .int x, .int y] ++ List.replicate (3 - (lg_sl [.ref (X.1 8 k), .int x, .int y]).length) Slot.unset).toArray = ls at hl ⊢
  have hl : lv_has ls 3 [(0, .ref (X.1 8 k)), (1, .int x), (2, .int y)] := hl
  have b0 := hI.n0
  have b1 := hI.n1
  have b2 := hI.n2
  have b3 := hI.n3
  refine lv_aload_n hx hb dX1_meets_0 rfl (lv_at hl 0 rfl) ?_
  refine wk_get (own := RX1) (C := RX1) (T := TX1) (N := 3) (ci := 2) (v := .int (z_of σ k)) hx hb hts i_X1 hown hK (hA.outg hk) rfl 1 (by decide) (hts _ (List.mem_of_getElem? (i := 1) rfl)) (fun _ h9 => h9) rfl dX1_meets_1 ?_
  refine lv_iload_n hx hb dX1_meets_4 rfl (lv_at hl 2 rfl) ?_
  refine lv_icmp_ge (tgt := 20) hx hb dX1_meets_5 (by decide) (fun c_5 => ?_) (fun c_5 => ?_)
  · skip
    refine lv_iconst (v := 0) hx hb dX1_meets_20 (by decide) ?_
    exact W.zret hx hb hr rfl (fun t ht _ => wk_ret (congrArg Value.int (by simp [f_meets, ← Int32.not_le, wk_b, c_5])) ht) wk_nil dX1_meets_21
  refine lv_iload_n hx hb dX1_meets_8 rfl (lv_at hl 1 rfl) ?_
  refine lv_aload_n hx hb dX1_meets_9 rfl (lv_at hl 0 rfl) ?_
  refine wk_get (own := RX1) (C := RX1) (T := TX1) (N := 3) (ci := 2) (v := .int (z_ot σ k)) hx hb hts i_X1 hown hK (hA.outg hk) rfl 2 (by decide) (hts _ (List.mem_of_getElem? (i := 2) rfl)) (fun _ h9 => h9) rfl dX1_meets_10 ?_
  refine lv_icmp_ge (tgt := 20) hx hb dX1_meets_13 (by decide) (fun c_13 => ?_) (fun c_13 => ?_)
  · skip
    refine lv_iconst (v := 0) hx hb dX1_meets_20 (by decide) ?_
    exact W.zret hx hb hr rfl (fun t ht _ => wk_ret (congrArg Value.int (by simp [f_meets, ← Int32.not_le, wk_b, c_5, c_13])) ht) wk_nil dX1_meets_21
  refine lv_iconst (v := 1) hx hb dX1_meets_16 (by decide) ?_
  refine lv_goto (tgt := 21) hx hb dX1_meets_17 (by decide) ?_
  exact W.zret hx hb hr rfl (fun t ht _ => wk_ret (congrArg Value.int (by simp [f_meets, ← Int32.not_le, wk_b, c_5, c_13])) ht) wk_nil dX1_meets_21

abbrev rmX5_isWithin : Room := { frames := 0, cells := 0, slots := 0, locals := 0 }
set_option maxHeartbeats 4000000 in
set_option maxRecDepth 100000 in
theorem c_X5_isWithin (l : Launch) (E : wk_E) {H : Heap} {x y z : Int32} : wk_Met l yX5_isWithin wsX5_isWithin rmX5_isWithin E H [.int x, .int y, .int z] (some (.int (wk_b (decide (y ≤ x) && decide (x ≤ z))))) := by
  refine Met.ofW (cc := cX5_isWithin) (maxL := 3) (ret := (some .boolean)) (by decide) rfl ?_
  intro p e s m args below meth c s₁ B hml hv
  obtain ⟨rfl, hH, hK⟩ := hv
  subst hH
  have hx := B.exec
  have hb := B.bytes
  have hr := B.returns
  have hts := atoms_spec (ws := wsX5_isWithin) B.pre
  have hown : s.vm.findClass RX5 = some m.cls := findClass_of_methodNamed B.named
  have hlocks := B.notSynchronized
  have hl := lv_entry [.int x, .int y, .int z] (n := 3) (Nat.le_of_ble_eq_true rfl)
  rw [lg_entry_eq]
  generalize (lg_sl [.int x, .int y, .int z] ++ List.replicate (3 - (lg_sl [.int x, .int y, .int z]).length) Slot.unset).toArray = ls at hl ⊢
  have hl : lv_has ls 3 [(0, .int x), (1, .int y), (2, .int z)] := hl
  refine lv_iload_n hx hb dX5_isWithin_0 rfl (lv_at hl 0 rfl) ?_
  refine lv_iload_n hx hb dX5_isWithin_1 rfl (lv_at hl 1 rfl) ?_
  refine lv_icmp_lt (tgt := 14) hx hb dX5_isWithin_2 (by decide) (fun c_2 => ?_) (fun c_2 => ?_)
  · skip
    refine lv_iconst (v := 0) hx hb dX5_isWithin_14 (by decide) ?_
    exact W.zret hx hb hr rfl (fun t ht _ => wk_ret (congrArg Value.int (by simp [← Int32.not_lt, wk_b, c_2])) ht) wk_nil dX5_isWithin_15
  refine lv_iload_n hx hb dX5_isWithin_5 rfl (lv_at hl 0 rfl) ?_
  refine lv_iload_n hx hb dX5_isWithin_6 rfl (lv_at hl 2 rfl) ?_
  refine lv_icmp_gt (tgt := 14) hx hb dX5_isWithin_7 (by decide) (fun c_7 => ?_) (fun c_7 => ?_)
  · skip
    refine lv_iconst (v := 0) hx hb dX5_isWithin_14 (by decide) ?_
    exact W.zret hx hb hr rfl (fun t ht _ => wk_ret (congrArg Value.int (by simp [← Int32.not_lt, wk_b, c_2, c_7])) ht) wk_nil dX5_isWithin_15
  refine lv_iconst (v := 1) hx hb dX5_isWithin_10 (by decide) ?_
  refine lv_goto (tgt := 15) hx hb dX5_isWithin_11 (by decide) ?_
  exact W.zret hx hb hr rfl (fun t ht _ => wk_ret (congrArg Value.int (by simp [← Int32.not_lt, wk_b, c_2, c_7])) ht) wk_nil dX5_isWithin_15

abbrev rmX5_contains : Room := { frames := 0, cells := 0, slots := 0, locals := 0 }
set_option maxHeartbeats 4000000 in
set_option maxRecDepth 100000 in
theorem c_X5_contains (l : Launch) (E : wk_E) {H : Heap} {m k : Nat} (hk : k < 31) : wk_Met l yX5_contains wsX5_contains rmX5_contains E H [.int (nI m), .int (nI k)] (some (.int (wk_b (m.testBit k)))) := by
  refine Met.ofW (cc := cX5_contains) (maxL := 2) (ret := (some .boolean)) (by decide) rfl ?_
  intro p e s m args below meth c s₁ B hml hv
  obtain ⟨rfl, hH, hK⟩ := hv
  subst hH
  have hx := B.exec
  have hb := B.bytes
  have hr := B.returns
  have hts := atoms_spec (ws := wsX5_contains) B.pre
  have hown : s.vm.findClass RX5 = some m.cls := findClass_of_methodNamed B.named
  have hlocks := B.notSynchronized
  have hl := lv_entry [.int (nI m), .int (nI k)] (n := 2) (Nat.le_of_ble_eq_true rfl)
  rw [lg_entry_eq]
  generalize (lg_sl [.int (nI m), .int (nI k)] ++ List.replicate (2 - (lg_sl [.int (nI m), .int (nI k)]).length) Slot.unset).toArray = ls at hl ⊢
  have hl : lv_has ls 2 [(0, .int (nI m)), (1, .int (nI k))] := hl
  refine lv_iload_n hx hb dX5_contains_0 rfl (lv_at hl 0 rfl) ?_
  refine lv_iconst (v := 1) hx hb dX5_contains_1 (by decide) ?_
  refine lv_iload_n hx hb dX5_contains_2 rfl (lv_at hl 1 rfl) ?_
  refine lv_ishl hx hb dX5_contains_3 ?_
  refine lv_iand hx hb dX5_contains_4 ?_
  refine lv_if_eq (tgt := 12) hx hb dX5_contains_5 (by decide) (fun c_5 => ?_) (fun c_5 => ?_)
  · skip
    refine lv_iconst (v := 0) hx hb dX5_contains_12 (by decide) ?_
    exact W.zret hx hb hr rfl (fun t ht _ => wk_ret (congrArg Value.int ((wk_bf (wk_has0 hk c_5)).symm)) ht) wk_nil dX5_contains_13
  refine lv_iconst (v := 1) hx hb dX5_contains_8 (by decide) ?_
  refine lv_goto (tgt := 13) hx hb dX5_contains_9 (by decide) ?_
  exact W.zret hx hb hr rfl (fun t ht _ => wk_ret (congrArg Value.int ((wk_bt (wk_has1 hk c_5)).symm)) ht) wk_nil dX5_contains_13

abbrev rmX5_mix : Room := { frames := 0, cells := 0, slots := 0, locals := 0 }
set_option maxHeartbeats 4000000 in
set_option maxRecDepth 100000 in
theorem c_X5_mix (l : Launch) (E : wk_E) {H : Heap} {x y : Int64} : wk_Met l yX5_mix wsX5_mix rmX5_mix E H [.long x, .long y] (some (.long (x * 31 + y))) := by
  refine Met.ofW (cc := cX5_mix) (maxL := 4) (ret := (some .long)) (by decide) rfl ?_
  intro p e s m args below meth c s₁ B hml hv
  obtain ⟨rfl, hH, hK⟩ := hv
  subst hH
  have hx := B.exec
  have hb := B.bytes
  have hr := B.returns
  have hts := atoms_spec (ws := wsX5_mix) B.pre
  have hown : s.vm.findClass RX5 = some m.cls := findClass_of_methodNamed B.named
  have hlocks := B.notSynchronized
  have hl := lv_entry [.long x, .long y] (n := 4) (Nat.le_of_ble_eq_true rfl)
  rw [lg_entry_eq]
  generalize (lg_sl [.long x, .long y] ++ List.replicate (4 - (lg_sl [.long x, .long y]).length) Slot.unset).toArray = ls at hl ⊢
  have hl : lv_has ls 4 [(0, .long x), (2, .long y)] := hl
  refine lv_lload_n hx hb dX5_mix_0 rfl (lv_at hl 0 rfl) ?_
  refine lv_ldc2 (own := RX5) (v := (31)) hx hb hown (hts _ (List.mem_of_getElem? (i := 1) rfl)) dX5_mix_1 ?_
  refine lv_lmul hx hb dX5_mix_4 ?_
  refine lv_lload_n hx hb dX5_mix_5 rfl (lv_at hl 1 rfl) ?_
  refine lv_ladd hx hb dX5_mix_6 ?_
  exact W.lret hx hb hr (fun t ht _ => wk_ret (congrArg Value.long (by simp [wk_b])) ht) wk_nil dX5_mix_7

abbrev rmX5_areInConflict : Room := { frames := 1, cells := 0, slots := 0, locals := 21 }
set_option maxHeartbeats 4000000 in
set_option maxRecDepth 100000 in
theorem c_X5_areInConflict (l : Launch) (E : wk_E) {T : Nat → Nat × Nat} {X : z_X} {σ : z_S} {H : Heap} (hA : DA E T X σ H) (hI : z_Ok σ) {i : Nat} (hi : i < z_n σ 2) {j : Nat} (hj : j < z_n σ 2) (hij : ¬ i = j) : wk_Met l yX5_areInConflict wsX5_areInConflict rmX5_areInConflict E H [.ref (X.1 0 0), .ref (X.1 7 i), .ref (X.1 7 j)] (some (.int (wk_b (f_conf σ i j)))) := by
  refine Met.ofW (cc := cX5_areInConflict) (maxL := 5) (ret := (some .boolean)) (by decide) rfl ?_
  intro p e s m args below meth c s₁ B hml hv
  obtain ⟨rfl, hH, hK⟩ := hv
  subst hH
  have hx := B.exec
  have hb := B.bytes
  have hr := B.returns
  have hts := atoms_spec (ws := wsX5_areInConflict) B.pre
  have hown : s.vm.findClass RX5 = some m.cls := findClass_of_methodNamed B.named
  have hlocks := B.notSynchronized
  have i_X2 : ∀ w ∈ u_ws RX2 TX2 7, w ∈ wsX5_areInConflict := fun w h => (List.mem_cons_of_mem _ (List.mem_append_left _ (List.mem_append_left _ (List.mem_append_right _ h))))
  have i_X0 : ∀ w ∈ u_ws RX0 TX0 5, w ∈ wsX5_areInConflict := fun w h => (List.mem_cons_of_mem _ (List.mem_append_left _ (List.mem_append_right _ h)))
  have i_X5 : ∀ w ∈ u_ws RX5 TX5 7, w ∈ wsX5_areInConflict := fun w h => (List.mem_cons_of_mem _ (List.mem_append_right _ h))
  have hl := lv_entry [.ref (X.1 0 0), .ref (X.1 7 i), .ref (X.1 7 j)] (n := 5) (Nat.le_of_ble_eq_true rfl)
  rw [lg_entry_eq]
  generalize (lg_sl [.ref (X.1 0 0), .ref (X.1 7 i), .ref (X.1 7 j)] ++ List.replicate (5 - (lg_sl [.ref (X.1 0 0), .ref (X.1 7 i), .ref (X.1 7 j)]).length) Slot.unset).toArray = ls at hl ⊢
  have hl : lv_has ls 5 [(0, .ref (X.1 0 0)), (1, .ref (X.1 7 i)), (2, .ref (X.1 7 j))] := hl
  have b0 := hI.n0
  have b1 := hI.n1
  have b2 := hI.n2
  have b3 := hI.n3
  refine lv_aload_n hx hb dX5_areInConflict_0 rfl (lv_at hl 1 rfl) ?_
  refine lv_aload_n hx hb dX5_areInConflict_1 rfl (lv_at hl 2 rfl) ?_
  refine wk_V (As := [.ref (X.1 7 j)]) (rest := []) ⟨hx, hb, hml, hown, hts⟩ (c_X2_isEarlierThan l E hA hI hi hj) (cwV 1 hts gX5_areInConflict_X2_isEarlierThan rfl rfl rfl (by decide +kernel) ⟨(Nat.le_of_ble_eq_true rfl), (Nat.le_of_ble_eq_true rfl)⟩) (wk_recv hK (hA.pass hi) rfl) hK rfl hl.1 rfl (Nat.le_of_ble_eq_true rfl) dX5_areInConflict_2 ⟨Nat.zero_le _, Nat.zero_le _⟩ ?_
  refine lv_if_eq (tgt := 12) hx hb dX5_areInConflict_5 (by decide) (fun c_5 => ?_) (fun c_5 => ?_)
  · skip
    have e_5 : (f_earl σ i j) = false := wk_b0 c_5
    refine lv_aload_n hx hb dX5_areInConflict_12 rfl (lv_at hl 2 rfl) ?_
    refine lv_astore_n (lv' := [(3, .ref (X.1 7 j)), (0, .ref (X.1 0 0)), (1, .ref (X.1 7 i)), (2, .ref (X.1 7 j))]) hx hb dX5_areInConflict_13 rfl hl (by decide) rfl (fun ls hl => ?_)
    refine lv_aload_n hx hb dX5_areInConflict_14 rfl (lv_at hl 0 rfl) ?_
    refine lv_aload_n hx hb dX5_areInConflict_15 rfl (lv_at hl 2 rfl) ?_
    refine lv_acmp_ne (rx := some (X.1 7 j)) (ry := some (X.1 7 i)) (tgt := 23) hx hb dX5_areInConflict_16 (by decide) (fun c_16 => ?_) (fun c_16 => ?_)
    · skip
      have e_16 : ¬ j = i := fun q => c_16 (by rw [q])
      refine lv_aload_n hx hb dX5_areInConflict_23 rfl (lv_at hl 2 rfl) ?_
      refine lv_astore (lv' := [(4, .ref (X.1 7 i)), (3, .ref (X.1 7 j)), (0, .ref (X.1 0 0)), (1, .ref (X.1 7 i)), (2, .ref (X.1 7 j))]) hx hb dX5_areInConflict_24 hl (by decide) rfl (fun ls hl => ?_)
      refine lv_aload_n hx hb dX5_areInConflict_26 rfl (lv_at hl 3 rfl) ?_
      refine wk_get (own := RX5) (C := RX2) (T := TX2) (N := 7) (ci := 3) (v := .ref (X.1 5 (z_pA σ i))) hx hb hts i_X2 hown hK (hA.pass hi) rfl 2 (by decide) (hts _ (List.mem_of_getElem? (i := 1) rfl)) (fun _ h9 => h9) rfl dX5_areInConflict_27 ?_
      refine lv_aload_n hx hb dX5_areInConflict_30 rfl (lv_at hl 4 rfl) ?_
      refine wk_get (own := RX5) (C := RX2) (T := TX2) (N := 7) (ci := 3) (v := .ref (X.1 5 (z_pA σ j))) hx hb hts i_X2 hown hK (hA.pass hj) rfl 2 (by decide) (hts _ (List.mem_of_getElem? (i := 1) rfl)) (fun _ h9 => h9) rfl dX5_areInConflict_31 ?_
      refine lv_acmp_ne (rx := some (X.1 5 (z_pA σ i))) (ry := some (X.1 5 (z_pA σ j))) (tgt := 63) hx hb dX5_areInConflict_34 (by decide) (fun c_34 => ?_) (fun c_34 => ?_)
      · skip
        have e_34 : ¬ (z_pA σ i) = (z_pA σ j) := fun q => c_34 (by rw [q])
        refine lv_aload_n hx hb dX5_areInConflict_63 rfl (lv_at hl 3 rfl) ?_
        refine wk_get (own := RX5) (C := RX2) (T := TX2) (N := 7) (ci := 3) (v := .ref (X.1 6 (z_pS σ i))) hx hb hts i_X2 hown hK (hA.pass hi) rfl 1 (by decide) (hts _ (List.mem_of_getElem? (i := 5) rfl)) (fun _ h9 => h9) rfl dX5_areInConflict_64 ?_
        refine lv_aload_n hx hb dX5_areInConflict_67 rfl (lv_at hl 4 rfl) ?_
        refine wk_get (own := RX5) (C := RX2) (T := TX2) (N := 7) (ci := 3) (v := .ref (X.1 6 (z_pS σ j))) hx hb hts i_X2 hown hK (hA.pass hj) rfl 1 (by decide) (hts _ (List.mem_of_getElem? (i := 5) rfl)) (fun _ h9 => h9) rfl dX5_areInConflict_68 ?_
        refine lv_acmp_eq (rx := some (X.1 6 (z_pS σ i))) (ry := some (X.1 6 (z_pS σ j))) (tgt := 76) hx hb dX5_areInConflict_71 (by decide) (fun c_71 => ?_) (fun c_71 => ?_)
        · skip
          have e_71 : (z_pS σ i) = (z_pS σ j) := hA.satI (hI.pS hi) (hI.pS hj) (Option.some.inj c_71)
          refine lv_aload hx hb dX5_areInConflict_76 (lv_at hl 0 rfl) ?_
          refine wk_get (own := RX5) (C := RX2) (T := TX2) (N := 7) (ci := 3) (v := .int (z_pe σ i)) hx hb hts i_X2 hown hK (hA.pass hi) rfl 4 (by decide) (hts _ (List.mem_of_getElem? (i := 3) rfl)) (fun _ h9 => h9) rfl dX5_areInConflict_78 ?_
          refine lv_aload_n hx hb dX5_areInConflict_81 rfl (lv_at hl 1 rfl) ?_
          refine wk_get (own := RX5) (C := RX2) (T := TX2) (N := 7) (ci := 3) (v := .int (z_pe σ j)) hx hb hts i_X2 hown hK (hA.pass hj) rfl 4 (by decide) (hts _ (List.mem_of_getElem? (i := 3) rfl)) (fun _ h9 => h9) rfl dX5_areInConflict_82 ?_
          refine lv_icmp_le (tgt := 105) hx hb dX5_areInConflict_85 (by decide) (fun c_85 => ?_) (fun c_85 => ?_)
          · skip
            refine lv_iconst (v := 1) hx hb dX5_areInConflict_105 (by decide) ?_
            refine lv_goto (tgt := 110) hx hb dX5_areInConflict_106 (by decide) ?_
            exact W.zret hx hb hr rfl (fun t ht _ => wk_ret (congrArg Value.int (by simp [f_conf, f_conf2, ← Int32.not_le, wk_b, e_5, e_16, e_34, e_71, c_85])) ht) wk_nil dX5_areInConflict_110
          refine lv_aload_n hx hb dX5_areInConflict_88 rfl (lv_at hl 1 rfl) ?_
          refine wk_get (own := RX5) (C := RX2) (T := TX2) (N := 7) (ci := 3) (v := .int (z_pe σ j)) hx hb hts i_X2 hown hK (hA.pass hj) rfl 4 (by decide) (hts _ (List.mem_of_getElem? (i := 3) rfl)) (fun _ h9 => h9) rfl dX5_areInConflict_89 ?_
          refine lv_aload hx hb dX5_areInConflict_92 (lv_at hl 0 rfl) ?_
          refine wk_get (own := RX5) (C := RX2) (T := TX2) (N := 7) (ci := 3) (v := .int (z_pb σ i)) hx hb hts i_X2 hown hK (hA.pass hi) rfl 3 (by decide) (hts _ (List.mem_of_getElem? (i := 2) rfl)) (fun _ h9 => h9) rfl dX5_areInConflict_94 ?_
          refine lv_isub hx hb dX5_areInConflict_97 ?_
          refine lv_aload_n hx hb dX5_areInConflict_98 rfl (lv_at hl 2 rfl) ?_
          refine wk_get (own := RX5) (C := RX5) (T := TX5) (N := 7) (ci := 6) (v := .int (z_ho σ)) hx hb hts i_X5 hown hK hA.desk rfl 6 (by decide) (hts _ (List.mem_of_getElem? (i := 6) rfl)) (fun _ h9 => h9) rfl dX5_areInConflict_99 ?_
          refine lv_icmp_le (tgt := 109) hx hb dX5_areInConflict_102 (by decide) (fun c_102 => ?_) (fun c_102 => ?_)
          · skip
            refine lv_iconst (v := 0) hx hb dX5_areInConflict_109 (by decide) ?_
            exact W.zret hx hb hr rfl (fun t ht _ => wk_ret (congrArg Value.int (by simp [f_conf, f_conf2, ← Int32.not_le, wk_b, e_5, e_16, e_34, e_71, c_85, c_102])) ht) wk_nil dX5_areInConflict_110
          refine lv_iconst (v := 1) hx hb dX5_areInConflict_105 (by decide) ?_
          refine lv_goto (tgt := 110) hx hb dX5_areInConflict_106 (by decide) ?_
          exact W.zret hx hb hr rfl (fun t ht _ => wk_ret (congrArg Value.int (by simp [f_conf, f_conf2, ← Int32.not_le, wk_b, e_5, e_16, e_34, e_71, c_85, c_102])) ht) wk_nil dX5_areInConflict_110
        have e_71 : ¬ (z_pS σ i) = (z_pS σ j) := fun q => c_71 (by rw [q])
        refine lv_iconst (v := 0) hx hb dX5_areInConflict_74 (by decide) ?_
        exact W.zret hx hb hr rfl (fun t ht _ => wk_ret (congrArg Value.int (by simp [f_conf, f_conf2, ← Int32.not_le, wk_b, e_5, e_16, e_34, e_71])) ht) wk_nil dX5_areInConflict_75
      have e_34 : (z_pA σ i) = (z_pA σ j) := hA.antI (hI.pA hi) (hI.pA hj) (Option.some.inj c_34)
      refine lv_aload hx hb dX5_areInConflict_37 (lv_at hl 0 rfl) ?_
      refine wk_get (own := RX5) (C := RX2) (T := TX2) (N := 7) (ci := 3) (v := .int (z_pb σ i)) hx hb hts i_X2 hown hK (hA.pass hi) rfl 3 (by decide) (hts _ (List.mem_of_getElem? (i := 2) rfl)) (fun _ h9 => h9) rfl dX5_areInConflict_39 ?_
      refine lv_aload_n hx hb dX5_areInConflict_42 rfl (lv_at hl 1 rfl) ?_
      refine wk_get (own := RX5) (C := RX2) (T := TX2) (N := 7) (ci := 3) (v := .int (z_pe σ j)) hx hb hts i_X2 hown hK (hA.pass hj) rfl 4 (by decide) (hts _ (List.mem_of_getElem? (i := 3) rfl)) (fun _ h9 => h9) rfl dX5_areInConflict_43 ?_
      refine lv_aload_n hx hb dX5_areInConflict_46 rfl (lv_at hl 3 rfl) ?_
      refine wk_get (own := RX5) (C := RX2) (T := TX2) (N := 7) (ci := 3) (v := .ref (X.1 5 (z_pA σ i))) hx hb hts i_X2 hown hK (hA.pass hi) rfl 2 (by decide) (hts _ (List.mem_of_getElem? (i := 1) rfl)) (fun _ h9 => h9) rfl dX5_areInConflict_47 ?_
      refine wk_get (own := RX5) (C := RX0) (T := TX0) (N := 5) (ci := 1) (v := .int (z_au σ (z_pA σ i))) hx hb hts i_X0 hown hK (hA.ant (hI.pA hi)) rfl 2 (by decide) (hts _ (List.mem_of_getElem? (i := 4) rfl)) (fun _ h9 => h9) rfl dX5_areInConflict_50 ?_
      refine lv_iadd hx hb dX5_areInConflict_53 ?_
      refine lv_icmp_ge (tgt := 61) hx hb dX5_areInConflict_54 (by decide) (fun c_54 => ?_) (fun c_54 => ?_)
      · skip
        refine lv_iconst (v := 0) hx hb dX5_areInConflict_61 (by decide) ?_
        exact W.zret hx hb hr rfl (fun t ht _ => wk_ret (congrArg Value.int (by simp [f_conf, f_conf2, ← Int32.not_le, wk_b, e_5, e_16, e_34, c_54])) ht) wk_nil dX5_areInConflict_62
      refine lv_iconst (v := 1) hx hb dX5_areInConflict_57 (by decide) ?_
      refine lv_goto (tgt := 62) hx hb dX5_areInConflict_58 (by decide) ?_
      exact W.zret hx hb hr rfl (fun t ht _ => wk_ret (congrArg Value.int (by simp [f_conf, f_conf2, ← Int32.not_le, wk_b, e_5, e_16, e_34, c_54])) ht) wk_nil dX5_areInConflict_62
    have e_16 : j = i := hA.passI hj hi (Option.some.inj c_16)
    exact absurd e_16.symm hij
  have e_5 : (f_earl σ i j) = true := wk_b1 c_5
  refine lv_aload_n hx hb dX5_areInConflict_8 rfl (lv_at hl 1 rfl) ?_
  refine lv_goto (tgt := 13) hx hb dX5_areInConflict_9 (by decide) ?_
  refine lv_astore_n (lv' := [(3, .ref (X.1 7 i)), (0, .ref (X.1 0 0)), (1, .ref (X.1 7 i)), (2, .ref (X.1 7 j))]) hx hb dX5_areInConflict_13 rfl hl (by decide) rfl (fun ls hl => ?_)
  refine lv_aload_n hx hb dX5_areInConflict_14 rfl (lv_at hl 0 rfl) ?_
  refine lv_aload_n hx hb dX5_areInConflict_15 rfl (lv_at hl 2 rfl) ?_
  refine lv_acmp_ne (rx := some (X.1 7 i)) (ry := some (X.1 7 i)) (tgt := 23) hx hb dX5_areInConflict_16 (by decide) (fun c_16 => ?_) (fun c_16 => ?_)
  · skip
    have e_16 : ¬ i = i := fun q => c_16 (by rw [q])
    exact absurd rfl e_16
  have e_16 : i = i := hA.passI hi hi (Option.some.inj c_16)
  refine lv_aload_n hx hb dX5_areInConflict_19 rfl (lv_at hl 3 rfl) ?_
  refine lv_goto (tgt := 24) hx hb dX5_areInConflict_20 (by decide) ?_
  refine lv_astore (lv' := [(4, .ref (X.1 7 j)), (3, .ref (X.1 7 i)), (0, .ref (X.1 0 0)), (1, .ref (X.1 7 i)), (2, .ref (X.1 7 j))]) hx hb dX5_areInConflict_24 hl (by decide) rfl (fun ls hl => ?_)
  refine lv_aload_n hx hb dX5_areInConflict_26 rfl (lv_at hl 3 rfl) ?_
  refine wk_get (own := RX5) (C := RX2) (T := TX2) (N := 7) (ci := 3) (v := .ref (X.1 5 (z_pA σ i))) hx hb hts i_X2 hown hK (hA.pass hi) rfl 2 (by decide) (hts _ (List.mem_of_getElem? (i := 1) rfl)) (fun _ h9 => h9) rfl dX5_areInConflict_27 ?_
  refine lv_aload_n hx hb dX5_areInConflict_30 rfl (lv_at hl 4 rfl) ?_
  refine wk_get (own := RX5) (C := RX2) (T := TX2) (N := 7) (ci := 3) (v := .ref (X.1 5 (z_pA σ j))) hx hb hts i_X2 hown hK (hA.pass hj) rfl 2 (by decide) (hts _ (List.mem_of_getElem? (i := 1) rfl)) (fun _ h9 => h9) rfl dX5_areInConflict_31 ?_
  refine lv_acmp_ne (rx := some (X.1 5 (z_pA σ i))) (ry := some (X.1 5 (z_pA σ j))) (tgt := 63) hx hb dX5_areInConflict_34 (by decide) (fun c_34 => ?_) (fun c_34 => ?_)
  · skip
    have e_34 : ¬ (z_pA σ i) = (z_pA σ j) := fun q => c_34 (by rw [q])
    refine lv_aload_n hx hb dX5_areInConflict_63 rfl (lv_at hl 3 rfl) ?_
    refine wk_get (own := RX5) (C := RX2) (T := TX2) (N := 7) (ci := 3) (v := .ref (X.1 6 (z_pS σ i))) hx hb hts i_X2 hown hK (hA.pass hi) rfl 1 (by decide) (hts _ (List.mem_of_getElem? (i := 5) rfl)) (fun _ h9 => h9) rfl dX5_areInConflict_64 ?_
    refine lv_aload_n hx hb dX5_areInConflict_67 rfl (lv_at hl 4 rfl) ?_
    refine wk_get (own := RX5) (C := RX2) (T := TX2) (N := 7) (ci := 3) (v := .ref (X.1 6 (z_pS σ j))) hx hb hts i_X2 hown hK (hA.pass hj) rfl 1 (by decide) (hts _ (List.mem_of_getElem? (i := 5) rfl)) (fun _ h9 => h9) rfl dX5_areInConflict_68 ?_
    refine lv_acmp_eq (rx := some (X.1 6 (z_pS σ i))) (ry := some (X.1 6 (z_pS σ j))) (tgt := 76) hx hb dX5_areInConflict_71 (by decide) (fun c_71 => ?_) (fun c_71 => ?_)
    · skip
      have e_71 : (z_pS σ i) = (z_pS σ j) := hA.satI (hI.pS hi) (hI.pS hj) (Option.some.inj c_71)
      refine lv_aload hx hb dX5_areInConflict_76 (lv_at hl 0 rfl) ?_
      refine wk_get (own := RX5) (C := RX2) (T := TX2) (N := 7) (ci := 3) (v := .int (z_pe σ j)) hx hb hts i_X2 hown hK (hA.pass hj) rfl 4 (by decide) (hts _ (List.mem_of_getElem? (i := 3) rfl)) (fun _ h9 => h9) rfl dX5_areInConflict_78 ?_
      refine lv_aload_n hx hb dX5_areInConflict_81 rfl (lv_at hl 1 rfl) ?_
      refine wk_get (own := RX5) (C := RX2) (T := TX2) (N := 7) (ci := 3) (v := .int (z_pe σ i)) hx hb hts i_X2 hown hK (hA.pass hi) rfl 4 (by decide) (hts _ (List.mem_of_getElem? (i := 3) rfl)) (fun _ h9 => h9) rfl dX5_areInConflict_82 ?_
      refine lv_icmp_le (tgt := 105) hx hb dX5_areInConflict_85 (by decide) (fun c_85 => ?_) (fun c_85 => ?_)
      · skip
        refine lv_iconst (v := 1) hx hb dX5_areInConflict_105 (by decide) ?_
        refine lv_goto (tgt := 110) hx hb dX5_areInConflict_106 (by decide) ?_
        exact W.zret hx hb hr rfl (fun t ht _ => wk_ret (congrArg Value.int (by simp [f_conf, f_conf2, ← Int32.not_le, wk_b, e_5, e_16, e_34, e_71, c_85])) ht) wk_nil dX5_areInConflict_110
      refine lv_aload_n hx hb dX5_areInConflict_88 rfl (lv_at hl 1 rfl) ?_
      refine wk_get (own := RX5) (C := RX2) (T := TX2) (N := 7) (ci := 3) (v := .int (z_pe σ i)) hx hb hts i_X2 hown hK (hA.pass hi) rfl 4 (by decide) (hts _ (List.mem_of_getElem? (i := 3) rfl)) (fun _ h9 => h9) rfl dX5_areInConflict_89 ?_
      refine lv_aload hx hb dX5_areInConflict_92 (lv_at hl 0 rfl) ?_
      refine wk_get (own := RX5) (C := RX2) (T := TX2) (N := 7) (ci := 3) (v := .int (z_pb σ j)) hx hb hts i_X2 hown hK (hA.pass hj) rfl 3 (by decide) (hts _ (List.mem_of_getElem? (i := 2) rfl)) (fun _ h9 => h9) rfl dX5_areInConflict_94 ?_
      refine lv_isub hx hb dX5_areInConflict_97 ?_
      refine lv_aload_n hx hb dX5_areInConflict_98 rfl (lv_at hl 2 rfl) ?_
      refine wk_get (own := RX5) (C := RX5) (T := TX5) (N := 7) (ci := 6) (v := .int (z_ho σ)) hx hb hts i_X5 hown hK hA.desk rfl 6 (by decide) (hts _ (List.mem_of_getElem? (i := 6) rfl)) (fun _ h9 => h9) rfl dX5_areInConflict_99 ?_
      refine lv_icmp_le (tgt := 109) hx hb dX5_areInConflict_102 (by decide) (fun c_102 => ?_) (fun c_102 => ?_)
      · skip
        refine lv_iconst (v := 0) hx hb dX5_areInConflict_109 (by decide) ?_
        exact W.zret hx hb hr rfl (fun t ht _ => wk_ret (congrArg Value.int (by simp [f_conf, f_conf2, ← Int32.not_le, wk_b, e_5, e_16, e_34, e_71, c_85, c_102])) ht) wk_nil dX5_areInConflict_110
      refine lv_iconst (v := 1) hx hb dX5_areInConflict_105 (by decide) ?_
      refine lv_goto (tgt := 110) hx hb dX5_areInConflict_106 (by decide) ?_
      exact W.zret hx hb hr rfl (fun t ht _ => wk_ret (congrArg Value.int (by simp [f_conf, f_conf2, ← Int32.not_le, wk_b, e_5, e_16, e_34, e_71, c_85, c_102])) ht) wk_nil dX5_areInConflict_110
    have e_71 : ¬ (z_pS σ i) = (z_pS σ j) := fun q => c_71 (by rw [q])
    refine lv_iconst (v := 0) hx hb dX5_areInConflict_74 (by decide) ?_
    exact W.zret hx hb hr rfl (fun t ht _ => wk_ret (congrArg Value.int (by simp [f_conf, f_conf2, ← Int32.not_le, wk_b, e_5, e_16, e_34, e_71])) ht) wk_nil dX5_areInConflict_75
  have e_34 : (z_pA σ i) = (z_pA σ j) := hA.antI (hI.pA hi) (hI.pA hj) (Option.some.inj c_34)
  refine lv_aload hx hb dX5_areInConflict_37 (lv_at hl 0 rfl) ?_
  refine wk_get (own := RX5) (C := RX2) (T := TX2) (N := 7) (ci := 3) (v := .int (z_pb σ j)) hx hb hts i_X2 hown hK (hA.pass hj) rfl 3 (by decide) (hts _ (List.mem_of_getElem? (i := 2) rfl)) (fun _ h9 => h9) rfl dX5_areInConflict_39 ?_
  refine lv_aload_n hx hb dX5_areInConflict_42 rfl (lv_at hl 1 rfl) ?_
  refine wk_get (own := RX5) (C := RX2) (T := TX2) (N := 7) (ci := 3) (v := .int (z_pe σ i)) hx hb hts i_X2 hown hK (hA.pass hi) rfl 4 (by decide) (hts _ (List.mem_of_getElem? (i := 3) rfl)) (fun _ h9 => h9) rfl dX5_areInConflict_43 ?_
  refine lv_aload_n hx hb dX5_areInConflict_46 rfl (lv_at hl 3 rfl) ?_
  refine wk_get (own := RX5) (C := RX2) (T := TX2) (N := 7) (ci := 3) (v := .ref (X.1 5 (z_pA σ i))) hx hb hts i_X2 hown hK (hA.pass hi) rfl 2 (by decide) (hts _ (List.mem_of_getElem? (i := 1) rfl)) (fun _ h9 => h9) rfl dX5_areInConflict_47 ?_
  refine wk_get (own := RX5) (C := RX0) (T := TX0) (N := 5) (ci := 1) (v := .int (z_au σ (z_pA σ i))) hx hb hts i_X0 hown hK (hA.ant (hI.pA hi)) rfl 2 (by decide) (hts _ (List.mem_of_getElem? (i := 4) rfl)) (fun _ h9 => h9) rfl dX5_areInConflict_50 ?_
  refine lv_iadd hx hb dX5_areInConflict_53 ?_
  refine lv_icmp_ge (tgt := 61) hx hb dX5_areInConflict_54 (by decide) (fun c_54 => ?_) (fun c_54 => ?_)
  · skip
    refine lv_iconst (v := 0) hx hb dX5_areInConflict_61 (by decide) ?_
    exact W.zret hx hb hr rfl (fun t ht _ => wk_ret (congrArg Value.int (by simp [f_conf, f_conf2, ← Int32.not_le, wk_b, e_5, e_16, e_34, c_54])) ht) wk_nil dX5_areInConflict_62
  refine lv_iconst (v := 1) hx hb dX5_areInConflict_57 (by decide) ?_
  refine lv_goto (tgt := 62) hx hb dX5_areInConflict_58 (by decide) ?_
  exact W.zret hx hb hr rfl (fun t ht _ => wk_ret (congrArg Value.int (by simp [f_conf, f_conf2, ← Int32.not_le, wk_b, e_5, e_16, e_34, c_54])) ht) wk_nil dX5_areInConflict_62

abbrev rmX5_conflictsOf : Room := { frames := 3, cells := 0, slots := 0, locals := 64 }
set_option maxHeartbeats 4000000 in
set_option maxRecDepth 100000 in
theorem c_X5_conflictsOf (l : Launch) (E : wk_E) {T : Nat → Nat × Nat} {X : z_X} {σ : z_S} {H : Heap} (hA : DA E T X σ H) (hI : z_Ok σ) {i : Nat} (hi : i < z_n σ 2) : wk_Met l yX5_conflictsOf wsX5_conflictsOf rmX5_conflictsOf E H [.ref (X.1 0 0), .ref (X.1 7 i)] (some (.int (nI (f_cfl σ i)))) := by
  refine Met.ofW (cc := cX5_conflictsOf) (maxL := 5) (ret := (some .int)) (by decide) rfl ?_
  intro p e s m args below meth c s₁ B hml hv
  obtain ⟨rfl, hH, hK⟩ := hv
  subst hH
  have hx := B.exec
  have hb := B.bytes
  have hr := B.returns
  have hts := atoms_spec (ws := wsX5_conflictsOf) B.pre
  have hown : s.vm.findClass RX5 = some m.cls := findClass_of_methodNamed B.named
  have hlocks := B.notSynchronized
  have i_X5 : ∀ w ∈ u_ws RX5 TX5 7, w ∈ wsX5_conflictsOf := fun w h => (List.mem_cons_of_mem _ (List.mem_append_left _ (List.mem_append_left _ (List.mem_append_left _ (List.mem_append_right _ h)))))
  have hl := lv_entry [.ref (X.1 0 0), .ref (X.1 7 i)] (n := 5) (Nat.le_of_ble_eq_true rfl)
  rw [lg_entry_eq]
  generalize (lg_sl [.ref (X.1 0 0), .ref (X.1 7 i)] ++ List.replicate (5 - (lg_sl [.ref (X.1 0 0), .ref (X.1 7 i)]).length) Slot.unset).toArray = ls at hl ⊢
  have hl : lv_has ls 5 [(0, .ref (X.1 0 0)), (1, .ref (X.1 7 i))] := hl
  have b0 := hI.n0
  have b1 := hI.n1
  have b2 := hI.n2
  have b3 := hI.n3
  refine lv_iconst (v := 0) hx hb dX5_conflictsOf_0 (by decide) ?_
  refine lv_istore_n (lv' := [(2, .int 0), (0, .ref (X.1 0 0)), (1, .ref (X.1 7 i))]) hx hb dX5_conflictsOf_1 rfl hl (by decide) rfl (fun ls hl => ?_)
  refine lv_iconst (v := 0) hx hb dX5_conflictsOf_2 (by decide) ?_
  refine lv_istore_n (lv' := [(3, .int 0), (2, .int 0), (0, .ref (X.1 0 0)), (1, .ref (X.1 7 i))]) hx hb dX5_conflictsOf_3 rfl hl (by decide) rfl (fun ls hl => ?_)
  have L_4 : ∀ (n_4 : Nat) (k : Nat), z_n σ 2 - k < n_4 → (k ≤ z_n σ 2) → ∀ ls : Array Slot, lv_has ls 5 [(0, .ref (X.1 0 0)), (1, .ref (X.1 7 i)), (2, .int (nI (f_set (fun k => !decide (k = i) && f_conf σ i k) k))), (3, .int (nI k))] → W p l e (headSpec wsX5_conflictsOf rmX5_conflictsOf).room s m ([.ref (X.1 0 0), .ref (X.1 7 i)] : List Value).toArray below meth c s.heap [] 0 0 (MQ below (wk_Q (some (.int (nI (f_cfl σ i))))) ([.ref (X.1 0 0), .ref (X.1 7 i)] : List Value).toArray s 0 0 (fun _ => False)) (F0 m 4 ls []) := by
    intro n_4
    induction n_4 with
    | zero => intro k hm; exact absurd hm (Nat.not_lt_zero _)
    | succ n_4 ih_4 =>
      intro k hm_4 hk_k ls hl
      refine lv_iload_n hx hb dX5_conflictsOf_4 rfl (lv_at hl 3 rfl) ?_
      refine lv_aload_n hx hb dX5_conflictsOf_5 rfl (lv_at hl 0 rfl) ?_
      refine wk_get (own := RX5) (C := RX5) (T := TX5) (N := 7) (ci := 6) (v := .ref (X.1 1 2)) hx hb hts i_X5 hown hK hA.desk rfl 2 (by decide) (hts _ (List.mem_of_getElem? (i := 1) rfl)) (fun _ h9 => h9) rfl dX5_conflictsOf_6 ?_
      refine wk_V (As := []) (rest := [.int (nI k)]) ⟨hx, hb, hml, hown, hts⟩ (c_size2 l E hA) (cwV 0 hts gX5_conflictsOf_Jx4a65c_size_8abf5 rfl rfl rfl (by decide +kernel) ⟨(Nat.le_of_ble_eq_true rfl), (Nat.le_of_ble_eq_true rfl)⟩) (wk_recv hK (hA.list (j := 2) (by decide)) rfl) hK rfl hl.1 rfl (Nat.le_of_ble_eq_true rfl) dX5_conflictsOf_9 ⟨Nat.zero_le _, Nat.zero_le _⟩ ?_
      refine lv_icmp_ge (tgt := 56) hx hb dX5_conflictsOf_12 (by decide) (fun c_12 => ?_) (fun c_12 => ?_)
      · skip
        have e_12 : (z_n σ 2) ≤ k := wk_cget (by omega) (by omega) c_12
        have hkN : k = z_n σ 2 := by omega
        subst hkN
        refine lv_iload_n hx hb dX5_conflictsOf_56 rfl (lv_at hl 2 rfl) ?_
        exact W.iret hx hb hr (fun t ht _ => wk_ret (congrArg Value.int (by rw [hkN]; rfl)) ht) wk_nil dX5_conflictsOf_57
      have e_12 : k < (z_n σ 2) := wk_cgef (by omega) (by omega) c_12
      refine lv_aload_n hx hb dX5_conflictsOf_15 rfl (lv_at hl 0 rfl) ?_
      refine wk_get (own := RX5) (C := RX5) (T := TX5) (N := 7) (ci := 6) (v := .ref (X.1 1 2)) hx hb hts i_X5 hown hK hA.desk rfl 2 (by decide) (hts _ (List.mem_of_getElem? (i := 1) rfl)) (fun _ h9 => h9) rfl dX5_conflictsOf_16 ?_
      refine lv_iload_n hx hb dX5_conflictsOf_19 rfl (lv_at hl 3 rfl) ?_
      refine wk_V (As := [.int (nI k)]) (rest := []) ⟨hx, hb, hml, hown, hts⟩ (c_get2 l E hA hI e_12) (cwV 1 hts gX5_conflictsOf_Jx4a65c_get_915e3 rfl rfl rfl (by decide +kernel) ⟨(Nat.le_of_ble_eq_true rfl), (Nat.le_of_ble_eq_true rfl)⟩) (wk_recv hK (hA.list (j := 2) (by decide)) rfl) hK rfl hl.1 rfl (Nat.le_of_ble_eq_true rfl) dX5_conflictsOf_20 ⟨Nat.zero_le _, Nat.zero_le _⟩ ?_
      refine va_castS (own := RX5) hx hb hown (hts _ (List.mem_of_getElem? (i := 2) rfl)) (hK.1.1 3 _ rfl).2 (wk_recv hK (hA.pass e_12) rfl) dX5_conflictsOf_23 ?_
      refine lv_astore (lv' := [(4, .ref (X.1 7 k)), (0, .ref (X.1 0 0)), (1, .ref (X.1 7 i)), (2, .int (nI (f_set (fun k => !decide (k = i) && f_conf σ i k) k))), (3, .int (nI k))]) hx hb dX5_conflictsOf_26 hl (by decide) rfl (fun ls hl => ?_)
      refine lv_aload hx hb dX5_conflictsOf_28 (lv_at hl 0 rfl) ?_
      refine lv_aload_n hx hb dX5_conflictsOf_30 rfl (lv_at hl 2 rfl) ?_
      refine lv_acmp_eq (rx := some (X.1 7 k)) (ry := some (X.1 7 i)) (tgt := 50) hx hb dX5_conflictsOf_31 (by decide) (fun c_31 => ?_) (fun c_31 => ?_)
      · skip
        have e_31 : k = i := hA.passI e_12 hi (Option.some.inj c_31)
        refine lv_iinc (v := nI (k + 1)) (lv' := [(3, .int (nI (k + 1))), (4, .ref (X.1 7 k)), (0, .ref (X.1 0 0)), (1, .ref (X.1 7 i)), (2, .int (nI (f_set (fun k => !decide (k = i) && f_conf σ i k) k)))]) hx hb dX5_conflictsOf_50 hl (k := 4) rfl (nI_1 _) (by decide) rfl (fun ls hl => ?_)
        refine lv_goto (tgt := 4) hx hb dX5_conflictsOf_53 (by decide) ?_
        have hl : lv_has ls 5 [(3, .int (nI (k + 1))), (4, .ref (X.1 7 k)), (0, .ref (X.1 0 0)), (1, .ref (X.1 7 i)), (2, .int (nI (f_set (fun k => !decide (k = i) && f_conf σ i k) (k + 1))))] := by rw [show nI (f_set (fun k => !decide (k = i) && f_conf σ i k) (k + 1)) = nI (f_set (fun k => !decide (k = i) && f_conf σ i k) k) from (by simp [f_set, e_31])]; exact hl
        exact ih_4 (k + 1) (by omega) (by omega) ls (lv_sub hl [2, 3, 4, 0] rfl)
      have e_31 : ¬ k = i := fun q => c_31 (by rw [q])
      refine lv_aload_n hx hb dX5_conflictsOf_34 rfl (lv_at hl 1 rfl) ?_
      refine lv_aload_n hx hb dX5_conflictsOf_35 rfl (lv_at hl 2 rfl) ?_
      refine lv_aload hx hb dX5_conflictsOf_36 (lv_at hl 0 rfl) ?_
      refine wk_V (As := [.ref (X.1 7 i), .ref (X.1 7 k)]) (rest := []) ⟨hx, hb, hml, hown, hts⟩ (c_X5_areInConflict l E hA hI hi e_12 (fun q => e_31 q.symm)) (cwV 2 hts gX5_conflictsOf_X5_areInConflict rfl rfl rfl (by decide +kernel) ⟨(Nat.le_of_ble_eq_true rfl), (Nat.le_of_ble_eq_true rfl)⟩) (wk_recv hK hA.desk rfl) hK rfl hl.1 rfl (Nat.le_of_ble_eq_true rfl) dX5_conflictsOf_38 ⟨Nat.zero_le _, Nat.zero_le _⟩ ?_
      refine lv_if_eq (tgt := 50) hx hb dX5_conflictsOf_41 (by decide) (fun c_41 => ?_) (fun c_41 => ?_)
      · skip
        have e_41 : (f_conf σ i k) = false := wk_b0 c_41
        refine lv_iinc (v := nI (k + 1)) (lv' := [(3, .int (nI (k + 1))), (4, .ref (X.1 7 k)), (0, .ref (X.1 0 0)), (1, .ref (X.1 7 i)), (2, .int (nI (f_set (fun k => !decide (k = i) && f_conf σ i k) k)))]) hx hb dX5_conflictsOf_50 hl (k := 4) rfl (nI_1 _) (by decide) rfl (fun ls hl => ?_)
        refine lv_goto (tgt := 4) hx hb dX5_conflictsOf_53 (by decide) ?_
        have hl : lv_has ls 5 [(3, .int (nI (k + 1))), (4, .ref (X.1 7 k)), (0, .ref (X.1 0 0)), (1, .ref (X.1 7 i)), (2, .int (nI (f_set (fun k => !decide (k = i) && f_conf σ i k) (k + 1))))] := by rw [show nI (f_set (fun k => !decide (k = i) && f_conf σ i k) (k + 1)) = nI (f_set (fun k => !decide (k = i) && f_conf σ i k) k) from (by simp [f_set, e_31, e_41])]; exact hl
        exact ih_4 (k + 1) (by omega) (by omega) ls (lv_sub hl [2, 3, 4, 0] rfl)
      have e_41 : (f_conf σ i k) = true := wk_b1 c_41
      refine lv_iload_n hx hb dX5_conflictsOf_44 rfl (lv_at hl 3 rfl) ?_
      refine lv_iconst (v := 1) hx hb dX5_conflictsOf_45 (by decide) ?_
      refine lv_iload_n hx hb dX5_conflictsOf_46 rfl (lv_at hl 4 rfl) ?_
      refine lv_ishl hx hb dX5_conflictsOf_47 ?_
      refine lv_ior hx hb dX5_conflictsOf_48 ?_
      refine lv_istore_n (lv' := [(2, .int ((nI (f_set (fun k => !decide (k = i) && f_conf σ i k) k)) ||| (1 <<< ((nI k) &&& 31)))), (4, .ref (X.1 7 k)), (0, .ref (X.1 0 0)), (1, .ref (X.1 7 i)), (3, .int (nI k))]) hx hb dX5_conflictsOf_49 rfl hl (by decide) rfl (fun ls hl => ?_)
      refine lv_iinc (v := nI (k + 1)) (lv' := [(3, .int (nI (k + 1))), (2, .int ((nI (f_set (fun k => !decide (k = i) && f_conf σ i k) k)) ||| (1 <<< ((nI k) &&& 31)))), (4, .ref (X.1 7 k)), (0, .ref (X.1 0 0)), (1, .ref (X.1 7 i))]) hx hb dX5_conflictsOf_50 hl (k := 4) rfl (nI_1 _) (by decide) rfl (fun ls hl => ?_)
      refine lv_goto (tgt := 4) hx hb dX5_conflictsOf_53 (by decide) ?_
      have hl : lv_has ls 5 [(3, .int (nI (k + 1))), (2, .int (nI (f_set (fun k => !decide (k = i) && f_conf σ i k) (k + 1)))), (4, .ref (X.1 7 k)), (0, .ref (X.1 0 0)), (1, .ref (X.1 7 i))] := by rw [show nI (f_set (fun k => !decide (k = i) && f_conf σ i k) (k + 1)) = (nI (f_set (fun k => !decide (k = i) && f_conf σ i k) k)) ||| (1 <<< ((nI k) &&& 31)) from (by simp [f_set, e_31, e_41, wk_or1 (show k < 31 by omega)])]; exact hl
      exact ih_4 (k + 1) (by omega) (by omega) ls (lv_sub hl [3, 4, 1, 0] rfl)
  exact L_4 _ 0 (Nat.lt_succ_self _) (Nat.zero_le _) ls (lv_sub hl [2, 3, 1, 0] rfl)

abbrev rmX5_isInConflictWithTaken : Room := { frames := 3, cells := 0, slots := 0, locals := 64 }
set_option maxHeartbeats 4000000 in
set_option maxRecDepth 100000 in
theorem c_X5_isInConflictWithTaken (l : Launch) (E : wk_E) {T : Nat → Nat × Nat} {X : z_X} {σ : z_S} {H : Heap} (hA : DA E T X σ H) (hI : z_Ok σ) {i : Nat} (hi : i < z_n σ 2) : wk_Met l yX5_isInConflictWithTaken wsX5_isInConflictWithTaken rmX5_isInConflictWithTaken E H [.ref (X.1 0 0), .ref (X.1 7 i)] (some (.int (wk_b (f_inc σ i)))) := by
  refine Met.ofW (cc := cX5_isInConflictWithTaken) (maxL := 4) (ret := (some .boolean)) (by decide) rfl ?_
  intro p e s m args below meth c s₁ B hml hv
  obtain ⟨rfl, hH, hK⟩ := hv
  subst hH
  have hx := B.exec
  have hb := B.bytes
  have hr := B.returns
  have hts := atoms_spec (ws := wsX5_isInConflictWithTaken) B.pre
  have hown : s.vm.findClass RX5 = some m.cls := findClass_of_methodNamed B.named
  have hlocks := B.notSynchronized
  have i_X5 : ∀ w ∈ u_ws RX5 TX5 7, w ∈ wsX5_isInConflictWithTaken := fun w h => (List.mem_cons_of_mem _ (List.mem_append_left _ (List.mem_append_left _ (List.mem_append_left _ (List.mem_append_right _ h)))))
  have i_X2 : ∀ w ∈ u_ws RX2 TX2 7, w ∈ wsX5_isInConflictWithTaken := fun w h => (List.mem_cons_of_mem _ (List.mem_append_left _ (List.mem_append_left _ (List.mem_append_right _ h))))
  have hl := lv_entry [.ref (X.1 0 0), .ref (X.1 7 i)] (n := 4) (Nat.le_of_ble_eq_true rfl)
  rw [lg_entry_eq]
  generalize (lg_sl [.ref (X.1 0 0), .ref (X.1 7 i)] ++ List.replicate (4 - (lg_sl [.ref (X.1 0 0), .ref (X.1 7 i)]).length) Slot.unset).toArray = ls at hl ⊢
  have hl : lv_has ls 4 [(0, .ref (X.1 0 0)), (1, .ref (X.1 7 i))] := hl
  have b0 := hI.n0
  have b1 := hI.n1
  have b2 := hI.n2
  have b3 := hI.n3
  refine lv_iconst (v := 0) hx hb dX5_isInConflictWithTaken_0 (by decide) ?_
  refine lv_istore_n (lv' := [(2, .int 0), (0, .ref (X.1 0 0)), (1, .ref (X.1 7 i))]) hx hb dX5_isInConflictWithTaken_1 rfl hl (by decide) rfl (fun ls hl => ?_)
  have L_2 : ∀ (n_2 : Nat) (k : Nat), z_n σ 2 - k < n_2 → (k ≤ z_n σ 2) → (f_any (fun k => !decide (k = i) && (z_tk σ k && f_conf σ i k)) k = false) → ∀ ls : Array Slot, lv_has ls 4 [(0, .ref (X.1 0 0)), (1, .ref (X.1 7 i)), (2, .int (nI k))] → W p l e (headSpec wsX5_isInConflictWithTaken rmX5_isInConflictWithTaken).room s m ([.ref (X.1 0 0), .ref (X.1 7 i)] : List Value).toArray below meth c s.heap [] 0 0 (MQ below (wk_Q (some (.int (wk_b (f_inc σ i))))) ([.ref (X.1 0 0), .ref (X.1 7 i)] : List Value).toArray s 0 0 (fun _ => False)) (F0 m 2 ls []) := by
    intro n_2
    induction n_2 with
    | zero => intro k hm; exact absurd hm (Nat.not_lt_zero _)
    | succ n_2 ih_2 =>
      intro k hm_2 hk_k hf ls hl
      refine lv_iload_n hx hb dX5_isInConflictWithTaken_2 rfl (lv_at hl 2 rfl) ?_
      refine lv_aload_n hx hb dX5_isInConflictWithTaken_3 rfl (lv_at hl 0 rfl) ?_
      refine wk_get (own := RX5) (C := RX5) (T := TX5) (N := 7) (ci := 6) (v := .ref (X.1 1 2)) hx hb hts i_X5 hown hK hA.desk rfl 2 (by decide) (hts _ (List.mem_of_getElem? (i := 1) rfl)) (fun _ h9 => h9) rfl dX5_isInConflictWithTaken_4 ?_
      refine wk_V (As := []) (rest := [.int (nI k)]) ⟨hx, hb, hml, hown, hts⟩ (c_size2 l E hA) (cwV 0 hts gX5_isInConflictWithTaken_Jx4a65c_size_8abf5 rfl rfl rfl (by decide +kernel) ⟨(Nat.le_of_ble_eq_true rfl), (Nat.le_of_ble_eq_true rfl)⟩) (wk_recv hK (hA.list (j := 2) (by decide)) rfl) hK rfl hl.1 rfl (Nat.le_of_ble_eq_true rfl) dX5_isInConflictWithTaken_7 ⟨Nat.zero_le _, Nat.zero_le _⟩ ?_
      refine lv_icmp_ge (tgt := 54) hx hb dX5_isInConflictWithTaken_10 (by decide) (fun c_10 => ?_) (fun c_10 => ?_)
      · skip
        have e_10 : (z_n σ 2) ≤ k := wk_cget (by omega) (by omega) c_10
        have hkN : k = z_n σ 2 := by omega
        subst hkN
        refine lv_iconst (v := 0) hx hb dX5_isInConflictWithTaken_54 (by decide) ?_
        exact W.zret hx hb hr rfl (fun t ht _ => wk_ret (congrArg Value.int ((wk_bf (by rw [f_inc, ← hkN]; exact hf)).symm)) ht) wk_nil dX5_isInConflictWithTaken_55
      have e_10 : k < (z_n σ 2) := wk_cgef (by omega) (by omega) c_10
      refine lv_aload_n hx hb dX5_isInConflictWithTaken_13 rfl (lv_at hl 0 rfl) ?_
      refine wk_get (own := RX5) (C := RX5) (T := TX5) (N := 7) (ci := 6) (v := .ref (X.1 1 2)) hx hb hts i_X5 hown hK hA.desk rfl 2 (by decide) (hts _ (List.mem_of_getElem? (i := 1) rfl)) (fun _ h9 => h9) rfl dX5_isInConflictWithTaken_14 ?_
      refine lv_iload_n hx hb dX5_isInConflictWithTaken_17 rfl (lv_at hl 2 rfl) ?_
      refine wk_V (As := [.int (nI k)]) (rest := []) ⟨hx, hb, hml, hown, hts⟩ (c_get2 l E hA hI e_10) (cwV 1 hts gX5_isInConflictWithTaken_Jx4a65c_get_915e3 rfl rfl rfl (by decide +kernel) ⟨(Nat.le_of_ble_eq_true rfl), (Nat.le_of_ble_eq_true rfl)⟩) (wk_recv hK (hA.list (j := 2) (by decide)) rfl) hK rfl hl.1 rfl (Nat.le_of_ble_eq_true rfl) dX5_isInConflictWithTaken_18 ⟨Nat.zero_le _, Nat.zero_le _⟩ ?_
      refine va_castS (own := RX5) hx hb hown (hts _ (List.mem_of_getElem? (i := 2) rfl)) (hK.1.1 3 _ rfl).2 (wk_recv hK (hA.pass e_10) rfl) dX5_isInConflictWithTaken_21 ?_
      refine lv_astore_n (lv' := [(3, .ref (X.1 7 k)), (0, .ref (X.1 0 0)), (1, .ref (X.1 7 i)), (2, .int (nI k))]) hx hb dX5_isInConflictWithTaken_24 rfl hl (by decide) rfl (fun ls hl => ?_)
      refine lv_aload_n hx hb dX5_isInConflictWithTaken_25 rfl (lv_at hl 0 rfl) ?_
      refine lv_aload_n hx hb dX5_isInConflictWithTaken_26 rfl (lv_at hl 2 rfl) ?_
      refine lv_acmp_eq (rx := some (X.1 7 k)) (ry := some (X.1 7 i)) (tgt := 48) hx hb dX5_isInConflictWithTaken_27 (by decide) (fun c_27 => ?_) (fun c_27 => ?_)
      · skip
        have e_27 : k = i := hA.passI e_10 hi (Option.some.inj c_27)
        refine lv_iinc (v := nI (k + 1)) (lv' := [(2, .int (nI (k + 1))), (3, .ref (X.1 7 k)), (0, .ref (X.1 0 0)), (1, .ref (X.1 7 i))]) hx hb dX5_isInConflictWithTaken_48 hl (k := 3) rfl (nI_1 _) (by decide) rfl (fun ls hl => ?_)
        refine lv_goto (tgt := 2) hx hb dX5_isInConflictWithTaken_51 (by decide) ?_
        exact ih_2 (k + 1) (by omega) (by omega) (f_any_step hf (by simp [e_27])) ls (lv_sub hl [2, 3, 0] rfl)
      have e_27 : ¬ k = i := fun q => c_27 (by rw [q])
      refine lv_aload_n hx hb dX5_isInConflictWithTaken_30 rfl (lv_at hl 0 rfl) ?_
      refine wk_get (own := RX5) (C := RX2) (T := TX2) (N := 7) (ci := 3) (v := .int (wk_b (z_tk σ k))) hx hb hts i_X2 hown hK (hA.pass e_10) rfl 5 (by decide) (hts _ (List.mem_of_getElem? (i := 3) rfl)) (fun _ h9 => h9) rfl dX5_isInConflictWithTaken_31 ?_
      refine lv_if_eq (tgt := 48) hx hb dX5_isInConflictWithTaken_34 (by decide) (fun c_34 => ?_) (fun c_34 => ?_)
      · skip
        have e_34 : (z_tk σ k) = false := wk_b0 c_34
        refine lv_iinc (v := nI (k + 1)) (lv' := [(2, .int (nI (k + 1))), (3, .ref (X.1 7 k)), (0, .ref (X.1 0 0)), (1, .ref (X.1 7 i))]) hx hb dX5_isInConflictWithTaken_48 hl (k := 3) rfl (nI_1 _) (by decide) rfl (fun ls hl => ?_)
        refine lv_goto (tgt := 2) hx hb dX5_isInConflictWithTaken_51 (by decide) ?_
        exact ih_2 (k + 1) (by omega) (by omega) (f_any_step hf (by simp [e_27, e_34])) ls (lv_sub hl [2, 3, 0] rfl)
      have e_34 : (z_tk σ k) = true := wk_b1 c_34
      refine lv_aload_n hx hb dX5_isInConflictWithTaken_37 rfl (lv_at hl 1 rfl) ?_
      refine lv_aload_n hx hb dX5_isInConflictWithTaken_38 rfl (lv_at hl 2 rfl) ?_
      refine lv_aload_n hx hb dX5_isInConflictWithTaken_39 rfl (lv_at hl 0 rfl) ?_
      refine wk_V (As := [.ref (X.1 7 i), .ref (X.1 7 k)]) (rest := []) ⟨hx, hb, hml, hown, hts⟩ (c_X5_areInConflict l E hA hI hi e_10 (fun q => e_27 q.symm)) (cwV 2 hts gX5_isInConflictWithTaken_X5_areInConflict rfl rfl rfl (by decide +kernel) ⟨(Nat.le_of_ble_eq_true rfl), (Nat.le_of_ble_eq_true rfl)⟩) (wk_recv hK hA.desk rfl) hK rfl hl.1 rfl (Nat.le_of_ble_eq_true rfl) dX5_isInConflictWithTaken_40 ⟨Nat.zero_le _, Nat.zero_le _⟩ ?_
      refine lv_if_eq (tgt := 48) hx hb dX5_isInConflictWithTaken_43 (by decide) (fun c_43 => ?_) (fun c_43 => ?_)
      · skip
        have e_43 : (f_conf σ i k) = false := wk_b0 c_43
        refine lv_iinc (v := nI (k + 1)) (lv' := [(2, .int (nI (k + 1))), (3, .ref (X.1 7 k)), (0, .ref (X.1 0 0)), (1, .ref (X.1 7 i))]) hx hb dX5_isInConflictWithTaken_48 hl (k := 3) rfl (nI_1 _) (by decide) rfl (fun ls hl => ?_)
        refine lv_goto (tgt := 2) hx hb dX5_isInConflictWithTaken_51 (by decide) ?_
        exact ih_2 (k + 1) (by omega) (by omega) (f_any_step hf (by simp [e_27, e_34, e_43])) ls (lv_sub hl [2, 3, 0] rfl)
      have e_43 : (f_conf σ i k) = true := wk_b1 c_43
      refine lv_iconst (v := 1) hx hb dX5_isInConflictWithTaken_46 (by decide) ?_
      exact W.zret hx hb hr rfl (fun t ht _ => wk_ret (congrArg Value.int ((wk_bt (f_any_yes e_10 (by simp [e_27, e_34, e_43]))).symm)) ht) wk_nil dX5_isInConflictWithTaken_47
  exact L_2 _ 0 (Nat.lt_succ_self _) (Nat.zero_le _) rfl ls (lv_sub hl [1, 2, 0] rfl)

abbrev rmX5_isOut : Room := { frames := 3, cells := 0, slots := 0, locals := 64 }
set_option maxHeartbeats 4000000 in
set_option maxRecDepth 100000 in
theorem c_X5_isOut (l : Launch) (E : wk_E) {T : Nat → Nat × Nat} {X : z_X} {σ : z_S} {H : Heap} (hA : DA E T X σ H) (hI : z_Ok σ) {a : Nat} (ha : a < z_n σ 0) {x y : Int32} : wk_Met l yX5_isOut wsX5_isOut rmX5_isOut E H [.ref (X.1 0 0), .ref (X.1 5 a), .int x, .int y] (some (.int (wk_b (f_out σ a x y)))) := by
  refine Met.ofW (cc := cX5_isOut) (maxL := 6) (ret := (some .boolean)) (by decide) rfl ?_
  intro p e s m args below meth c s₁ B hml hv
  obtain ⟨rfl, hH, hK⟩ := hv
  subst hH
  have hx := B.exec
  have hb := B.bytes
  have hr := B.returns
  have hts := atoms_spec (ws := wsX5_isOut) B.pre
  have hown : s.vm.findClass RX5 = some m.cls := findClass_of_methodNamed B.named
  have hlocks := B.notSynchronized
  have i_X5 : ∀ w ∈ u_ws RX5 TX5 7, w ∈ wsX5_isOut := fun w h => (List.mem_cons_of_mem _ (List.mem_append_left _ (List.mem_append_left _ (List.mem_append_right _ h))))
  have i_X1 : ∀ w ∈ u_ws RX1 TX1 3, w ∈ wsX5_isOut := fun w h => (List.mem_cons_of_mem _ (List.mem_append_left _ (List.mem_append_right _ h)))
  have hl := lv_entry [.ref (X.1 0 0), .ref (X.1 5 a), .int x, .int y] (n := 6) (Nat.le_of_ble_eq_true rfl)
  rw [lg_entry_eq]
  generalize (lg_sl [.ref (X.1 0 0), .ref (X.1 5 a), .int x, .int y] ++ List.replicate (6 - (lg_sl [.ref (X.1 0 0), .ref (X.1 5 a), .int x, .int y]).length) Slot.unset).toArray = ls at hl ⊢
  have hl : lv_has ls 6 [(0, .ref (X.1 0 0)), (1, .ref (X.1 5 a)), (2, .int x), (3, .int y)] := hl
  have b0 := hI.n0
  have b1 := hI.n1
  have b2 := hI.n2
  have b3 := hI.n3
  refine lv_iconst (v := 0) hx hb dX5_isOut_0 (by decide) ?_
  refine lv_istore (lv' := [(4, .int 0), (0, .ref (X.1 0 0)), (1, .ref (X.1 5 a)), (2, .int x), (3, .int y)]) hx hb dX5_isOut_1 hl (by decide) rfl (fun ls hl => ?_)
  have L_3 : ∀ (n_3 : Nat) (k : Nat), z_n σ 3 - k < n_3 → (k ≤ z_n σ 3) → (f_any (fun k => decide (z_oA σ k = a) && f_meets σ k x y) k = false) → ∀ ls : Array Slot, lv_has ls 6 [(0, .ref (X.1 0 0)), (1, .ref (X.1 5 a)), (2, .int x), (3, .int y), (4, .int (nI k))] → W p l e (headSpec wsX5_isOut rmX5_isOut).room s m ([.ref (X.1 0 0), .ref (X.1 5 a), .int x, .int y] : List Value).toArray below meth c s.heap [] 0 0 (MQ below (wk_Q (some (.int (wk_b (f_out σ a x y))))) ([.ref (X.1 0 0), .ref (X.1 5 a), .int x, .int y] : List Value).toArray s 0 0 (fun _ => False)) (F0 m 3 ls []) := by
    intro n_3
    induction n_3 with
    | zero => intro k hm; exact absurd hm (Nat.not_lt_zero _)
    | succ n_3 ih_3 =>
      intro k hm_3 hk_k hf ls hl
      refine lv_iload hx hb dX5_isOut_3 (lv_at hl 4 rfl) ?_
      refine lv_aload_n hx hb dX5_isOut_5 rfl (lv_at hl 0 rfl) ?_
      refine wk_get (own := RX5) (C := RX5) (T := TX5) (N := 7) (ci := 6) (v := .ref (X.1 1 3)) hx hb hts i_X5 hown hK hA.desk rfl 3 (by decide) (hts _ (List.mem_of_getElem? (i := 1) rfl)) (fun _ h9 => h9) rfl dX5_isOut_6 ?_
      refine wk_V (As := []) (rest := [.int (nI k)]) ⟨hx, hb, hml, hown, hts⟩ (c_size3 l E hA) (cwV 0 hts gX5_isOut_Jx4a65c_size_8abf5 rfl rfl rfl (by decide +kernel) ⟨(Nat.le_of_ble_eq_true rfl), (Nat.le_of_ble_eq_true rfl)⟩) (wk_recv hK (hA.list (j := 3) (by decide)) rfl) hK rfl hl.1 rfl (Nat.le_of_ble_eq_true rfl) dX5_isOut_9 ⟨Nat.zero_le _, Nat.zero_le _⟩ ?_
      refine lv_icmp_ge (tgt := 56) hx hb dX5_isOut_12 (by decide) (fun c_12 => ?_) (fun c_12 => ?_)
      · skip
        have e_12 : (z_n σ 3) ≤ k := wk_cget (by omega) (by omega) c_12
        have hkN : k = z_n σ 3 := by omega
        subst hkN
        refine lv_iconst (v := 0) hx hb dX5_isOut_56 (by decide) ?_
        exact W.zret hx hb hr rfl (fun t ht _ => wk_ret (congrArg Value.int ((wk_bf (by rw [f_out, ← hkN]; exact hf)).symm)) ht) wk_nil dX5_isOut_57
      have e_12 : k < (z_n σ 3) := wk_cgef (by omega) (by omega) c_12
      refine lv_aload_n hx hb dX5_isOut_15 rfl (lv_at hl 0 rfl) ?_
      refine wk_get (own := RX5) (C := RX5) (T := TX5) (N := 7) (ci := 6) (v := .ref (X.1 1 3)) hx hb hts i_X5 hown hK hA.desk rfl 3 (by decide) (hts _ (List.mem_of_getElem? (i := 1) rfl)) (fun _ h9 => h9) rfl dX5_isOut_16 ?_
      refine lv_iload hx hb dX5_isOut_19 (lv_at hl 4 rfl) ?_
      refine wk_V (As := [.int (nI k)]) (rest := []) ⟨hx, hb, hml, hown, hts⟩ (c_get3 l E hA hI e_12) (cwV 1 hts gX5_isOut_Jx4a65c_get_915e3 rfl rfl rfl (by decide +kernel) ⟨(Nat.le_of_ble_eq_true rfl), (Nat.le_of_ble_eq_true rfl)⟩) (wk_recv hK (hA.list (j := 3) (by decide)) rfl) hK rfl hl.1 rfl (Nat.le_of_ble_eq_true rfl) dX5_isOut_21 ⟨Nat.zero_le _, Nat.zero_le _⟩ ?_
      refine va_castS (own := RX5) hx hb hown (hts _ (List.mem_of_getElem? (i := 2) rfl)) (hK.1.1 2 _ rfl).2 (wk_recv hK (hA.outg e_12) rfl) dX5_isOut_24 ?_
      refine lv_astore (lv' := [(5, .ref (X.1 8 k)), (0, .ref (X.1 0 0)), (1, .ref (X.1 5 a)), (2, .int x), (3, .int y), (4, .int (nI k))]) hx hb dX5_isOut_27 hl (by decide) rfl (fun ls hl => ?_)
      refine lv_aload hx hb dX5_isOut_29 (lv_at hl 0 rfl) ?_
      refine wk_get (own := RX5) (C := RX1) (T := TX1) (N := 3) (ci := 2) (v := .ref (X.1 5 (z_oA σ k))) hx hb hts i_X1 hown hK (hA.outg e_12) rfl 0 (by decide) (hts _ (List.mem_of_getElem? (i := 3) rfl)) (fun _ h9 => h9) rfl dX5_isOut_31 ?_
      refine lv_aload_n hx hb dX5_isOut_34 rfl (lv_at hl 2 rfl) ?_
      refine lv_acmp_ne (rx := some (X.1 5 (z_oA σ k))) (ry := some (X.1 5 a)) (tgt := 50) hx hb dX5_isOut_35 (by decide) (fun c_35 => ?_) (fun c_35 => ?_)
      · skip
        have e_35 : ¬ (z_oA σ k) = a := fun q => c_35 (by rw [q])
        refine lv_iinc (v := nI (k + 1)) (lv' := [(4, .int (nI (k + 1))), (5, .ref (X.1 8 k)), (0, .ref (X.1 0 0)), (1, .ref (X.1 5 a)), (2, .int x), (3, .int y)]) hx hb dX5_isOut_50 hl (k := 5) rfl (nI_1 _) (by decide) rfl (fun ls hl => ?_)
        refine lv_goto (tgt := 3) hx hb dX5_isOut_53 (by decide) ?_
        exact ih_3 (k + 1) (by omega) (by omega) (f_any_step hf (by simp [e_35])) ls (lv_sub hl [2, 3, 4, 5, 0] rfl)
      have e_35 : (z_oA σ k) = a := hA.antI (hI.oA e_12) ha (Option.some.inj c_35)
      refine lv_aload hx hb dX5_isOut_38 (lv_at hl 0 rfl) ?_
      refine lv_iload_n hx hb dX5_isOut_40 rfl (lv_at hl 3 rfl) ?_
      refine lv_iload_n hx hb dX5_isOut_41 rfl (lv_at hl 4 rfl) ?_
      refine wk_V (As := [.int x, .int y]) (rest := []) ⟨hx, hb, hml, hown, hts⟩ (c_X1_meets l E hA hI e_12 (x := x) (y := y)) (cwV 2 hts gX5_isOut_X1_meets rfl rfl rfl (by decide +kernel) ⟨(Nat.le_of_ble_eq_true rfl), (Nat.le_of_ble_eq_true rfl)⟩) (wk_recv hK (hA.outg e_12) rfl) hK rfl hl.1 rfl (Nat.le_of_ble_eq_true rfl) dX5_isOut_42 ⟨Nat.zero_le _, Nat.zero_le _⟩ ?_
      refine lv_if_eq (tgt := 50) hx hb dX5_isOut_45 (by decide) (fun c_45 => ?_) (fun c_45 => ?_)
      · skip
        have e_45 : (f_meets σ k x y) = false := wk_b0 c_45
        refine lv_iinc (v := nI (k + 1)) (lv' := [(4, .int (nI (k + 1))), (5, .ref (X.1 8 k)), (0, .ref (X.1 0 0)), (1, .ref (X.1 5 a)), (2, .int x), (3, .int y)]) hx hb dX5_isOut_50 hl (k := 5) rfl (nI_1 _) (by decide) rfl (fun ls hl => ?_)
        refine lv_goto (tgt := 3) hx hb dX5_isOut_53 (by decide) ?_
        exact ih_3 (k + 1) (by omega) (by omega) (f_any_step hf (by simp [e_35, e_45])) ls (lv_sub hl [2, 3, 4, 5, 0] rfl)
      have e_45 : (f_meets σ k x y) = true := wk_b1 c_45
      refine lv_iconst (v := 1) hx hb dX5_isOut_48 (by decide) ?_
      exact W.zret hx hb hr rfl (fun t ht _ => wk_ret (congrArg Value.int ((wk_bt (f_any_yes e_12 (by simp [e_35, e_45]))).symm)) ht) wk_nil dX5_isOut_49
  exact L_3 _ 0 (Nat.lt_succ_self _) (Nat.zero_le _) rfl ls (lv_sub hl [1, 2, 3, 4, 0] rfl)

abbrev rmX5_isFree : Room := { frames := 4, cells := 0, slots := 0, locals := 89 }
set_option maxHeartbeats 4000000 in
set_option maxRecDepth 100000 in
theorem c_X5_isFree (l : Launch) (E : wk_E) {T : Nat → Nat × Nat} {X : z_X} {σ : z_S} {H : Heap} (hA : DA E T X σ H) (hI : z_Ok σ) {i : Nat} (hi : i < z_n σ 2) : wk_Met l yX5_isFree wsX5_isFree rmX5_isFree E H [.ref (X.1 0 0), .ref (X.1 7 i)] (some (.int (wk_b (f_free σ i)))) := by
  refine Met.ofW (cc := cX5_isFree) (maxL := 2) (ret := (some .boolean)) (by decide) rfl ?_
  intro p e s m args below meth c s₁ B hml hv
  obtain ⟨rfl, hH, hK⟩ := hv
  subst hH
  have hx := B.exec
  have hb := B.bytes
  have hr := B.returns
  have hts := atoms_spec (ws := wsX5_isFree) B.pre
  have hown : s.vm.findClass RX5 = some m.cls := findClass_of_methodNamed B.named
  have hlocks := B.notSynchronized
  have i_X2 : ∀ w ∈ u_ws RX2 TX2 7, w ∈ wsX5_isFree := fun w h => (List.mem_cons_of_mem _ (List.mem_append_left _ (List.mem_append_left _ (List.mem_append_left _ (List.mem_append_left _ (List.mem_append_right _ h))))))
  have i_X5 : ∀ w ∈ u_ws RX5 TX5 7, w ∈ wsX5_isFree := fun w h => (List.mem_cons_of_mem _ (List.mem_append_left _ (List.mem_append_left _ (List.mem_append_left _ (List.mem_append_right _ h)))))
  have hl := lv_entry [.ref (X.1 0 0), .ref (X.1 7 i)] (n := 2) (Nat.le_of_ble_eq_true rfl)
  rw [lg_entry_eq]
  generalize (lg_sl [.ref (X.1 0 0), .ref (X.1 7 i)] ++ List.replicate (2 - (lg_sl [.ref (X.1 0 0), .ref (X.1 7 i)]).length) Slot.unset).toArray = ls at hl ⊢
  have hl : lv_has ls 2 [(0, .ref (X.1 0 0)), (1, .ref (X.1 7 i))] := hl
  have b0 := hI.n0
  have b1 := hI.n1
  have b2 := hI.n2
  have b3 := hI.n3
  refine lv_aload_n hx hb dX5_isFree_0 rfl (lv_at hl 1 rfl) ?_
  refine wk_get (own := RX5) (C := RX2) (T := TX2) (N := 7) (ci := 3) (v := .int (wk_b (z_tk σ i))) hx hb hts i_X2 hown hK (hA.pass hi) rfl 5 (by decide) (hts _ (List.mem_of_getElem? (i := 1) rfl)) (fun _ h9 => h9) rfl dX5_isFree_1 ?_
  refine lv_if_ne (tgt := 49) hx hb dX5_isFree_4 (by decide) (fun c_4 => ?_) (fun c_4 => ?_)
  · skip
    have e_4 : (z_tk σ i) = true := wk_b1 c_4
    refine lv_iconst (v := 0) hx hb dX5_isFree_49 (by decide) ?_
    exact W.zret hx hb hr rfl (fun t ht _ => wk_ret (congrArg Value.int (by simp [f_free, ← Int32.not_lt, wk_b, e_4])) ht) wk_nil dX5_isFree_50
  have e_4 : (z_tk σ i) = false := wk_b0 c_4
  refine lv_aload_n hx hb dX5_isFree_7 rfl (lv_at hl 1 rfl) ?_
  refine wk_get (own := RX5) (C := RX2) (T := TX2) (N := 7) (ci := 3) (v := .int (z_pb σ i)) hx hb hts i_X2 hown hK (hA.pass hi) rfl 3 (by decide) (hts _ (List.mem_of_getElem? (i := 2) rfl)) (fun _ h9 => h9) rfl dX5_isFree_8 ?_
  refine lv_aload_n hx hb dX5_isFree_11 rfl (lv_at hl 0 rfl) ?_
  refine wk_get (own := RX5) (C := RX5) (T := TX5) (N := 7) (ci := 6) (v := .int (z_now σ)) hx hb hts i_X5 hown hK hA.desk rfl 5 (by decide) (hts _ (List.mem_of_getElem? (i := 3) rfl)) (fun _ h9 => h9) rfl dX5_isFree_12 ?_
  refine lv_icmp_lt (tgt := 49) hx hb dX5_isFree_15 (by decide) (fun c_15 => ?_) (fun c_15 => ?_)
  · skip
    refine lv_iconst (v := 0) hx hb dX5_isFree_49 (by decide) ?_
    exact W.zret hx hb hr rfl (fun t ht _ => wk_ret (congrArg Value.int (by simp [f_free, ← Int32.not_lt, wk_b, e_4, c_15])) ht) wk_nil dX5_isFree_50
  refine lv_aload_n hx hb dX5_isFree_18 rfl (lv_at hl 0 rfl) ?_
  refine lv_aload_n hx hb dX5_isFree_19 rfl (lv_at hl 1 rfl) ?_
  refine wk_get (own := RX5) (C := RX2) (T := TX2) (N := 7) (ci := 3) (v := .ref (X.1 5 (z_pA σ i))) hx hb hts i_X2 hown hK (hA.pass hi) rfl 2 (by decide) (hts _ (List.mem_of_getElem? (i := 4) rfl)) (fun _ h9 => h9) rfl dX5_isFree_20 ?_
  refine lv_aload_n hx hb dX5_isFree_23 rfl (lv_at hl 1 rfl) ?_
  refine wk_get (own := RX5) (C := RX2) (T := TX2) (N := 7) (ci := 3) (v := .int (z_pb σ i)) hx hb hts i_X2 hown hK (hA.pass hi) rfl 3 (by decide) (hts _ (List.mem_of_getElem? (i := 2) rfl)) (fun _ h9 => h9) rfl dX5_isFree_24 ?_
  refine lv_aload_n hx hb dX5_isFree_27 rfl (lv_at hl 1 rfl) ?_
  refine wk_get (own := RX5) (C := RX2) (T := TX2) (N := 7) (ci := 3) (v := .int (z_pe σ i)) hx hb hts i_X2 hown hK (hA.pass hi) rfl 4 (by decide) (hts _ (List.mem_of_getElem? (i := 5) rfl)) (fun _ h9 => h9) rfl dX5_isFree_28 ?_
  refine wk_V (As := [.ref (X.1 5 (z_pA σ i)), .int (z_pb σ i), .int (z_pe σ i)]) (rest := []) ⟨hx, hb, hml, hown, hts⟩ (c_X5_isOut l E hA hI (hI.pA hi) (x := z_pb σ i) (y := z_pe σ i)) (cwV 3 hts gX5_isFree_X5_isOut rfl rfl rfl (by decide +kernel) ⟨(Nat.le_of_ble_eq_true rfl), (Nat.le_of_ble_eq_true rfl)⟩) (wk_recv hK hA.desk rfl) hK rfl hl.1 rfl (Nat.le_of_ble_eq_true rfl) dX5_isFree_31 ⟨Nat.zero_le _, Nat.zero_le _⟩ ?_
  refine lv_if_ne (tgt := 49) hx hb dX5_isFree_34 (by decide) (fun c_34 => ?_) (fun c_34 => ?_)
  · skip
    have e_34 : (f_out σ (z_pA σ i) (z_pb σ i) (z_pe σ i)) = true := wk_b1 c_34
    refine lv_iconst (v := 0) hx hb dX5_isFree_49 (by decide) ?_
    exact W.zret hx hb hr rfl (fun t ht _ => wk_ret (congrArg Value.int (by simp [f_free, ← Int32.not_lt, wk_b, e_4, c_15, e_34])) ht) wk_nil dX5_isFree_50
  have e_34 : (f_out σ (z_pA σ i) (z_pb σ i) (z_pe σ i)) = false := wk_b0 c_34
  refine lv_aload_n hx hb dX5_isFree_37 rfl (lv_at hl 0 rfl) ?_
  refine lv_aload_n hx hb dX5_isFree_38 rfl (lv_at hl 1 rfl) ?_
  refine wk_V (As := [.ref (X.1 7 i)]) (rest := []) ⟨hx, hb, hml, hown, hts⟩ (c_X5_isInConflictWithTaken l E hA hI hi) (cwV 1 hts gX5_isFree_X5_isInConflictWithTaken rfl rfl rfl (by decide +kernel) ⟨(Nat.le_of_ble_eq_true rfl), (Nat.le_of_ble_eq_true rfl)⟩) (wk_recv hK hA.desk rfl) hK rfl hl.1 rfl (Nat.le_of_ble_eq_true rfl) dX5_isFree_39 ⟨Nat.zero_le _, Nat.zero_le _⟩ ?_
  refine lv_if_ne (tgt := 49) hx hb dX5_isFree_42 (by decide) (fun c_42 => ?_) (fun c_42 => ?_)
  · skip
    have e_42 : (f_inc σ i) = true := wk_b1 c_42
    refine lv_iconst (v := 0) hx hb dX5_isFree_49 (by decide) ?_
    exact W.zret hx hb hr rfl (fun t ht _ => wk_ret (congrArg Value.int (by simp [f_free, ← Int32.not_lt, wk_b, e_4, c_15, e_34, e_42])) ht) wk_nil dX5_isFree_50
  have e_42 : (f_inc σ i) = false := wk_b0 c_42
  refine lv_iconst (v := 1) hx hb dX5_isFree_45 (by decide) ?_
  refine lv_goto (tgt := 50) hx hb dX5_isFree_46 (by decide) ?_
  exact W.zret hx hb hr rfl (fun t ht _ => wk_ret (congrArg Value.int (by simp [f_free, ← Int32.not_lt, wk_b, e_4, c_15, e_34, e_42])) ht) wk_nil dX5_isFree_50

abbrev rmX5_startOf : Room := { frames := 3, cells := 0, slots := 0, locals := 64 }
set_option maxHeartbeats 4000000 in
set_option maxRecDepth 100000 in
theorem c_X5_startOf (l : Launch) (E : wk_E) {T : Nat → Nat × Nat} {X : z_X} {σ : z_S} {H : Heap} (hA : DA E T X σ H) (hI : z_Ok σ) {i : Nat} (hi : i < z_n σ 2) : wk_Met l yX5_startOf wsX5_startOf rmX5_startOf E H [.ref (X.1 0 0), .ref (X.1 7 i)] (some (.int (f_start σ i))) := by
  refine Met.ofW (cc := cX5_startOf) (maxL := 5) (ret := (some .int)) (by decide) rfl ?_
  intro p e s m args below meth c s₁ B hml hv
  obtain ⟨rfl, hH, hK⟩ := hv
  subst hH
  have hx := B.exec
  have hb := B.bytes
  have hr := B.returns
  have hts := atoms_spec (ws := wsX5_startOf) B.pre
  have hown : s.vm.findClass RX5 = some m.cls := findClass_of_methodNamed B.named
  have hlocks := B.notSynchronized
  have i_X2 : ∀ w ∈ u_ws RX2 TX2 7, w ∈ wsX5_startOf := fun w h => (List.mem_cons_of_mem _ (List.mem_append_left _ (List.mem_append_left _ (List.mem_append_right _ h))))
  have i_X5 : ∀ w ∈ u_ws RX5 TX5 7, w ∈ wsX5_startOf := fun w h => (List.mem_cons_of_mem _ (List.mem_append_left _ (List.mem_append_right _ h)))
  have hl := lv_entry [.ref (X.1 0 0), .ref (X.1 7 i)] (n := 5) (Nat.le_of_ble_eq_true rfl)
  rw [lg_entry_eq]
  generalize (lg_sl [.ref (X.1 0 0), .ref (X.1 7 i)] ++ List.replicate (5 - (lg_sl [.ref (X.1 0 0), .ref (X.1 7 i)]).length) Slot.unset).toArray = ls at hl ⊢
  have hl : lv_has ls 5 [(0, .ref (X.1 0 0)), (1, .ref (X.1 7 i))] := hl
  have b0 := hI.n0
  have b1 := hI.n1
  have b2 := hI.n2
  have b3 := hI.n3
  refine lv_aload_n hx hb dX5_startOf_0 rfl (lv_at hl 1 rfl) ?_
  refine wk_get (own := RX5) (C := RX2) (T := TX2) (N := 7) (ci := 3) (v := .int (z_pb σ i)) hx hb hts i_X2 hown hK (hA.pass hi) rfl 3 (by decide) (hts _ (List.mem_of_getElem? (i := 1) rfl)) (fun _ h9 => h9) rfl dX5_startOf_1 ?_
  refine lv_istore_n (lv' := [(2, .int (z_pb σ i)), (0, .ref (X.1 0 0)), (1, .ref (X.1 7 i))]) hx hb dX5_startOf_4 rfl hl (by decide) rfl (fun ls hl => ?_)
  refine lv_iconst (v := 0) hx hb dX5_startOf_5 (by decide) ?_
  refine lv_istore_n (lv' := [(3, .int 0), (2, .int (z_pb σ i)), (0, .ref (X.1 0 0)), (1, .ref (X.1 7 i))]) hx hb dX5_startOf_6 rfl hl (by decide) rfl (fun ls hl => ?_)
  have L_7 : ∀ (n_7 : Nat) (k : Nat), z_n σ 2 - k < n_7 → (k ≤ z_n σ 2) → ∀ ls : Array Slot, lv_has ls 5 [(0, .ref (X.1 0 0)), (1, .ref (X.1 7 i)), (2, .int (f_startTo σ i k)), (3, .int (nI k))] → W p l e (headSpec wsX5_startOf rmX5_startOf).room s m ([.ref (X.1 0 0), .ref (X.1 7 i)] : List Value).toArray below meth c s.heap [] 0 0 (MQ below (wk_Q (some (.int (f_start σ i)))) ([.ref (X.1 0 0), .ref (X.1 7 i)] : List Value).toArray s 0 0 (fun _ => False)) (F0 m 7 ls []) := by
    intro n_7
    induction n_7 with
    | zero => intro k hm; exact absurd hm (Nat.not_lt_zero _)
    | succ n_7 ih_7 =>
      intro k hm_7 hk_k ls hl
      refine lv_iload_n hx hb dX5_startOf_7 rfl (lv_at hl 3 rfl) ?_
      refine lv_aload_n hx hb dX5_startOf_8 rfl (lv_at hl 0 rfl) ?_
      refine wk_get (own := RX5) (C := RX5) (T := TX5) (N := 7) (ci := 6) (v := .ref (X.1 1 2)) hx hb hts i_X5 hown hK hA.desk rfl 2 (by decide) (hts _ (List.mem_of_getElem? (i := 2) rfl)) (fun _ h9 => h9) rfl dX5_startOf_9 ?_
      refine wk_V (As := []) (rest := [.int (nI k)]) ⟨hx, hb, hml, hown, hts⟩ (c_size2 l E hA) (cwV 0 hts gX5_startOf_Jx4a65c_size_8abf5 rfl rfl rfl (by decide +kernel) ⟨(Nat.le_of_ble_eq_true rfl), (Nat.le_of_ble_eq_true rfl)⟩) (wk_recv hK (hA.list (j := 2) (by decide)) rfl) hK rfl hl.1 rfl (Nat.le_of_ble_eq_true rfl) dX5_startOf_12 ⟨Nat.zero_le _, Nat.zero_le _⟩ ?_
      refine lv_icmp_ge (tgt := 76) hx hb dX5_startOf_15 (by decide) (fun c_15 => ?_) (fun c_15 => ?_)
      · skip
        have e_15 : (z_n σ 2) ≤ k := wk_cget (by omega) (by omega) c_15
        have hkN : k = z_n σ 2 := by omega
        subst hkN
        refine lv_iload_n hx hb dX5_startOf_76 rfl (lv_at hl 2 rfl) ?_
        exact W.iret hx hb hr (fun t ht _ => wk_ret (congrArg Value.int (by rw [hkN]; rfl)) ht) wk_nil dX5_startOf_77
      have e_15 : k < (z_n σ 2) := wk_cgef (by omega) (by omega) c_15
      refine lv_aload_n hx hb dX5_startOf_18 rfl (lv_at hl 0 rfl) ?_
      refine wk_get (own := RX5) (C := RX5) (T := TX5) (N := 7) (ci := 6) (v := .ref (X.1 1 2)) hx hb hts i_X5 hown hK hA.desk rfl 2 (by decide) (hts _ (List.mem_of_getElem? (i := 2) rfl)) (fun _ h9 => h9) rfl dX5_startOf_19 ?_
      refine lv_iload_n hx hb dX5_startOf_22 rfl (lv_at hl 3 rfl) ?_
      refine wk_V (As := [.int (nI k)]) (rest := []) ⟨hx, hb, hml, hown, hts⟩ (c_get2 l E hA hI e_15) (cwV 1 hts gX5_startOf_Jx4a65c_get_915e3 rfl rfl rfl (by decide +kernel) ⟨(Nat.le_of_ble_eq_true rfl), (Nat.le_of_ble_eq_true rfl)⟩) (wk_recv hK (hA.list (j := 2) (by decide)) rfl) hK rfl hl.1 rfl (Nat.le_of_ble_eq_true rfl) dX5_startOf_23 ⟨Nat.zero_le _, Nat.zero_le _⟩ ?_
      refine va_castS (own := RX5) hx hb hown (hts _ (List.mem_of_getElem? (i := 3) rfl)) (hK.1.1 3 _ rfl).2 (wk_recv hK (hA.pass e_15) rfl) dX5_startOf_26 ?_
      refine lv_astore (lv' := [(4, .ref (X.1 7 k)), (0, .ref (X.1 0 0)), (1, .ref (X.1 7 i)), (2, .int (f_startTo σ i k)), (3, .int (nI k))]) hx hb dX5_startOf_29 hl (by decide) rfl (fun ls hl => ?_)
      refine lv_aload hx hb dX5_startOf_31 (lv_at hl 0 rfl) ?_
      refine wk_get (own := RX5) (C := RX2) (T := TX2) (N := 7) (ci := 3) (v := .int (wk_b (z_tk σ k))) hx hb hts i_X2 hown hK (hA.pass e_15) rfl 5 (by decide) (hts _ (List.mem_of_getElem? (i := 4) rfl)) (fun _ h9 => h9) rfl dX5_startOf_33 ?_
      refine lv_if_eq (tgt := 70) hx hb dX5_startOf_36 (by decide) (fun c_36 => ?_) (fun c_36 => ?_)
      · skip
        have e_36 : (z_tk σ k) = false := wk_b0 c_36
        refine lv_iinc (v := nI (k + 1)) (lv' := [(3, .int (nI (k + 1))), (4, .ref (X.1 7 k)), (0, .ref (X.1 0 0)), (1, .ref (X.1 7 i)), (2, .int (f_startTo σ i k))]) hx hb dX5_startOf_70 hl (k := 4) rfl (nI_1 _) (by decide) rfl (fun ls hl => ?_)
        refine lv_goto (tgt := 7) hx hb dX5_startOf_73 (by decide) ?_
        have hl : lv_has ls 5 [(3, .int (nI (k + 1))), (4, .ref (X.1 7 k)), (0, .ref (X.1 0 0)), (1, .ref (X.1 7 i)), (2, .int (f_startTo σ i (k + 1)))] := by rw [show f_startTo σ i (k + 1) = f_startTo σ i k from (by simp [f_startTo, f_isBefore, f_max, e_36])]; exact hl
        exact ih_7 (k + 1) (by omega) (by omega) ls (lv_sub hl [2, 3, 4, 0] rfl)
      have e_36 : (z_tk σ k) = true := wk_b1 c_36
      refine lv_aload hx hb dX5_startOf_39 (lv_at hl 0 rfl) ?_
      refine wk_get (own := RX5) (C := RX2) (T := TX2) (N := 7) (ci := 3) (v := .ref (X.1 6 (z_pS σ k))) hx hb hts i_X2 hown hK (hA.pass e_15) rfl 1 (by decide) (hts _ (List.mem_of_getElem? (i := 5) rfl)) (fun _ h9 => h9) rfl dX5_startOf_41 ?_
      refine lv_aload_n hx hb dX5_startOf_44 rfl (lv_at hl 2 rfl) ?_
      refine wk_get (own := RX5) (C := RX2) (T := TX2) (N := 7) (ci := 3) (v := .ref (X.1 6 (z_pS σ i))) hx hb hts i_X2 hown hK (hA.pass hi) rfl 1 (by decide) (hts _ (List.mem_of_getElem? (i := 5) rfl)) (fun _ h9 => h9) rfl dX5_startOf_45 ?_
      refine lv_acmp_ne (rx := some (X.1 6 (z_pS σ k))) (ry := some (X.1 6 (z_pS σ i))) (tgt := 70) hx hb dX5_startOf_48 (by decide) (fun c_48 => ?_) (fun c_48 => ?_)
      · skip
        have e_48 : ¬ (z_pS σ k) = (z_pS σ i) := fun q => c_48 (by rw [q])
        refine lv_iinc (v := nI (k + 1)) (lv' := [(3, .int (nI (k + 1))), (4, .ref (X.1 7 k)), (0, .ref (X.1 0 0)), (1, .ref (X.1 7 i)), (2, .int (f_startTo σ i k))]) hx hb dX5_startOf_70 hl (k := 4) rfl (nI_1 _) (by decide) rfl (fun ls hl => ?_)
        refine lv_goto (tgt := 7) hx hb dX5_startOf_73 (by decide) ?_
        have hl : lv_has ls 5 [(3, .int (nI (k + 1))), (4, .ref (X.1 7 k)), (0, .ref (X.1 0 0)), (1, .ref (X.1 7 i)), (2, .int (f_startTo σ i (k + 1)))] := by rw [show f_startTo σ i (k + 1) = f_startTo σ i k from (by simp [f_startTo, f_isBefore, f_max, e_36, e_48])]; exact hl
        exact ih_7 (k + 1) (by omega) (by omega) ls (lv_sub hl [2, 3, 4, 0] rfl)
      have e_48 : (z_pS σ k) = (z_pS σ i) := hA.satI (hI.pS e_15) (hI.pS hi) (Option.some.inj c_48)
      refine lv_aload hx hb dX5_startOf_51 (lv_at hl 0 rfl) ?_
      refine lv_aload_n hx hb dX5_startOf_53 rfl (lv_at hl 2 rfl) ?_
      refine wk_V (As := [.ref (X.1 7 i)]) (rest := []) ⟨hx, hb, hml, hown, hts⟩ (c_X2_isEarlierThan l E hA hI e_15 hi) (cwV 1 hts gX5_startOf_X2_isEarlierThan rfl rfl rfl (by decide +kernel) ⟨(Nat.le_of_ble_eq_true rfl), (Nat.le_of_ble_eq_true rfl)⟩) (wk_recv hK (hA.pass e_15) rfl) hK rfl hl.1 rfl (Nat.le_of_ble_eq_true rfl) dX5_startOf_54 ⟨Nat.zero_le _, Nat.zero_le _⟩ ?_
      refine lv_if_eq (tgt := 70) hx hb dX5_startOf_57 (by decide) (fun c_57 => ?_) (fun c_57 => ?_)
      · skip
        have e_57 : (f_earl σ k i) = false := wk_b0 c_57
        refine lv_iinc (v := nI (k + 1)) (lv' := [(3, .int (nI (k + 1))), (4, .ref (X.1 7 k)), (0, .ref (X.1 0 0)), (1, .ref (X.1 7 i)), (2, .int (f_startTo σ i k))]) hx hb dX5_startOf_70 hl (k := 4) rfl (nI_1 _) (by decide) rfl (fun ls hl => ?_)
        refine lv_goto (tgt := 7) hx hb dX5_startOf_73 (by decide) ?_
        have hl : lv_has ls 5 [(3, .int (nI (k + 1))), (4, .ref (X.1 7 k)), (0, .ref (X.1 0 0)), (1, .ref (X.1 7 i)), (2, .int (f_startTo σ i (k + 1)))] := by rw [show f_startTo σ i (k + 1) = f_startTo σ i k from (by simp [f_startTo, f_isBefore, f_max, e_36, e_48, e_57])]; exact hl
        exact ih_7 (k + 1) (by omega) (by omega) ls (lv_sub hl [2, 3, 4, 0] rfl)
      have e_57 : (f_earl σ k i) = true := wk_b1 c_57
      refine lv_iload_n hx hb dX5_startOf_60 rfl (lv_at hl 3 rfl) ?_
      refine lv_aload hx hb dX5_startOf_61 (lv_at hl 0 rfl) ?_
      refine wk_get (own := RX5) (C := RX2) (T := TX2) (N := 7) (ci := 3) (v := .int (z_pe σ k)) hx hb hts i_X2 hown hK (hA.pass e_15) rfl 4 (by decide) (hts _ (List.mem_of_getElem? (i := 6) rfl)) (fun _ h9 => h9) rfl dX5_startOf_63 ?_
      refine va_mmax (own := RX5) hx hb (hml.trans hl.1.symm) hown (hts _ (List.mem_of_getElem? (i := 7) rfl)) (hts _ (List.mem_of_getElem? (i := 8) rfl)) (hts _ (List.mem_of_getElem? (i := 9) rfl)) (hts _ (List.mem_of_getElem? (i := 10) rfl)) (Nat.le_of_ble_eq_true rfl) (Nat.le_trans (Nat.le_of_ble_eq_true rfl : _ ≤ 21) (Nat.le_of_ble_eq_true rfl)) (Nat.zero_le _) (Nat.zero_le _) dX5_startOf_66 ?_
      refine lv_istore_n (lv' := [(2, .int (if (f_startTo σ i k) < (z_pe σ k) then (z_pe σ k) else (f_startTo σ i k))), (4, .ref (X.1 7 k)), (0, .ref (X.1 0 0)), (1, .ref (X.1 7 i)), (3, .int (nI k))]) hx hb dX5_startOf_69 rfl hl (by decide) rfl (fun ls hl => ?_)
      refine lv_iinc (v := nI (k + 1)) (lv' := [(3, .int (nI (k + 1))), (2, .int (if (f_startTo σ i k) < (z_pe σ k) then (z_pe σ k) else (f_startTo σ i k))), (4, .ref (X.1 7 k)), (0, .ref (X.1 0 0)), (1, .ref (X.1 7 i))]) hx hb dX5_startOf_70 hl (k := 4) rfl (nI_1 _) (by decide) rfl (fun ls hl => ?_)
      refine lv_goto (tgt := 7) hx hb dX5_startOf_73 (by decide) ?_
      have hl : lv_has ls 5 [(3, .int (nI (k + 1))), (2, .int (f_startTo σ i (k + 1))), (4, .ref (X.1 7 k)), (0, .ref (X.1 0 0)), (1, .ref (X.1 7 i))] := by rw [show f_startTo σ i (k + 1) = if (f_startTo σ i k) < (z_pe σ k) then (z_pe σ k) else (f_startTo σ i k) from (by simp [f_startTo, f_isBefore, f_max, e_36, e_48, e_57])]; exact hl
      exact ih_7 (k + 1) (by omega) (by omega) ls (lv_sub hl [3, 4, 1, 0] rfl)
  exact L_7 _ 0 (Nat.lt_succ_self _) (Nat.zero_le _) ls (lv_sub hl [2, 3, 1, 0] rfl)

abbrev rmX5_isHeard : Room := { frames := 4, cells := 0, slots := 0, locals := 88 }
set_option maxHeartbeats 4000000 in
set_option maxRecDepth 100000 in
theorem c_X5_isHeard (l : Launch) (E : wk_E) {T : Nat → Nat × Nat} {X : z_X} {σ : z_S} {H : Heap} (hA : DA E T X σ H) (hI : z_Ok σ) {i : Nat} (hi : i < z_n σ 2) : wk_Met l yX5_isHeard wsX5_isHeard rmX5_isHeard E H [.ref (X.1 0 0), .ref (X.1 7 i)] (some (.int (wk_b (f_heard σ i)))) := by
  refine Met.ofW (cc := cX5_isHeard) (maxL := 2) (ret := (some .boolean)) (by decide) rfl ?_
  intro p e s m args below meth c s₁ B hml hv
  obtain ⟨rfl, hH, hK⟩ := hv
  subst hH
  have hx := B.exec
  have hb := B.bytes
  have hr := B.returns
  have hts := atoms_spec (ws := wsX5_isHeard) B.pre
  have hown : s.vm.findClass RX5 = some m.cls := findClass_of_methodNamed B.named
  have hlocks := B.notSynchronized
  have i_X2 : ∀ w ∈ u_ws RX2 TX2 7, w ∈ wsX5_isHeard := fun w h => (List.mem_cons_of_mem _ (List.mem_append_left _ (List.mem_append_left _ (List.mem_append_right _ h))))
  have i_X5 : ∀ w ∈ u_ws RX5 TX5 7, w ∈ wsX5_isHeard := fun w h => (List.mem_cons_of_mem _ (List.mem_append_left _ (List.mem_append_right _ h)))
  have hl := lv_entry [.ref (X.1 0 0), .ref (X.1 7 i)] (n := 2) (Nat.le_of_ble_eq_true rfl)
  rw [lg_entry_eq]
  generalize (lg_sl [.ref (X.1 0 0), .ref (X.1 7 i)] ++ List.replicate (2 - (lg_sl [.ref (X.1 0 0), .ref (X.1 7 i)]).length) Slot.unset).toArray = ls at hl ⊢
  have hl : lv_has ls 2 [(0, .ref (X.1 0 0)), (1, .ref (X.1 7 i))] := hl
  have b0 := hI.n0
  have b1 := hI.n1
  have b2 := hI.n2
  have b3 := hI.n3
  refine lv_aload_n hx hb dX5_isHeard_0 rfl (lv_at hl 1 rfl) ?_
  refine wk_get (own := RX5) (C := RX2) (T := TX2) (N := 7) (ci := 3) (v := .int (wk_b (z_tk σ i))) hx hb hts i_X2 hown hK (hA.pass hi) rfl 5 (by decide) (hts _ (List.mem_of_getElem? (i := 1) rfl)) (fun _ h9 => h9) rfl dX5_isHeard_1 ?_
  refine lv_if_eq (tgt := 45) hx hb dX5_isHeard_4 (by decide) (fun c_4 => ?_) (fun c_4 => ?_)
  · skip
    have e_4 : (z_tk σ i) = false := wk_b0 c_4
    refine lv_iconst (v := 0) hx hb dX5_isHeard_45 (by decide) ?_
    exact W.zret hx hb hr rfl (fun t ht _ => wk_ret (congrArg Value.int (by simp [f_heard, ← Int32.not_le, ← Int32.not_lt, wk_b, e_4])) ht) wk_nil dX5_isHeard_46
  have e_4 : (z_tk σ i) = true := wk_b1 c_4
  refine lv_aload_n hx hb dX5_isHeard_7 rfl (lv_at hl 1 rfl) ?_
  refine wk_get (own := RX5) (C := RX2) (T := TX2) (N := 7) (ci := 3) (v := .int (z_pb σ i)) hx hb hts i_X2 hown hK (hA.pass hi) rfl 3 (by decide) (hts _ (List.mem_of_getElem? (i := 2) rfl)) (fun _ h9 => h9) rfl dX5_isHeard_8 ?_
  refine lv_aload_n hx hb dX5_isHeard_11 rfl (lv_at hl 0 rfl) ?_
  refine wk_get (own := RX5) (C := RX5) (T := TX5) (N := 7) (ci := 6) (v := .int (z_now σ)) hx hb hts i_X5 hown hK hA.desk rfl 5 (by decide) (hts _ (List.mem_of_getElem? (i := 3) rfl)) (fun _ h9 => h9) rfl dX5_isHeard_12 ?_
  refine lv_icmp_gt (tgt := 45) hx hb dX5_isHeard_15 (by decide) (fun c_15 => ?_) (fun c_15 => ?_)
  · skip
    refine lv_iconst (v := 0) hx hb dX5_isHeard_45 (by decide) ?_
    exact W.zret hx hb hr rfl (fun t ht _ => wk_ret (congrArg Value.int (by simp [f_heard, ← Int32.not_le, ← Int32.not_lt, wk_b, e_4, c_15])) ht) wk_nil dX5_isHeard_46
  refine lv_aload_n hx hb dX5_isHeard_18 rfl (lv_at hl 0 rfl) ?_
  refine wk_get (own := RX5) (C := RX5) (T := TX5) (N := 7) (ci := 6) (v := .int (z_now σ)) hx hb hts i_X5 hown hK hA.desk rfl 5 (by decide) (hts _ (List.mem_of_getElem? (i := 3) rfl)) (fun _ h9 => h9) rfl dX5_isHeard_19 ?_
  refine lv_aload_n hx hb dX5_isHeard_22 rfl (lv_at hl 1 rfl) ?_
  refine wk_get (own := RX5) (C := RX2) (T := TX2) (N := 7) (ci := 3) (v := .int (z_pe σ i)) hx hb hts i_X2 hown hK (hA.pass hi) rfl 4 (by decide) (hts _ (List.mem_of_getElem? (i := 4) rfl)) (fun _ h9 => h9) rfl dX5_isHeard_23 ?_
  refine lv_icmp_ge (tgt := 45) hx hb dX5_isHeard_26 (by decide) (fun c_26 => ?_) (fun c_26 => ?_)
  · skip
    refine lv_iconst (v := 0) hx hb dX5_isHeard_45 (by decide) ?_
    exact W.zret hx hb hr rfl (fun t ht _ => wk_ret (congrArg Value.int (by simp [f_heard, ← Int32.not_le, ← Int32.not_lt, wk_b, e_4, c_15, c_26])) ht) wk_nil dX5_isHeard_46
  refine lv_aload_n hx hb dX5_isHeard_29 rfl (lv_at hl 0 rfl) ?_
  refine lv_aload_n hx hb dX5_isHeard_30 rfl (lv_at hl 1 rfl) ?_
  refine wk_V (As := [.ref (X.1 7 i)]) (rest := []) ⟨hx, hb, hml, hown, hts⟩ (c_X5_startOf l E hA hI hi) (cwV 1 hts gX5_isHeard_X5_startOf rfl rfl rfl (by decide +kernel) ⟨(Nat.le_of_ble_eq_true rfl), (Nat.le_of_ble_eq_true rfl)⟩) (wk_recv hK hA.desk rfl) hK rfl hl.1 rfl (Nat.le_of_ble_eq_true rfl) dX5_isHeard_31 ⟨Nat.zero_le _, Nat.zero_le _⟩ ?_
  refine lv_aload_n hx hb dX5_isHeard_34 rfl (lv_at hl 0 rfl) ?_
  refine wk_get (own := RX5) (C := RX5) (T := TX5) (N := 7) (ci := 6) (v := .int (z_now σ)) hx hb hts i_X5 hown hK hA.desk rfl 5 (by decide) (hts _ (List.mem_of_getElem? (i := 3) rfl)) (fun _ h9 => h9) rfl dX5_isHeard_35 ?_
  refine lv_icmp_gt (tgt := 45) hx hb dX5_isHeard_38 (by decide) (fun c_38 => ?_) (fun c_38 => ?_)
  · skip
    refine lv_iconst (v := 0) hx hb dX5_isHeard_45 (by decide) ?_
    exact W.zret hx hb hr rfl (fun t ht _ => wk_ret (congrArg Value.int (by simp [f_heard, ← Int32.not_le, ← Int32.not_lt, wk_b, e_4, c_15, c_26, c_38])) ht) wk_nil dX5_isHeard_46
  refine lv_iconst (v := 1) hx hb dX5_isHeard_41 (by decide) ?_
  refine lv_goto (tgt := 46) hx hb dX5_isHeard_42 (by decide) ?_
  exact W.zret hx hb hr rfl (fun t ht _ => wk_ret (congrArg Value.int (by simp [f_heard, ← Int32.not_le, ← Int32.not_lt, wk_b, e_4, c_15, c_26, c_38])) ht) wk_nil dX5_isHeard_46
