abbrev rmX6_isIn : Room := { frames := 0, cells := 0, slots := 0, locals := 0 }
set_option maxHeartbeats 4000000 in
set_option maxRecDepth 100000 in
theorem c_X6_isIn (l : Launch) (E : wk_E) {H : Heap} {x y z : Int32} : wk_Met l yX6_isIn wsX6_isIn rmX6_isIn E H [.int x, .int y, .int z] (some (.int (wk_b (v_in x y z)))) := by
  refine Met.ofW (cc := cX6_isIn) (maxL := 3) (ret := (some .boolean)) (by decide) rfl ?_
  intro p e s m args below meth c s₁ B hml hv
  obtain ⟨rfl, hH, hK⟩ := hv
  subst hH
  have hx := B.exec
  have hb := B.bytes
  have hr := B.returns
  have hts := atoms_spec (ws := wsX6_isIn) B.pre
  have hown : s.vm.findClass RX6 = some m.cls := findClass_of_methodNamed B.named
  have hlocks := B.notSynchronized
  have hl := lv_entry [.int x, .int y, .int z] (n := 3) (Nat.le_of_ble_eq_true rfl)
  rw [lg_entry_eq]
  generalize (lg_sl [.int x, .int y, .int z] ++ List.replicate (3 - (lg_sl [.int x, .int y, .int z]).length) Slot.unset).toArray = ls at hl ⊢
  have hl : lv_has ls 3 [(0, .int x), (1, .int y), (2, .int z)] := hl
  refine lv_iload_n hx hb dX6_isIn_0 rfl (lv_at hl 0 rfl) ?_
  refine lv_iload_n hx hb dX6_isIn_1 rfl (lv_at hl 1 rfl) ?_
  refine lv_icmp_lt (tgt := 14) hx hb dX6_isIn_2 (by decide) (fun c_2 => ?_) (fun c_2 => ?_)
  · skip
    have d_2 := Int32.not_le.mpr c_2
    refine lv_iconst (v := 0) hx hb dX6_isIn_14 (by decide) ?_
    exact W.zret hx hb hr rfl (fun t ht _ => wk_ret (congrArg Value.int (by simp [v_in, wk_b, c_2, d_2])) ht) wk_nil dX6_isIn_15
  have d_2 := Int32.not_lt.mp c_2
  refine lv_iload_n hx hb dX6_isIn_5 rfl (lv_at hl 0 rfl) ?_
  refine lv_iload_n hx hb dX6_isIn_6 rfl (lv_at hl 2 rfl) ?_
  refine lv_icmp_gt (tgt := 14) hx hb dX6_isIn_7 (by decide) (fun c_7 => ?_) (fun c_7 => ?_)
  · skip
    have d_7 := Int32.not_le.mpr c_7
    refine lv_iconst (v := 0) hx hb dX6_isIn_14 (by decide) ?_
    exact W.zret hx hb hr rfl (fun t ht _ => wk_ret (congrArg Value.int (by simp [v_in, wk_b, c_2, d_2, c_7, d_7])) ht) wk_nil dX6_isIn_15
  have d_7 := Int32.not_lt.mp c_7
  refine lv_iconst (v := 1) hx hb dX6_isIn_10 (by decide) ?_
  refine lv_goto (tgt := 15) hx hb dX6_isIn_11 (by decide) ?_
  exact W.zret hx hb hr rfl (fun t ht _ => wk_ret (congrArg Value.int (by simp [v_in, wk_b, c_2, d_2, c_7, d_7])) ht) wk_nil dX6_isIn_15

abbrev rmX6_has : Room := { frames := 0, cells := 0, slots := 0, locals := 0 }
set_option maxHeartbeats 4000000 in
set_option maxRecDepth 100000 in
theorem c_X6_has (l : Launch) (E : wk_E) {H : Heap} {mm k : Nat} (hm : mm < 2 ^ 31) (hk : k < 31) : wk_Met l yX6_has wsX6_has rmX6_has E H [.int (nI mm), .int (nI k)] (some (.int (wk_b (mm.testBit k)))) := by
  refine Met.ofW (cc := cX6_has) (maxL := 2) (ret := (some .boolean)) (by decide) rfl ?_
  intro p e s m args below meth c s₁ B hml hv
  obtain ⟨rfl, hH, hK⟩ := hv
  subst hH
  have hx := B.exec
  have hb := B.bytes
  have hr := B.returns
  have hts := atoms_spec (ws := wsX6_has) B.pre
  have hown : s.vm.findClass RX6 = some m.cls := findClass_of_methodNamed B.named
  have hlocks := B.notSynchronized
  have hl := lv_entry [.int (nI mm), .int (nI k)] (n := 2) (Nat.le_of_ble_eq_true rfl)
  rw [lg_entry_eq]
  generalize (lg_sl [.int (nI mm), .int (nI k)] ++ List.replicate (2 - (lg_sl [.int (nI mm), .int (nI k)]).length) Slot.unset).toArray = ls at hl ⊢
  have hl : lv_has ls 2 [(0, .int (nI mm)), (1, .int (nI k))] := hl
  refine lv_iload_n hx hb dX6_has_0 rfl (lv_at hl 0 rfl) ?_
  refine lv_iload_n hx hb dX6_has_1 rfl (lv_at hl 1 rfl) ?_
  refine lv_ishr hx hb dX6_has_2 ?_
  refine lv_iconst (v := 1) hx hb dX6_has_3 (by decide) ?_
  refine lv_iand hx hb dX6_has_4 ?_
  refine lv_iconst (v := 1) hx hb dX6_has_5 (by decide) ?_
  refine lv_icmp_ne (tgt := 13) hx hb dX6_has_6 (by decide) (fun c_6 => ?_) (fun c_6 => ?_)
  · skip
    refine lv_iconst (v := 0) hx hb dX6_has_13 (by decide) ?_
    exact W.zret hx hb hr rfl (fun t ht _ => wk_ret (congrArg Value.int ((wk_bf (wk_sh0 hm hk c_6)).symm)) ht) wk_nil dX6_has_14
  refine lv_iconst (v := 1) hx hb dX6_has_9 (by decide) ?_
  refine lv_goto (tgt := 14) hx hb dX6_has_10 (by decide) ?_
  exact W.zret hx hb hr rfl (fun t ht _ => wk_ret (congrArg Value.int ((wk_bt (wk_sh1 hm hk c_6)).symm)) ht) wk_nil dX6_has_14

abbrev rmX6_overlaps : Room := { frames := 0, cells := 0, slots := 0, locals := 0 }
set_option maxHeartbeats 4000000 in
set_option maxRecDepth 100000 in
theorem c_X6_overlaps (l : Launch) (E : wk_E) {H : Heap} {w x y z : Int32} : wk_Met l yX6_overlaps wsX6_overlaps rmX6_overlaps E H [.int w, .int x, .int y, .int z] (some (.int (wk_b (decide (w < z) && decide (y < x))))) := by
  refine Met.ofW (cc := cX6_overlaps) (maxL := 4) (ret := (some .boolean)) (by decide) rfl ?_
  intro p e s m args below meth c s₁ B hml hv
  obtain ⟨rfl, hH, hK⟩ := hv
  subst hH
  have hx := B.exec
  have hb := B.bytes
  have hr := B.returns
  have hts := atoms_spec (ws := wsX6_overlaps) B.pre
  have hown : s.vm.findClass RX6 = some m.cls := findClass_of_methodNamed B.named
  have hlocks := B.notSynchronized
  have hl := lv_entry [.int w, .int x, .int y, .int z] (n := 4) (Nat.le_of_ble_eq_true rfl)
  rw [lg_entry_eq]
  generalize (lg_sl [.int w, .int x, .int y, .int z] ++ List.replicate (4 - (lg_sl [.int w, .int x, .int y, .int z]).length) Slot.unset).toArray = ls at hl ⊢
  have hl : lv_has ls 4 [(0, .int w), (1, .int x), (2, .int y), (3, .int z)] := hl
  refine lv_iload_n hx hb dX6_overlaps_0 rfl (lv_at hl 0 rfl) ?_
  refine lv_iload_n hx hb dX6_overlaps_1 rfl (lv_at hl 3 rfl) ?_
  refine lv_icmp_ge (tgt := 14) hx hb dX6_overlaps_2 (by decide) (fun c_2 => ?_) (fun c_2 => ?_)
  · skip
    have d_2 := Int32.not_lt.mpr c_2
    refine lv_iconst (v := 0) hx hb dX6_overlaps_14 (by decide) ?_
    exact W.zret hx hb hr rfl (fun t ht _ => wk_ret (congrArg Value.int (by simp [wk_b, c_2, d_2])) ht) wk_nil dX6_overlaps_15
  have d_2 := Int32.not_le.mp c_2
  refine lv_iload_n hx hb dX6_overlaps_5 rfl (lv_at hl 2 rfl) ?_
  refine lv_iload_n hx hb dX6_overlaps_6 rfl (lv_at hl 1 rfl) ?_
  refine lv_icmp_ge (tgt := 14) hx hb dX6_overlaps_7 (by decide) (fun c_7 => ?_) (fun c_7 => ?_)
  · skip
    have d_7 := Int32.not_lt.mpr c_7
    refine lv_iconst (v := 0) hx hb dX6_overlaps_14 (by decide) ?_
    exact W.zret hx hb hr rfl (fun t ht _ => wk_ret (congrArg Value.int (by simp [wk_b, c_2, d_2, c_7, d_7])) ht) wk_nil dX6_overlaps_15
  have d_7 := Int32.not_le.mp c_7
  refine lv_iconst (v := 1) hx hb dX6_overlaps_10 (by decide) ?_
  refine lv_goto (tgt := 15) hx hb dX6_overlaps_11 (by decide) ?_
  exact W.zret hx hb hr rfl (fun t ht _ => wk_ret (congrArg Value.int (by simp [wk_b, c_2, d_2, c_7, d_7])) ht) wk_nil dX6_overlaps_15

abbrev rmX6_weightOf : Room := { frames := 0, cells := 0, slots := 0, locals := 0 }
set_option maxHeartbeats 4000000 in
set_option maxRecDepth 100000 in
theorem c_X6_weightOf (l : Launch) (E : wk_E) {T : Nat → Nat × Nat} {Y : Nat → Nat → Nat} {σ : z_S} {th : Int32} {gt : Int64} {H : Heap} (hA : MA E T Y σ th gt H) (hI : z_Ok σ) {i : Nat} (hi : i < z_n σ 2) : wk_Met l yX6_weightOf wsX6_weightOf rmX6_weightOf E H [.ref (Y 10 0), .int (nI i)] (some (.int (f_worth σ i))) := by
  refine Met.ofW (cc := cX6_weightOf) (maxL := 2) (ret := (some .int)) (by decide) rfl ?_
  intro p e s m args below meth c s₁ B hml hv
  obtain ⟨rfl, hH, hK⟩ := hv
  subst hH
  have hx := B.exec
  have hb := B.bytes
  have hr := B.returns
  have hts := atoms_spec (ws := wsX6_weightOf) B.pre
  have hown : s.vm.findClass RX6 = some m.cls := findClass_of_methodNamed B.named
  have hlocks := B.notSynchronized
  have i_X6 : ∀ w ∈ u_ws RX6 TX6 26, w ∈ wsX6_weightOf := fun w h => (List.mem_cons_of_mem _ (List.mem_append_right _ h))
  have hl := lv_entry [.ref (Y 10 0), .int (nI i)] (n := 2) (Nat.le_of_ble_eq_true rfl)
  rw [lg_entry_eq]
  generalize (lg_sl [.ref (Y 10 0), .int (nI i)] ++ List.replicate (2 - (lg_sl [.ref (Y 10 0), .int (nI i)]).length) Slot.unset).toArray = ls at hl ⊢
  have hl : lv_has ls 2 [(0, .ref (Y 10 0)), (1, .int (nI i))] := hl
  have b0 := hI.n0
  have b1 := hI.n1
  have b2 := hI.n2
  have b3 := hI.n3
  refine lv_aload_n hx hb dX6_weightOf_0 rfl (lv_at hl 0 rfl) ?_
  refine wk_get (own := RX6) (C := RX6) (T := TX6) (N := 26) (ci := 7) (v := .ref (Y 11 6)) hx hb hts i_X6 hown hK hA.obj rfl 12 (by decide) (hts _ (List.mem_of_getElem? (i := 1) rfl)) (fun _ h9 => h9) rfl dX6_weightOf_1 ?_
  refine lv_aload_n hx hb dX6_weightOf_4 rfl (lv_at hl 0 rfl) ?_
  refine wk_get (own := RX6) (C := RX6) (T := TX6) (N := 26) (ci := 7) (v := .ref (Y 11 12)) hx hb hts i_X6 hown hK hA.obj rfl 19 (by decide) (hts _ (List.mem_of_getElem? (i := 2) rfl)) (fun _ h9 => h9) rfl dX6_weightOf_5 ?_
  refine lv_iload_n hx hb dX6_weightOf_8 rfl (lv_at hl 1 rfl) ?_
  refine wk_iald (n := 16) (f := fun j => nI (z_pS σ j)) hx hb hK hA.a12 i rfl (by have := hi; omega) (by decide) dX6_weightOf_9 ?_
  refine wk_iald (n := 8) (f := fun j => z_sp σ j) hx hb hK hA.a6 (z_pS σ i) rfl (by have := (hI.pS hi); omega) (by decide) dX6_weightOf_10 ?_
  refine lv_aload_n hx hb dX6_weightOf_11 rfl (lv_at hl 0 rfl) ?_
  refine wk_get (own := RX6) (C := RX6) (T := TX6) (N := 26) (ci := 7) (v := .ref (Y 11 15)) hx hb hts i_X6 hown hK hA.obj rfl 22 (by decide) (hts _ (List.mem_of_getElem? (i := 3) rfl)) (fun _ h9 => h9) rfl dX6_weightOf_12 ?_
  refine lv_iload_n hx hb dX6_weightOf_15 rfl (lv_at hl 1 rfl) ?_
  refine wk_iald (n := 16) (f := fun j => z_pe σ j) hx hb hK hA.a15 i rfl (by have := hi; omega) (by decide) dX6_weightOf_16 ?_
  refine lv_aload_n hx hb dX6_weightOf_17 rfl (lv_at hl 0 rfl) ?_
  refine wk_get (own := RX6) (C := RX6) (T := TX6) (N := 26) (ci := 7) (v := .ref (Y 11 14)) hx hb hts i_X6 hown hK hA.obj rfl 21 (by decide) (hts _ (List.mem_of_getElem? (i := 4) rfl)) (fun _ h9 => h9) rfl dX6_weightOf_18 ?_
  refine lv_iload_n hx hb dX6_weightOf_21 rfl (lv_at hl 1 rfl) ?_
  refine wk_iald (n := 16) (f := fun j => z_pb σ j) hx hb hK hA.a14 i rfl (by have := hi; omega) (by decide) dX6_weightOf_22 ?_
  refine lv_isub hx hb dX6_weightOf_23 ?_
  refine lv_imul hx hb dX6_weightOf_24 ?_
  exact W.iret hx hb hr (fun t ht _ => wk_ret (congrArg Value.int rfl) ht) wk_nil dX6_weightOf_25
