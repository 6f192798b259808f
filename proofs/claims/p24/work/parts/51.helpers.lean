abbrev rmL_below : Room := { frames := 0, cells := 0, slots := 0, locals := 0 }
set_option maxHeartbeats 4000000 in
set_option maxRecDepth 100000 in
theorem c_L_below (l : Launch) (E : wk_E) {H : Heap} (x : Int32) {k : Nat} (h0 : 0 < k) (hk : k < 2 ^ 31) : wk_Met l yL_below wsL_below rmL_below E H [.int x, .int (nI k)] (some (.int (nI (q_b x k)))) := by
  refine Met.ofW (cc := cL_below) (maxL := 2) (ret := (some .int)) (by decide) rfl ?_
  intro p e s m args below meth c s₁ B hml hv
  obtain ⟨rfl, hH, hK⟩ := hv
  subst hH
  have hx := B.exec
  have hb := B.bytes
  have hr := B.returns
  have hts := atoms_spec (ws := wsL_below) B.pre
  have hown : s.vm.findClass RL = some m.cls := findClass_of_methodNamed B.named
  have hlocks := B.notSynchronized
  have hl := lv_entry [.int x, .int (nI k)] (n := 2) (Nat.le_of_ble_eq_true rfl)
  rw [lg_entry_eq]
  generalize (lg_sl [.int x, .int (nI k)] ++ List.replicate (2 - (lg_sl [.int x, .int (nI k)]).length) Slot.unset).toArray = ls at hl ⊢
  have hl : lv_has ls 2 [(0, .int x), (1, .int (nI k))] := hl
  refine lv_iload_n hx hb dL_below_0 rfl (lv_at hl 0 rfl) ?_
  refine lv_ldc (own := RL) (v := (2147483647)) hx hb hown (hts _ (List.mem_of_getElem? (i := 1) rfl)) dL_below_1 ?_
  refine lv_iand hx hb dL_below_3 ?_
  refine lv_iload_n hx hb dL_below_4 rfl (lv_at hl 1 rfl) ?_
  refine lv_irem hx hb dL_below_5 (q_nz rfl h0 hk) ?_
  exact W.iret hx hb hr (fun t ht _ => wk_ret (congrArg Value.int (q_rem x h0 hk)) ht) wk_nil dL_below_6

abbrev rmL_cell : Room := { frames := 0, cells := 0, slots := 0, locals := 0 }
set_option maxHeartbeats 4000000 in
set_option maxRecDepth 100000 in
theorem c_L_cell (l : Launch) (E : wk_E) {H : Heap} {b L : Nat} {xs : Nat → Int32} (hL : L ≤ 260) {k : Nat} (hk : k < 2 ^ 30) : wk_MetP (q_X b L xs H) l yL_cell wsL_cell rmL_cell E H [.ref b, .int (nI k)] (some (.int (q_cell L xs k))) := by
  refine Met.ofW (cc := cL_cell) (maxL := 2) (ret := (some .int)) (by decide) rfl ?_
  intro p e s m args below meth c s₁ B hml hv
  obtain ⟨rfl, ⟨hH, hK⟩, hX9⟩ := hv
  subst hH
  have hX0 : va_X b L xs s s.heap := hX9
  have hx := B.exec
  have hb := B.bytes
  have hr := B.returns
  have hts := atoms_spec (ws := wsL_cell) B.pre
  have hown : s.vm.findClass RL = some m.cls := findClass_of_methodNamed B.named
  have hlocks := B.notSynchronized
  have hl := lv_entry [.ref b, .int (nI k)] (n := 2) (Nat.le_of_ble_eq_true rfl)
  rw [lg_entry_eq]
  generalize (lg_sl [.ref b, .int (nI k)] ++ List.replicate (2 - (lg_sl [.ref b, .int (nI k)]).length) Slot.unset).toArray = ls at hl ⊢
  have hl : lv_has ls 2 [(0, .ref b), (1, .int (nI k))] := hl
  refine lv_iload_n hx hb dL_cell_0 rfl (lv_at hl 1 rfl) ?_
  refine lv_aload_n hx hb dL_cell_1 rfl (lv_at hl 0 rfl) ?_
  refine va_slen hx hb hX0 (q_Xlt hX0) (fun h => h) (va_S.rf (A := fun _ => False)) dL_cell_2 ?_
  refine wk_eqls (st' := [.int (nI L), .int (nI k)]) rfl ?_
  refine lv_icmp_ge (tgt := 12) hx hb dL_cell_3 (by decide) (fun c_3 => ?_) (fun c_3 => ?_)
  · skip
    have e_3 : L ≤ k := wk_cget (by omega) (by omega) c_3
    refine lv_ldc (own := RL) (v := (790386105)) hx hb hown (hts _ (List.mem_of_getElem? (i := 1) rfl)) dL_cell_12 ?_
    refine lv_iload_n hx hb dL_cell_14 rfl (lv_at hl 1 rfl) ?_
    refine lv_iconst (v := 3) hx hb dL_cell_15 (by decide) ?_
    refine lv_iadd hx hb dL_cell_16 ?_
    refine wk_eqi (show (nI k) + 3 = nI (k + 3) from nI_add k 3) ?_
    refine lv_imul hx hb dL_cell_17 ?_
    refine wk_eqi (show (790386105) * (nI (k + 3)) = nI (790386105 * (k + 3)) from pk_mul 790386105 (k + 3)) ?_
    exact W.iret hx hb hr (fun t ht _ => wk_ret (congrArg Value.int (show _ = q_cell L xs k by unfold q_cell; rw [if_neg (Nat.not_lt.mpr e_3)])) ht) wk_nil dL_cell_18
  have e_3 : k < L := wk_cgef (by omega) (by omega) c_3
  refine lv_aload_n hx hb dL_cell_6 rfl (lv_at hl 0 rfl) ?_
  refine lv_iload_n hx hb dL_cell_7 rfl (lv_at hl 1 rfl) ?_
  refine va_sld hx hb hX0 (q_Xlt hX0) (fun h => h) (va_S.rf (A := fun _ => False)) (vp_in_nI e_3 (by omega)) dL_cell_8 ?_
  rw [nI_clamp (by omega)]
  refine lv_goto (tgt := 18) hx hb dL_cell_9 (by decide) ?_
  exact W.iret hx hb hr (fun t ht _ => wk_ret (congrArg Value.int (show _ = q_cell L xs k by unfold q_cell; rw [if_pos e_3])) ht) wk_nil dL_cell_18
