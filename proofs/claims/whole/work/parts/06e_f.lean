abbrev rmt_X5_antenna : Room := { frames := 7, cells := 1, slots := 6, locals := 111 }
set_option maxHeartbeats 4000000 in
set_option maxRecDepth 100000 in
theorem t_X5_antenna (l : Launch) (hlf : l.stackTraces = false) (E : wk_E) {T : Nat → Nat × Nat} {X : z_X} {σ : z_S} {H : Heap} (hA : DA E T X σ H) (hI : z_Ok σ) {x y : Int32} (hbad : v_ix x (z_n σ 0) = false) : wx_Met l yX5_antenna wsX5_antenna rmt_X5_antenna E H [.ref (X.1 0 0), .int x, .int y] "java/lang/IndexOutOfBoundsException" := by
  refine vx_ofW (cc := cX5_antenna) (maxL := 4) (ret := (some .int)) (by decide) rfl ?_
  intro p e s m args below meth c s₁ B hml htab hv
  obtain ⟨rfl, hH, hV⟩ := hv
  subst hH
  have hK := hV.k
  have hx := B.exec
  have hb := B.bytes
  have hr := B.returns
  have hts := atoms_spec (ws := wsX5_antenna) B.pre
  have hown : s.vm.findClass RX5 = some m.cls := findClass_of_methodNamed B.named
  have hlocks := B.notSynchronized
  have hl := lv_entry [.ref (X.1 0 0), .int x, .int y] (n := 4) (Nat.le_of_ble_eq_true rfl)
  rw [lg_entry_eq]
  generalize (lg_sl [.ref (X.1 0 0), .int x, .int y] ++ List.replicate (4 - (lg_sl [.ref (X.1 0 0), .int x, .int y]).length) Slot.unset).toArray = ls at hl ⊢
  have hl : lv_has ls 4 [(0, .ref (X.1 0 0)), (1, .int x), (2, .int y)] := hl
  have b0 := hI.n0
  have b1 := hI.n1
  have b2 := hI.n2
  have b3 := hI.n3
  refine lv_aload_n hx hb dX5_antenna_0 rfl (lv_at hl 0 rfl) ?_
  refine lv_iload_n hx hb dX5_antenna_1 rfl (lv_at hl 1 rfl) ?_
  refine wx_V (As := [.int x]) (rest := []) ⟨hx, hb, hml, hown, hts⟩ (t_X5_antennaAt l hlf E hA hI hbad) (cwV 1 hts gX5_antenna_X5_antennaAt rfl rfl rfl (by decide +kernel) ⟨(Nat.le_of_ble_eq_true rfl), (Nat.le_of_ble_eq_true rfl)⟩) (wk_recv hK hA.desk rfl) hV rfl hl.1 rfl (Nat.le_of_ble_eq_true rfl) dX5_antenna_2 ⟨(Nat.le_of_ble_eq_true rfl), (Nat.le_of_ble_eq_true rfl)⟩ (fun ce q9 H1 hz9 hk9 hc9 hv9 hcl9 => ?_)
  exact wx_out htab hlocks hz9 hk9 hc9 hv9 hcl9

abbrev rmt2_X5_antenna : Room := { frames := 6, cells := 1, slots := 6, locals := 90 }
set_option maxHeartbeats 4000000 in
set_option maxRecDepth 100000 in
theorem t2_X5_antenna (l : Launch) (hlf : l.stackTraces = false) (E : wk_E) {T : Nat → Nat × Nat} {X : z_X} {σ : z_S} {H : Heap} (hA : DA E T X σ H) (hI : z_Ok σ) {a : Nat} {y : Int32} (ha : a < z_n σ 0) (hbad : v_in y 0 3 = false) : wx_Met l yX5_antenna wsX5_antenna rmt2_X5_antenna E H [.ref (X.1 0 0), .int (nI a), .int y] "java/lang/IndexOutOfBoundsException" := by
  refine vx_ofW (cc := cX5_antenna) (maxL := 4) (ret := (some .int)) (by decide) rfl ?_
  intro p e s m args below meth c s₁ B hml htab hv
  obtain ⟨rfl, hH, hV⟩ := hv
  subst hH
  have hK := hV.k
  have hx := B.exec
  have hb := B.bytes
  have hr := B.returns
  have hts := atoms_spec (ws := wsX5_antenna) B.pre
  have hown : s.vm.findClass RX5 = some m.cls := findClass_of_methodNamed B.named
  have hlocks := B.notSynchronized
  have hl := lv_entry [.ref (X.1 0 0), .int (nI a), .int y] (n := 4) (Nat.le_of_ble_eq_true rfl)
  rw [lg_entry_eq]
  generalize (lg_sl [.ref (X.1 0 0), .int (nI a), .int y] ++ List.replicate (4 - (lg_sl [.ref (X.1 0 0), .int (nI a), .int y]).length) Slot.unset).toArray = ls at hl ⊢
  have hl : lv_has ls 4 [(0, .ref (X.1 0 0)), (1, .int (nI a)), (2, .int y)] := hl
  have b0 := hI.n0
  have b1 := hI.n1
  have b2 := hI.n2
  have b3 := hI.n3
  refine lv_aload_n hx hb dX5_antenna_0 rfl (lv_at hl 0 rfl) ?_
  refine lv_iload_n hx hb dX5_antenna_1 rfl (lv_at hl 1 rfl) ?_
  refine wk_V (As := [.int (nI a)]) (rest := []) ⟨hx, hb, hml, hown, hts⟩ (c_X5_antennaAt l E hA hI ha) (cwV 1 hts gX5_antenna_X5_antennaAt rfl rfl rfl (by decide +kernel) ⟨(Nat.le_of_ble_eq_true rfl), (Nat.le_of_ble_eq_true rfl)⟩) (wk_recv hK hA.desk rfl) hK rfl hl.1 rfl (Nat.le_of_ble_eq_true rfl) dX5_antenna_2 ⟨Nat.zero_le _, Nat.zero_le _⟩ ?_
  refine lv_astore_n (lv' := [(3, .ref (X.1 5 a)), (0, .ref (X.1 0 0)), (1, .int (nI a)), (2, .int y)]) hx hb dX5_antenna_5 rfl hl (by decide) rfl (fun ls hl => ?_)
  refine lv_iload_n hx hb dX5_antenna_6 rfl (lv_at hl 3 rfl) ?_
  refine lv_tableOut (tgt := 77) hx hb dX5_antenna_7 (v_out hbad rfl) (by decide) ?_
  exact wx_throw (nL := 4) hx hb hlf hown hml hl.1 (by decide) (by decide) (hts _ (List.mem_of_getElem? (i := 1) rfl)) (hts _ (List.mem_of_getElem? (i := 2) rfl)) (List.mem_of_getElem? (i := 1) rfl) (fun w h => hts w (List.mem_cons_of_mem _ (List.mem_append_right _ h))) wx_bad_IOB wx_good_IOB hV htab hlocks dX5_antenna_77 dX5_antenna_80 dX5_antenna_81 dX5_antenna_83 dX5_antenna_86 ⟨(Nat.le_of_ble_eq_true rfl), (Nat.le_of_ble_eq_true rfl), (Nat.le_of_ble_eq_true rfl), (Nat.le_of_ble_eq_true rfl)⟩

abbrev rmX5_isConflict : Room := { frames := 4, cells := 0, slots := 0, locals := 85 }
set_option maxHeartbeats 4000000 in
set_option maxRecDepth 100000 in
theorem c_X5_isConflict (l : Launch) (E : wk_E) {T : Nat → Nat × Nat} {X : z_X} {σ : z_S} {H : Heap} (hA : DA E T X σ H) (hI : z_Ok σ) {i j : Nat} (hi : i < z_n σ 2) (hj : j < z_n σ 2) (hij : ¬ i = j) : wk_Met l yX5_isConflict wsX5_isConflict rmX5_isConflict E H [.ref (X.1 0 0), .int (nI i), .int (nI j)] (some (.int (wk_b (f_conf σ i j)))) := by
  refine Met.ofW (cc := cX5_isConflict) (maxL := 5) (ret := (some .boolean)) (by decide) rfl ?_
  intro p e s m args below meth c s₁ B hml hv
  obtain ⟨rfl, hH, hK⟩ := hv
  subst hH
  have hx := B.exec
  have hb := B.bytes
  have hr := B.returns
  have hts := atoms_spec (ws := wsX5_isConflict) B.pre
  have hown : s.vm.findClass RX5 = some m.cls := findClass_of_methodNamed B.named
  have hlocks := B.notSynchronized
  have hl := lv_entry [.ref (X.1 0 0), .int (nI i), .int (nI j)] (n := 5) (Nat.le_of_ble_eq_true rfl)
  rw [lg_entry_eq]
  generalize (lg_sl [.ref (X.1 0 0), .int (nI i), .int (nI j)] ++ List.replicate (5 - (lg_sl [.ref (X.1 0 0), .int (nI i), .int (nI j)]).length) Slot.unset).toArray = ls at hl ⊢
  have hl : lv_has ls 5 [(0, .ref (X.1 0 0)), (1, .int (nI i)), (2, .int (nI j))] := hl
  have b0 := hI.n0
  have b1 := hI.n1
  have b2 := hI.n2
  have b3 := hI.n3
  refine lv_aload_n hx hb dX5_isConflict_0 rfl (lv_at hl 0 rfl) ?_
  refine lv_iload_n hx hb dX5_isConflict_1 rfl (lv_at hl 1 rfl) ?_
  refine wk_V (As := [.int (nI i)]) (rest := []) ⟨hx, hb, hml, hown, hts⟩ (c_X5_passAt l E hA hI hi) (cwV 1 hts gX5_isConflict_X5_passAt rfl rfl rfl (by decide +kernel) ⟨(Nat.le_of_ble_eq_true rfl), (Nat.le_of_ble_eq_true rfl)⟩) (wk_recv hK hA.desk rfl) hK rfl hl.1 rfl (Nat.le_of_ble_eq_true rfl) dX5_isConflict_2 ⟨Nat.zero_le _, Nat.zero_le _⟩ ?_
  refine lv_astore_n (lv' := [(3, .ref (X.1 7 i)), (0, .ref (X.1 0 0)), (1, .int (nI i)), (2, .int (nI j))]) hx hb dX5_isConflict_5 rfl hl (by decide) rfl (fun ls hl => ?_)
  refine lv_aload_n hx hb dX5_isConflict_6 rfl (lv_at hl 1 rfl) ?_
  refine lv_iload_n hx hb dX5_isConflict_7 rfl (lv_at hl 3 rfl) ?_
  refine wk_V (As := [.int (nI j)]) (rest := []) ⟨hx, hb, hml, hown, hts⟩ (c_X5_passAt l E hA hI hj) (cwV 1 hts gX5_isConflict_X5_passAt rfl rfl rfl (by decide +kernel) ⟨(Nat.le_of_ble_eq_true rfl), (Nat.le_of_ble_eq_true rfl)⟩) (wk_recv hK hA.desk rfl) hK rfl hl.1 rfl (Nat.le_of_ble_eq_true rfl) dX5_isConflict_8 ⟨Nat.zero_le _, Nat.zero_le _⟩ ?_
  refine lv_astore (lv' := [(4, .ref (X.1 7 j)), (3, .ref (X.1 7 i)), (0, .ref (X.1 0 0)), (1, .int (nI i)), (2, .int (nI j))]) hx hb dX5_isConflict_11 hl (by decide) rfl (fun ls hl => ?_)
  refine lv_iload_n hx hb dX5_isConflict_13 rfl (lv_at hl 3 rfl) ?_
  refine lv_iload_n hx hb dX5_isConflict_14 rfl (lv_at hl 4 rfl) ?_
  refine lv_icmp_ne (tgt := 28) hx hb dX5_isConflict_15 (by decide) (fun c_15 => ?_) (fun c_15 => ?_)
  · skip
    have e_15 : ¬ i = j := wk_cnet (by omega) (by omega) c_15
    refine lv_aload_n hx hb dX5_isConflict_28 rfl (lv_at hl 2 rfl) ?_
    refine lv_aload_n hx hb dX5_isConflict_29 rfl (lv_at hl 1 rfl) ?_
    refine lv_aload hx hb dX5_isConflict_30 (lv_at hl 0 rfl) ?_
    refine wk_V (As := [.ref (X.1 7 i), .ref (X.1 7 j)]) (rest := []) ⟨hx, hb, hml, hown, hts⟩ (c_X5_areInConflict l E hA hI hi hj hij) (cwV 2 hts gX5_isConflict_X5_areInConflict rfl rfl rfl (by decide +kernel) ⟨(Nat.le_of_ble_eq_true rfl), (Nat.le_of_ble_eq_true rfl)⟩) (wk_recv hK hA.desk rfl) hK rfl hl.1 rfl (Nat.le_of_ble_eq_true rfl) dX5_isConflict_32 ⟨Nat.zero_le _, Nat.zero_le _⟩ ?_
    exact W.zret hx hb hr (wk_nz _) (fun t ht _ => wk_ret (congrArg Value.int rfl) ht) wk_nil dX5_isConflict_35
  have e_15 : i = j := wk_cnef (by omega) (by omega) c_15
  exact absurd e_15 hij

abbrev rmt_X5_isConflict : Room := { frames := 7, cells := 1, slots := 6, locals := 111 }
set_option maxHeartbeats 4000000 in
set_option maxRecDepth 100000 in
theorem t_X5_isConflict (l : Launch) (hlf : l.stackTraces = false) (E : wk_E) {T : Nat → Nat × Nat} {X : z_X} {σ : z_S} {H : Heap} (hA : DA E T X σ H) (hI : z_Ok σ) {x y : Int32} (hbad : v_ix x (z_n σ 2) = false) : wx_Met l yX5_isConflict wsX5_isConflict rmt_X5_isConflict E H [.ref (X.1 0 0), .int x, .int y] "java/lang/IndexOutOfBoundsException" := by
  refine vx_ofW (cc := cX5_isConflict) (maxL := 5) (ret := (some .boolean)) (by decide) rfl ?_
  intro p e s m args below meth c s₁ B hml htab hv
  obtain ⟨rfl, hH, hV⟩ := hv
  subst hH
  have hK := hV.k
  have hx := B.exec
  have hb := B.bytes
  have hr := B.returns
  have hts := atoms_spec (ws := wsX5_isConflict) B.pre
  have hown : s.vm.findClass RX5 = some m.cls := findClass_of_methodNamed B.named
  have hlocks := B.notSynchronized
  have hl := lv_entry [.ref (X.1 0 0), .int x, .int y] (n := 5) (Nat.le_of_ble_eq_true rfl)
  rw [lg_entry_eq]
  generalize (lg_sl [.ref (X.1 0 0), .int x, .int y] ++ List.replicate (5 - (lg_sl [.ref (X.1 0 0), .int x, .int y]).length) Slot.unset).toArray = ls at hl ⊢
  have hl : lv_has ls 5 [(0, .ref (X.1 0 0)), (1, .int x), (2, .int y)] := hl
  have b0 := hI.n0
  have b1 := hI.n1
  have b2 := hI.n2
  have b3 := hI.n3
  refine lv_aload_n hx hb dX5_isConflict_0 rfl (lv_at hl 0 rfl) ?_
  refine lv_iload_n hx hb dX5_isConflict_1 rfl (lv_at hl 1 rfl) ?_
  refine wx_V (As := [.int x]) (rest := []) ⟨hx, hb, hml, hown, hts⟩ (t_X5_passAt l hlf E hA hI hbad) (cwV 1 hts gX5_isConflict_X5_passAt rfl rfl rfl (by decide +kernel) ⟨(Nat.le_of_ble_eq_true rfl), (Nat.le_of_ble_eq_true rfl)⟩) (wk_recv hK hA.desk rfl) hV rfl hl.1 rfl (Nat.le_of_ble_eq_true rfl) dX5_isConflict_2 ⟨(Nat.le_of_ble_eq_true rfl), (Nat.le_of_ble_eq_true rfl)⟩ (fun ce q9 H1 hz9 hk9 hc9 hv9 hcl9 => ?_)
  exact wx_out htab hlocks hz9 hk9 hc9 hv9 hcl9

abbrev rmt2_X5_isConflict : Room := { frames := 7, cells := 1, slots := 6, locals := 111 }
set_option maxHeartbeats 4000000 in
set_option maxRecDepth 100000 in
theorem t2_X5_isConflict (l : Launch) (hlf : l.stackTraces = false) (E : wk_E) {T : Nat → Nat × Nat} {X : z_X} {σ : z_S} {H : Heap} (hA : DA E T X σ H) (hI : z_Ok σ) {i : Nat} {y : Int32} (hi : i < z_n σ 2) (hbad : v_ix y (z_n σ 2) = false) : wx_Met l yX5_isConflict wsX5_isConflict rmt2_X5_isConflict E H [.ref (X.1 0 0), .int (nI i), .int y] "java/lang/IndexOutOfBoundsException" := by
  refine vx_ofW (cc := cX5_isConflict) (maxL := 5) (ret := (some .boolean)) (by decide) rfl ?_
  intro p e s m args below meth c s₁ B hml htab hv
  obtain ⟨rfl, hH, hV⟩ := hv
  subst hH
  have hK := hV.k
  have hx := B.exec
  have hb := B.bytes
  have hr := B.returns
  have hts := atoms_spec (ws := wsX5_isConflict) B.pre
  have hown : s.vm.findClass RX5 = some m.cls := findClass_of_methodNamed B.named
  have hlocks := B.notSynchronized
  have hl := lv_entry [.ref (X.1 0 0), .int (nI i), .int y] (n := 5) (Nat.le_of_ble_eq_true rfl)
  rw [lg_entry_eq]
  generalize (lg_sl [.ref (X.1 0 0), .int (nI i), .int y] ++ List.replicate (5 - (lg_sl [.ref (X.1 0 0), .int (nI i), .int y]).length) Slot.unset).toArray = ls at hl ⊢
  have hl : lv_has ls 5 [(0, .ref (X.1 0 0)), (1, .int (nI i)), (2, .int y)] := hl
  have b0 := hI.n0
  have b1 := hI.n1
  have b2 := hI.n2
  have b3 := hI.n3
  refine lv_aload_n hx hb dX5_isConflict_0 rfl (lv_at hl 0 rfl) ?_
  refine lv_iload_n hx hb dX5_isConflict_1 rfl (lv_at hl 1 rfl) ?_
  refine wk_V (As := [.int (nI i)]) (rest := []) ⟨hx, hb, hml, hown, hts⟩ (c_X5_passAt l E hA hI hi) (cwV 1 hts gX5_isConflict_X5_passAt rfl rfl rfl (by decide +kernel) ⟨(Nat.le_of_ble_eq_true rfl), (Nat.le_of_ble_eq_true rfl)⟩) (wk_recv hK hA.desk rfl) hK rfl hl.1 rfl (Nat.le_of_ble_eq_true rfl) dX5_isConflict_2 ⟨Nat.zero_le _, Nat.zero_le _⟩ ?_
  refine lv_astore_n (lv' := [(3, .ref (X.1 7 i)), (0, .ref (X.1 0 0)), (1, .int (nI i)), (2, .int y)]) hx hb dX5_isConflict_5 rfl hl (by decide) rfl (fun ls hl => ?_)
  refine lv_aload_n hx hb dX5_isConflict_6 rfl (lv_at hl 1 rfl) ?_
  refine lv_iload_n hx hb dX5_isConflict_7 rfl (lv_at hl 3 rfl) ?_
  refine wx_V (As := [.int y]) (rest := []) ⟨hx, hb, hml, hown, hts⟩ (t_X5_passAt l hlf E hA hI hbad) (cwV 1 hts gX5_isConflict_X5_passAt rfl rfl rfl (by decide +kernel) ⟨(Nat.le_of_ble_eq_true rfl), (Nat.le_of_ble_eq_true rfl)⟩) (wk_recv hK hA.desk rfl) hV rfl hl.1 rfl (Nat.le_of_ble_eq_true rfl) dX5_isConflict_8 ⟨(Nat.le_of_ble_eq_true rfl), (Nat.le_of_ble_eq_true rfl)⟩ (fun ce q9 H1 hz9 hk9 hc9 hv9 hcl9 => ?_)
  exact wx_out htab hlocks hz9 hk9 hc9 hv9 hcl9
