abbrev rmt2_X5_pass : Room := { frames := 6, cells := 1, slots := 6, locals := 90 }
set_option maxHeartbeats 4000000 in
set_option maxRecDepth 100000 in
theorem t2_X5_pass (l : Launch) (hlf : l.stackTraces = false) (E : wk_E) {T : Nat → Nat × Nat} {X : z_X} {σ : z_S} {H : Heap} (hA : DA E T X σ H) (hI : z_Ok σ) {i : Nat} {y : Int32} (hi : i < z_n σ 2) (hbad : v_in y 0 7 = false) : wx_Met l yX5_pass wsX5_pass rmt2_X5_pass E H [.ref (X.1 0 0), .int (nI i), .int y] "java/lang/IndexOutOfBoundsException" := by
  refine vx_ofW (cc := cX5_pass) (maxL := 4) (ret := (some .int)) (by decide) rfl ?_
  intro p e s m args below meth c s₁ B hml htab hv
  obtain ⟨rfl, hH, hV⟩ := hv
  subst hH
  have hK := hV.k
  have hx := B.exec
  have hb := B.bytes
  have hr := B.returns
  have hts := atoms_spec (ws := wsX5_pass) B.pre
  have hown : s.vm.findClass RX5 = some m.cls := findClass_of_methodNamed B.named
  have hlocks := B.notSynchronized
  have hl := lv_entry [.ref (X.1 0 0), .int (nI i), .int y] (n := 4) (Nat.le_of_ble_eq_true rfl)
  rw [lg_entry_eq]
  generalize (lg_sl [.ref (X.1 0 0), .int (nI i), .int y] ++ List.replicate (4 - (lg_sl [.ref (X.1 0 0), .int (nI i), .int y]).length) Slot.unset).toArray = ls at hl ⊢
  have hl : lv_has ls 4 [(0, .ref (X.1 0 0)), (1, .int (nI i)), (2, .int y)] := hl
  have b0 := hI.n0
  have b1 := hI.n1
  have b2 := hI.n2
  have b3 := hI.n3
  refine lv_aload_n hx hb dX5_pass_0 rfl (lv_at hl 0 rfl) ?_
  refine lv_iload_n hx hb dX5_pass_1 rfl (lv_at hl 1 rfl) ?_
  refine wk_V (As := [.int (nI i)]) (rest := []) ⟨hx, hb, hml, hown, hts⟩ (c_X5_passAt l E hA hI hi) (cwV 1 hts gX5_pass_X5_passAt rfl rfl rfl (by decide +kernel) ⟨(Nat.le_of_ble_eq_true rfl), (Nat.le_of_ble_eq_true rfl)⟩) (wk_recv hK hA.desk rfl) hK rfl hl.1 rfl (Nat.le_of_ble_eq_true rfl) dX5_pass_2 ⟨Nat.zero_le _, Nat.zero_le _⟩ ?_
  refine lv_astore_n (lv' := [(3, .ref (X.1 7 i)), (0, .ref (X.1 0 0)), (1, .int (nI i)), (2, .int y)]) hx hb dX5_pass_5 rfl hl (by decide) rfl (fun ls hl => ?_)
  refine lv_iload_n hx hb dX5_pass_6 rfl (lv_at hl 3 rfl) ?_
  refine lv_tableOut (tgt := 118) hx hb dX5_pass_7 (v_out hbad rfl) (by decide) ?_
  exact wx_throw (nL := 4) hx hb hlf hown hml hl.1 (by decide) (by decide) (hts _ (List.mem_of_getElem? (i := 1) rfl)) (hts _ (List.mem_of_getElem? (i := 2) rfl)) (List.mem_of_getElem? (i := 4) rfl) (fun w h => hts w (List.mem_cons_of_mem _ (List.mem_append_right _ h))) wx_bad_IOB wx_good_IOB hV htab hlocks dX5_pass_118 dX5_pass_121 dX5_pass_122 dX5_pass_124 dX5_pass_127 ⟨(Nat.le_of_ble_eq_true rfl), (Nat.le_of_ble_eq_true rfl), (Nat.le_of_ble_eq_true rfl), (Nat.le_of_ble_eq_true rfl)⟩

abbrev rmX5_satellite : Room := { frames := 4, cells := 0, slots := 0, locals := 85 }
set_option maxHeartbeats 4000000 in
set_option maxRecDepth 100000 in
theorem c_X5_satellite (l : Launch) (E : wk_E) {T : Nat → Nat × Nat} {X : z_X} {σ : z_S} {H : Heap} (hA : DA E T X σ H) (hI : z_Ok σ) {k w : Nat} (hk : k < z_n σ 1) (hw : w ≤ 3) : wk_Met l yX5_satellite wsX5_satellite rmX5_satellite E H [.ref (X.1 0 0), .int (nI k), .int (nI w)] (some (.int (f_sat σ k w))) := by
  refine Met.ofW (cc := cX5_satellite) (maxL := 4) (ret := (some .int)) (by decide) rfl ?_
  intro p e s m args below meth c s₁ B hml hv
  obtain ⟨rfl, hH, hK⟩ := hv
  subst hH
  have hx := B.exec
  have hb := B.bytes
  have hr := B.returns
  have hts := atoms_spec (ws := wsX5_satellite) B.pre
  have hown : s.vm.findClass RX5 = some m.cls := findClass_of_methodNamed B.named
  have hlocks := B.notSynchronized
  have i_X3 : ∀ w ∈ u_ws RX3 TX3 8, w ∈ wsX5_satellite := fun w h => (List.mem_cons_of_mem _ (List.mem_append_left _ (List.mem_append_left _ (List.mem_append_left _ (List.mem_append_right _ h)))))
  have hl := lv_entry [.ref (X.1 0 0), .int (nI k), .int (nI w)] (n := 4) (Nat.le_of_ble_eq_true rfl)
  rw [lg_entry_eq]
  generalize (lg_sl [.ref (X.1 0 0), .int (nI k), .int (nI w)] ++ List.replicate (4 - (lg_sl [.ref (X.1 0 0), .int (nI k), .int (nI w)]).length) Slot.unset).toArray = ls at hl ⊢
  have hl : lv_has ls 4 [(0, .ref (X.1 0 0)), (1, .int (nI k)), (2, .int (nI w))] := hl
  have b0 := hI.n0
  have b1 := hI.n1
  have b2 := hI.n2
  have b3 := hI.n3
  rcases (show w = 0 ∨ w = 1 ∨ w = 2 ∨ w = 3 by omega) with rfl | rfl | rfl | rfl
  · skip
    refine lv_aload_n hx hb dX5_satellite_0 rfl (lv_at hl 0 rfl) ?_
    refine lv_iload_n hx hb dX5_satellite_1 rfl (lv_at hl 1 rfl) ?_
    refine wk_V (As := [.int (nI k)]) (rest := []) ⟨hx, hb, hml, hown, hts⟩ (c_X5_satelliteAt l E hA hI hk) (cwV 1 hts gX5_satellite_X5_satelliteAt rfl rfl rfl (by decide +kernel) ⟨(Nat.le_of_ble_eq_true rfl), (Nat.le_of_ble_eq_true rfl)⟩) (wk_recv hK hA.desk rfl) hK rfl hl.1 rfl (Nat.le_of_ble_eq_true rfl) dX5_satellite_2 ⟨Nat.zero_le _, Nat.zero_le _⟩ ?_
    refine lv_astore_n (lv' := [(3, .ref (X.1 6 k)), (0, .ref (X.1 0 0)), (1, .int (nI k)), (2, .int (nI 0))]) hx hb dX5_satellite_5 rfl hl (by decide) rfl (fun ls hl => ?_)
    refine lv_iload_n hx hb dX5_satellite_6 rfl (lv_at hl 3 rfl) ?_
    refine lv_tableIn (off := 29) (tgt := 36) hx hb dX5_satellite_7 (by decide) (by decide) (by decide) (by decide) ?_
    refine lv_aload_n hx hb dX5_satellite_36 rfl (lv_at hl 0 rfl) ?_
    refine wk_get (own := RX5) (C := RX3) (T := TX3) (N := 8) (ci := 4) (v := .int (z_su σ k)) hx hb hts i_X3 hown hK (hA.sat hk) rfl 5 (by decide) (hts _ (List.mem_of_getElem? (i := 3) rfl)) (fun _ h9 => h9) rfl dX5_satellite_37 ?_
    exact W.iret hx hb hr (fun t ht _ => wk_ret (congrArg Value.int rfl) ht) wk_nil dX5_satellite_40
  · skip
    refine lv_aload_n hx hb dX5_satellite_0 rfl (lv_at hl 0 rfl) ?_
    refine lv_iload_n hx hb dX5_satellite_1 rfl (lv_at hl 1 rfl) ?_
    refine wk_V (As := [.int (nI k)]) (rest := []) ⟨hx, hb, hml, hown, hts⟩ (c_X5_satelliteAt l E hA hI hk) (cwV 1 hts gX5_satellite_X5_satelliteAt rfl rfl rfl (by decide +kernel) ⟨(Nat.le_of_ble_eq_true rfl), (Nat.le_of_ble_eq_true rfl)⟩) (wk_recv hK hA.desk rfl) hK rfl hl.1 rfl (Nat.le_of_ble_eq_true rfl) dX5_satellite_2 ⟨Nat.zero_le _, Nat.zero_le _⟩ ?_
    refine lv_astore_n (lv' := [(3, .ref (X.1 6 k)), (0, .ref (X.1 0 0)), (1, .int (nI k)), (2, .int (nI 1))]) hx hb dX5_satellite_5 rfl hl (by decide) rfl (fun ls hl => ?_)
    refine lv_iload_n hx hb dX5_satellite_6 rfl (lv_at hl 3 rfl) ?_
    refine lv_tableIn (off := 34) (tgt := 41) hx hb dX5_satellite_7 (by decide) (by decide) (by decide) (by decide) ?_
    refine lv_aload_n hx hb dX5_satellite_41 rfl (lv_at hl 0 rfl) ?_
    refine wk_get (own := RX5) (C := RX3) (T := TX3) (N := 8) (ci := 4) (v := .int (z_sl σ k)) hx hb hts i_X3 hown hK (hA.sat hk) rfl 6 (by decide) (hts _ (List.mem_of_getElem? (i := 4) rfl)) (fun _ h9 => h9) rfl dX5_satellite_42 ?_
    exact W.iret hx hb hr (fun t ht _ => wk_ret (congrArg Value.int rfl) ht) wk_nil dX5_satellite_45
  · skip
    refine lv_aload_n hx hb dX5_satellite_0 rfl (lv_at hl 0 rfl) ?_
    refine lv_iload_n hx hb dX5_satellite_1 rfl (lv_at hl 1 rfl) ?_
    refine wk_V (As := [.int (nI k)]) (rest := []) ⟨hx, hb, hml, hown, hts⟩ (c_X5_satelliteAt l E hA hI hk) (cwV 1 hts gX5_satellite_X5_satelliteAt rfl rfl rfl (by decide +kernel) ⟨(Nat.le_of_ble_eq_true rfl), (Nat.le_of_ble_eq_true rfl)⟩) (wk_recv hK hA.desk rfl) hK rfl hl.1 rfl (Nat.le_of_ble_eq_true rfl) dX5_satellite_2 ⟨Nat.zero_le _, Nat.zero_le _⟩ ?_
    refine lv_astore_n (lv' := [(3, .ref (X.1 6 k)), (0, .ref (X.1 0 0)), (1, .int (nI k)), (2, .int (nI 2))]) hx hb dX5_satellite_5 rfl hl (by decide) rfl (fun ls hl => ?_)
    refine lv_iload_n hx hb dX5_satellite_6 rfl (lv_at hl 3 rfl) ?_
    refine lv_tableIn (off := 39) (tgt := 46) hx hb dX5_satellite_7 (by decide) (by decide) (by decide) (by decide) ?_
    refine lv_aload_n hx hb dX5_satellite_46 rfl (lv_at hl 0 rfl) ?_
    refine wk_get (own := RX5) (C := RX3) (T := TX3) (N := 8) (ci := 4) (v := .int (z_sd σ k)) hx hb hts i_X3 hown hK (hA.sat hk) rfl 7 (by decide) (hts _ (List.mem_of_getElem? (i := 5) rfl)) (fun _ h9 => h9) rfl dX5_satellite_47 ?_
    exact W.iret hx hb hr (fun t ht _ => wk_ret (congrArg Value.int rfl) ht) wk_nil dX5_satellite_50
  · skip
    refine lv_aload_n hx hb dX5_satellite_0 rfl (lv_at hl 0 rfl) ?_
    refine lv_iload_n hx hb dX5_satellite_1 rfl (lv_at hl 1 rfl) ?_
    refine wk_V (As := [.int (nI k)]) (rest := []) ⟨hx, hb, hml, hown, hts⟩ (c_X5_satelliteAt l E hA hI hk) (cwV 1 hts gX5_satellite_X5_satelliteAt rfl rfl rfl (by decide +kernel) ⟨(Nat.le_of_ble_eq_true rfl), (Nat.le_of_ble_eq_true rfl)⟩) (wk_recv hK hA.desk rfl) hK rfl hl.1 rfl (Nat.le_of_ble_eq_true rfl) dX5_satellite_2 ⟨Nat.zero_le _, Nat.zero_le _⟩ ?_
    refine lv_astore_n (lv' := [(3, .ref (X.1 6 k)), (0, .ref (X.1 0 0)), (1, .int (nI k)), (2, .int (nI 3))]) hx hb dX5_satellite_5 rfl hl (by decide) rfl (fun ls hl => ?_)
    refine lv_iload_n hx hb dX5_satellite_6 rfl (lv_at hl 3 rfl) ?_
    refine lv_tableIn (off := 44) (tgt := 51) hx hb dX5_satellite_7 (by decide) (by decide) (by decide) (by decide) ?_
    refine lv_aload_n hx hb dX5_satellite_51 rfl (lv_at hl 1 rfl) ?_
    refine lv_aload_n hx hb dX5_satellite_52 rfl (lv_at hl 0 rfl) ?_
    refine wk_V (As := [.ref (X.1 6 k)]) (rest := []) ⟨hx, hb, hml, hown, hts⟩ (c_X5_minuteOfFull l E hA hI hk) (cwV 1 hts gX5_satellite_X5_minuteOfFull rfl rfl rfl (by decide +kernel) ⟨(Nat.le_of_ble_eq_true rfl), (Nat.le_of_ble_eq_true rfl)⟩) (wk_recv hK hA.desk rfl) hK rfl hl.1 rfl (Nat.le_of_ble_eq_true rfl) dX5_satellite_53 ⟨Nat.zero_le _, Nat.zero_le _⟩ ?_
    exact W.iret hx hb hr (fun t ht _ => wk_ret (congrArg Value.int rfl) ht) wk_nil dX5_satellite_56

abbrev rmt_X5_satellite : Room := { frames := 7, cells := 1, slots := 6, locals := 111 }
set_option maxHeartbeats 4000000 in
set_option maxRecDepth 100000 in
theorem t_X5_satellite (l : Launch) (hlf : l.stackTraces = false) (E : wk_E) {T : Nat → Nat × Nat} {X : z_X} {σ : z_S} {H : Heap} (hA : DA E T X σ H) (hI : z_Ok σ) {x y : Int32} (hbad : v_ix x (z_n σ 1) = false) : wx_Met l yX5_satellite wsX5_satellite rmt_X5_satellite E H [.ref (X.1 0 0), .int x, .int y] "java/lang/IndexOutOfBoundsException" := by
  refine vx_ofW (cc := cX5_satellite) (maxL := 4) (ret := (some .int)) (by decide) rfl ?_
  intro p e s m args below meth c s₁ B hml htab hv
  obtain ⟨rfl, hH, hV⟩ := hv
  subst hH
  have hK := hV.k
  have hx := B.exec
  have hb := B.bytes
  have hr := B.returns
  have hts := atoms_spec (ws := wsX5_satellite) B.pre
  have hown : s.vm.findClass RX5 = some m.cls := findClass_of_methodNamed B.named
  have hlocks := B.notSynchronized
  have hl := lv_entry [.ref (X.1 0 0), .int x, .int y] (n := 4) (Nat.le_of_ble_eq_true rfl)
  rw [lg_entry_eq]
  generalize (lg_sl [.ref (X.1 0 0), .int x, .int y] ++ List.replicate (4 - (lg_sl [.ref (X.1 0 0), .int x, .int y]).length) Slot.unset).toArray = ls at hl ⊢
  have hl : lv_has ls 4 [(0, .ref (X.1 0 0)), (1, .int x), (2, .int y)] := hl
  have b0 := hI.n0
  have b1 := hI.n1
  have b2 := hI.n2
  have b3 := hI.n3
  refine lv_aload_n hx hb dX5_satellite_0 rfl (lv_at hl 0 rfl) ?_
  refine lv_iload_n hx hb dX5_satellite_1 rfl (lv_at hl 1 rfl) ?_
  refine wx_V (As := [.int x]) (rest := []) ⟨hx, hb, hml, hown, hts⟩ (t_X5_satelliteAt l hlf E hA hI hbad) (cwV 1 hts gX5_satellite_X5_satelliteAt rfl rfl rfl (by decide +kernel) ⟨(Nat.le_of_ble_eq_true rfl), (Nat.le_of_ble_eq_true rfl)⟩) (wk_recv hK hA.desk rfl) hV rfl hl.1 rfl (Nat.le_of_ble_eq_true rfl) dX5_satellite_2 ⟨(Nat.le_of_ble_eq_true rfl), (Nat.le_of_ble_eq_true rfl)⟩ (fun ce q9 H1 hz9 hk9 hc9 hv9 hcl9 => ?_)
  exact wx_out htab hlocks hz9 hk9 hc9 hv9 hcl9

abbrev rmt2_X5_satellite : Room := { frames := 6, cells := 1, slots := 6, locals := 90 }
set_option maxHeartbeats 4000000 in
set_option maxRecDepth 100000 in
theorem t2_X5_satellite (l : Launch) (hlf : l.stackTraces = false) (E : wk_E) {T : Nat → Nat × Nat} {X : z_X} {σ : z_S} {H : Heap} (hA : DA E T X σ H) (hI : z_Ok σ) {k : Nat} {y : Int32} (hk : k < z_n σ 1) (hbad : v_in y 0 3 = false) : wx_Met l yX5_satellite wsX5_satellite rmt2_X5_satellite E H [.ref (X.1 0 0), .int (nI k), .int y] "java/lang/IndexOutOfBoundsException" := by
  refine vx_ofW (cc := cX5_satellite) (maxL := 4) (ret := (some .int)) (by decide) rfl ?_
  intro p e s m args below meth c s₁ B hml htab hv
  obtain ⟨rfl, hH, hV⟩ := hv
  subst hH
  have hK := hV.k
  have hx := B.exec
  have hb := B.bytes
  have hr := B.returns
  have hts := atoms_spec (ws := wsX5_satellite) B.pre
  have hown : s.vm.findClass RX5 = some m.cls := findClass_of_methodNamed B.named
  have hlocks := B.notSynchronized
  have hl := lv_entry [.ref (X.1 0 0), .int (nI k), .int y] (n := 4) (Nat.le_of_ble_eq_true rfl)
  rw [lg_entry_eq]
  generalize (lg_sl [.ref (X.1 0 0), .int (nI k), .int y] ++ List.replicate (4 - (lg_sl [.ref (X.1 0 0), .int (nI k), .int y]).length) Slot.unset).toArray = ls at hl ⊢
  have hl : lv_has ls 4 [(0, .ref (X.1 0 0)), (1, .int (nI k)), (2, .int y)] := hl
  have b0 := hI.n0
  have b1 := hI.n1
  have b2 := hI.n2
  have b3 := hI.n3
  refine lv_aload_n hx hb dX5_satellite_0 rfl (lv_at hl 0 rfl) ?_
  refine lv_iload_n hx hb dX5_satellite_1 rfl (lv_at hl 1 rfl) ?_
  refine wk_V (As := [.int (nI k)]) (rest := []) ⟨hx, hb, hml, hown, hts⟩ (c_X5_satelliteAt l E hA hI hk) (cwV 1 hts gX5_satellite_X5_satelliteAt rfl rfl rfl (by decide +kernel) ⟨(Nat.le_of_ble_eq_true rfl), (Nat.le_of_ble_eq_true rfl)⟩) (wk_recv hK hA.desk rfl) hK rfl hl.1 rfl (Nat.le_of_ble_eq_true rfl) dX5_satellite_2 ⟨Nat.zero_le _, Nat.zero_le _⟩ ?_
  refine lv_astore_n (lv' := [(3, .ref (X.1 6 k)), (0, .ref (X.1 0 0)), (1, .int (nI k)), (2, .int y)]) hx hb dX5_satellite_5 rfl hl (by decide) rfl (fun ls hl => ?_)
  refine lv_iload_n hx hb dX5_satellite_6 rfl (lv_at hl 3 rfl) ?_
  refine lv_tableOut (tgt := 57) hx hb dX5_satellite_7 (v_out hbad rfl) (by decide) ?_
  exact wx_throw (nL := 4) hx hb hlf hown hml hl.1 (by decide) (by decide) (hts _ (List.mem_of_getElem? (i := 1) rfl)) (hts _ (List.mem_of_getElem? (i := 2) rfl)) (List.mem_of_getElem? (i := 1) rfl) (fun w h => hts w (List.mem_cons_of_mem _ (List.mem_append_right _ h))) wx_bad_IOB wx_good_IOB hV htab hlocks dX5_satellite_57 dX5_satellite_60 dX5_satellite_61 dX5_satellite_63 dX5_satellite_66 ⟨(Nat.le_of_ble_eq_true rfl), (Nat.le_of_ble_eq_true rfl), (Nat.le_of_ble_eq_true rfl), (Nat.le_of_ble_eq_true rfl)⟩

abbrev rmX5_antenna : Room := { frames := 6, cells := 0, slots := 0, locals := 132 }
set_option maxHeartbeats 4000000 in
set_option maxRecDepth 100000 in
theorem c_X5_antenna (l : Launch) (E : wk_E) {T : Nat → Nat × Nat} {X : z_X} {σ : z_S} {H : Heap} (hA : DA E T X σ H) (hI : z_Ok σ) {a w : Nat} (ha : a < z_n σ 0) (hw : w ≤ 3) : wk_Met l yX5_antenna wsX5_antenna rmX5_antenna E H [.ref (X.1 0 0), .int (nI a), .int (nI w)] (some (.int (f_ant σ a w))) := by
  refine Met.ofW (cc := cX5_antenna) (maxL := 4) (ret := (some .int)) (by decide) rfl ?_
  intro p e s m args below meth c s₁ B hml hv
  obtain ⟨rfl, hH, hK⟩ := hv
  subst hH
  have hx := B.exec
  have hb := B.bytes
  have hr := B.returns
  have hts := atoms_spec (ws := wsX5_antenna) B.pre
  have hown : s.vm.findClass RX5 = some m.cls := findClass_of_methodNamed B.named
  have hlocks := B.notSynchronized
  have i_X5 : ∀ w ∈ u_ws RX5 TX5 7, w ∈ wsX5_antenna := fun w h => (List.mem_cons_of_mem _ (List.mem_append_left _ (List.mem_append_left _ (List.mem_append_left _ (List.mem_append_left _ (List.mem_append_left _ (List.mem_append_right _ h)))))))
  have i_X0 : ∀ w ∈ u_ws RX0 TX0 5, w ∈ wsX5_antenna := fun w h => (List.mem_cons_of_mem _ (List.mem_append_left _ (List.mem_append_left _ (List.mem_append_left _ (List.mem_append_left _ (List.mem_append_right _ h))))))
  have hl := lv_entry [.ref (X.1 0 0), .int (nI a), .int (nI w)] (n := 4) (Nat.le_of_ble_eq_true rfl)
  rw [lg_entry_eq]
  generalize (lg_sl [.ref (X.1 0 0), .int (nI a), .int (nI w)] ++ List.replicate (4 - (lg_sl [.ref (X.1 0 0), .int (nI a), .int (nI w)]).length) Slot.unset).toArray = ls at hl ⊢
  have hl : lv_has ls 4 [(0, .ref (X.1 0 0)), (1, .int (nI a)), (2, .int (nI w))] := hl
  have b0 := hI.n0
  have b1 := hI.n1
  have b2 := hI.n2
  have b3 := hI.n3
  rcases (show w = 0 ∨ w = 1 ∨ w = 2 ∨ w = 3 by omega) with rfl | rfl | rfl | rfl
  · skip
    refine lv_aload_n hx hb dX5_antenna_0 rfl (lv_at hl 0 rfl) ?_
    refine lv_iload_n hx hb dX5_antenna_1 rfl (lv_at hl 1 rfl) ?_
    refine wk_V (As := [.int (nI a)]) (rest := []) ⟨hx, hb, hml, hown, hts⟩ (c_X5_antennaAt l E hA hI ha) (cwV 1 hts gX5_antenna_X5_antennaAt rfl rfl rfl (by decide +kernel) ⟨(Nat.le_of_ble_eq_true rfl), (Nat.le_of_ble_eq_true rfl)⟩) (wk_recv hK hA.desk rfl) hK rfl hl.1 rfl (Nat.le_of_ble_eq_true rfl) dX5_antenna_2 ⟨Nat.zero_le _, Nat.zero_le _⟩ ?_
    refine lv_astore_n (lv' := [(3, .ref (X.1 5 a)), (0, .ref (X.1 0 0)), (1, .int (nI a)), (2, .int (nI 0))]) hx hb dX5_antenna_5 rfl hl (by decide) rfl (fun ls hl => ?_)
    refine lv_iload_n hx hb dX5_antenna_6 rfl (lv_at hl 3 rfl) ?_
    refine lv_tableIn (off := 29) (tgt := 36) hx hb dX5_antenna_7 (by decide) (by decide) (by decide) (by decide) ?_
    refine lv_aload_n hx hb dX5_antenna_36 rfl (lv_at hl 1 rfl) ?_
    refine lv_aload_n hx hb dX5_antenna_37 rfl (lv_at hl 0 rfl) ?_
    refine wk_V (As := [.ref (X.1 5 a)]) (rest := []) ⟨hx, hb, hml, hown, hts⟩ (c_X5_heardOver l E hA hI ha) (cwV 1 hts gX5_antenna_X5_heardOver rfl rfl rfl (by decide +kernel) ⟨(Nat.le_of_ble_eq_true rfl), (Nat.le_of_ble_eq_true rfl)⟩) (wk_recv hK hA.desk rfl) hK rfl hl.1 rfl (Nat.le_of_ble_eq_true rfl) dX5_antenna_38 ⟨Nat.zero_le _, Nat.zero_le _⟩ ?_
    exact W.iret hx hb hr (fun t ht _ => wk_ret (congrArg Value.int rfl) ht) wk_nil dX5_antenna_41
  · skip
    refine lv_aload_n hx hb dX5_antenna_0 rfl (lv_at hl 0 rfl) ?_
    refine lv_iload_n hx hb dX5_antenna_1 rfl (lv_at hl 1 rfl) ?_
    refine wk_V (As := [.int (nI a)]) (rest := []) ⟨hx, hb, hml, hown, hts⟩ (c_X5_antennaAt l E hA hI ha) (cwV 1 hts gX5_antenna_X5_antennaAt rfl rfl rfl (by decide +kernel) ⟨(Nat.le_of_ble_eq_true rfl), (Nat.le_of_ble_eq_true rfl)⟩) (wk_recv hK hA.desk rfl) hK rfl hl.1 rfl (Nat.le_of_ble_eq_true rfl) dX5_antenna_2 ⟨Nat.zero_le _, Nat.zero_le _⟩ ?_
    refine lv_astore_n (lv' := [(3, .ref (X.1 5 a)), (0, .ref (X.1 0 0)), (1, .int (nI a)), (2, .int (nI 1))]) hx hb dX5_antenna_5 rfl hl (by decide) rfl (fun ls hl => ?_)
    refine lv_iload_n hx hb dX5_antenna_6 rfl (lv_at hl 3 rfl) ?_
    refine lv_tableIn (off := 35) (tgt := 42) hx hb dX5_antenna_7 (by decide) (by decide) (by decide) (by decide) ?_
    refine lv_aload_n hx hb dX5_antenna_42 rfl (lv_at hl 1 rfl) ?_
    refine lv_aload_n hx hb dX5_antenna_43 rfl (lv_at hl 0 rfl) ?_
    refine wk_V (As := [.ref (X.1 5 a)]) (rest := []) ⟨hx, hb, hml, hown, hts⟩ (c_X5_nextOver l E hA hI ha) (cwV 1 hts gX5_antenna_X5_nextOver rfl rfl rfl (by decide +kernel) ⟨(Nat.le_of_ble_eq_true rfl), (Nat.le_of_ble_eq_true rfl)⟩) (wk_recv hK hA.desk rfl) hK rfl hl.1 rfl (Nat.le_of_ble_eq_true rfl) dX5_antenna_44 ⟨Nat.zero_le _, Nat.zero_le _⟩ ?_
    exact W.iret hx hb hr (fun t ht _ => wk_ret (congrArg Value.int rfl) ht) wk_nil dX5_antenna_47
  · skip
    refine lv_aload_n hx hb dX5_antenna_0 rfl (lv_at hl 0 rfl) ?_
    refine lv_iload_n hx hb dX5_antenna_1 rfl (lv_at hl 1 rfl) ?_
    refine wk_V (As := [.int (nI a)]) (rest := []) ⟨hx, hb, hml, hown, hts⟩ (c_X5_antennaAt l E hA hI ha) (cwV 1 hts gX5_antenna_X5_antennaAt rfl rfl rfl (by decide +kernel) ⟨(Nat.le_of_ble_eq_true rfl), (Nat.le_of_ble_eq_true rfl)⟩) (wk_recv hK hA.desk rfl) hK rfl hl.1 rfl (Nat.le_of_ble_eq_true rfl) dX5_antenna_2 ⟨Nat.zero_le _, Nat.zero_le _⟩ ?_
    refine lv_astore_n (lv' := [(3, .ref (X.1 5 a)), (0, .ref (X.1 0 0)), (1, .int (nI a)), (2, .int (nI 2))]) hx hb dX5_antenna_5 rfl hl (by decide) rfl (fun ls hl => ?_)
    refine lv_iload_n hx hb dX5_antenna_6 rfl (lv_at hl 3 rfl) ?_
    refine lv_tableIn (off := 41) (tgt := 48) hx hb dX5_antenna_7 (by decide) (by decide) (by decide) (by decide) ?_
    refine lv_aload_n hx hb dX5_antenna_48 rfl (lv_at hl 1 rfl) ?_
    refine lv_aload_n hx hb dX5_antenna_49 rfl (lv_at hl 0 rfl) ?_
    refine lv_aload_n hx hb dX5_antenna_50 rfl (lv_at hl 1 rfl) ?_
    refine wk_get (own := RX5) (C := RX5) (T := TX5) (N := 7) (ci := 6) (v := .int (z_now σ)) hx hb hts i_X5 hown hK hA.desk rfl 5 (by decide) (hts _ (List.mem_of_getElem? (i := 3) rfl)) (fun _ h9 => h9) rfl dX5_antenna_51 ?_
    refine lv_aload_n hx hb dX5_antenna_54 rfl (lv_at hl 1 rfl) ?_
    refine wk_get (own := RX5) (C := RX5) (T := TX5) (N := 7) (ci := 6) (v := .int (z_now σ)) hx hb hts i_X5 hown hK hA.desk rfl 5 (by decide) (hts _ (List.mem_of_getElem? (i := 3) rfl)) (fun _ h9 => h9) rfl dX5_antenna_55 ?_
    refine lv_iconst (v := 1) hx hb dX5_antenna_58 (by decide) ?_
    refine lv_iadd hx hb dX5_antenna_59 ?_
    refine wk_V (As := [.ref (X.1 5 a), .int (z_now σ), .int ((z_now σ) + 1)]) (rest := []) ⟨hx, hb, hml, hown, hts⟩ (c_X5_isOut l E hA hI ha (x := z_now σ) (y := (z_now σ) + 1)) (cwV 3 hts gX5_antenna_X5_isOut rfl rfl rfl (by decide +kernel) ⟨(Nat.le_of_ble_eq_true rfl), (Nat.le_of_ble_eq_true rfl)⟩) (wk_recv hK hA.desk rfl) hK rfl hl.1 rfl (Nat.le_of_ble_eq_true rfl) dX5_antenna_60 ⟨Nat.zero_le _, Nat.zero_le _⟩ ?_
    refine lv_if_eq (tgt := 70) hx hb dX5_antenna_63 (by decide) (fun c_63 => ?_) (fun c_63 => ?_)
    · skip
      have e_63 : (f_out σ a (z_now σ) ((z_now σ) + 1)) = false := wk_b0 c_63
      refine lv_iconst (v := 0) hx hb dX5_antenna_70 (by decide) ?_
      exact W.iret hx hb hr (fun t ht _ => wk_ret (congrArg Value.int (by simp [f_ant, wk_b, e_63])) ht) wk_nil dX5_antenna_71
    have e_63 : (f_out σ a (z_now σ) ((z_now σ) + 1)) = true := wk_b1 c_63
    refine lv_iconst (v := 1) hx hb dX5_antenna_66 (by decide) ?_
    refine lv_goto (tgt := 71) hx hb dX5_antenna_67 (by decide) ?_
    exact W.iret hx hb hr (fun t ht _ => wk_ret (congrArg Value.int (by simp [f_ant, wk_b, e_63])) ht) wk_nil dX5_antenna_71
  · skip
    refine lv_aload_n hx hb dX5_antenna_0 rfl (lv_at hl 0 rfl) ?_
    refine lv_iload_n hx hb dX5_antenna_1 rfl (lv_at hl 1 rfl) ?_
    refine wk_V (As := [.int (nI a)]) (rest := []) ⟨hx, hb, hml, hown, hts⟩ (c_X5_antennaAt l E hA hI ha) (cwV 1 hts gX5_antenna_X5_antennaAt rfl rfl rfl (by decide +kernel) ⟨(Nat.le_of_ble_eq_true rfl), (Nat.le_of_ble_eq_true rfl)⟩) (wk_recv hK hA.desk rfl) hK rfl hl.1 rfl (Nat.le_of_ble_eq_true rfl) dX5_antenna_2 ⟨Nat.zero_le _, Nat.zero_le _⟩ ?_
    refine lv_astore_n (lv' := [(3, .ref (X.1 5 a)), (0, .ref (X.1 0 0)), (1, .int (nI a)), (2, .int (nI 3))]) hx hb dX5_antenna_5 rfl hl (by decide) rfl (fun ls hl => ?_)
    refine lv_iload_n hx hb dX5_antenna_6 rfl (lv_at hl 3 rfl) ?_
    refine lv_tableIn (off := 65) (tgt := 72) hx hb dX5_antenna_7 (by decide) (by decide) (by decide) (by decide) ?_
    refine lv_aload_n hx hb dX5_antenna_72 rfl (lv_at hl 0 rfl) ?_
    refine wk_get (own := RX5) (C := RX0) (T := TX0) (N := 5) (ci := 1) (v := .int (z_ad σ a)) hx hb hts i_X0 hown hK (hA.ant ha) rfl 4 (by decide) (hts _ (List.mem_of_getElem? (i := 4) rfl)) (fun _ h9 => h9) rfl dX5_antenna_73 ?_
    exact W.iret hx hb hr (fun t ht _ => wk_ret (congrArg Value.int rfl) ht) wk_nil dX5_antenna_76
