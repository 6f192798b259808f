abbrev rmt2_X5_addPass : Room := { frames := 7, cells := 1, slots := 6, locals := 111 }
set_option maxHeartbeats 4000000 in
set_option maxRecDepth 100000 in
theorem t2_X5_addPass (l : Launch) (hlf : l.stackTraces = false) (E : wk_E) {T : Nat → Nat × Nat} {X : z_X} {σ : z_S} {H : Heap} (hA : DA E T X σ H) (hI : z_Ok σ) {i : Nat} {w9 x y : Int32} (hi : i < z_n σ 1) (hbad : v_ix w9 (z_n σ 0) = false) : wx_Met l yX5_addPass wsX5_addPass rmt2_X5_addPass E H [.ref (X.1 0 0), .int (nI i), .int w9, .int x, .int y] "java/lang/IndexOutOfBoundsException" := by
  refine vx_ofW (cc := cX5_addPass) (maxL := 8) (ret := (some .int)) (by decide) rfl ?_
  intro p e s m args below meth c s₁ B hml htab hv
  obtain ⟨rfl, hH, hV⟩ := hv
  subst hH
  have hK := hV.k
  have hx := B.exec
  have hb := B.bytes
  have hr := B.returns
  have hts := atoms_spec (ws := wsX5_addPass) B.pre
  have hown : s.vm.findClass RX5 = some m.cls := findClass_of_methodNamed B.named
  have hlocks := B.notSynchronized
  have hl := lv_entry [.ref (X.1 0 0), .int (nI i), .int w9, .int x, .int y] (n := 8) (Nat.le_of_ble_eq_true rfl)
  rw [lg_entry_eq]
  generalize (lg_sl [.ref (X.1 0 0), .int (nI i), .int w9, .int x, .int y] ++ List.replicate (8 - (lg_sl [.ref (X.1 0 0), .int (nI i), .int w9, .int x, .int y]).length) Slot.unset).toArray = ls at hl ⊢
  have hl : lv_has ls 8 [(0, .ref (X.1 0 0)), (1, .int (nI i)), (2, .int w9), (3, .int x), (4, .int y)] := hl
  have b0 := hI.n0
  have b1 := hI.n1
  have b2 := hI.n2
  have b3 := hI.n3
  refine lv_aload_n hx hb dX5_addPass_0 rfl (lv_at hl 0 rfl) ?_
  refine lv_iload_n hx hb dX5_addPass_1 rfl (lv_at hl 1 rfl) ?_
  refine wk_V (As := [.int (nI i)]) (rest := []) ⟨hx, hb, hml, hown, hts⟩ (c_X5_satelliteAt l E hA hI hi) (cwV 1 hts gX5_addPass_X5_satelliteAt rfl rfl rfl (by decide +kernel) ⟨(Nat.le_of_ble_eq_true rfl), (Nat.le_of_ble_eq_true rfl)⟩) (wk_recv hK hA.desk rfl) hK rfl hl.1 rfl (Nat.le_of_ble_eq_true rfl) dX5_addPass_2 ⟨Nat.zero_le _, Nat.zero_le _⟩ ?_
  refine lv_astore (lv' := [(5, .ref (X.1 6 i)), (0, .ref (X.1 0 0)), (1, .int (nI i)), (2, .int w9), (3, .int x), (4, .int y)]) hx hb dX5_addPass_5 hl (by decide) rfl (fun ls hl => ?_)
  refine lv_aload_n hx hb dX5_addPass_7 rfl (lv_at hl 1 rfl) ?_
  refine lv_iload_n hx hb dX5_addPass_8 rfl (lv_at hl 3 rfl) ?_
  refine wx_V (As := [.int w9]) (rest := []) ⟨hx, hb, hml, hown, hts⟩ (t_X5_antennaAt l hlf E hA hI hbad) (cwV 1 hts gX5_addPass_X5_antennaAt rfl rfl rfl (by decide +kernel) ⟨(Nat.le_of_ble_eq_true rfl), (Nat.le_of_ble_eq_true rfl)⟩) (wk_recv hK hA.desk rfl) hV rfl hl.1 rfl (Nat.le_of_ble_eq_true rfl) dX5_addPass_9 ⟨(Nat.le_of_ble_eq_true rfl), (Nat.le_of_ble_eq_true rfl)⟩ (fun ce q9 H1 hz9 hk9 hc9 hv9 hcl9 => ?_)
  exact wx_out htab hlocks hz9 hk9 hc9 hv9 hcl9

abbrev rmt3_X5_addPass : Room := { frames := 7, cells := 1, slots := 6, locals := 112 }
set_option maxHeartbeats 4000000 in
set_option maxRecDepth 100000 in
theorem t3_X5_addPass (l : Launch) (hlf : l.stackTraces = false) (E : wk_E) {T : Nat → Nat × Nat} {X : z_X} {σ : z_S} {H : Heap} (hA : DA E T X σ H) (hI : z_Ok σ) {i a : Nat} {x y : Int32} (hi : i < z_n σ 1) (ha : a < z_n σ 0) (hbad : v_span σ x y = false) : wx_Met l yX5_addPass wsX5_addPass rmt3_X5_addPass E H [.ref (X.1 0 0), .int (nI i), .int (nI a), .int x, .int y] "java/lang/IllegalArgumentException" := by
  refine vx_ofW (cc := cX5_addPass) (maxL := 8) (ret := (some .int)) (by decide) rfl ?_
  intro p e s m args below meth c s₁ B hml htab hv
  obtain ⟨rfl, hH, hV⟩ := hv
  subst hH
  have hK := hV.k
  have hx := B.exec
  have hb := B.bytes
  have hr := B.returns
  have hts := atoms_spec (ws := wsX5_addPass) B.pre
  have hown : s.vm.findClass RX5 = some m.cls := findClass_of_methodNamed B.named
  have hlocks := B.notSynchronized
  have hl := lv_entry [.ref (X.1 0 0), .int (nI i), .int (nI a), .int x, .int y] (n := 8) (Nat.le_of_ble_eq_true rfl)
  rw [lg_entry_eq]
  generalize (lg_sl [.ref (X.1 0 0), .int (nI i), .int (nI a), .int x, .int y] ++ List.replicate (8 - (lg_sl [.ref (X.1 0 0), .int (nI i), .int (nI a), .int x, .int y]).length) Slot.unset).toArray = ls at hl ⊢
  have hl : lv_has ls 8 [(0, .ref (X.1 0 0)), (1, .int (nI i)), (2, .int (nI a)), (3, .int x), (4, .int y)] := hl
  have b0 := hI.n0
  have b1 := hI.n1
  have b2 := hI.n2
  have b3 := hI.n3
  refine lv_aload_n hx hb dX5_addPass_0 rfl (lv_at hl 0 rfl) ?_
  refine lv_iload_n hx hb dX5_addPass_1 rfl (lv_at hl 1 rfl) ?_
  refine wk_V (As := [.int (nI i)]) (rest := []) ⟨hx, hb, hml, hown, hts⟩ (c_X5_satelliteAt l E hA hI hi) (cwV 1 hts gX5_addPass_X5_satelliteAt rfl rfl rfl (by decide +kernel) ⟨(Nat.le_of_ble_eq_true rfl), (Nat.le_of_ble_eq_true rfl)⟩) (wk_recv hK hA.desk rfl) hK rfl hl.1 rfl (Nat.le_of_ble_eq_true rfl) dX5_addPass_2 ⟨Nat.zero_le _, Nat.zero_le _⟩ ?_
  refine lv_astore (lv' := [(5, .ref (X.1 6 i)), (0, .ref (X.1 0 0)), (1, .int (nI i)), (2, .int (nI a)), (3, .int x), (4, .int y)]) hx hb dX5_addPass_5 hl (by decide) rfl (fun ls hl => ?_)
  refine lv_aload_n hx hb dX5_addPass_7 rfl (lv_at hl 1 rfl) ?_
  refine lv_iload_n hx hb dX5_addPass_8 rfl (lv_at hl 3 rfl) ?_
  refine wk_V (As := [.int (nI a)]) (rest := []) ⟨hx, hb, hml, hown, hts⟩ (c_X5_antennaAt l E hA hI ha) (cwV 1 hts gX5_addPass_X5_antennaAt rfl rfl rfl (by decide +kernel) ⟨(Nat.le_of_ble_eq_true rfl), (Nat.le_of_ble_eq_true rfl)⟩) (wk_recv hK hA.desk rfl) hK rfl hl.1 rfl (Nat.le_of_ble_eq_true rfl) dX5_addPass_9 ⟨Nat.zero_le _, Nat.zero_le _⟩ ?_
  refine lv_astore (lv' := [(6, .ref (X.1 5 a)), (5, .ref (X.1 6 i)), (0, .ref (X.1 0 0)), (1, .int (nI i)), (2, .int (nI a)), (3, .int x), (4, .int y)]) hx hb dX5_addPass_12 hl (by decide) rfl (fun ls hl => ?_)
  refine lv_aload_n hx hb dX5_addPass_14 rfl (lv_at hl 2 rfl) ?_
  refine lv_iload_n hx hb dX5_addPass_15 rfl (lv_at hl 5 rfl) ?_
  refine lv_iload hx hb dX5_addPass_16 (lv_at hl 6 rfl) ?_
  refine wx_V (As := [.int x, .int y]) (rest := []) ⟨hx, hb, hml, hown, hts⟩ (t_X5_checkSpan l hlf E hA hI hbad) (cwV 2 hts gX5_addPass_X5_checkSpan rfl rfl rfl (by decide +kernel) ⟨(Nat.le_of_ble_eq_true rfl), (Nat.le_of_ble_eq_true rfl)⟩) (wk_recv hK hA.desk rfl) hV rfl hl.1 rfl (Nat.le_of_ble_eq_true rfl) dX5_addPass_18 ⟨(Nat.le_of_ble_eq_true rfl), (Nat.le_of_ble_eq_true rfl)⟩ (fun ce q9 H1 hz9 hk9 hc9 hv9 hcl9 => ?_)
  exact wx_out htab hlocks hz9 hk9 hc9 hv9 hcl9

abbrev rmt4_X5_addPass : Room := { frames := 6, cells := 1, slots := 6, locals := 90 }
set_option maxHeartbeats 4000000 in
set_option maxRecDepth 100000 in
theorem t4_X5_addPass (l : Launch) (hlf : l.stackTraces = false) (E : wk_E) {T : Nat → Nat × Nat} {X : z_X} {σ : z_S} {H : Heap} (hA : DA E T X σ H) (hI : z_Ok σ) {i a : Nat} {x y : Int32} (hi : i < z_n σ 1) (ha : a < z_n σ 0) (hsp : v_span σ x y = true) (hbad : ¬ y - x ≤ 600) : wx_Met l yX5_addPass wsX5_addPass rmt4_X5_addPass E H [.ref (X.1 0 0), .int (nI i), .int (nI a), .int x, .int y] "java/lang/IllegalArgumentException" := by
  refine vx_ofW (cc := cX5_addPass) (maxL := 8) (ret := (some .int)) (by decide) rfl ?_
  intro p e s m args below meth c s₁ B hml htab hv
  obtain ⟨rfl, hH, hV⟩ := hv
  subst hH
  have hK := hV.k
  have hx := B.exec
  have hb := B.bytes
  have hr := B.returns
  have hts := atoms_spec (ws := wsX5_addPass) B.pre
  have hown : s.vm.findClass RX5 = some m.cls := findClass_of_methodNamed B.named
  have hlocks := B.notSynchronized
  have hl := lv_entry [.ref (X.1 0 0), .int (nI i), .int (nI a), .int x, .int y] (n := 8) (Nat.le_of_ble_eq_true rfl)
  rw [lg_entry_eq]
  generalize (lg_sl [.ref (X.1 0 0), .int (nI i), .int (nI a), .int x, .int y] ++ List.replicate (8 - (lg_sl [.ref (X.1 0 0), .int (nI i), .int (nI a), .int x, .int y]).length) Slot.unset).toArray = ls at hl ⊢
  have hl : lv_has ls 8 [(0, .ref (X.1 0 0)), (1, .int (nI i)), (2, .int (nI a)), (3, .int x), (4, .int y)] := hl
  have b0 := hI.n0
  have b1 := hI.n1
  have b2 := hI.n2
  have b3 := hI.n3
  refine lv_aload_n hx hb dX5_addPass_0 rfl (lv_at hl 0 rfl) ?_
  refine lv_iload_n hx hb dX5_addPass_1 rfl (lv_at hl 1 rfl) ?_
  refine wk_V (As := [.int (nI i)]) (rest := []) ⟨hx, hb, hml, hown, hts⟩ (c_X5_satelliteAt l E hA hI hi) (cwV 1 hts gX5_addPass_X5_satelliteAt rfl rfl rfl (by decide +kernel) ⟨(Nat.le_of_ble_eq_true rfl), (Nat.le_of_ble_eq_true rfl)⟩) (wk_recv hK hA.desk rfl) hK rfl hl.1 rfl (Nat.le_of_ble_eq_true rfl) dX5_addPass_2 ⟨Nat.zero_le _, Nat.zero_le _⟩ ?_
  refine lv_astore (lv' := [(5, .ref (X.1 6 i)), (0, .ref (X.1 0 0)), (1, .int (nI i)), (2, .int (nI a)), (3, .int x), (4, .int y)]) hx hb dX5_addPass_5 hl (by decide) rfl (fun ls hl => ?_)
  refine lv_aload_n hx hb dX5_addPass_7 rfl (lv_at hl 1 rfl) ?_
  refine lv_iload_n hx hb dX5_addPass_8 rfl (lv_at hl 3 rfl) ?_
  refine wk_V (As := [.int (nI a)]) (rest := []) ⟨hx, hb, hml, hown, hts⟩ (c_X5_antennaAt l E hA hI ha) (cwV 1 hts gX5_addPass_X5_antennaAt rfl rfl rfl (by decide +kernel) ⟨(Nat.le_of_ble_eq_true rfl), (Nat.le_of_ble_eq_true rfl)⟩) (wk_recv hK hA.desk rfl) hK rfl hl.1 rfl (Nat.le_of_ble_eq_true rfl) dX5_addPass_9 ⟨Nat.zero_le _, Nat.zero_le _⟩ ?_
  refine lv_astore (lv' := [(6, .ref (X.1 5 a)), (5, .ref (X.1 6 i)), (0, .ref (X.1 0 0)), (1, .int (nI i)), (2, .int (nI a)), (3, .int x), (4, .int y)]) hx hb dX5_addPass_12 hl (by decide) rfl (fun ls hl => ?_)
  refine lv_aload_n hx hb dX5_addPass_14 rfl (lv_at hl 2 rfl) ?_
  refine lv_iload_n hx hb dX5_addPass_15 rfl (lv_at hl 5 rfl) ?_
  refine lv_iload hx hb dX5_addPass_16 (lv_at hl 6 rfl) ?_
  refine wk_Vv (As := [.int x, .int y]) (rest := []) ⟨hx, hb, hml, hown, hts⟩ (c_X5_checkSpan l E hA hI hsp) (cwV 2 hts gX5_addPass_X5_checkSpan rfl rfl rfl (by decide +kernel) ⟨(Nat.le_of_ble_eq_true rfl), (Nat.le_of_ble_eq_true rfl)⟩) (wk_recv hK hA.desk rfl) hK rfl hl.1 rfl (Nat.le_of_ble_eq_true rfl) dX5_addPass_18 ⟨Nat.zero_le _, Nat.zero_le _⟩ ?_
  refine lv_iload hx hb dX5_addPass_21 (lv_at hl 6 rfl) ?_
  refine lv_iload_n hx hb dX5_addPass_23 rfl (lv_at hl 5 rfl) ?_
  refine lv_isub hx hb dX5_addPass_24 ?_
  refine lv_sipush (v := 600) hx hb dX5_addPass_25 (by decide) ?_
  refine lv_icmp_le (tgt := 41) hx hb dX5_addPass_28 (by decide) (fun c_28 => ?_) (fun c_28 => ?_)
  · skip
    have d_28 := Int32.not_lt.mpr c_28
    exact absurd c_28 hbad
  have d_28 := Int32.not_le.mp c_28
  exact wx_throw (nL := 8) hx hb hlf hown hml hl.1 (by decide) (by decide) (hts _ (List.mem_of_getElem? (i := 1) rfl)) (hts _ (List.mem_of_getElem? (i := 2) rfl)) (List.mem_of_getElem? (i := 10) rfl) (fun w h => hts w (List.mem_cons_of_mem _ (List.mem_append_left _ (List.mem_append_left _ (List.mem_append_right _ h))))) wx_bad_IAE wx_good_IAE hV htab hlocks dX5_addPass_31 dX5_addPass_34 dX5_addPass_35 dX5_addPass_37 dX5_addPass_40 ⟨(Nat.le_of_ble_eq_true rfl), (Nat.le_of_ble_eq_true rfl), (Nat.le_of_ble_eq_true rfl), (Nat.le_of_ble_eq_true rfl)⟩

abbrev rmt5_X5_addPass : Room := { frames := 6, cells := 1, slots := 6, locals := 90 }
set_option maxHeartbeats 4000000 in
set_option maxRecDepth 100000 in
theorem t5_X5_addPass (l : Launch) (hlf : l.stackTraces = false) (E : wk_E) {T : Nat → Nat × Nat} {X : z_X} {σ : z_S} {H : Heap} (hA : DA E T X σ H) (hI : z_Ok σ) {i a : Nat} {x y : Int32} (hi : i < z_n σ 1) (ha : a < z_n σ 0) (hsp : v_span σ x y = true) (hlen : y - x ≤ 600) (hbad : f_hears σ a i = false) : wx_Met l yX5_addPass wsX5_addPass rmt5_X5_addPass E H [.ref (X.1 0 0), .int (nI i), .int (nI a), .int x, .int y] "java/lang/IllegalArgumentException" := by
  refine vx_ofW (cc := cX5_addPass) (maxL := 8) (ret := (some .int)) (by decide) rfl ?_
  intro p e s m args below meth c s₁ B hml htab hv
  obtain ⟨rfl, hH, hV⟩ := hv
  subst hH
  have hK := hV.k
  have hx := B.exec
  have hb := B.bytes
  have hr := B.returns
  have hts := atoms_spec (ws := wsX5_addPass) B.pre
  have hown : s.vm.findClass RX5 = some m.cls := findClass_of_methodNamed B.named
  have hlocks := B.notSynchronized
  have i_X0 : ∀ w ∈ u_ws RX0 TX0 5, w ∈ wsX5_addPass := fun w h => (List.mem_cons_of_mem _ (List.mem_append_left _ (List.mem_append_left _ (List.mem_append_left _ (List.mem_append_left _ (List.mem_append_left _ (List.mem_append_left _ (List.mem_append_left _ (List.mem_append_right _ h)))))))))
  have i_X3 : ∀ w ∈ u_ws RX3 TX3 8, w ∈ wsX5_addPass := fun w h => (List.mem_cons_of_mem _ (List.mem_append_left _ (List.mem_append_left _ (List.mem_append_left _ (List.mem_append_left _ (List.mem_append_left _ (List.mem_append_left _ (List.mem_append_right _ h))))))))
  have hl := lv_entry [.ref (X.1 0 0), .int (nI i), .int (nI a), .int x, .int y] (n := 8) (Nat.le_of_ble_eq_true rfl)
  rw [lg_entry_eq]
  generalize (lg_sl [.ref (X.1 0 0), .int (nI i), .int (nI a), .int x, .int y] ++ List.replicate (8 - (lg_sl [.ref (X.1 0 0), .int (nI i), .int (nI a), .int x, .int y]).length) Slot.unset).toArray = ls at hl ⊢
  have hl : lv_has ls 8 [(0, .ref (X.1 0 0)), (1, .int (nI i)), (2, .int (nI a)), (3, .int x), (4, .int y)] := hl
  have b0 := hI.n0
  have b1 := hI.n1
  have b2 := hI.n2
  have b3 := hI.n3
  refine lv_aload_n hx hb dX5_addPass_0 rfl (lv_at hl 0 rfl) ?_
  refine lv_iload_n hx hb dX5_addPass_1 rfl (lv_at hl 1 rfl) ?_
  refine wk_V (As := [.int (nI i)]) (rest := []) ⟨hx, hb, hml, hown, hts⟩ (c_X5_satelliteAt l E hA hI hi) (cwV 1 hts gX5_addPass_X5_satelliteAt rfl rfl rfl (by decide +kernel) ⟨(Nat.le_of_ble_eq_true rfl), (Nat.le_of_ble_eq_true rfl)⟩) (wk_recv hK hA.desk rfl) hK rfl hl.1 rfl (Nat.le_of_ble_eq_true rfl) dX5_addPass_2 ⟨Nat.zero_le _, Nat.zero_le _⟩ ?_
  refine lv_astore (lv' := [(5, .ref (X.1 6 i)), (0, .ref (X.1 0 0)), (1, .int (nI i)), (2, .int (nI a)), (3, .int x), (4, .int y)]) hx hb dX5_addPass_5 hl (by decide) rfl (fun ls hl => ?_)
  refine lv_aload_n hx hb dX5_addPass_7 rfl (lv_at hl 1 rfl) ?_
  refine lv_iload_n hx hb dX5_addPass_8 rfl (lv_at hl 3 rfl) ?_
  refine wk_V (As := [.int (nI a)]) (rest := []) ⟨hx, hb, hml, hown, hts⟩ (c_X5_antennaAt l E hA hI ha) (cwV 1 hts gX5_addPass_X5_antennaAt rfl rfl rfl (by decide +kernel) ⟨(Nat.le_of_ble_eq_true rfl), (Nat.le_of_ble_eq_true rfl)⟩) (wk_recv hK hA.desk rfl) hK rfl hl.1 rfl (Nat.le_of_ble_eq_true rfl) dX5_addPass_9 ⟨Nat.zero_le _, Nat.zero_le _⟩ ?_
  refine lv_astore (lv' := [(6, .ref (X.1 5 a)), (5, .ref (X.1 6 i)), (0, .ref (X.1 0 0)), (1, .int (nI i)), (2, .int (nI a)), (3, .int x), (4, .int y)]) hx hb dX5_addPass_12 hl (by decide) rfl (fun ls hl => ?_)
  refine lv_aload_n hx hb dX5_addPass_14 rfl (lv_at hl 2 rfl) ?_
  refine lv_iload_n hx hb dX5_addPass_15 rfl (lv_at hl 5 rfl) ?_
  refine lv_iload hx hb dX5_addPass_16 (lv_at hl 6 rfl) ?_
  refine wk_Vv (As := [.int x, .int y]) (rest := []) ⟨hx, hb, hml, hown, hts⟩ (c_X5_checkSpan l E hA hI hsp) (cwV 2 hts gX5_addPass_X5_checkSpan rfl rfl rfl (by decide +kernel) ⟨(Nat.le_of_ble_eq_true rfl), (Nat.le_of_ble_eq_true rfl)⟩) (wk_recv hK hA.desk rfl) hK rfl hl.1 rfl (Nat.le_of_ble_eq_true rfl) dX5_addPass_18 ⟨Nat.zero_le _, Nat.zero_le _⟩ ?_
  refine lv_iload hx hb dX5_addPass_21 (lv_at hl 6 rfl) ?_
  refine lv_iload_n hx hb dX5_addPass_23 rfl (lv_at hl 5 rfl) ?_
  refine lv_isub hx hb dX5_addPass_24 ?_
  refine lv_sipush (v := 600) hx hb dX5_addPass_25 (by decide) ?_
  refine lv_icmp_le (tgt := 41) hx hb dX5_addPass_28 (by decide) (fun c_28 => ?_) (fun c_28 => ?_)
  · skip
    have d_28 := Int32.not_lt.mpr c_28
    refine lv_aload hx hb dX5_addPass_41 (lv_at hl 0 rfl) ?_
    refine wk_get (own := RX5) (C := RX0) (T := TX0) (N := 5) (ci := 1) (v := .int (z_ab σ a)) hx hb hts i_X0 hown hK (hA.ant ha) rfl 1 (by decide) (hts _ (List.mem_of_getElem? (i := 5) rfl)) (fun _ h9 => h9) rfl dX5_addPass_43 ?_
    refine lv_aload hx hb dX5_addPass_46 (lv_at hl 1 rfl) ?_
    refine wk_get (own := RX5) (C := RX3) (T := TX3) (N := 8) (ci := 4) (v := .int (z_sb σ i)) hx hb hts i_X3 hown hK (hA.sat hi) rfl 1 (by decide) (hts _ (List.mem_of_getElem? (i := 6) rfl)) (fun _ h9 => h9) rfl dX5_addPass_48 ?_
    obtain ⟨mm, bb, hmm, hbb, emm, ebb, ehe⟩ := f_hearsN hI ha hi
    refine wk_eqls (st' := [.int (nI bb), .int (nI mm)]) (by rw [emm, ebb]) ?_
    refine wk_S (As := [.int (nI mm), .int (nI bb)]) (rest := []) ⟨hx, hb, hml, hown, hts⟩ (c_X5_contains l E (mm := mm) (k := bb) (by omega)) (va_cwS 2 hts gX5_addPass_X5_contains rfl rfl rfl (by decide +kernel) ⟨(Nat.le_of_ble_eq_true rfl), (Nat.le_of_ble_eq_true rfl)⟩) hK rfl hl.1 rfl (Nat.le_of_ble_eq_true rfl) dX5_addPass_51 ⟨Nat.zero_le _, Nat.zero_le _⟩ ?_
    refine lv_if_ne (tgt := 67) hx hb dX5_addPass_54 (by decide) (fun c_54 => ?_) (fun c_54 => ?_)
    · skip
      have e_54 : (Nat.testBit mm bb) = true := wk_b1 c_54
      exact absurd (hbad.symm.trans (ehe.trans e_54)) (by decide)
    have e_54 : (Nat.testBit mm bb) = false := wk_b0 c_54
    exact wx_throw (nL := 8) hx hb hlf hown hml hl.1 (by decide) (by decide) (hts _ (List.mem_of_getElem? (i := 1) rfl)) (hts _ (List.mem_of_getElem? (i := 2) rfl)) (List.mem_of_getElem? (i := 11) rfl) (fun w h => hts w (List.mem_cons_of_mem _ (List.mem_append_left _ (List.mem_append_left _ (List.mem_append_right _ h))))) wx_bad_IAE wx_good_IAE hV htab hlocks dX5_addPass_57 dX5_addPass_60 dX5_addPass_61 dX5_addPass_63 dX5_addPass_66 ⟨(Nat.le_of_ble_eq_true rfl), (Nat.le_of_ble_eq_true rfl), (Nat.le_of_ble_eq_true rfl), (Nat.le_of_ble_eq_true rfl)⟩
  have d_28 := Int32.not_le.mp c_28
  exact absurd hlen c_28
