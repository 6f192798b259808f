abbrev rmX5_antennaAt : Room := { frames := 3, cells := 0, slots := 0, locals := 64 }
set_option maxHeartbeats 4000000 in
set_option maxRecDepth 100000 in
theorem c_X5_antennaAt (l : Launch) (E : wk_E) {T : Nat → Nat × Nat} {X : z_X} {σ : z_S} {H : Heap} (hA : DA E T X σ H) (hI : z_Ok σ) {k : Nat} (hk : k < z_n σ 0) : wk_Met l yX5_antennaAt wsX5_antennaAt rmX5_antennaAt E H [.ref (X.1 0 0), .int (nI k)] (some (.ref (X.1 5 k))) := by
  refine Met.ofW (cc := cX5_antennaAt) (maxL := 2) (ret := (some (.object "PassDesk$Antenna"))) (by decide) rfl ?_
  intro p e s m args below meth c s₁ B hml hv
  obtain ⟨rfl, hH, hK⟩ := hv
  subst hH
  have hx := B.exec
  have hb := B.bytes
  have hr := B.returns
  have hts := atoms_spec (ws := wsX5_antennaAt) B.pre
  have hown : s.vm.findClass RX5 = some m.cls := findClass_of_methodNamed B.named
  have hlocks := B.notSynchronized
  have i_X5 : ∀ w ∈ u_ws RX5 TX5 7, w ∈ wsX5_antennaAt := fun w h => (List.mem_cons_of_mem _ (List.mem_append_left _ (List.mem_append_left _ (List.mem_append_right _ h))))
  have hl := lv_entry [.ref (X.1 0 0), .int (nI k)] (n := 2) (Nat.le_of_ble_eq_true rfl)
  rw [lg_entry_eq]
  generalize (lg_sl [.ref (X.1 0 0), .int (nI k)] ++ List.replicate (2 - (lg_sl [.ref (X.1 0 0), .int (nI k)]).length) Slot.unset).toArray = ls at hl ⊢
  have hl : lv_has ls 2 [(0, .ref (X.1 0 0)), (1, .int (nI k))] := hl
  have b0 := hI.n0
  have b1 := hI.n1
  have b2 := hI.n2
  have b3 := hI.n3
  refine lv_iload_n hx hb dX5_antennaAt_0 rfl (lv_at hl 1 rfl) ?_
  refine lv_if_lt (tgt := 15) hx hb dX5_antennaAt_1 (by decide) (fun c_1 => ?_) (fun c_1 => ?_)
  · skip
    have d_1 := Int32.not_le.mpr c_1
    exact absurd c_1 (nI_pos (by omega))
  have d_1 := Int32.not_lt.mp c_1
  refine lv_iload_n hx hb dX5_antennaAt_4 rfl (lv_at hl 1 rfl) ?_
  refine lv_aload_n hx hb dX5_antennaAt_5 rfl (lv_at hl 0 rfl) ?_
  refine wk_get (own := RX5) (C := RX5) (T := TX5) (N := 7) (ci := 6) (v := .ref (X.1 1 0)) hx hb hts i_X5 hown hK hA.desk rfl 0 (by decide) (hts _ (List.mem_of_getElem? (i := 3) rfl)) (fun _ h9 => h9) rfl dX5_antennaAt_6 ?_
  refine wk_V (As := []) (rest := [.int (nI k)]) ⟨hx, hb, hml, hown, hts⟩ (c_size0 l E hA) (cwV 0 hts gX5_antennaAt_Jx4a65c_size_8abf5 rfl rfl rfl (by decide +kernel) ⟨(Nat.le_of_ble_eq_true rfl), (Nat.le_of_ble_eq_true rfl)⟩) (wk_recv hK (hA.list (j := 0) (by decide)) rfl) hK rfl hl.1 rfl (Nat.le_of_ble_eq_true rfl) dX5_antennaAt_9 ⟨Nat.zero_le _, Nat.zero_le _⟩ ?_
  refine lv_icmp_lt (tgt := 26) hx hb dX5_antennaAt_12 (by decide) (fun c_12 => ?_) (fun c_12 => ?_)
  · skip
    have e_12 : k < (z_n σ 0) := wk_cltt (by omega) (by omega) c_12
    refine lv_aload_n hx hb dX5_antennaAt_26 rfl (lv_at hl 0 rfl) ?_
    refine wk_get (own := RX5) (C := RX5) (T := TX5) (N := 7) (ci := 6) (v := .ref (X.1 1 0)) hx hb hts i_X5 hown hK hA.desk rfl 0 (by decide) (hts _ (List.mem_of_getElem? (i := 3) rfl)) (fun _ h9 => h9) rfl dX5_antennaAt_27 ?_
    refine lv_iload_n hx hb dX5_antennaAt_30 rfl (lv_at hl 1 rfl) ?_
    refine wk_V (As := [.int (nI k)]) (rest := []) ⟨hx, hb, hml, hown, hts⟩ (c_get0 l E hA hI hk) (cwV 1 hts gX5_antennaAt_Jx4a65c_get_915e3 rfl rfl rfl (by decide +kernel) ⟨(Nat.le_of_ble_eq_true rfl), (Nat.le_of_ble_eq_true rfl)⟩) (wk_recv hK (hA.list (j := 0) (by decide)) rfl) hK rfl hl.1 rfl (Nat.le_of_ble_eq_true rfl) dX5_antennaAt_31 ⟨Nat.zero_le _, Nat.zero_le _⟩ ?_
    refine va_castS (own := RX5) hx hb hown (hts _ (List.mem_of_getElem? (i := 4) rfl)) (hK.1.1 1 _ rfl).2 (wk_recv hK (hA.ant hk) rfl) dX5_antennaAt_34 ?_
    exact W.aret hx hb hr (Or.inl ⟨_, rfl⟩) (Or.inr ⟨_, rfl⟩) (fun t ht _ => wk_ret rfl ht) wk_nil dX5_antennaAt_37
  have e_12 : (z_n σ 0) ≤ k := wk_cltf (by omega) (by omega) c_12
  omega

abbrev rmt_X5_antennaAt : Room := { frames := 6, cells := 1, slots := 6, locals := 90 }
set_option maxHeartbeats 4000000 in
set_option maxRecDepth 100000 in
theorem t_X5_antennaAt (l : Launch) (hlf : l.stackTraces = false) (E : wk_E) {T : Nat → Nat × Nat} {X : z_X} {σ : z_S} {H : Heap} (hA : DA E T X σ H) (hI : z_Ok σ) {x : Int32} (hbad : v_ix x (z_n σ 0) = false) : wx_Met l yX5_antennaAt wsX5_antennaAt rmt_X5_antennaAt E H [.ref (X.1 0 0), .int x] "java/lang/IndexOutOfBoundsException" := by
  refine vx_ofW (cc := cX5_antennaAt) (maxL := 2) (ret := (some (.object "PassDesk$Antenna"))) (by decide) rfl ?_
  intro p e s m args below meth c s₁ B hml htab hv
  obtain ⟨rfl, hH, hV⟩ := hv
  subst hH
  have hK := hV.k
  have hx := B.exec
  have hb := B.bytes
  have hr := B.returns
  have hts := atoms_spec (ws := wsX5_antennaAt) B.pre
  have hown : s.vm.findClass RX5 = some m.cls := findClass_of_methodNamed B.named
  have hlocks := B.notSynchronized
  have i_X5 : ∀ w ∈ u_ws RX5 TX5 7, w ∈ wsX5_antennaAt := fun w h => (List.mem_cons_of_mem _ (List.mem_append_left _ (List.mem_append_left _ (List.mem_append_right _ h))))
  have hl := lv_entry [.ref (X.1 0 0), .int x] (n := 2) (Nat.le_of_ble_eq_true rfl)
  rw [lg_entry_eq]
  generalize (lg_sl [.ref (X.1 0 0), .int x] ++ List.replicate (2 - (lg_sl [.ref (X.1 0 0), .int x]).length) Slot.unset).toArray = ls at hl ⊢
  have hl : lv_has ls 2 [(0, .ref (X.1 0 0)), (1, .int x)] := hl
  have b0 := hI.n0
  have b1 := hI.n1
  have b2 := hI.n2
  have b3 := hI.n3
  refine lv_iload_n hx hb dX5_antennaAt_0 rfl (lv_at hl 1 rfl) ?_
  refine lv_if_lt (tgt := 15) hx hb dX5_antennaAt_1 (by decide) (fun c_1 => ?_) (fun c_1 => ?_)
  · skip
    have d_1 := Int32.not_le.mpr c_1
    exact wx_throwW (nL := 2) hx hb hlf hown hml hl.1 (by decide) (by decide) (hts _ (List.mem_of_getElem? (i := 1) rfl)) (hts _ (List.mem_of_getElem? (i := 2) rfl)) (List.mem_of_getElem? (i := 0) rfl) (fun w h => hts w (List.mem_cons_of_mem _ (List.mem_append_right _ h))) wx_bad_IOB wx_good_IOB hV htab hlocks dX5_antennaAt_15 dX5_antennaAt_18 dX5_antennaAt_19 dX5_antennaAt_22 dX5_antennaAt_25 ⟨(Nat.le_of_ble_eq_true rfl), (Nat.le_of_ble_eq_true rfl), (Nat.le_of_ble_eq_true rfl), (Nat.le_of_ble_eq_true rfl)⟩
  have d_1 := Int32.not_lt.mp c_1
  refine lv_iload_n hx hb dX5_antennaAt_4 rfl (lv_at hl 1 rfl) ?_
  refine lv_aload_n hx hb dX5_antennaAt_5 rfl (lv_at hl 0 rfl) ?_
  refine wk_get (own := RX5) (C := RX5) (T := TX5) (N := 7) (ci := 6) (v := .ref (X.1 1 0)) hx hb hts i_X5 hown hK hA.desk rfl 0 (by decide) (hts _ (List.mem_of_getElem? (i := 3) rfl)) (fun _ h9 => h9) rfl dX5_antennaAt_6 ?_
  refine wk_V (As := []) (rest := [.int x]) ⟨hx, hb, hml, hown, hts⟩ (c_size0 l E hA) (cwV 0 hts gX5_antennaAt_Jx4a65c_size_8abf5 rfl rfl rfl (by decide +kernel) ⟨(Nat.le_of_ble_eq_true rfl), (Nat.le_of_ble_eq_true rfl)⟩) (wk_recv hK (hA.list (j := 0) (by decide)) rfl) hK rfl hl.1 rfl (Nat.le_of_ble_eq_true rfl) dX5_antennaAt_9 ⟨Nat.zero_le _, Nat.zero_le _⟩ ?_
  refine lv_icmp_lt (tgt := 26) hx hb dX5_antennaAt_12 (by decide) (fun c_12 => ?_) (fun c_12 => ?_)
  · skip
    have d_12 := Int32.not_le.mpr c_12
    exact absurd hbad (by simp [v_ix, c_1, d_1, c_12, d_12])
  have d_12 := Int32.not_lt.mp c_12
  exact wx_throwW (nL := 2) hx hb hlf hown hml hl.1 (by decide) (by decide) (hts _ (List.mem_of_getElem? (i := 1) rfl)) (hts _ (List.mem_of_getElem? (i := 2) rfl)) (List.mem_of_getElem? (i := 0) rfl) (fun w h => hts w (List.mem_cons_of_mem _ (List.mem_append_right _ h))) wx_bad_IOB wx_good_IOB hV htab hlocks dX5_antennaAt_15 dX5_antennaAt_18 dX5_antennaAt_19 dX5_antennaAt_22 dX5_antennaAt_25 ⟨(Nat.le_of_ble_eq_true rfl), (Nat.le_of_ble_eq_true rfl), (Nat.le_of_ble_eq_true rfl), (Nat.le_of_ble_eq_true rfl)⟩

abbrev rmX5_satelliteAt : Room := { frames := 3, cells := 0, slots := 0, locals := 64 }
set_option maxHeartbeats 4000000 in
set_option maxRecDepth 100000 in
theorem c_X5_satelliteAt (l : Launch) (E : wk_E) {T : Nat → Nat × Nat} {X : z_X} {σ : z_S} {H : Heap} (hA : DA E T X σ H) (hI : z_Ok σ) {k : Nat} (hk : k < z_n σ 1) : wk_Met l yX5_satelliteAt wsX5_satelliteAt rmX5_satelliteAt E H [.ref (X.1 0 0), .int (nI k)] (some (.ref (X.1 6 k))) := by
  refine Met.ofW (cc := cX5_satelliteAt) (maxL := 2) (ret := (some (.object "PassDesk$Satellite"))) (by decide) rfl ?_
  intro p e s m args below meth c s₁ B hml hv
  obtain ⟨rfl, hH, hK⟩ := hv
  subst hH
  have hx := B.exec
  have hb := B.bytes
  have hr := B.returns
  have hts := atoms_spec (ws := wsX5_satelliteAt) B.pre
  have hown : s.vm.findClass RX5 = some m.cls := findClass_of_methodNamed B.named
  have hlocks := B.notSynchronized
  have i_X5 : ∀ w ∈ u_ws RX5 TX5 7, w ∈ wsX5_satelliteAt := fun w h => (List.mem_cons_of_mem _ (List.mem_append_left _ (List.mem_append_left _ (List.mem_append_right _ h))))
  have hl := lv_entry [.ref (X.1 0 0), .int (nI k)] (n := 2) (Nat.le_of_ble_eq_true rfl)
  rw [lg_entry_eq]
  generalize (lg_sl [.ref (X.1 0 0), .int (nI k)] ++ List.replicate (2 - (lg_sl [.ref (X.1 0 0), .int (nI k)]).length) Slot.unset).toArray = ls at hl ⊢
  have hl : lv_has ls 2 [(0, .ref (X.1 0 0)), (1, .int (nI k))] := hl
  have b0 := hI.n0
  have b1 := hI.n1
  have b2 := hI.n2
  have b3 := hI.n3
  refine lv_iload_n hx hb dX5_satelliteAt_0 rfl (lv_at hl 1 rfl) ?_
  refine lv_if_lt (tgt := 15) hx hb dX5_satelliteAt_1 (by decide) (fun c_1 => ?_) (fun c_1 => ?_)
  · skip
    have d_1 := Int32.not_le.mpr c_1
    exact absurd c_1 (nI_pos (by omega))
  have d_1 := Int32.not_lt.mp c_1
  refine lv_iload_n hx hb dX5_satelliteAt_4 rfl (lv_at hl 1 rfl) ?_
  refine lv_aload_n hx hb dX5_satelliteAt_5 rfl (lv_at hl 0 rfl) ?_
  refine wk_get (own := RX5) (C := RX5) (T := TX5) (N := 7) (ci := 6) (v := .ref (X.1 1 1)) hx hb hts i_X5 hown hK hA.desk rfl 1 (by decide) (hts _ (List.mem_of_getElem? (i := 3) rfl)) (fun _ h9 => h9) rfl dX5_satelliteAt_6 ?_
  refine wk_V (As := []) (rest := [.int (nI k)]) ⟨hx, hb, hml, hown, hts⟩ (c_size1 l E hA) (cwV 0 hts gX5_satelliteAt_Jx4a65c_size_8abf5 rfl rfl rfl (by decide +kernel) ⟨(Nat.le_of_ble_eq_true rfl), (Nat.le_of_ble_eq_true rfl)⟩) (wk_recv hK (hA.list (j := 1) (by decide)) rfl) hK rfl hl.1 rfl (Nat.le_of_ble_eq_true rfl) dX5_satelliteAt_9 ⟨Nat.zero_le _, Nat.zero_le _⟩ ?_
  refine lv_icmp_lt (tgt := 26) hx hb dX5_satelliteAt_12 (by decide) (fun c_12 => ?_) (fun c_12 => ?_)
  · skip
    have e_12 : k < (z_n σ 1) := wk_cltt (by omega) (by omega) c_12
    refine lv_aload_n hx hb dX5_satelliteAt_26 rfl (lv_at hl 0 rfl) ?_
    refine wk_get (own := RX5) (C := RX5) (T := TX5) (N := 7) (ci := 6) (v := .ref (X.1 1 1)) hx hb hts i_X5 hown hK hA.desk rfl 1 (by decide) (hts _ (List.mem_of_getElem? (i := 3) rfl)) (fun _ h9 => h9) rfl dX5_satelliteAt_27 ?_
    refine lv_iload_n hx hb dX5_satelliteAt_30 rfl (lv_at hl 1 rfl) ?_
    refine wk_V (As := [.int (nI k)]) (rest := []) ⟨hx, hb, hml, hown, hts⟩ (c_get1 l E hA hI hk) (cwV 1 hts gX5_satelliteAt_Jx4a65c_get_915e3 rfl rfl rfl (by decide +kernel) ⟨(Nat.le_of_ble_eq_true rfl), (Nat.le_of_ble_eq_true rfl)⟩) (wk_recv hK (hA.list (j := 1) (by decide)) rfl) hK rfl hl.1 rfl (Nat.le_of_ble_eq_true rfl) dX5_satelliteAt_31 ⟨Nat.zero_le _, Nat.zero_le _⟩ ?_
    refine va_castS (own := RX5) hx hb hown (hts _ (List.mem_of_getElem? (i := 4) rfl)) (hK.1.1 4 _ rfl).2 (wk_recv hK (hA.sat hk) rfl) dX5_satelliteAt_34 ?_
    exact W.aret hx hb hr (Or.inl ⟨_, rfl⟩) (Or.inr ⟨_, rfl⟩) (fun t ht _ => wk_ret rfl ht) wk_nil dX5_satelliteAt_37
  have e_12 : (z_n σ 1) ≤ k := wk_cltf (by omega) (by omega) c_12
  omega

abbrev rmt_X5_satelliteAt : Room := { frames := 6, cells := 1, slots := 6, locals := 90 }
set_option maxHeartbeats 4000000 in
set_option maxRecDepth 100000 in
theorem t_X5_satelliteAt (l : Launch) (hlf : l.stackTraces = false) (E : wk_E) {T : Nat → Nat × Nat} {X : z_X} {σ : z_S} {H : Heap} (hA : DA E T X σ H) (hI : z_Ok σ) {x : Int32} (hbad : v_ix x (z_n σ 1) = false) : wx_Met l yX5_satelliteAt wsX5_satelliteAt rmt_X5_satelliteAt E H [.ref (X.1 0 0), .int x] "java/lang/IndexOutOfBoundsException" := by
  refine vx_ofW (cc := cX5_satelliteAt) (maxL := 2) (ret := (some (.object "PassDesk$Satellite"))) (by decide) rfl ?_
  intro p e s m args below meth c s₁ B hml htab hv
  obtain ⟨rfl, hH, hV⟩ := hv
  subst hH
  have hK := hV.k
  have hx := B.exec
  have hb := B.bytes
  have hr := B.returns
  have hts := atoms_spec (ws := wsX5_satelliteAt) B.pre
  have hown : s.vm.findClass RX5 = some m.cls := findClass_of_methodNamed B.named
  have hlocks := B.notSynchronized
  have i_X5 : ∀ w ∈ u_ws RX5 TX5 7, w ∈ wsX5_satelliteAt := fun w h => (List.mem_cons_of_mem _ (List.mem_append_left _ (List.mem_append_left _ (List.mem_append_right _ h))))
  have hl := lv_entry [.ref (X.1 0 0), .int x] (n := 2) (Nat.le_of_ble_eq_true rfl)
  rw [lg_entry_eq]
  generalize (lg_sl [.ref (X.1 0 0), .int x] ++ List.replicate (2 - (lg_sl [.ref (X.1 0 0), .int x]).length) Slot.unset).toArray = ls at hl ⊢
  have hl : lv_has ls 2 [(0, .ref (X.1 0 0)), (1, .int x)] := hl
  have b0 := hI.n0
  have b1 := hI.n1
  have b2 := hI.n2
  have b3 := hI.n3
  refine lv_iload_n hx hb dX5_satelliteAt_0 rfl (lv_at hl 1 rfl) ?_
  refine lv_if_lt (tgt := 15) hx hb dX5_satelliteAt_1 (by decide) (fun c_1 => ?_) (fun c_1 => ?_)
  · skip
    have d_1 := Int32.not_le.mpr c_1
    exact wx_throwW (nL := 2) hx hb hlf hown hml hl.1 (by decide) (by decide) (hts _ (List.mem_of_getElem? (i := 1) rfl)) (hts _ (List.mem_of_getElem? (i := 2) rfl)) (List.mem_of_getElem? (i := 2) rfl) (fun w h => hts w (List.mem_cons_of_mem _ (List.mem_append_right _ h))) wx_bad_IOB wx_good_IOB hV htab hlocks dX5_satelliteAt_15 dX5_satelliteAt_18 dX5_satelliteAt_19 dX5_satelliteAt_22 dX5_satelliteAt_25 ⟨(Nat.le_of_ble_eq_true rfl), (Nat.le_of_ble_eq_true rfl), (Nat.le_of_ble_eq_true rfl), (Nat.le_of_ble_eq_true rfl)⟩
  have d_1 := Int32.not_lt.mp c_1
  refine lv_iload_n hx hb dX5_satelliteAt_4 rfl (lv_at hl 1 rfl) ?_
  refine lv_aload_n hx hb dX5_satelliteAt_5 rfl (lv_at hl 0 rfl) ?_
  refine wk_get (own := RX5) (C := RX5) (T := TX5) (N := 7) (ci := 6) (v := .ref (X.1 1 1)) hx hb hts i_X5 hown hK hA.desk rfl 1 (by decide) (hts _ (List.mem_of_getElem? (i := 3) rfl)) (fun _ h9 => h9) rfl dX5_satelliteAt_6 ?_
  refine wk_V (As := []) (rest := [.int x]) ⟨hx, hb, hml, hown, hts⟩ (c_size1 l E hA) (cwV 0 hts gX5_satelliteAt_Jx4a65c_size_8abf5 rfl rfl rfl (by decide +kernel) ⟨(Nat.le_of_ble_eq_true rfl), (Nat.le_of_ble_eq_true rfl)⟩) (wk_recv hK (hA.list (j := 1) (by decide)) rfl) hK rfl hl.1 rfl (Nat.le_of_ble_eq_true rfl) dX5_satelliteAt_9 ⟨Nat.zero_le _, Nat.zero_le _⟩ ?_
  refine lv_icmp_lt (tgt := 26) hx hb dX5_satelliteAt_12 (by decide) (fun c_12 => ?_) (fun c_12 => ?_)
  · skip
    have d_12 := Int32.not_le.mpr c_12
    exact absurd hbad (by simp [v_ix, c_1, d_1, c_12, d_12])
  have d_12 := Int32.not_lt.mp c_12
  exact wx_throwW (nL := 2) hx hb hlf hown hml hl.1 (by decide) (by decide) (hts _ (List.mem_of_getElem? (i := 1) rfl)) (hts _ (List.mem_of_getElem? (i := 2) rfl)) (List.mem_of_getElem? (i := 2) rfl) (fun w h => hts w (List.mem_cons_of_mem _ (List.mem_append_right _ h))) wx_bad_IOB wx_good_IOB hV htab hlocks dX5_satelliteAt_15 dX5_satelliteAt_18 dX5_satelliteAt_19 dX5_satelliteAt_22 dX5_satelliteAt_25 ⟨(Nat.le_of_ble_eq_true rfl), (Nat.le_of_ble_eq_true rfl), (Nat.le_of_ble_eq_true rfl), (Nat.le_of_ble_eq_true rfl)⟩

abbrev rmX5_passAt : Room := { frames := 3, cells := 0, slots := 0, locals := 64 }
set_option maxHeartbeats 4000000 in
set_option maxRecDepth 100000 in
theorem c_X5_passAt (l : Launch) (E : wk_E) {T : Nat → Nat × Nat} {X : z_X} {σ : z_S} {H : Heap} (hA : DA E T X σ H) (hI : z_Ok σ) {k : Nat} (hk : k < z_n σ 2) : wk_Met l yX5_passAt wsX5_passAt rmX5_passAt E H [.ref (X.1 0 0), .int (nI k)] (some (.ref (X.1 7 k))) := by
  refine Met.ofW (cc := cX5_passAt) (maxL := 2) (ret := (some (.object "PassDesk$Pass"))) (by decide) rfl ?_
  intro p e s m args below meth c s₁ B hml hv
  obtain ⟨rfl, hH, hK⟩ := hv
  subst hH
  have hx := B.exec
  have hb := B.bytes
  have hr := B.returns
  have hts := atoms_spec (ws := wsX5_passAt) B.pre
  have hown : s.vm.findClass RX5 = some m.cls := findClass_of_methodNamed B.named
  have hlocks := B.notSynchronized
  have i_X5 : ∀ w ∈ u_ws RX5 TX5 7, w ∈ wsX5_passAt := fun w h => (List.mem_cons_of_mem _ (List.mem_append_left _ (List.mem_append_left _ (List.mem_append_right _ h))))
  have hl := lv_entry [.ref (X.1 0 0), .int (nI k)] (n := 2) (Nat.le_of_ble_eq_true rfl)
  rw [lg_entry_eq]
  generalize (lg_sl [.ref (X.1 0 0), .int (nI k)] ++ List.replicate (2 - (lg_sl [.ref (X.1 0 0), .int (nI k)]).length) Slot.unset).toArray = ls at hl ⊢
  have hl : lv_has ls 2 [(0, .ref (X.1 0 0)), (1, .int (nI k))] := hl
  have b0 := hI.n0
  have b1 := hI.n1
  have b2 := hI.n2
  have b3 := hI.n3
  refine lv_iload_n hx hb dX5_passAt_0 rfl (lv_at hl 1 rfl) ?_
  refine lv_if_lt (tgt := 15) hx hb dX5_passAt_1 (by decide) (fun c_1 => ?_) (fun c_1 => ?_)
  · skip
    have d_1 := Int32.not_le.mpr c_1
    exact absurd c_1 (nI_pos (by omega))
  have d_1 := Int32.not_lt.mp c_1
  refine lv_iload_n hx hb dX5_passAt_4 rfl (lv_at hl 1 rfl) ?_
  refine lv_aload_n hx hb dX5_passAt_5 rfl (lv_at hl 0 rfl) ?_
  refine wk_get (own := RX5) (C := RX5) (T := TX5) (N := 7) (ci := 6) (v := .ref (X.1 1 2)) hx hb hts i_X5 hown hK hA.desk rfl 2 (by decide) (hts _ (List.mem_of_getElem? (i := 3) rfl)) (fun _ h9 => h9) rfl dX5_passAt_6 ?_
  refine wk_V (As := []) (rest := [.int (nI k)]) ⟨hx, hb, hml, hown, hts⟩ (c_size2 l E hA) (cwV 0 hts gX5_passAt_Jx4a65c_size_8abf5 rfl rfl rfl (by decide +kernel) ⟨(Nat.le_of_ble_eq_true rfl), (Nat.le_of_ble_eq_true rfl)⟩) (wk_recv hK (hA.list (j := 2) (by decide)) rfl) hK rfl hl.1 rfl (Nat.le_of_ble_eq_true rfl) dX5_passAt_9 ⟨Nat.zero_le _, Nat.zero_le _⟩ ?_
  refine lv_icmp_lt (tgt := 26) hx hb dX5_passAt_12 (by decide) (fun c_12 => ?_) (fun c_12 => ?_)
  · skip
    have e_12 : k < (z_n σ 2) := wk_cltt (by omega) (by omega) c_12
    refine lv_aload_n hx hb dX5_passAt_26 rfl (lv_at hl 0 rfl) ?_
    refine wk_get (own := RX5) (C := RX5) (T := TX5) (N := 7) (ci := 6) (v := .ref (X.1 1 2)) hx hb hts i_X5 hown hK hA.desk rfl 2 (by decide) (hts _ (List.mem_of_getElem? (i := 3) rfl)) (fun _ h9 => h9) rfl dX5_passAt_27 ?_
    refine lv_iload_n hx hb dX5_passAt_30 rfl (lv_at hl 1 rfl) ?_
    refine wk_V (As := [.int (nI k)]) (rest := []) ⟨hx, hb, hml, hown, hts⟩ (c_get2 l E hA hI hk) (cwV 1 hts gX5_passAt_Jx4a65c_get_915e3 rfl rfl rfl (by decide +kernel) ⟨(Nat.le_of_ble_eq_true rfl), (Nat.le_of_ble_eq_true rfl)⟩) (wk_recv hK (hA.list (j := 2) (by decide)) rfl) hK rfl hl.1 rfl (Nat.le_of_ble_eq_true rfl) dX5_passAt_31 ⟨Nat.zero_le _, Nat.zero_le _⟩ ?_
    refine va_castS (own := RX5) hx hb hown (hts _ (List.mem_of_getElem? (i := 4) rfl)) (hK.1.1 3 _ rfl).2 (wk_recv hK (hA.pass hk) rfl) dX5_passAt_34 ?_
    exact W.aret hx hb hr (Or.inl ⟨_, rfl⟩) (Or.inr ⟨_, rfl⟩) (fun t ht _ => wk_ret rfl ht) wk_nil dX5_passAt_37
  have e_12 : (z_n σ 2) ≤ k := wk_cltf (by omega) (by omega) c_12
  omega
