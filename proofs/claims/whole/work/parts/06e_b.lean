abbrev rmX3_gathered : Room := { frames := 0, cells := 0, slots := 0, locals := 0 }
set_option maxHeartbeats 4000000 in
set_option maxRecDepth 100000 in
theorem c_X3_gathered (l : Launch) (E : wk_E) {T : Nat → Nat × Nat} {X : z_X} {σ : z_S} {H : Heap} (hA : DA E T X σ H) (hI : z_Ok σ) {k : Nat} (hk : k < z_n σ 1) : wk_Met l yX3_gathered wsX3_gathered rmX3_gathered E H [.ref (X.1 6 k)] (some (.int (z_su σ k + z_sl σ k + z_sd σ k))) := by
  refine Met.ofW (cc := cX3_gathered) (maxL := 1) (ret := (some .int)) (by decide) rfl ?_
  intro p e s m args below meth c s₁ B hml hv
  obtain ⟨rfl, hH, hK⟩ := hv
  subst hH
  have hx := B.exec
  have hb := B.bytes
  have hr := B.returns
  have hts := atoms_spec (ws := wsX3_gathered) B.pre
  have hown : s.vm.findClass RX3 = some m.cls := findClass_of_methodNamed B.named
  have hlocks := B.notSynchronized
  have i_X3 : ∀ w ∈ u_ws RX3 TX3 8, w ∈ wsX3_gathered := fun w h => (List.mem_cons_of_mem _ (List.mem_append_right _ h))
  have hl := lv_entry [.ref (X.1 6 k)] (n := 1) (Nat.le_of_ble_eq_true rfl)
  rw [lg_entry_eq]
  generalize (lg_sl [.ref (X.1 6 k)] ++ List.replicate (1 - (lg_sl [.ref (X.1 6 k)]).length) Slot.unset).toArray = ls at hl ⊢
  have hl : lv_has ls 1 [(0, .ref (X.1 6 k))] := hl
  have b0 := hI.n0
  have b1 := hI.n1
  have b2 := hI.n2
  have b3 := hI.n3
  refine lv_aload_n hx hb dX3_gathered_0 rfl (lv_at hl 0 rfl) ?_
  refine wk_get (own := RX3) (C := RX3) (T := TX3) (N := 8) (ci := 4) (v := .int (z_su σ k)) hx hb hts i_X3 hown hK (hA.sat hk) rfl 5 (by decide) (hts _ (List.mem_of_getElem? (i := 1) rfl)) (fun _ h9 => h9) rfl dX3_gathered_1 ?_
  refine lv_aload_n hx hb dX3_gathered_4 rfl (lv_at hl 0 rfl) ?_
  refine wk_get (own := RX3) (C := RX3) (T := TX3) (N := 8) (ci := 4) (v := .int (z_sl σ k)) hx hb hts i_X3 hown hK (hA.sat hk) rfl 6 (by decide) (hts _ (List.mem_of_getElem? (i := 2) rfl)) (fun _ h9 => h9) rfl dX3_gathered_5 ?_
  refine lv_iadd hx hb dX3_gathered_8 ?_
  refine lv_aload_n hx hb dX3_gathered_9 rfl (lv_at hl 0 rfl) ?_
  refine wk_get (own := RX3) (C := RX3) (T := TX3) (N := 8) (ci := 4) (v := .int (z_sd σ k)) hx hb hts i_X3 hown hK (hA.sat hk) rfl 7 (by decide) (hts _ (List.mem_of_getElem? (i := 3) rfl)) (fun _ h9 => h9) rfl dX3_gathered_10 ?_
  refine lv_iadd hx hb dX3_gathered_13 ?_
  exact W.iret hx hb hr (fun t ht _ => wk_ret (congrArg Value.int (by simp [wk_b])) ht) wk_nil dX3_gathered_14

abbrev rmX5_checkSpan : Room := { frames := 0, cells := 0, slots := 0, locals := 0 }
set_option maxHeartbeats 4000000 in
set_option maxRecDepth 100000 in
theorem c_X5_checkSpan (l : Launch) (E : wk_E) {T : Nat → Nat × Nat} {X : z_X} {σ : z_S} {H : Heap} (hA : DA E T X σ H) (hI : z_Ok σ) {x y : Int32} (hok : v_span σ x y = true) : wk_Met l yX5_checkSpan wsX5_checkSpan rmX5_checkSpan E H [.ref (X.1 0 0), .int x, .int y] none := by
  refine Met.ofW (cc := cX5_checkSpan) (maxL := 3) (ret := none) (by decide) rfl ?_
  intro p e s m args below meth c s₁ B hml hv
  obtain ⟨rfl, hH, hK⟩ := hv
  subst hH
  have hx := B.exec
  have hb := B.bytes
  have hr := B.returns
  have hts := atoms_spec (ws := wsX5_checkSpan) B.pre
  have hown : s.vm.findClass RX5 = some m.cls := findClass_of_methodNamed B.named
  have hlocks := B.notSynchronized
  have i_X5 : ∀ w ∈ u_ws RX5 TX5 7, w ∈ wsX5_checkSpan := fun w h => (List.mem_cons_of_mem _ (List.mem_append_left _ (List.mem_append_right _ h)))
  have hl := lv_entry [.ref (X.1 0 0), .int x, .int y] (n := 3) (Nat.le_of_ble_eq_true rfl)
  rw [lg_entry_eq]
  generalize (lg_sl [.ref (X.1 0 0), .int x, .int y] ++ List.replicate (3 - (lg_sl [.ref (X.1 0 0), .int x, .int y]).length) Slot.unset).toArray = ls at hl ⊢
  have hl : lv_has ls 3 [(0, .ref (X.1 0 0)), (1, .int x), (2, .int y)] := hl
  have b0 := hI.n0
  have b1 := hI.n1
  have b2 := hI.n2
  have b3 := hI.n3
  refine lv_iload_n hx hb dX5_checkSpan_0 rfl (lv_at hl 1 rfl) ?_
  refine lv_aload_n hx hb dX5_checkSpan_1 rfl (lv_at hl 0 rfl) ?_
  refine wk_get (own := RX5) (C := RX5) (T := TX5) (N := 7) (ci := 6) (v := .int (z_now σ)) hx hb hts i_X5 hown hK hA.desk rfl 5 (by decide) (hts _ (List.mem_of_getElem? (i := 3) rfl)) (fun _ h9 => h9) rfl dX5_checkSpan_2 ?_
  refine lv_icmp_lt (tgt := 20) hx hb dX5_checkSpan_5 (by decide) (fun c_5 => ?_) (fun c_5 => ?_)
  · skip
    have d_5 := Int32.not_le.mpr c_5
    exact absurd hok (by simp [v_span, c_5, d_5])
  have d_5 := Int32.not_lt.mp c_5
  refine lv_iload_n hx hb dX5_checkSpan_8 rfl (lv_at hl 2 rfl) ?_
  refine lv_iload_n hx hb dX5_checkSpan_9 rfl (lv_at hl 1 rfl) ?_
  refine lv_icmp_le (tgt := 20) hx hb dX5_checkSpan_10 (by decide) (fun c_10 => ?_) (fun c_10 => ?_)
  · skip
    have d_10 := Int32.not_lt.mpr c_10
    exact absurd hok (by simp [v_span, c_5, d_5, c_10, d_10])
  have d_10 := Int32.not_le.mp c_10
  refine lv_iload_n hx hb dX5_checkSpan_13 rfl (lv_at hl 2 rfl) ?_
  refine lv_sipush (v := 9999) hx hb dX5_checkSpan_14 (by decide) ?_
  refine lv_icmp_le (tgt := 31) hx hb dX5_checkSpan_17 (by decide) (fun c_17 => ?_) (fun c_17 => ?_)
  · skip
    have d_17 := Int32.not_lt.mpr c_17
    exact W.vret hx hb hr (fun t ht _ => ⟨rfl, ht⟩) wk_nil dX5_checkSpan_31
  have d_17 := Int32.not_le.mp c_17
  exact absurd hok (by simp [v_span, c_5, d_5, c_10, d_10, c_17, d_17])

abbrev rmt_X5_checkSpan : Room := { frames := 6, cells := 1, slots := 6, locals := 90 }
set_option maxHeartbeats 4000000 in
set_option maxRecDepth 100000 in
theorem t_X5_checkSpan (l : Launch) (hlf : l.stackTraces = false) (E : wk_E) {T : Nat → Nat × Nat} {X : z_X} {σ : z_S} {H : Heap} (hA : DA E T X σ H) (hI : z_Ok σ) {x y : Int32} (hbad : v_span σ x y = false) : wx_Met l yX5_checkSpan wsX5_checkSpan rmt_X5_checkSpan E H [.ref (X.1 0 0), .int x, .int y] "java/lang/IllegalArgumentException" := by
  refine vx_ofW (cc := cX5_checkSpan) (maxL := 3) (ret := none) (by decide) rfl ?_
  intro p e s m args below meth c s₁ B hml htab hv
  obtain ⟨rfl, hH, hV⟩ := hv
  subst hH
  have hK := hV.k
  have hx := B.exec
  have hb := B.bytes
  have hr := B.returns
  have hts := atoms_spec (ws := wsX5_checkSpan) B.pre
  have hown : s.vm.findClass RX5 = some m.cls := findClass_of_methodNamed B.named
  have hlocks := B.notSynchronized
  have i_X5 : ∀ w ∈ u_ws RX5 TX5 7, w ∈ wsX5_checkSpan := fun w h => (List.mem_cons_of_mem _ (List.mem_append_left _ (List.mem_append_right _ h)))
  have hl := lv_entry [.ref (X.1 0 0), .int x, .int y] (n := 3) (Nat.le_of_ble_eq_true rfl)
  rw [lg_entry_eq]
  generalize (lg_sl [.ref (X.1 0 0), .int x, .int y] ++ List.replicate (3 - (lg_sl [.ref (X.1 0 0), .int x, .int y]).length) Slot.unset).toArray = ls at hl ⊢
  have hl : lv_has ls 3 [(0, .ref (X.1 0 0)), (1, .int x), (2, .int y)] := hl
  have b0 := hI.n0
  have b1 := hI.n1
  have b2 := hI.n2
  have b3 := hI.n3
  refine lv_iload_n hx hb dX5_checkSpan_0 rfl (lv_at hl 1 rfl) ?_
  refine lv_aload_n hx hb dX5_checkSpan_1 rfl (lv_at hl 0 rfl) ?_
  refine wk_get (own := RX5) (C := RX5) (T := TX5) (N := 7) (ci := 6) (v := .int (z_now σ)) hx hb hts i_X5 hown hK hA.desk rfl 5 (by decide) (hts _ (List.mem_of_getElem? (i := 3) rfl)) (fun _ h9 => h9) rfl dX5_checkSpan_2 ?_
  refine lv_icmp_lt (tgt := 20) hx hb dX5_checkSpan_5 (by decide) (fun c_5 => ?_) (fun c_5 => ?_)
  · skip
    have d_5 := Int32.not_le.mpr c_5
    exact wx_throwW (nL := 3) hx hb hlf hown hml hl.1 (by decide) (by decide) (hts _ (List.mem_of_getElem? (i := 1) rfl)) (hts _ (List.mem_of_getElem? (i := 2) rfl)) (List.mem_of_getElem? (i := 9) rfl) (fun w h => hts w (List.mem_cons_of_mem _ (List.mem_append_right _ h))) wx_bad_IAE wx_good_IAE hV htab hlocks dX5_checkSpan_20 dX5_checkSpan_23 dX5_checkSpan_24 dX5_checkSpan_27 dX5_checkSpan_30 ⟨(Nat.le_of_ble_eq_true rfl), (Nat.le_of_ble_eq_true rfl), (Nat.le_of_ble_eq_true rfl), (Nat.le_of_ble_eq_true rfl)⟩
  have d_5 := Int32.not_lt.mp c_5
  refine lv_iload_n hx hb dX5_checkSpan_8 rfl (lv_at hl 2 rfl) ?_
  refine lv_iload_n hx hb dX5_checkSpan_9 rfl (lv_at hl 1 rfl) ?_
  refine lv_icmp_le (tgt := 20) hx hb dX5_checkSpan_10 (by decide) (fun c_10 => ?_) (fun c_10 => ?_)
  · skip
    have d_10 := Int32.not_lt.mpr c_10
    exact wx_throwW (nL := 3) hx hb hlf hown hml hl.1 (by decide) (by decide) (hts _ (List.mem_of_getElem? (i := 1) rfl)) (hts _ (List.mem_of_getElem? (i := 2) rfl)) (List.mem_of_getElem? (i := 9) rfl) (fun w h => hts w (List.mem_cons_of_mem _ (List.mem_append_right _ h))) wx_bad_IAE wx_good_IAE hV htab hlocks dX5_checkSpan_20 dX5_checkSpan_23 dX5_checkSpan_24 dX5_checkSpan_27 dX5_checkSpan_30 ⟨(Nat.le_of_ble_eq_true rfl), (Nat.le_of_ble_eq_true rfl), (Nat.le_of_ble_eq_true rfl), (Nat.le_of_ble_eq_true rfl)⟩
  have d_10 := Int32.not_le.mp c_10
  refine lv_iload_n hx hb dX5_checkSpan_13 rfl (lv_at hl 2 rfl) ?_
  refine lv_sipush (v := 9999) hx hb dX5_checkSpan_14 (by decide) ?_
  refine lv_icmp_le (tgt := 31) hx hb dX5_checkSpan_17 (by decide) (fun c_17 => ?_) (fun c_17 => ?_)
  · skip
    have d_17 := Int32.not_lt.mpr c_17
    exact absurd hbad (by simp [v_span, c_5, d_5, c_10, d_10, c_17, d_17])
  have d_17 := Int32.not_le.mp c_17
  exact wx_throwW (nL := 3) hx hb hlf hown hml hl.1 (by decide) (by decide) (hts _ (List.mem_of_getElem? (i := 1) rfl)) (hts _ (List.mem_of_getElem? (i := 2) rfl)) (List.mem_of_getElem? (i := 9) rfl) (fun w h => hts w (List.mem_cons_of_mem _ (List.mem_append_right _ h))) wx_bad_IAE wx_good_IAE hV htab hlocks dX5_checkSpan_20 dX5_checkSpan_23 dX5_checkSpan_24 dX5_checkSpan_27 dX5_checkSpan_30 ⟨(Nat.le_of_ble_eq_true rfl), (Nat.le_of_ble_eq_true rfl), (Nat.le_of_ble_eq_true rfl), (Nat.le_of_ble_eq_true rfl)⟩

abbrev rmX5_checkSet : Room := { frames := 1, cells := 0, slots := 0, locals := 20 }
set_option maxHeartbeats 4000000 in
set_option maxRecDepth 100000 in
theorem c_X5_checkSet (l : Launch) (E : wk_E) {T : Nat → Nat × Nat} {X : z_X} {σ : z_S} {H : Heap} (hA : DA E T X σ H) (hI : z_Ok σ) {x : Int32} (hok : v_set x (z_n σ 2) = true) : wk_Met l yX5_checkSet wsX5_checkSet rmX5_checkSet E H [.ref (X.1 0 0), .int x] none := by
  refine Met.ofW (cc := cX5_checkSet) (maxL := 2) (ret := none) (by decide) rfl ?_
  intro p e s m args below meth c s₁ B hml hv
  obtain ⟨rfl, hH, hK⟩ := hv
  subst hH
  have hx := B.exec
  have hb := B.bytes
  have hr := B.returns
  have hts := atoms_spec (ws := wsX5_checkSet) B.pre
  have hown : s.vm.findClass RX5 = some m.cls := findClass_of_methodNamed B.named
  have hlocks := B.notSynchronized
  have i_X5 : ∀ w ∈ u_ws RX5 TX5 7, w ∈ wsX5_checkSet := fun w h => (List.mem_cons_of_mem _ (List.mem_append_left _ (List.mem_append_left _ (List.mem_append_right _ h))))
  have hl := lv_entry [.ref (X.1 0 0), .int x] (n := 2) (Nat.le_of_ble_eq_true rfl)
  rw [lg_entry_eq]
  generalize (lg_sl [.ref (X.1 0 0), .int x] ++ List.replicate (2 - (lg_sl [.ref (X.1 0 0), .int x]).length) Slot.unset).toArray = ls at hl ⊢
  have hl : lv_has ls 2 [(0, .ref (X.1 0 0)), (1, .int x)] := hl
  have b0 := hI.n0
  have b1 := hI.n1
  have b2 := hI.n2
  have b3 := hI.n3
  refine lv_iload_n hx hb dX5_checkSet_0 rfl (lv_at hl 1 rfl) ?_
  refine lv_aload_n hx hb dX5_checkSet_1 rfl (lv_at hl 0 rfl) ?_
  refine wk_get (own := RX5) (C := RX5) (T := TX5) (N := 7) (ci := 6) (v := .ref (X.1 1 2)) hx hb hts i_X5 hown hK hA.desk rfl 2 (by decide) (hts _ (List.mem_of_getElem? (i := 3) rfl)) (fun _ h9 => h9) rfl dX5_checkSet_2 ?_
  refine wk_V (As := []) (rest := [.int x]) ⟨hx, hb, hml, hown, hts⟩ (c_size2 l E hA) (cwV 0 hts gX5_checkSet_Jx4a65c_size_8abf5 rfl rfl rfl (by decide +kernel) ⟨(Nat.le_of_ble_eq_true rfl), (Nat.le_of_ble_eq_true rfl)⟩) (wk_recv hK (hA.list (j := 2) (by decide)) rfl) hK rfl hl.1 rfl (Nat.le_of_ble_eq_true rfl) dX5_checkSet_5 ⟨Nat.zero_le _, Nat.zero_le _⟩ ?_
  refine lv_iushr hx hb dX5_checkSet_8 rfl ?_
  refine lv_if_eq (tgt := 23) hx hb dX5_checkSet_9 (by decide) (fun c_9 => ?_) (fun c_9 => ?_)
  · skip
    exact W.vret hx hb hr (fun t ht _ => ⟨rfl, ht⟩) wk_nil dX5_checkSet_23
  exact absurd ((wk_us0 (by omega)).mpr hok) c_9

abbrev rmt_X5_checkSet : Room := { frames := 6, cells := 1, slots := 6, locals := 90 }
set_option maxHeartbeats 4000000 in
set_option maxRecDepth 100000 in
theorem t_X5_checkSet (l : Launch) (hlf : l.stackTraces = false) (E : wk_E) {T : Nat → Nat × Nat} {X : z_X} {σ : z_S} {H : Heap} (hA : DA E T X σ H) (hI : z_Ok σ) {x : Int32} (hbad : v_set x (z_n σ 2) = false) : wx_Met l yX5_checkSet wsX5_checkSet rmt_X5_checkSet E H [.ref (X.1 0 0), .int x] "java/lang/IllegalArgumentException" := by
  refine vx_ofW (cc := cX5_checkSet) (maxL := 2) (ret := none) (by decide) rfl ?_
  intro p e s m args below meth c s₁ B hml htab hv
  obtain ⟨rfl, hH, hV⟩ := hv
  subst hH
  have hK := hV.k
  have hx := B.exec
  have hb := B.bytes
  have hr := B.returns
  have hts := atoms_spec (ws := wsX5_checkSet) B.pre
  have hown : s.vm.findClass RX5 = some m.cls := findClass_of_methodNamed B.named
  have hlocks := B.notSynchronized
  have i_X5 : ∀ w ∈ u_ws RX5 TX5 7, w ∈ wsX5_checkSet := fun w h => (List.mem_cons_of_mem _ (List.mem_append_left _ (List.mem_append_left _ (List.mem_append_right _ h))))
  have hl := lv_entry [.ref (X.1 0 0), .int x] (n := 2) (Nat.le_of_ble_eq_true rfl)
  rw [lg_entry_eq]
  generalize (lg_sl [.ref (X.1 0 0), .int x] ++ List.replicate (2 - (lg_sl [.ref (X.1 0 0), .int x]).length) Slot.unset).toArray = ls at hl ⊢
  have hl : lv_has ls 2 [(0, .ref (X.1 0 0)), (1, .int x)] := hl
  have b0 := hI.n0
  have b1 := hI.n1
  have b2 := hI.n2
  have b3 := hI.n3
  refine lv_iload_n hx hb dX5_checkSet_0 rfl (lv_at hl 1 rfl) ?_
  refine lv_aload_n hx hb dX5_checkSet_1 rfl (lv_at hl 0 rfl) ?_
  refine wk_get (own := RX5) (C := RX5) (T := TX5) (N := 7) (ci := 6) (v := .ref (X.1 1 2)) hx hb hts i_X5 hown hK hA.desk rfl 2 (by decide) (hts _ (List.mem_of_getElem? (i := 3) rfl)) (fun _ h9 => h9) rfl dX5_checkSet_2 ?_
  refine wk_V (As := []) (rest := [.int x]) ⟨hx, hb, hml, hown, hts⟩ (c_size2 l E hA) (cwV 0 hts gX5_checkSet_Jx4a65c_size_8abf5 rfl rfl rfl (by decide +kernel) ⟨(Nat.le_of_ble_eq_true rfl), (Nat.le_of_ble_eq_true rfl)⟩) (wk_recv hK (hA.list (j := 2) (by decide)) rfl) hK rfl hl.1 rfl (Nat.le_of_ble_eq_true rfl) dX5_checkSet_5 ⟨Nat.zero_le _, Nat.zero_le _⟩ ?_
  refine lv_iushr hx hb dX5_checkSet_8 rfl ?_
  refine lv_if_eq (tgt := 23) hx hb dX5_checkSet_9 (by decide) (fun c_9 => ?_) (fun c_9 => ?_)
  · skip
    exact absurd ((wk_us0 (by omega)).mp c_9) (by rw [hbad]; decide)
  exact wx_throwW (nL := 2) hx hb hlf hown hml hl.1 (by decide) (by decide) (hts _ (List.mem_of_getElem? (i := 1) rfl)) (hts _ (List.mem_of_getElem? (i := 2) rfl)) (List.mem_of_getElem? (i := 17) rfl) (fun w h => hts w (List.mem_cons_of_mem _ (List.mem_append_right _ h))) wx_bad_IAE wx_good_IAE hV htab hlocks dX5_checkSet_12 dX5_checkSet_15 dX5_checkSet_16 dX5_checkSet_19 dX5_checkSet_22 ⟨(Nat.le_of_ble_eq_true rfl), (Nat.le_of_ble_eq_true rfl), (Nat.le_of_ble_eq_true rfl), (Nat.le_of_ble_eq_true rfl)⟩
