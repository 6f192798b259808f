abbrev rmt3_X5_addOutage : Room := { frames := 6, cells := 1, slots := 6, locals := 90 }
set_option maxHeartbeats 4000000 in
set_option maxRecDepth 100000 in
theorem t3_X5_addOutage (l : Launch) (hlf : l.stackTraces = false) (E : wk_E) {T : Nat → Nat × Nat} {X : z_X} {σ : z_S} {H : Heap} (hA : DA E T X σ H) (hI : z_Ok σ) {a : Nat} {x y : Int32} (ha : a < z_n σ 0) (hsp : v_span σ x y = true) (hn : ¬ z_n σ 3 < 6) : wx_Met l yX5_addOutage wsX5_addOutage rmt3_X5_addOutage E H [.ref (X.1 0 0), .int (nI a), .int x, .int y] "java/lang/IllegalStateException" := by
  refine vx_ofW (cc := cX5_addOutage) (maxL := 6) (ret := (some .int)) (by decide) rfl ?_
  intro p e s m args below meth c s₁ B hml htab hv
  obtain ⟨rfl, hH, hV⟩ := hv
  subst hH
  have hK := hV.k
  have hx := B.exec
  have hb := B.bytes
  have hr := B.returns
  have hts := atoms_spec (ws := wsX5_addOutage) B.pre
  have hown : s.vm.findClass RX5 = some m.cls := findClass_of_methodNamed B.named
  have hlocks := B.notSynchronized
  have i_X5 : ∀ w ∈ u_ws RX5 TX5 7, w ∈ wsX5_addOutage := fun w h => (List.mem_cons_of_mem _ (List.mem_append_left _ (List.mem_append_left _ (List.mem_append_left _ (List.mem_append_left _ (List.mem_append_left _ (List.mem_append_left _ (List.mem_append_right _ h))))))))
  have hl := lv_entry [.ref (X.1 0 0), .int (nI a), .int x, .int y] (n := 6) (Nat.le_of_ble_eq_true rfl)
  rw [lg_entry_eq]
  generalize (lg_sl [.ref (X.1 0 0), .int (nI a), .int x, .int y] ++ List.replicate (6 - (lg_sl [.ref (X.1 0 0), .int (nI a), .int x, .int y]).length) Slot.unset).toArray = ls at hl ⊢
  have hl : lv_has ls 6 [(0, .ref (X.1 0 0)), (1, .int (nI a)), (2, .int x), (3, .int y)] := hl
  have b0 := hI.n0
  have b1 := hI.n1
  have b2 := hI.n2
  have b3 := hI.n3
  refine lv_aload_n hx hb dX5_addOutage_0 rfl (lv_at hl 0 rfl) ?_
  refine lv_iload_n hx hb dX5_addOutage_1 rfl (lv_at hl 1 rfl) ?_
  refine wk_V (As := [.int (nI a)]) (rest := []) ⟨hx, hb, hml, hown, hts⟩ (c_X5_antennaAt l E hA hI ha) (cwV 1 hts gX5_addOutage_X5_antennaAt rfl rfl rfl (by decide +kernel) ⟨(Nat.le_of_ble_eq_true rfl), (Nat.le_of_ble_eq_true rfl)⟩) (wk_recv hK hA.desk rfl) hK rfl hl.1 rfl (Nat.le_of_ble_eq_true rfl) dX5_addOutage_2 ⟨Nat.zero_le _, Nat.zero_le _⟩ ?_
  refine lv_astore (lv' := [(4, .ref (X.1 5 a)), (0, .ref (X.1 0 0)), (1, .int (nI a)), (2, .int x), (3, .int y)]) hx hb dX5_addOutage_5 hl (by decide) rfl (fun ls hl => ?_)
  refine lv_aload_n hx hb dX5_addOutage_7 rfl (lv_at hl 1 rfl) ?_
  refine lv_iload_n hx hb dX5_addOutage_8 rfl (lv_at hl 3 rfl) ?_
  refine lv_iload_n hx hb dX5_addOutage_9 rfl (lv_at hl 4 rfl) ?_
  refine wk_Vv (As := [.int x, .int y]) (rest := []) ⟨hx, hb, hml, hown, hts⟩ (c_X5_checkSpan l E hA hI hsp) (cwV 2 hts gX5_addOutage_X5_checkSpan rfl rfl rfl (by decide +kernel) ⟨(Nat.le_of_ble_eq_true rfl), (Nat.le_of_ble_eq_true rfl)⟩) (wk_recv hK hA.desk rfl) hK rfl hl.1 rfl (Nat.le_of_ble_eq_true rfl) dX5_addOutage_10 ⟨Nat.zero_le _, Nat.zero_le _⟩ ?_
  refine lv_aload_n hx hb dX5_addOutage_13 rfl (lv_at hl 1 rfl) ?_
  refine wk_get (own := RX5) (C := RX5) (T := TX5) (N := 7) (ci := 6) (v := .ref (X.1 1 3)) hx hb hts i_X5 hown hK hA.desk rfl 3 (by decide) (hts _ (List.mem_of_getElem? (i := 3) rfl)) (fun _ h9 => h9) rfl dX5_addOutage_14 ?_
  refine wk_V (As := []) (rest := []) ⟨hx, hb, hml, hown, hts⟩ (c_size3 l E hA) (cwV 0 hts gX5_addOutage_Jx4a65c_size_8abf5 rfl rfl rfl (by decide +kernel) ⟨(Nat.le_of_ble_eq_true rfl), (Nat.le_of_ble_eq_true rfl)⟩) (wk_recv hK (hA.list (j := 3) (by decide)) rfl) hK rfl hl.1 rfl (Nat.le_of_ble_eq_true rfl) dX5_addOutage_17 ⟨Nat.zero_le _, Nat.zero_le _⟩ ?_
  refine lv_bipush (v := 6) hx hb dX5_addOutage_20 (by decide) ?_
  refine lv_icmp_lt (tgt := 35) hx hb dX5_addOutage_22 (by decide) (fun c_22 => ?_) (fun c_22 => ?_)
  · skip
    have e_22 : (z_n σ 3) < 6 := wk_cltt (by omega) (by omega) c_22
    omega
  have e_22 : 6 ≤ (z_n σ 3) := wk_cltf (by omega) (by omega) c_22
  exact wx_throw (nL := 6) hx hb hlf hown hml hl.1 (by decide) (by decide) (hts _ (List.mem_of_getElem? (i := 1) rfl)) (hts _ (List.mem_of_getElem? (i := 2) rfl)) (List.mem_of_getElem? (i := 13) rfl) (fun w h => hts w (List.mem_cons_of_mem _ (List.mem_append_left _ (List.mem_append_left _ (List.mem_append_right _ h))))) wx_bad_ISE wx_good_ISE hV htab hlocks dX5_addOutage_25 dX5_addOutage_28 dX5_addOutage_29 dX5_addOutage_31 dX5_addOutage_34 ⟨(Nat.le_of_ble_eq_true rfl), (Nat.le_of_ble_eq_true rfl), (Nat.le_of_ble_eq_true rfl), (Nat.le_of_ble_eq_true rfl)⟩
