abbrev rmX5_takenSet : Room := { frames := 3, cells := 0, slots := 0, locals := 64 }
set_option maxHeartbeats 4000000 in
set_option maxRecDepth 100000 in
theorem c_X5_takenSet (l : Launch) (E : wk_E) {T : Nat → Nat × Nat} {X : z_X} {σ : z_S} {H : Heap} (hA : DA E T X σ H) (hI : z_Ok σ)  : wk_Met l yX5_takenSet wsX5_takenSet rmX5_takenSet E H [.ref (X.1 0 0)] (some (.int (nI (z_mk σ)))) := by
  refine Met.ofW (cc := cX5_takenSet) (maxL := 3) (ret := (some .int)) (by decide) rfl ?_
  intro p e s m args below meth c s₁ B hml hv
  obtain ⟨rfl, hH, hK⟩ := hv
  subst hH
  have hx := B.exec
  have hb := B.bytes
  have hr := B.returns
  have hts := atoms_spec (ws := wsX5_takenSet) B.pre
  have hown : s.vm.findClass RX5 = some m.cls := findClass_of_methodNamed B.named
  have hlocks := B.notSynchronized
  have i_X5 : ∀ w ∈ u_ws RX5 TX5 7, w ∈ wsX5_takenSet := fun w h => (List.mem_cons_of_mem _ (List.mem_append_left _ (List.mem_append_left _ (List.mem_append_right _ h))))
  have i_X2 : ∀ w ∈ u_ws RX2 TX2 7, w ∈ wsX5_takenSet := fun w h => (List.mem_cons_of_mem _ (List.mem_append_left _ (List.mem_append_right _ h)))
  have hl := lv_entry [.ref (X.1 0 0)] (n := 3) (Nat.le_of_ble_eq_true rfl)
  rw [lg_entry_eq]
  generalize (lg_sl [.ref (X.1 0 0)] ++ List.replicate (3 - (lg_sl [.ref (X.1 0 0)]).length) Slot.unset).toArray = ls at hl ⊢
  have hl : lv_has ls 3 [(0, .ref (X.1 0 0))] := hl
  have b0 := hI.n0
  have b1 := hI.n1
  have b2 := hI.n2
  have b3 := hI.n3
  refine lv_iconst (v := 0) hx hb dX5_takenSet_0 (by decide) ?_
  refine lv_istore_n (lv' := [(1, .int 0), (0, .ref (X.1 0 0))]) hx hb dX5_takenSet_1 rfl hl (by decide) rfl (fun ls hl => ?_)
  refine lv_iconst (v := 0) hx hb dX5_takenSet_2 (by decide) ?_
  refine lv_istore_n (lv' := [(2, .int 0), (1, .int 0), (0, .ref (X.1 0 0))]) hx hb dX5_takenSet_3 rfl hl (by decide) rfl (fun ls hl => ?_)
  have L_4 : ∀ (n_4 : Nat) (k : Nat), z_n σ 2 - k < n_4 → (k ≤ z_n σ 2) → ∀ ls : Array Slot, lv_has ls 3 [(0, .ref (X.1 0 0)), (1, .int (nI (f_set (fun k => z_tk σ k) k))), (2, .int (nI k))] → W p l e (headSpec wsX5_takenSet rmX5_takenSet).room s m ([.ref (X.1 0 0)] : List Value).toArray below meth c s.heap [] 0 0 (MQ below (wk_Q (some (.int (nI (z_mk σ))))) ([.ref (X.1 0 0)] : List Value).toArray s 0 0 (fun _ => False)) (F0 m 4 ls []) := by
    intro n_4
    induction n_4 with
    | zero => intro k hm; exact absurd hm (Nat.not_lt_zero _)
    | succ n_4 ih_4 =>
      intro k hm_4 hk_k ls hl
      refine lv_iload_n hx hb dX5_takenSet_4 rfl (lv_at hl 2 rfl) ?_
      refine lv_aload_n hx hb dX5_takenSet_5 rfl (lv_at hl 0 rfl) ?_
      refine wk_get (own := RX5) (C := RX5) (T := TX5) (N := 7) (ci := 6) (v := .ref (X.1 1 2)) hx hb hts i_X5 hown hK hA.desk rfl 2 (by decide) (hts _ (List.mem_of_getElem? (i := 1) rfl)) (fun _ h9 => h9) rfl dX5_takenSet_6 ?_
      refine wk_V (As := []) (rest := [.int (nI k)]) ⟨hx, hb, hml, hown, hts⟩ (c_size2 l E hA) (cwV 0 hts gX5_takenSet_Jx4a65c_size_8abf5 rfl rfl rfl (by decide +kernel) ⟨(Nat.le_of_ble_eq_true rfl), (Nat.le_of_ble_eq_true rfl)⟩) (wk_recv hK (hA.list (j := 2) (by decide)) rfl) hK rfl hl.1 rfl (Nat.le_of_ble_eq_true rfl) dX5_takenSet_9 ⟨Nat.zero_le _, Nat.zero_le _⟩ ?_
      refine lv_icmp_ge (tgt := 44) hx hb dX5_takenSet_12 (by decide) (fun c_12 => ?_) (fun c_12 => ?_)
      · skip
        have e_12 : (z_n σ 2) ≤ k := wk_cget (by omega) (by omega) c_12
        have hkN : k = z_n σ 2 := by omega
        refine lv_iload_n hx hb dX5_takenSet_44 rfl (lv_at hl 1 rfl) ?_
        exact W.iret hx hb hr (fun t ht _ => wk_ret (congrArg Value.int (by rw [hkN]; exact congrArg nI (f_set_self hI.mk))) ht) wk_nil dX5_takenSet_45
      have e_12 : k < (z_n σ 2) := wk_cgef (by omega) (by omega) c_12
      refine lv_aload_n hx hb dX5_takenSet_15 rfl (lv_at hl 0 rfl) ?_
      refine wk_get (own := RX5) (C := RX5) (T := TX5) (N := 7) (ci := 6) (v := .ref (X.1 1 2)) hx hb hts i_X5 hown hK hA.desk rfl 2 (by decide) (hts _ (List.mem_of_getElem? (i := 1) rfl)) (fun _ h9 => h9) rfl dX5_takenSet_16 ?_
      refine lv_iload_n hx hb dX5_takenSet_19 rfl (lv_at hl 2 rfl) ?_
      refine wk_V (As := [.int (nI k)]) (rest := []) ⟨hx, hb, hml, hown, hts⟩ (c_get2 l E hA hI e_12) (cwV 1 hts gX5_takenSet_Jx4a65c_get_915e3 rfl rfl rfl (by decide +kernel) ⟨(Nat.le_of_ble_eq_true rfl), (Nat.le_of_ble_eq_true rfl)⟩) (wk_recv hK (hA.list (j := 2) (by decide)) rfl) hK rfl hl.1 rfl (Nat.le_of_ble_eq_true rfl) dX5_takenSet_20 ⟨Nat.zero_le _, Nat.zero_le _⟩ ?_
      refine va_castS (own := RX5) hx hb hown (hts _ (List.mem_of_getElem? (i := 2) rfl)) (hK.1.1 3 _ rfl).2 (wk_recv hK (hA.pass e_12) rfl) dX5_takenSet_23 ?_
      refine wk_get (own := RX5) (C := RX2) (T := TX2) (N := 7) (ci := 3) (v := .int (wk_b (z_tk σ k))) hx hb hts i_X2 hown hK (hA.pass e_12) rfl 5 (by decide) (hts _ (List.mem_of_getElem? (i := 3) rfl)) (fun _ h9 => h9) rfl dX5_takenSet_26 ?_
      refine lv_if_eq (tgt := 38) hx hb dX5_takenSet_29 (by decide) (fun c_29 => ?_) (fun c_29 => ?_)
      · skip
        have e_29 : (z_tk σ k) = false := wk_b0 c_29
        refine lv_iinc (v := nI (k + 1)) (lv' := [(2, .int (nI (k + 1))), (0, .ref (X.1 0 0)), (1, .int (nI (f_set (fun k => z_tk σ k) k)))]) hx hb dX5_takenSet_38 hl (k := 2) rfl (nI_1 _) (by decide) rfl (fun ls hl => ?_)
        refine lv_goto (tgt := 4) hx hb dX5_takenSet_41 (by decide) ?_
        have hl : lv_has ls 3 [(2, .int (nI (k + 1))), (0, .ref (X.1 0 0)), (1, .int (nI (f_set (fun k => z_tk σ k) (k + 1))))] := by rw [show nI (f_set (fun k => z_tk σ k) (k + 1)) = nI (f_set (fun k => z_tk σ k) k) from (by simp [f_set, e_29])]; exact hl
        exact ih_4 (k + 1) (by omega) (by omega) ls (lv_sub hl [1, 2, 0] rfl)
      have e_29 : (z_tk σ k) = true := wk_b1 c_29
      refine lv_iload_n hx hb dX5_takenSet_32 rfl (lv_at hl 1 rfl) ?_
      refine lv_iconst (v := 1) hx hb dX5_takenSet_33 (by decide) ?_
      refine lv_iload_n hx hb dX5_takenSet_34 rfl (lv_at hl 2 rfl) ?_
      refine lv_ishl hx hb dX5_takenSet_35 ?_
      refine lv_ior hx hb dX5_takenSet_36 ?_
      refine lv_istore_n (lv' := [(1, .int ((nI (f_set (fun k => z_tk σ k) k)) ||| (1 <<< ((nI k) &&& 31)))), (0, .ref (X.1 0 0)), (2, .int (nI k))]) hx hb dX5_takenSet_37 rfl hl (by decide) rfl (fun ls hl => ?_)
      refine lv_iinc (v := nI (k + 1)) (lv' := [(2, .int (nI (k + 1))), (1, .int ((nI (f_set (fun k => z_tk σ k) k)) ||| (1 <<< ((nI k) &&& 31)))), (0, .ref (X.1 0 0))]) hx hb dX5_takenSet_38 hl (k := 2) rfl (nI_1 _) (by decide) rfl (fun ls hl => ?_)
      refine lv_goto (tgt := 4) hx hb dX5_takenSet_41 (by decide) ?_
      have hl : lv_has ls 3 [(2, .int (nI (k + 1))), (1, .int (nI (f_set (fun k => z_tk σ k) (k + 1)))), (0, .ref (X.1 0 0))] := by rw [show nI (f_set (fun k => z_tk σ k) (k + 1)) = (nI (f_set (fun k => z_tk σ k) k)) ||| (1 <<< ((nI k) &&& 31)) from (by simp [f_set, e_29, wk_or1 (show k < 31 by omega)])]; exact hl
      exact ih_4 (k + 1) (by omega) (by omega) ls (lv_sub hl [2, 1, 0] rfl)
  exact L_4 _ 0 (Nat.lt_succ_self _) (Nat.zero_le _) ls (lv_sub hl [2, 1, 0] rfl)

abbrev rmX5_checkSpan : Room := { frames := 0, cells := 0, slots := 0, locals := 0 }
set_option maxHeartbeats 4000000 in
set_option maxRecDepth 100000 in
theorem c_X5_checkSpan (l : Launch) (E : wk_E) {T : Nat → Nat × Nat} {X : z_X} {σ : z_S} {H : Heap} (hA : DA E T X σ H) (hI : z_Ok σ) {x y : Int32} (hok : v_span σ x y = true) : wk_Met l yX5_checkSpan wsX5_checkSpan rmX5_checkSpan E H [.ref (X.1 0 0), .int x, .int y] none := by
  refine Met.ofW (cc := cX5_checkSpan) (maxL := 3) (ret := none) (by decide) rfl ?_
  intro p e s m args below meth c s₁ B hml hv
  obtain ⟨rfl, hH, hK⟩ := hv
  subst hH
  have hx := B.exec
  have hb := B.bytes
  have hr := B.returns
  have hts := atoms_spec (ws := wsX5_checkSpan) B.pre
  have hown : s.vm.findClass RX5 = some m.cls := findClass_of_methodNamed B.named
  have hlocks := B.notSynchronized
  have i_X5 : ∀ w ∈ u_ws RX5 TX5 7, w ∈ wsX5_checkSpan := fun w h => (List.mem_cons_of_mem _ (List.mem_append_left _ (List.mem_append_right _ h)))
  have hl := lv_entry [.ref (X.1 0 0), .int x, .int y] (n := 3) (Nat.le_of_ble_eq_true rfl)
  rw [lg_entry_eq]
  generalize (lg_sl [.ref (X.1 0 0), .int x, .int y] ++ List.replicate (3 - (lg_sl [.ref (X.1 0 0), .int x, .int y]).length) Slot.unset).toArray = ls at hl ⊢
  have hl : lv_has ls 3 [(0, .ref (X.1 0 0)), (1, .int x), (2, .int y)] := hl
  have b0 := hI.n0
  have b1 := hI.n1
  have b2 := hI.n2
  have b3 := hI.n3
  refine lv_iload_n hx hb dX5_checkSpan_0 rfl (lv_at hl 1 rfl) ?_
  refine lv_aload_n hx hb dX5_checkSpan_1 rfl (lv_at hl 0 rfl) ?_
  refine wk_get (own := RX5) (C := RX5) (T := TX5) (N := 7) (ci := 6) (v := .int (z_now σ)) hx hb hts i_X5 hown hK hA.desk rfl 5 (by decide) (hts _ (List.mem_of_getElem? (i := 3) rfl)) (fun _ h9 => h9) rfl dX5_checkSpan_2 ?_
  refine lv_icmp_lt (tgt := 20) hx hb dX5_checkSpan_5 (by decide) (fun c_5 => ?_) (fun c_5 => ?_)
  · skip
    have d_5 := Int32.not_le.mpr c_5
    exact absurd hok (by simp [v_span, c_5, d_5])
  have d_5 := Int32.not_lt.mp c_5
  refine lv_iload_n hx hb dX5_checkSpan_8 rfl (lv_at hl 2 rfl) ?_
  refine lv_iload_n hx hb dX5_checkSpan_9 rfl (lv_at hl 1 rfl) ?_
  refine lv_icmp_le (tgt := 20) hx hb dX5_checkSpan_10 (by decide) (fun c_10 => ?_) (fun c_10 => ?_)
  · skip
    have d_10 := Int32.not_lt.mpr c_10
    exact absurd hok (by simp [v_span, c_5, d_5, c_10, d_10])
  have d_10 := Int32.not_le.mp c_10
  refine lv_iload_n hx hb dX5_checkSpan_13 rfl (lv_at hl 2 rfl) ?_
  refine lv_sipush (v := 9999) hx hb dX5_checkSpan_14 (by decide) ?_
  refine lv_icmp_le (tgt := 31) hx hb dX5_checkSpan_17 (by decide) (fun c_17 => ?_) (fun c_17 => ?_)
  · skip
    have d_17 := Int32.not_lt.mpr c_17
    exact W.vret hx hb hr (fun t ht _ => ⟨rfl, ht⟩) wk_nil dX5_checkSpan_31
  have d_17 := Int32.not_le.mp c_17
  exact absurd hok (by simp [v_span, c_5, d_5, c_10, d_10, c_17, d_17])

abbrev rmX5_checkSet : Room := { frames := 1, cells := 0, slots := 0, locals := 20 }
set_option maxHeartbeats 4000000 in
set_option maxRecDepth 100000 in
theorem c_X5_checkSet (l : Launch) (E : wk_E) {T : Nat → Nat × Nat} {X : z_X} {σ : z_S} {H : Heap} (hA : DA E T X σ H) (hI : z_Ok σ) {x : Int32} (hok : v_set x (z_n σ 2) = true) : wk_Met l yX5_checkSet wsX5_checkSet rmX5_checkSet E H [.ref (X.1 0 0), .int x] none := by
  refine Met.ofW (cc := cX5_checkSet) (maxL := 2) (ret := none) (by decide) rfl ?_
  intro p e s m args below meth c s₁ B hml hv
  obtain ⟨rfl, hH, hK⟩ := hv
  subst hH
  have hx := B.exec
  have hb := B.bytes
  have hr := B.returns
  have hts := atoms_spec (ws := wsX5_checkSet) B.pre
  have hown : s.vm.findClass RX5 = some m.cls := findClass_of_methodNamed B.named
  have hlocks := B.notSynchronized
  have i_X5 : ∀ w ∈ u_ws RX5 TX5 7, w ∈ wsX5_checkSet := fun w h => (List.mem_cons_of_mem _ (List.mem_append_left _ (List.mem_append_left _ (List.mem_append_right _ h))))
  have hl := lv_entry [.ref (X.1 0 0), .int x] (n := 2) (Nat.le_of_ble_eq_true rfl)
  rw [lg_entry_eq]
  generalize (lg_sl [.ref (X.1 0 0), .int x] ++ List.replicate (2 - (lg_sl [.ref (X.1 0 0), .int x]).length) Slot.unset).toArray = ls at hl ⊢
  have hl : lv_has ls 2 [(0, .ref (X.1 0 0)), (1, .int x)] := hl
  have b0 := hI.n0
  have b1 := hI.n1
  have b2 := hI.n2
  have b3 := hI.n3
  refine lv_iload_n hx hb dX5_checkSet_0 rfl (lv_at hl 1 rfl) ?_
  refine lv_aload_n hx hb dX5_checkSet_1 rfl (lv_at hl 0 rfl) ?_
  refine wk_get (own := RX5) (C := RX5) (T := TX5) (N := 7) (ci := 6) (v := .ref (X.1 1 2)) hx hb hts i_X5 hown hK hA.desk rfl 2 (by decide) (hts _ (List.mem_of_getElem? (i := 3) rfl)) (fun _ h9 => h9) rfl dX5_checkSet_2 ?_
  refine wk_V (As := []) (rest := [.int x]) ⟨hx, hb, hml, hown, hts⟩ (c_size2 l E hA) (cwV 0 hts gX5_checkSet_Jx4a65c_size_8abf5 rfl rfl rfl (by decide +kernel) ⟨(Nat.le_of_ble_eq_true rfl), (Nat.le_of_ble_eq_true rfl)⟩) (wk_recv hK (hA.list (j := 2) (by decide)) rfl) hK rfl hl.1 rfl (Nat.le_of_ble_eq_true rfl) dX5_checkSet_5 ⟨Nat.zero_le _, Nat.zero_le _⟩ ?_
  refine lv_iushr hx hb dX5_checkSet_8 rfl ?_
  refine lv_if_eq (tgt := 23) hx hb dX5_checkSet_9 (by decide) (fun c_9 => ?_) (fun c_9 => ?_)
  · skip
    exact W.vret hx hb hr (fun t ht _ => ⟨rfl, ht⟩) wk_nil dX5_checkSet_23
  exact absurd ((wk_us0 (by omega)).mpr hok) c_9

abbrev rmX5_antennaAt : Room := { frames := 3, cells := 0, slots := 0, locals := 64 }
set_option maxHeartbeats 4000000 in
set_option maxRecDepth 100000 in
theorem c_X5_antennaAt (l : Launch) (E : wk_E) {T : Nat → Nat × Nat} {X : z_X} {σ : z_S} {H : Heap} (hA : DA E T X σ H) (hI : z_Ok σ) {k : Nat} (hk : k < z_n σ 0) : wk_Met l yX5_antennaAt wsX5_antennaAt rmX5_antennaAt E H [.ref (X.1 0 0), .int (nI k)] (some (.ref (X.1 5 k))) := by
  refine Met.ofW (cc := cX5_antennaAt) (maxL := 2) (ret := (some (.object "PassDesk$Antenna"))) (by decide) rfl ?_
  intro p e s m args below meth c s₁ B hml hv
  obtain ⟨rfl, hH, hK⟩ := hv
  subst hH
  have hx := B.exec
  have hb := B.bytes
  have hr := B.returns
  have hts := atoms_spec (ws := wsX5_antennaAt) B.pre
  have hown : s.vm.findClass RX5 = some m.cls := findClass_of_methodNamed B.named
  have hlocks := B.notSynchronized
  have i_X5 : ∀ w ∈ u_ws RX5 TX5 7, w ∈ wsX5_antennaAt := fun w h => (List.mem_cons_of_mem _ (List.mem_append_left _ (List.mem_append_left _ (List.mem_append_right _ h))))
  have hl := lv_entry [.ref (X.1 0 0), .int (nI k)] (n := 2) (Nat.le_of_ble_eq_true rfl)
  rw [lg_entry_eq]
  generalize (lg_sl [.ref (X.1 0 0), .int (nI k)] ++ List.replicate (2 - (lg_sl [.ref (X.1 0 0), .int (nI k)]).length) Slot.unset).toArray = ls at hl ⊢
  have hl : lv_has ls 2 [(0, .ref (X.1 0 0)), (1, .int (nI k))] := hl
  have b0 := hI.n0
  have b1 := hI.n1
  have b2 := hI.n2
  have b3 := hI.n3
  refine lv_iload_n hx hb dX5_antennaAt_0 rfl (lv_at hl 1 rfl) ?_
  refine lv_if_lt (tgt := 15) hx hb dX5_antennaAt_1 (by decide) (fun c_1 => ?_) (fun c_1 => ?_)
  · skip
    have d_1 := Int32.not_le.mpr c_1
    exact absurd c_1 (nI_pos (by omega))
  have d_1 := Int32.not_lt.mp c_1
  refine lv_iload_n hx hb dX5_antennaAt_4 rfl (lv_at hl 1 rfl) ?_
  refine lv_aload_n hx hb dX5_antennaAt_5 rfl (lv_at hl 0 rfl) ?_
  refine wk_get (own := RX5) (C := RX5) (T := TX5) (N := 7) (ci := 6) (v := .ref (X.1 1 0)) hx hb hts i_X5 hown hK hA.desk rfl 0 (by decide) (hts _ (List.mem_of_getElem? (i := 3) rfl)) (fun _ h9 => h9) rfl dX5_antennaAt_6 ?_
  refine wk_V (As := []) (rest := [.int (nI k)]) ⟨hx, hb, hml, hown, hts⟩ (c_size0 l E hA) (cwV 0 hts gX5_antennaAt_Jx4a65c_size_8abf5 rfl rfl rfl (by decide +kernel) ⟨(Nat.le_of_ble_eq_true rfl), (Nat.le_of_ble_eq_true rfl)⟩) (wk_recv hK (hA.list (j := 0) (by decide)) rfl) hK rfl hl.1 rfl (Nat.le_of_ble_eq_true rfl) dX5_antennaAt_9 ⟨Nat.zero_le _, Nat.zero_le _⟩ ?_
  refine lv_icmp_lt (tgt := 26) hx hb dX5_antennaAt_12 (by decide) (fun c_12 => ?_) (fun c_12 => ?_)
  · skip
    have e_12 : k < (z_n σ 0) := wk_cltt (by omega) (by omega) c_12
    refine lv_aload_n hx hb dX5_antennaAt_26 rfl (lv_at hl 0 rfl) ?_
    refine wk_get (own := RX5) (C := RX5) (T := TX5) (N := 7) (ci := 6) (v := .ref (X.1 1 0)) hx hb hts i_X5 hown hK hA.desk rfl 0 (by decide) (hts _ (List.mem_of_getElem? (i := 3) rfl)) (fun _ h9 => h9) rfl dX5_antennaAt_27 ?_
    refine lv_iload_n hx hb dX5_antennaAt_30 rfl (lv_at hl 1 rfl) ?_
    refine wk_V (As := [.int (nI k)]) (rest := []) ⟨hx, hb, hml, hown, hts⟩ (c_get0 l E hA hI hk) (cwV 1 hts gX5_antennaAt_Jx4a65c_get_915e3 rfl rfl rfl (by decide +kernel) ⟨(Nat.le_of_ble_eq_true rfl), (Nat.le_of_ble_eq_true rfl)⟩) (wk_recv hK (hA.list (j := 0) (by decide)) rfl) hK rfl hl.1 rfl (Nat.le_of_ble_eq_true rfl) dX5_antennaAt_31 ⟨Nat.zero_le _, Nat.zero_le _⟩ ?_
    refine va_castS (own := RX5) hx hb hown (hts _ (List.mem_of_getElem? (i := 4) rfl)) (hK.1.1 1 _ rfl).2 (wk_recv hK (hA.ant hk) rfl) dX5_antennaAt_34 ?_
    exact W.aret hx hb hr (Or.inl ⟨_, rfl⟩) (Or.inr ⟨_, rfl⟩) (fun t ht _ => wk_ret rfl ht) wk_nil dX5_antennaAt_37
  have e_12 : (z_n σ 0) ≤ k := wk_cltf (by omega) (by omega) c_12
  omega

abbrev rmX5_satelliteAt : Room := { frames := 3, cells := 0, slots := 0, locals := 64 }
set_option maxHeartbeats 4000000 in
set_option maxRecDepth 100000 in
theorem c_X5_satelliteAt (l : Launch) (E : wk_E) {T : Nat → Nat × Nat} {X : z_X} {σ : z_S} {H : Heap} (hA : DA E T X σ H) (hI : z_Ok σ) {k : Nat} (hk : k < z_n σ 1) : wk_Met l yX5_satelliteAt wsX5_satelliteAt rmX5_satelliteAt E H [.ref (X.1 0 0), .int (nI k)] (some (.ref (X.1 6 k))) := by
  refine Met.ofW (cc := cX5_satelliteAt) (maxL := 2) (ret := (some (.object "PassDesk$Satellite"))) (by decide) rfl ?_
  intro p e s m args below meth c s₁ B hml hv
  obtain ⟨rfl, hH, hK⟩ := hv
  subst hH
  have hx := B.exec
  have hb := B.bytes
  have hr := B.returns
  have hts := atoms_spec (ws := wsX5_satelliteAt) B.pre
  have hown : s.vm.findClass RX5 = some m.cls := findClass_of_methodNamed B.named
  have hlocks := B.notSynchronized
  have i_X5 : ∀ w ∈ u_ws RX5 TX5 7, w ∈ wsX5_satelliteAt := fun w h => (List.mem_cons_of_mem _ (List.mem_append_left _ (List.mem_append_left _ (List.mem_append_right _ h))))
  have hl := lv_entry [.ref (X.1 0 0), .int (nI k)] (n := 2) (Nat.le_of_ble_eq_true rfl)
  rw [lg_entry_eq]
  generalize (lg_sl [.ref (X.1 0 0), .int (nI k)] ++ List.replicate (2 - (lg_sl [.ref (X.1 0 0), .int (nI k)]).length) Slot.unset).toArray = ls at hl ⊢
  have hl : lv_has ls 2 [(0, .ref (X.1 0 0)), (1, .int (nI k))] := hl
  have b0 := hI.n0
  have b1 := hI.n1
  have b2 := hI.n2
  have b3 := hI.n3
  refine lv_iload_n hx hb dX5_satelliteAt_0 rfl (lv_at hl 1 rfl) ?_
  refine lv_if_lt (tgt := 15) hx hb dX5_satelliteAt_1 (by decide) (fun c_1 => ?_) (fun c_1 => ?_)
  · skip
    have d_1 := Int32.not_le.mpr c_1
    exact absurd c_1 (nI_pos (by omega))
  have d_1 := Int32.not_lt.mp c_1
  refine lv_iload_n hx hb dX5_satelliteAt_4 rfl (lv_at hl 1 rfl) ?_
  refine lv_aload_n hx hb dX5_satelliteAt_5 rfl (lv_at hl 0 rfl) ?_
  refine wk_get (own := RX5) (C := RX5) (T := TX5) (N := 7) (ci := 6) (v := .ref (X.1 1 1)) hx hb hts i_X5 hown hK hA.desk rfl 1 (by decide) (hts _ (List.mem_of_getElem? (i := 3) rfl)) (fun _ h9 => h9) rfl dX5_satelliteAt_6 ?_
  refine wk_V (As := []) (rest := [.int (nI k)]) ⟨hx, hb, hml, hown, hts⟩ (c_size1 l E hA) (cwV 0 hts gX5_satelliteAt_Jx4a65c_size_8abf5 rfl rfl rfl (by decide +kernel) ⟨(Nat.le_of_ble_eq_true rfl), (Nat.le_of_ble_eq_true rfl)⟩) (wk_recv hK (hA.list (j := 1) (by decide)) rfl) hK rfl hl.1 rfl (Nat.le_of_ble_eq_true rfl) dX5_satelliteAt_9 ⟨Nat.zero_le _, Nat.zero_le _⟩ ?_
  refine lv_icmp_lt (tgt := 26) hx hb dX5_satelliteAt_12 (by decide) (fun c_12 => ?_) (fun c_12 => ?_)
  · skip
    have e_12 : k < (z_n σ 1) := wk_cltt (by omega) (by omega) c_12
    refine lv_aload_n hx hb dX5_satelliteAt_26 rfl (lv_at hl 0 rfl) ?_
    refine wk_get (own := RX5) (C := RX5) (T := TX5) (N := 7) (ci := 6) (v := .ref (X.1 1 1)) hx hb hts i_X5 hown hK hA.desk rfl 1 (by decide) (hts _ (List.mem_of_getElem? (i := 3) rfl)) (fun _ h9 => h9) rfl dX5_satelliteAt_27 ?_
    refine lv_iload_n hx hb dX5_satelliteAt_30 rfl (lv_at hl 1 rfl) ?_
    refine wk_V (As := [.int (nI k)]) (rest := []) ⟨hx, hb, hml, hown, hts⟩ (c_get1 l E hA hI hk) (cwV 1 hts gX5_satelliteAt_Jx4a65c_get_915e3 rfl rfl rfl (by decide +kernel) ⟨(Nat.le_of_ble_eq_true rfl), (Nat.le_of_ble_eq_true rfl)⟩) (wk_recv hK (hA.list (j := 1) (by decide)) rfl) hK rfl hl.1 rfl (Nat.le_of_ble_eq_true rfl) dX5_satelliteAt_31 ⟨Nat.zero_le _, Nat.zero_le _⟩ ?_
    refine va_castS (own := RX5) hx hb hown (hts _ (List.mem_of_getElem? (i := 4) rfl)) (hK.1.1 4 _ rfl).2 (wk_recv hK (hA.sat hk) rfl) dX5_satelliteAt_34 ?_
    exact W.aret hx hb hr (Or.inl ⟨_, rfl⟩) (Or.inr ⟨_, rfl⟩) (fun t ht _ => wk_ret rfl ht) wk_nil dX5_satelliteAt_37
  have e_12 : (z_n σ 1) ≤ k := wk_cltf (by omega) (by omega) c_12
  omega
