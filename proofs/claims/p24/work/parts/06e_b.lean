abbrev rmX5_passAt : Room := { frames := 3, cells := 0, slots := 0, locals := 64 }
set_option maxHeartbeats 4000000 in
set_option maxRecDepth 100000 in
theorem c_X5_passAt (l : Launch) (E : wk_E) {T : Nat → Nat × Nat} {X : z_X} {σ : z_S} {H : Heap} (hA : DA E T X σ H) (hI : z_Ok σ) {k : Nat} (hk : k < z_n σ 2) : wk_Met l yX5_passAt wsX5_passAt rmX5_passAt E H [.ref (X.1 0 0), .int (nI k)] (some (.ref (X.1 7 k))) := by
  refine Met.ofW (cc := cX5_passAt) (maxL := 2) (ret := (some (.object "PassDesk$Pass"))) (by decide) rfl ?_
  intro p e s m args below meth c s₁ B hml hv
  obtain ⟨rfl, hH, hK⟩ := hv
  subst hH
  have hx := B.exec
  have hb := B.bytes
  have hr := B.returns
  have hts := atoms_spec (ws := wsX5_passAt) B.pre
  have hown : s.vm.findClass RX5 = some m.cls := findClass_of_methodNamed B.named
  have hlocks := B.notSynchronized
  have i_X5 : ∀ w ∈ u_ws RX5 TX5 7, w ∈ wsX5_passAt := fun w h => (List.mem_cons_of_mem _ (List.mem_append_left _ (List.mem_append_left _ (List.mem_append_right _ h))))
  have hl := lv_entry [.ref (X.1 0 0), .int (nI k)] (n := 2) (Nat.le_of_ble_eq_true rfl)
  rw [lg_entry_eq]
  generalize (lg_sl [.ref (X.1 0 0), .int (nI k)] ++ List.replicate (2 - (lg_sl [.ref (X.1 0 0), .int (nI k)]).length) Slot.unset).toArray = ls at hl ⊢
  have hl : lv_has ls 2 [(0, .ref (X.1 0 0)), (1, .int (nI k))] := hl
  have b0 := hI.n0
  have b1 := hI.n1
  have b2 := hI.n2
  have b3 := hI.n3
  refine lv_iload_n hx hb dX5_passAt_0 rfl (lv_at hl 1 rfl) ?_
  refine lv_if_lt (tgt := 15) hx hb dX5_passAt_1 (by decide) (fun c_1 => ?_) (fun c_1 => ?_)
  · skip
    have d_1 := Int32.not_le.mpr c_1
    exact absurd c_1 (nI_pos (by omega))
  have d_1 := Int32.not_lt.mp c_1
  refine lv_iload_n hx hb dX5_passAt_4 rfl (lv_at hl 1 rfl) ?_
  refine lv_aload_n hx hb dX5_passAt_5 rfl (lv_at hl 0 rfl) ?_
  refine wk_get (own := RX5) (C := RX5) (T := TX5) (N := 7) (ci := 6) (v := .ref (X.1 1 2)) hx hb hts i_X5 hown hK hA.desk rfl 2 (by decide) (hts _ (List.mem_of_getElem? (i := 3) rfl)) (fun _ h9 => h9) rfl dX5_passAt_6 ?_
  refine wk_V (As := []) (rest := [.int (nI k)]) ⟨hx, hb, hml, hown, hts⟩ (c_size2 l E hA) (cwV 0 hts gX5_passAt_Jx4a65c_size_8abf5 rfl rfl rfl (by decide +kernel) ⟨(Nat.le_of_ble_eq_true rfl), (Nat.le_of_ble_eq_true rfl)⟩) (wk_recv hK (hA.list (j := 2) (by decide)) rfl) hK rfl hl.1 rfl (Nat.le_of_ble_eq_true rfl) dX5_passAt_9 ⟨Nat.zero_le _, Nat.zero_le _⟩ ?_
  refine lv_icmp_lt (tgt := 26) hx hb dX5_passAt_12 (by decide) (fun c_12 => ?_) (fun c_12 => ?_)
  · skip
    have e_12 : k < (z_n σ 2) := wk_cltt (by omega) (by omega) c_12
    refine lv_aload_n hx hb dX5_passAt_26 rfl (lv_at hl 0 rfl) ?_
    refine wk_get (own := RX5) (C := RX5) (T := TX5) (N := 7) (ci := 6) (v := .ref (X.1 1 2)) hx hb hts i_X5 hown hK hA.desk rfl 2 (by decide) (hts _ (List.mem_of_getElem? (i := 3) rfl)) (fun _ h9 => h9) rfl dX5_passAt_27 ?_
    refine lv_iload_n hx hb dX5_passAt_30 rfl (lv_at hl 1 rfl) ?_
    refine wk_V (As := [.int (nI k)]) (rest := []) ⟨hx, hb, hml, hown, hts⟩ (c_get2 l E hA hI hk) (cwV 1 hts gX5_passAt_Jx4a65c_get_915e3 rfl rfl rfl (by decide +kernel) ⟨(Nat.le_of_ble_eq_true rfl), (Nat.le_of_ble_eq_true rfl)⟩) (wk_recv hK (hA.list (j := 2) (by decide)) rfl) hK rfl hl.1 rfl (Nat.le_of_ble_eq_true rfl) dX5_passAt_31 ⟨Nat.zero_le _, Nat.zero_le _⟩ ?_
    refine va_castS (own := RX5) hx hb hown (hts _ (List.mem_of_getElem? (i := 4) rfl)) (hK.1.1 3 _ rfl).2 (wk_recv hK (hA.pass hk) rfl) dX5_passAt_34 ?_
    exact W.aret hx hb hr (Or.inl ⟨_, rfl⟩) (Or.inr ⟨_, rfl⟩) (fun t ht _ => wk_ret rfl ht) wk_nil dX5_passAt_37
  have e_12 : (z_n σ 2) ≤ k := wk_cltf (by omega) (by omega) c_12
  omega

abbrev rmX5_count : Room := { frames := 1, cells := 0, slots := 0, locals := 20 }
set_option maxHeartbeats 4000000 in
set_option maxRecDepth 100000 in
theorem c_X5_count (l : Launch) (E : wk_E) {T : Nat → Nat × Nat} {X : z_X} {σ : z_S} {H : Heap} (hA : DA E T X σ H) (hI : z_Ok σ) {w : Nat} (hw : w ≤ 2) : wk_Met l yX5_count wsX5_count rmX5_count E H [.ref (X.1 0 0), .int (nI w)] (some (.int (nI (z_n σ w)))) := by
  refine Met.ofW (cc := cX5_count) (maxL := 2) (ret := (some .int)) (by decide) rfl ?_
  intro p e s m args below meth c s₁ B hml hv
  obtain ⟨rfl, hH, hK⟩ := hv
  subst hH
  have hx := B.exec
  have hb := B.bytes
  have hr := B.returns
  have hts := atoms_spec (ws := wsX5_count) B.pre
  have hown : s.vm.findClass RX5 = some m.cls := findClass_of_methodNamed B.named
  have hlocks := B.notSynchronized
  have i_X5 : ∀ w ∈ u_ws RX5 TX5 7, w ∈ wsX5_count := fun w h => (List.mem_cons_of_mem _ (List.mem_append_left _ (List.mem_append_left _ (List.mem_append_right _ h))))
  have hl := lv_entry [.ref (X.1 0 0), .int (nI w)] (n := 2) (Nat.le_of_ble_eq_true rfl)
  rw [lg_entry_eq]
  generalize (lg_sl [.ref (X.1 0 0), .int (nI w)] ++ List.replicate (2 - (lg_sl [.ref (X.1 0 0), .int (nI w)]).length) Slot.unset).toArray = ls at hl ⊢
  have hl : lv_has ls 2 [(0, .ref (X.1 0 0)), (1, .int (nI w))] := hl
  have b0 := hI.n0
  have b1 := hI.n1
  have b2 := hI.n2
  have b3 := hI.n3
  rcases (show w = 0 ∨ w = 1 ∨ w = 2 by omega) with rfl | rfl | rfl
  · skip
    refine lv_iload_n hx hb dX5_count_0 rfl (lv_at hl 1 rfl) ?_
    refine lv_tableIn (off := 27) (tgt := 28) hx hb dX5_count_1 (by decide) (by decide) (by decide) (by decide) ?_
    refine lv_aload_n hx hb dX5_count_28 rfl (lv_at hl 0 rfl) ?_
    refine wk_get (own := RX5) (C := RX5) (T := TX5) (N := 7) (ci := 6) (v := .ref (X.1 1 0)) hx hb hts i_X5 hown hK hA.desk rfl 0 (by decide) (hts _ (List.mem_of_getElem? (i := 3) rfl)) (fun _ h9 => h9) rfl dX5_count_29 ?_
    refine wk_V (As := []) (rest := []) ⟨hx, hb, hml, hown, hts⟩ (c_size0 l E hA) (cwV 0 hts gX5_count_Jx4a65c_size_8abf5 rfl rfl rfl (by decide +kernel) ⟨(Nat.le_of_ble_eq_true rfl), (Nat.le_of_ble_eq_true rfl)⟩) (wk_recv hK (hA.list (j := 0) (by decide)) rfl) hK rfl hl.1 rfl (Nat.le_of_ble_eq_true rfl) dX5_count_32 ⟨Nat.zero_le _, Nat.zero_le _⟩ ?_
    exact W.iret hx hb hr (fun t ht _ => wk_ret (congrArg Value.int rfl) ht) wk_nil dX5_count_35
  · skip
    refine lv_iload_n hx hb dX5_count_0 rfl (lv_at hl 1 rfl) ?_
    refine lv_tableIn (off := 35) (tgt := 36) hx hb dX5_count_1 (by decide) (by decide) (by decide) (by decide) ?_
    refine lv_aload_n hx hb dX5_count_36 rfl (lv_at hl 0 rfl) ?_
    refine wk_get (own := RX5) (C := RX5) (T := TX5) (N := 7) (ci := 6) (v := .ref (X.1 1 1)) hx hb hts i_X5 hown hK hA.desk rfl 1 (by decide) (hts _ (List.mem_of_getElem? (i := 4) rfl)) (fun _ h9 => h9) rfl dX5_count_37 ?_
    refine wk_V (As := []) (rest := []) ⟨hx, hb, hml, hown, hts⟩ (c_size1 l E hA) (cwV 0 hts gX5_count_Jx4a65c_size_8abf5 rfl rfl rfl (by decide +kernel) ⟨(Nat.le_of_ble_eq_true rfl), (Nat.le_of_ble_eq_true rfl)⟩) (wk_recv hK (hA.list (j := 1) (by decide)) rfl) hK rfl hl.1 rfl (Nat.le_of_ble_eq_true rfl) dX5_count_40 ⟨Nat.zero_le _, Nat.zero_le _⟩ ?_
    exact W.iret hx hb hr (fun t ht _ => wk_ret (congrArg Value.int rfl) ht) wk_nil dX5_count_43
  · skip
    refine lv_iload_n hx hb dX5_count_0 rfl (lv_at hl 1 rfl) ?_
    refine lv_tableIn (off := 43) (tgt := 44) hx hb dX5_count_1 (by decide) (by decide) (by decide) (by decide) ?_
    refine lv_aload_n hx hb dX5_count_44 rfl (lv_at hl 0 rfl) ?_
    refine wk_get (own := RX5) (C := RX5) (T := TX5) (N := 7) (ci := 6) (v := .ref (X.1 1 2)) hx hb hts i_X5 hown hK hA.desk rfl 2 (by decide) (hts _ (List.mem_of_getElem? (i := 5) rfl)) (fun _ h9 => h9) rfl dX5_count_45 ?_
    refine wk_V (As := []) (rest := []) ⟨hx, hb, hml, hown, hts⟩ (c_size2 l E hA) (cwV 0 hts gX5_count_Jx4a65c_size_8abf5 rfl rfl rfl (by decide +kernel) ⟨(Nat.le_of_ble_eq_true rfl), (Nat.le_of_ble_eq_true rfl)⟩) (wk_recv hK (hA.list (j := 2) (by decide)) rfl) hK rfl hl.1 rfl (Nat.le_of_ble_eq_true rfl) dX5_count_48 ⟨Nat.zero_le _, Nat.zero_le _⟩ ?_
    exact W.iret hx hb hr (fun t ht _ => wk_ret (congrArg Value.int rfl) ht) wk_nil dX5_count_51

abbrev rmX5_pass : Room := { frames := 4, cells := 0, slots := 0, locals := 88 }
set_option maxHeartbeats 4000000 in
set_option maxRecDepth 100000 in
theorem c_X5_pass (l : Launch) (E : wk_E) {T : Nat → Nat × Nat} {X : z_X} {σ : z_S} {H : Heap} (hA : DA E T X σ H) (hI : z_Ok σ) {i w : Nat} (hi : i < z_n σ 2) (hw : w ≤ 7) : wk_Met l yX5_pass wsX5_pass rmX5_pass E H [.ref (X.1 0 0), .int (nI i), .int (nI w)] (some (.int (f_pass σ i w))) := by
  refine Met.ofW (cc := cX5_pass) (maxL := 4) (ret := (some .int)) (by decide) rfl ?_
  intro p e s m args below meth c s₁ B hml hv
  obtain ⟨rfl, hH, hK⟩ := hv
  subst hH
  have hx := B.exec
  have hb := B.bytes
  have hr := B.returns
  have hts := atoms_spec (ws := wsX5_pass) B.pre
  have hown : s.vm.findClass RX5 = some m.cls := findClass_of_methodNamed B.named
  have hlocks := B.notSynchronized
  have i_X2 : ∀ w ∈ u_ws RX2 TX2 7, w ∈ wsX5_pass := fun w h => (List.mem_cons_of_mem _ (List.mem_append_left _ (List.mem_append_left _ (List.mem_append_left _ (List.mem_append_left _ (List.mem_append_left _ (List.mem_append_right _ h)))))))
  have i_X3 : ∀ w ∈ u_ws RX3 TX3 8, w ∈ wsX5_pass := fun w h => (List.mem_cons_of_mem _ (List.mem_append_left _ (List.mem_append_left _ (List.mem_append_left _ (List.mem_append_left _ (List.mem_append_right _ h))))))
  have i_X0 : ∀ w ∈ u_ws RX0 TX0 5, w ∈ wsX5_pass := fun w h => (List.mem_cons_of_mem _ (List.mem_append_left _ (List.mem_append_left _ (List.mem_append_left _ (List.mem_append_right _ h)))))
  have hl := lv_entry [.ref (X.1 0 0), .int (nI i), .int (nI w)] (n := 4) (Nat.le_of_ble_eq_true rfl)
  rw [lg_entry_eq]
  generalize (lg_sl [.ref (X.1 0 0), .int (nI i), .int (nI w)] ++ List.replicate (4 - (lg_sl [.ref (X.1 0 0), .int (nI i), .int (nI w)]).length) Slot.unset).toArray = ls at hl ⊢
  have hl : lv_has ls 4 [(0, .ref (X.1 0 0)), (1, .int (nI i)), (2, .int (nI w))] := hl
  have b0 := hI.n0
  have b1 := hI.n1
  have b2 := hI.n2
  have b3 := hI.n3
  rcases (show w = 0 ∨ w = 1 ∨ w = 2 ∨ w = 3 ∨ w = 4 ∨ w = 5 ∨ w = 6 ∨ w = 7 by omega) with rfl | rfl | rfl | rfl | rfl | rfl | rfl | rfl
  · skip
    refine lv_aload_n hx hb dX5_pass_0 rfl (lv_at hl 0 rfl) ?_
    refine lv_iload_n hx hb dX5_pass_1 rfl (lv_at hl 1 rfl) ?_
    refine wk_V (As := [.int (nI i)]) (rest := []) ⟨hx, hb, hml, hown, hts⟩ (c_X5_passAt l E hA hI hi) (cwV 1 hts gX5_pass_X5_passAt rfl rfl rfl (by decide +kernel) ⟨(Nat.le_of_ble_eq_true rfl), (Nat.le_of_ble_eq_true rfl)⟩) (wk_recv hK hA.desk rfl) hK rfl hl.1 rfl (Nat.le_of_ble_eq_true rfl) dX5_pass_2 ⟨Nat.zero_le _, Nat.zero_le _⟩ ?_
    refine lv_astore_n (lv' := [(3, .ref (X.1 7 i)), (0, .ref (X.1 0 0)), (1, .int (nI i)), (2, .int (nI 0))]) hx hb dX5_pass_5 rfl hl (by decide) rfl (fun ls hl => ?_)
    refine lv_iload_n hx hb dX5_pass_6 rfl (lv_at hl 3 rfl) ?_
    refine lv_tableIn (off := 45) (tgt := 52) hx hb dX5_pass_7 (by decide) (by decide) (by decide) (by decide) ?_
    refine lv_aload_n hx hb dX5_pass_52 rfl (lv_at hl 0 rfl) ?_
    refine wk_get (own := RX5) (C := RX2) (T := TX2) (N := 7) (ci := 3) (v := .ref (X.1 6 (z_pS σ i))) hx hb hts i_X2 hown hK (hA.pass hi) rfl 1 (by decide) (hts _ (List.mem_of_getElem? (i := 3) rfl)) (fun _ h9 => h9) rfl dX5_pass_53 ?_
    refine wk_get (own := RX5) (C := RX3) (T := TX3) (N := 8) (ci := 4) (v := .int (nI (z_pS σ i))) hx hb hts i_X3 hown hK (hA.sat (hI.pS hi)) rfl 0 (by decide) (hts _ (List.mem_of_getElem? (i := 4) rfl)) (fun _ h9 => h9) rfl dX5_pass_56 ?_
    exact W.iret hx hb hr (fun t ht _ => wk_ret (congrArg Value.int rfl) ht) wk_nil dX5_pass_59
  · skip
    refine lv_aload_n hx hb dX5_pass_0 rfl (lv_at hl 0 rfl) ?_
    refine lv_iload_n hx hb dX5_pass_1 rfl (lv_at hl 1 rfl) ?_
    refine wk_V (As := [.int (nI i)]) (rest := []) ⟨hx, hb, hml, hown, hts⟩ (c_X5_passAt l E hA hI hi) (cwV 1 hts gX5_pass_X5_passAt rfl rfl rfl (by decide +kernel) ⟨(Nat.le_of_ble_eq_true rfl), (Nat.le_of_ble_eq_true rfl)⟩) (wk_recv hK hA.desk rfl) hK rfl hl.1 rfl (Nat.le_of_ble_eq_true rfl) dX5_pass_2 ⟨Nat.zero_le _, Nat.zero_le _⟩ ?_
    refine lv_astore_n (lv' := [(3, .ref (X.1 7 i)), (0, .ref (X.1 0 0)), (1, .int (nI i)), (2, .int (nI 1))]) hx hb dX5_pass_5 rfl hl (by decide) rfl (fun ls hl => ?_)
    refine lv_iload_n hx hb dX5_pass_6 rfl (lv_at hl 3 rfl) ?_
    refine lv_tableIn (off := 53) (tgt := 60) hx hb dX5_pass_7 (by decide) (by decide) (by decide) (by decide) ?_
    refine lv_aload_n hx hb dX5_pass_60 rfl (lv_at hl 0 rfl) ?_
    refine wk_get (own := RX5) (C := RX2) (T := TX2) (N := 7) (ci := 3) (v := .ref (X.1 5 (z_pA σ i))) hx hb hts i_X2 hown hK (hA.pass hi) rfl 2 (by decide) (hts _ (List.mem_of_getElem? (i := 5) rfl)) (fun _ h9 => h9) rfl dX5_pass_61 ?_
    refine wk_get (own := RX5) (C := RX0) (T := TX0) (N := 5) (ci := 1) (v := .int (nI (z_pA σ i))) hx hb hts i_X0 hown hK (hA.ant (hI.pA hi)) rfl 0 (by decide) (hts _ (List.mem_of_getElem? (i := 6) rfl)) (fun _ h9 => h9) rfl dX5_pass_64 ?_
    exact W.iret hx hb hr (fun t ht _ => wk_ret (congrArg Value.int rfl) ht) wk_nil dX5_pass_67
  · skip
    refine lv_aload_n hx hb dX5_pass_0 rfl (lv_at hl 0 rfl) ?_
    refine lv_iload_n hx hb dX5_pass_1 rfl (lv_at hl 1 rfl) ?_
    refine wk_V (As := [.int (nI i)]) (rest := []) ⟨hx, hb, hml, hown, hts⟩ (c_X5_passAt l E hA hI hi) (cwV 1 hts gX5_pass_X5_passAt rfl rfl rfl (by decide +kernel) ⟨(Nat.le_of_ble_eq_true rfl), (Nat.le_of_ble_eq_true rfl)⟩) (wk_recv hK hA.desk rfl) hK rfl hl.1 rfl (Nat.le_of_ble_eq_true rfl) dX5_pass_2 ⟨Nat.zero_le _, Nat.zero_le _⟩ ?_
    refine lv_astore_n (lv' := [(3, .ref (X.1 7 i)), (0, .ref (X.1 0 0)), (1, .int (nI i)), (2, .int (nI 2))]) hx hb dX5_pass_5 rfl hl (by decide) rfl (fun ls hl => ?_)
    refine lv_iload_n hx hb dX5_pass_6 rfl (lv_at hl 3 rfl) ?_
    refine lv_tableIn (off := 61) (tgt := 68) hx hb dX5_pass_7 (by decide) (by decide) (by decide) (by decide) ?_
    refine lv_aload_n hx hb dX5_pass_68 rfl (lv_at hl 0 rfl) ?_
    refine wk_get (own := RX5) (C := RX2) (T := TX2) (N := 7) (ci := 3) (v := .int (z_pb σ i)) hx hb hts i_X2 hown hK (hA.pass hi) rfl 3 (by decide) (hts _ (List.mem_of_getElem? (i := 7) rfl)) (fun _ h9 => h9) rfl dX5_pass_69 ?_
    exact W.iret hx hb hr (fun t ht _ => wk_ret (congrArg Value.int rfl) ht) wk_nil dX5_pass_72
  · skip
    refine lv_aload_n hx hb dX5_pass_0 rfl (lv_at hl 0 rfl) ?_
    refine lv_iload_n hx hb dX5_pass_1 rfl (lv_at hl 1 rfl) ?_
    refine wk_V (As := [.int (nI i)]) (rest := []) ⟨hx, hb, hml, hown, hts⟩ (c_X5_passAt l E hA hI hi) (cwV 1 hts gX5_pass_X5_passAt rfl rfl rfl (by decide +kernel) ⟨(Nat.le_of_ble_eq_true rfl), (Nat.le_of_ble_eq_true rfl)⟩) (wk_recv hK hA.desk rfl) hK rfl hl.1 rfl (Nat.le_of_ble_eq_true rfl) dX5_pass_2 ⟨Nat.zero_le _, Nat.zero_le _⟩ ?_
    refine lv_astore_n (lv' := [(3, .ref (X.1 7 i)), (0, .ref (X.1 0 0)), (1, .int (nI i)), (2, .int (nI 3))]) hx hb dX5_pass_5 rfl hl (by decide) rfl (fun ls hl => ?_)
    refine lv_iload_n hx hb dX5_pass_6 rfl (lv_at hl 3 rfl) ?_
    refine lv_tableIn (off := 66) (tgt := 73) hx hb dX5_pass_7 (by decide) (by decide) (by decide) (by decide) ?_
    refine lv_aload_n hx hb dX5_pass_73 rfl (lv_at hl 0 rfl) ?_
    refine wk_get (own := RX5) (C := RX2) (T := TX2) (N := 7) (ci := 3) (v := .int (z_pe σ i)) hx hb hts i_X2 hown hK (hA.pass hi) rfl 4 (by decide) (hts _ (List.mem_of_getElem? (i := 8) rfl)) (fun _ h9 => h9) rfl dX5_pass_74 ?_
    exact W.iret hx hb hr (fun t ht _ => wk_ret (congrArg Value.int rfl) ht) wk_nil dX5_pass_77
  · skip
    refine lv_aload_n hx hb dX5_pass_0 rfl (lv_at hl 0 rfl) ?_
    refine lv_iload_n hx hb dX5_pass_1 rfl (lv_at hl 1 rfl) ?_
    refine wk_V (As := [.int (nI i)]) (rest := []) ⟨hx, hb, hml, hown, hts⟩ (c_X5_passAt l E hA hI hi) (cwV 1 hts gX5_pass_X5_passAt rfl rfl rfl (by decide +kernel) ⟨(Nat.le_of_ble_eq_true rfl), (Nat.le_of_ble_eq_true rfl)⟩) (wk_recv hK hA.desk rfl) hK rfl hl.1 rfl (Nat.le_of_ble_eq_true rfl) dX5_pass_2 ⟨Nat.zero_le _, Nat.zero_le _⟩ ?_
    refine lv_astore_n (lv' := [(3, .ref (X.1 7 i)), (0, .ref (X.1 0 0)), (1, .int (nI i)), (2, .int (nI 4))]) hx hb dX5_pass_5 rfl hl (by decide) rfl (fun ls hl => ?_)
    refine lv_iload_n hx hb dX5_pass_6 rfl (lv_at hl 3 rfl) ?_
    refine lv_tableIn (off := 71) (tgt := 78) hx hb dX5_pass_7 (by decide) (by decide) (by decide) (by decide) ?_
    refine lv_aload_n hx hb dX5_pass_78 rfl (lv_at hl 0 rfl) ?_
    refine wk_V (As := []) (rest := []) ⟨hx, hb, hml, hown, hts⟩ (c_X2_worth l E hA hI hi) (cwV 0 hts gX5_pass_X2_worth rfl rfl rfl (by decide +kernel) ⟨(Nat.le_of_ble_eq_true rfl), (Nat.le_of_ble_eq_true rfl)⟩) (wk_recv hK (hA.pass hi) rfl) hK rfl hl.1 rfl (Nat.le_of_ble_eq_true rfl) dX5_pass_79 ⟨Nat.zero_le _, Nat.zero_le _⟩ ?_
    exact W.iret hx hb hr (fun t ht _ => wk_ret (congrArg Value.int rfl) ht) wk_nil dX5_pass_82
  · skip
    refine lv_aload_n hx hb dX5_pass_0 rfl (lv_at hl 0 rfl) ?_
    refine lv_iload_n hx hb dX5_pass_1 rfl (lv_at hl 1 rfl) ?_
    refine wk_V (As := [.int (nI i)]) (rest := []) ⟨hx, hb, hml, hown, hts⟩ (c_X5_passAt l E hA hI hi) (cwV 1 hts gX5_pass_X5_passAt rfl rfl rfl (by decide +kernel) ⟨(Nat.le_of_ble_eq_true rfl), (Nat.le_of_ble_eq_true rfl)⟩) (wk_recv hK hA.desk rfl) hK rfl hl.1 rfl (Nat.le_of_ble_eq_true rfl) dX5_pass_2 ⟨Nat.zero_le _, Nat.zero_le _⟩ ?_
    refine lv_astore_n (lv' := [(3, .ref (X.1 7 i)), (0, .ref (X.1 0 0)), (1, .int (nI i)), (2, .int (nI 5))]) hx hb dX5_pass_5 rfl hl (by decide) rfl (fun ls hl => ?_)
    refine lv_iload_n hx hb dX5_pass_6 rfl (lv_at hl 3 rfl) ?_
    refine lv_tableIn (off := 76) (tgt := 83) hx hb dX5_pass_7 (by decide) (by decide) (by decide) (by decide) ?_
    refine lv_aload_n hx hb dX5_pass_83 rfl (lv_at hl 0 rfl) ?_
    refine wk_get (own := RX5) (C := RX2) (T := TX2) (N := 7) (ci := 3) (v := .int (wk_b (z_tk σ i))) hx hb hts i_X2 hown hK (hA.pass hi) rfl 5 (by decide) (hts _ (List.mem_of_getElem? (i := 9) rfl)) (fun _ h9 => h9) rfl dX5_pass_84 ?_
    refine lv_if_eq (tgt := 94) hx hb dX5_pass_87 (by decide) (fun c_87 => ?_) (fun c_87 => ?_)
    · skip
      have e_87 : (z_tk σ i) = false := wk_b0 c_87
      refine lv_iconst (v := 0) hx hb dX5_pass_94 (by decide) ?_
      exact W.iret hx hb hr (fun t ht _ => wk_ret (congrArg Value.int (by simp [f_pass, wk_b, e_87])) ht) wk_nil dX5_pass_95
    have e_87 : (z_tk σ i) = true := wk_b1 c_87
    refine lv_iconst (v := 1) hx hb dX5_pass_90 (by decide) ?_
    refine lv_goto (tgt := 95) hx hb dX5_pass_91 (by decide) ?_
    exact W.iret hx hb hr (fun t ht _ => wk_ret (congrArg Value.int (by simp [f_pass, wk_b, e_87])) ht) wk_nil dX5_pass_95
  · skip
    refine lv_aload_n hx hb dX5_pass_0 rfl (lv_at hl 0 rfl) ?_
    refine lv_iload_n hx hb dX5_pass_1 rfl (lv_at hl 1 rfl) ?_
    refine wk_V (As := [.int (nI i)]) (rest := []) ⟨hx, hb, hml, hown, hts⟩ (c_X5_passAt l E hA hI hi) (cwV 1 hts gX5_pass_X5_passAt rfl rfl rfl (by decide +kernel) ⟨(Nat.le_of_ble_eq_true rfl), (Nat.le_of_ble_eq_true rfl)⟩) (wk_recv hK hA.desk rfl) hK rfl hl.1 rfl (Nat.le_of_ble_eq_true rfl) dX5_pass_2 ⟨Nat.zero_le _, Nat.zero_le _⟩ ?_
    refine lv_astore_n (lv' := [(3, .ref (X.1 7 i)), (0, .ref (X.1 0 0)), (1, .int (nI i)), (2, .int (nI 6))]) hx hb dX5_pass_5 rfl hl (by decide) rfl (fun ls hl => ?_)
    refine lv_iload_n hx hb dX5_pass_6 rfl (lv_at hl 3 rfl) ?_
    refine lv_tableIn (off := 89) (tgt := 96) hx hb dX5_pass_7 (by decide) (by decide) (by decide) (by decide) ?_
    refine lv_aload_n hx hb dX5_pass_96 rfl (lv_at hl 0 rfl) ?_
    refine wk_get (own := RX5) (C := RX2) (T := TX2) (N := 7) (ci := 3) (v := .int (z_pd σ i)) hx hb hts i_X2 hown hK (hA.pass hi) rfl 6 (by decide) (hts _ (List.mem_of_getElem? (i := 10) rfl)) (fun _ h9 => h9) rfl dX5_pass_97 ?_
    exact W.iret hx hb hr (fun t ht _ => wk_ret (congrArg Value.int rfl) ht) wk_nil dX5_pass_100
  · skip
    refine lv_aload_n hx hb dX5_pass_0 rfl (lv_at hl 0 rfl) ?_
    refine lv_iload_n hx hb dX5_pass_1 rfl (lv_at hl 1 rfl) ?_
    refine wk_V (As := [.int (nI i)]) (rest := []) ⟨hx, hb, hml, hown, hts⟩ (c_X5_passAt l E hA hI hi) (cwV 1 hts gX5_pass_X5_passAt rfl rfl rfl (by decide +kernel) ⟨(Nat.le_of_ble_eq_true rfl), (Nat.le_of_ble_eq_true rfl)⟩) (wk_recv hK hA.desk rfl) hK rfl hl.1 rfl (Nat.le_of_ble_eq_true rfl) dX5_pass_2 ⟨Nat.zero_le _, Nat.zero_le _⟩ ?_
    refine lv_astore_n (lv' := [(3, .ref (X.1 7 i)), (0, .ref (X.1 0 0)), (1, .int (nI i)), (2, .int (nI 7))]) hx hb dX5_pass_5 rfl hl (by decide) rfl (fun ls hl => ?_)
    refine lv_iload_n hx hb dX5_pass_6 rfl (lv_at hl 3 rfl) ?_
    refine lv_tableIn (off := 94) (tgt := 101) hx hb dX5_pass_7 (by decide) (by decide) (by decide) (by decide) ?_
    refine lv_aload_n hx hb dX5_pass_101 rfl (lv_at hl 0 rfl) ?_
    refine wk_get (own := RX5) (C := RX2) (T := TX2) (N := 7) (ci := 3) (v := .int (wk_b (z_tk σ i))) hx hb hts i_X2 hown hK (hA.pass hi) rfl 5 (by decide) (hts _ (List.mem_of_getElem? (i := 9) rfl)) (fun _ h9 => h9) rfl dX5_pass_102 ?_
    refine lv_if_eq (tgt := 116) hx hb dX5_pass_105 (by decide) (fun c_105 => ?_) (fun c_105 => ?_)
    · skip
      have e_105 : (z_tk σ i) = false := wk_b0 c_105
      refine lv_iconst (v := (-1)) hx hb dX5_pass_116 (by decide) ?_
      exact W.iret hx hb hr (fun t ht _ => wk_ret (congrArg Value.int (by simp [f_pass, wk_b, e_105])) ht) wk_nil dX5_pass_117
    have e_105 : (z_tk σ i) = true := wk_b1 c_105
    refine lv_aload_n hx hb dX5_pass_108 rfl (lv_at hl 1 rfl) ?_
    refine lv_aload_n hx hb dX5_pass_109 rfl (lv_at hl 0 rfl) ?_
    refine wk_V (As := [.ref (X.1 7 i)]) (rest := []) ⟨hx, hb, hml, hown, hts⟩ (c_X5_startOf l E hA hI hi) (cwV 1 hts gX5_pass_X5_startOf rfl rfl rfl (by decide +kernel) ⟨(Nat.le_of_ble_eq_true rfl), (Nat.le_of_ble_eq_true rfl)⟩) (wk_recv hK hA.desk rfl) hK rfl hl.1 rfl (Nat.le_of_ble_eq_true rfl) dX5_pass_110 ⟨Nat.zero_le _, Nat.zero_le _⟩ ?_
    refine lv_goto (tgt := 117) hx hb dX5_pass_113 (by decide) ?_
    exact W.iret hx hb hr (fun t ht _ => wk_ret (congrArg Value.int (by simp [f_pass, wk_b, e_105])) ht) wk_nil dX5_pass_117

abbrev rmX5_isConflict : Room := { frames := 4, cells := 0, slots := 0, locals := 85 }
set_option maxHeartbeats 4000000 in
set_option maxRecDepth 100000 in
theorem c_X5_isConflict (l : Launch) (E : wk_E) {T : Nat → Nat × Nat} {X : z_X} {σ : z_S} {H : Heap} (hA : DA E T X σ H) (hI : z_Ok σ) {i j : Nat} (hi : i < z_n σ 2) (hj : j < z_n σ 2) (hij : ¬ i = j) : wk_Met l yX5_isConflict wsX5_isConflict rmX5_isConflict E H [.ref (X.1 0 0), .int (nI i), .int (nI j)] (some (.int (wk_b (f_conf σ i j)))) := by
  refine Met.ofW (cc := cX5_isConflict) (maxL := 5) (ret := (some .boolean)) (by decide) rfl ?_
  intro p e s m args below meth c s₁ B hml hv
  obtain ⟨rfl, hH, hK⟩ := hv
  subst hH
  have hx := B.exec
  have hb := B.bytes
  have hr := B.returns
  have hts := atoms_spec (ws := wsX5_isConflict) B.pre
  have hown : s.vm.findClass RX5 = some m.cls := findClass_of_methodNamed B.named
  have hlocks := B.notSynchronized
  have hl := lv_entry [.ref (X.1 0 0), .int (nI i), .int (nI j)] (n := 5) (Nat.le_of_ble_eq_true rfl)
  rw [lg_entry_eq]
  generalize (lg_sl [.ref (X.1 0 0), .int (nI i), .int (nI j)] ++ List.replicate (5 - (lg_sl [.ref (X.1 0 0), .int (nI i), .int (nI j)]).length) Slot.unset).toArray = ls at hl ⊢
  have hl : lv_has ls 5 [(0, .ref (X.1 0 0)), (1, .int (nI i)), (2, .int (nI j))] := hl
  have b0 := hI.n0
  have b1 := hI.n1
  have b2 := hI.n2
  have b3 := hI.n3
  refine lv_aload_n hx hb dX5_isConflict_0 rfl (lv_at hl 0 rfl) ?_
  refine lv_iload_n hx hb dX5_isConflict_1 rfl (lv_at hl 1 rfl) ?_
  refine wk_V (As := [.int (nI i)]) (rest := []) ⟨hx, hb, hml, hown, hts⟩ (c_X5_passAt l E hA hI hi) (cwV 1 hts gX5_isConflict_X5_passAt rfl rfl rfl (by decide +kernel) ⟨(Nat.le_of_ble_eq_true rfl), (Nat.le_of_ble_eq_true rfl)⟩) (wk_recv hK hA.desk rfl) hK rfl hl.1 rfl (Nat.le_of_ble_eq_true rfl) dX5_isConflict_2 ⟨Nat.zero_le _, Nat.zero_le _⟩ ?_
  refine lv_astore_n (lv' := [(3, .ref (X.1 7 i)), (0, .ref (X.1 0 0)), (1, .int (nI i)), (2, .int (nI j))]) hx hb dX5_isConflict_5 rfl hl (by decide) rfl (fun ls hl => ?_)
  refine lv_aload_n hx hb dX5_isConflict_6 rfl (lv_at hl 1 rfl) ?_
  refine lv_iload_n hx hb dX5_isConflict_7 rfl (lv_at hl 3 rfl) ?_
  refine wk_V (As := [.int (nI j)]) (rest := []) ⟨hx, hb, hml, hown, hts⟩ (c_X5_passAt l E hA hI hj) (cwV 1 hts gX5_isConflict_X5_passAt rfl rfl rfl (by decide +kernel) ⟨(Nat.le_of_ble_eq_true rfl), (Nat.le_of_ble_eq_true rfl)⟩) (wk_recv hK hA.desk rfl) hK rfl hl.1 rfl (Nat.le_of_ble_eq_true rfl) dX5_isConflict_8 ⟨Nat.zero_le _, Nat.zero_le _⟩ ?_
  refine lv_astore (lv' := [(4, .ref (X.1 7 j)), (3, .ref (X.1 7 i)), (0, .ref (X.1 0 0)), (1, .int (nI i)), (2, .int (nI j))]) hx hb dX5_isConflict_11 hl (by decide) rfl (fun ls hl => ?_)
  refine lv_iload_n hx hb dX5_isConflict_13 rfl (lv_at hl 3 rfl) ?_
  refine lv_iload_n hx hb dX5_isConflict_14 rfl (lv_at hl 4 rfl) ?_
  refine lv_icmp_ne (tgt := 28) hx hb dX5_isConflict_15 (by decide) (fun c_15 => ?_) (fun c_15 => ?_)
  · skip
    have e_15 : ¬ i = j := wk_cnet (by omega) (by omega) c_15
    refine lv_aload_n hx hb dX5_isConflict_28 rfl (lv_at hl 2 rfl) ?_
    refine lv_aload_n hx hb dX5_isConflict_29 rfl (lv_at hl 1 rfl) ?_
    refine lv_aload hx hb dX5_isConflict_30 (lv_at hl 0 rfl) ?_
    refine wk_V (As := [.ref (X.1 7 i), .ref (X.1 7 j)]) (rest := []) ⟨hx, hb, hml, hown, hts⟩ (c_X5_areInConflict l E hA hI hi hj hij) (cwV 2 hts gX5_isConflict_X5_areInConflict rfl rfl rfl (by decide +kernel) ⟨(Nat.le_of_ble_eq_true rfl), (Nat.le_of_ble_eq_true rfl)⟩) (wk_recv hK hA.desk rfl) hK rfl hl.1 rfl (Nat.le_of_ble_eq_true rfl) dX5_isConflict_32 ⟨Nat.zero_le _, Nat.zero_le _⟩ ?_
    exact W.zret hx hb hr (wk_nz _) (fun t ht _ => wk_ret (congrArg Value.int rfl) ht) wk_nil dX5_isConflict_35
  have e_15 : i = j := wk_cnef (by omega) (by omega) c_15
  exact absurd e_15 hij

abbrev rmX5_canTake : Room := { frames := 5, cells := 0, slots := 0, locals := 108 }
set_option maxHeartbeats 4000000 in
set_option maxRecDepth 100000 in
theorem c_X5_canTake (l : Launch) (E : wk_E) {T : Nat → Nat × Nat} {X : z_X} {σ : z_S} {H : Heap} (hA : DA E T X σ H) (hI : z_Ok σ) {i : Nat} (hi : i < z_n σ 2) : wk_Met l yX5_canTake wsX5_canTake rmX5_canTake E H [.ref (X.1 0 0), .int (nI i)] (some (.int (wk_b (f_free σ i)))) := by
  refine Met.ofW (cc := cX5_canTake) (maxL := 2) (ret := (some .boolean)) (by decide) rfl ?_
  intro p e s m args below meth c s₁ B hml hv
  obtain ⟨rfl, hH, hK⟩ := hv
  subst hH
  have hx := B.exec
  have hb := B.bytes
  have hr := B.returns
  have hts := atoms_spec (ws := wsX5_canTake) B.pre
  have hown : s.vm.findClass RX5 = some m.cls := findClass_of_methodNamed B.named
  have hlocks := B.notSynchronized
  have hl := lv_entry [.ref (X.1 0 0), .int (nI i)] (n := 2) (Nat.le_of_ble_eq_true rfl)
  rw [lg_entry_eq]
  generalize (lg_sl [.ref (X.1 0 0), .int (nI i)] ++ List.replicate (2 - (lg_sl [.ref (X.1 0 0), .int (nI i)]).length) Slot.unset).toArray = ls at hl ⊢
  have hl : lv_has ls 2 [(0, .ref (X.1 0 0)), (1, .int (nI i))] := hl
  have b0 := hI.n0
  have b1 := hI.n1
  have b2 := hI.n2
  have b3 := hI.n3
  refine lv_aload_n hx hb dX5_canTake_0 rfl (lv_at hl 0 rfl) ?_
  refine lv_aload_n hx hb dX5_canTake_1 rfl (lv_at hl 0 rfl) ?_
  refine lv_iload_n hx hb dX5_canTake_2 rfl (lv_at hl 1 rfl) ?_
  refine wk_V (As := [.int (nI i)]) (rest := [.ref (X.1 0 0)]) ⟨hx, hb, hml, hown, hts⟩ (c_X5_passAt l E hA hI hi) (cwV 1 hts gX5_canTake_X5_passAt rfl rfl rfl (by decide +kernel) ⟨(Nat.le_of_ble_eq_true rfl), (Nat.le_of_ble_eq_true rfl)⟩) (wk_recv hK hA.desk rfl) hK rfl hl.1 rfl (Nat.le_of_ble_eq_true rfl) dX5_canTake_3 ⟨Nat.zero_le _, Nat.zero_le _⟩ ?_
  refine wk_V (As := [.ref (X.1 7 i)]) (rest := []) ⟨hx, hb, hml, hown, hts⟩ (c_X5_isFree l E hA hI hi) (cwV 1 hts gX5_canTake_X5_isFree rfl rfl rfl (by decide +kernel) ⟨(Nat.le_of_ble_eq_true rfl), (Nat.le_of_ble_eq_true rfl)⟩) (wk_recv hK hA.desk rfl) hK rfl hl.1 rfl (Nat.le_of_ble_eq_true rfl) dX5_canTake_6 ⟨Nat.zero_le _, Nat.zero_le _⟩ ?_
  exact W.zret hx hb hr (wk_nz _) (fun t ht _ => wk_ret (congrArg Value.int rfl) ht) wk_nil dX5_canTake_9
