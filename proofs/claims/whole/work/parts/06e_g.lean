abbrev rmt3_X5_isConflict : Room := { frames := 6, cells := 1, slots := 6, locals := 90 }
set_option maxHeartbeats 4000000 in
set_option maxRecDepth 100000 in
theorem t3_X5_isConflict (l : Launch) (hlf : l.stackTraces = false) (E : wk_E) {T : Nat → Nat × Nat} {X : z_X} {σ : z_S} {H : Heap} (hA : DA E T X σ H) (hI : z_Ok σ) {i : Nat} (hi : i < z_n σ 2) : wx_Met l yX5_isConflict wsX5_isConflict rmt3_X5_isConflict E H [.ref (X.1 0 0), .int (nI i), .int (nI i)] "java/lang/IllegalArgumentException" := by
  refine vx_ofW (cc := cX5_isConflict) (maxL := 5) (ret := (some .boolean)) (by decide) rfl ?_
  intro p e s m args below meth c s₁ B hml htab hv
  obtain ⟨rfl, hH, hV⟩ := hv
  subst hH
  have hK := hV.k
  have hx := B.exec
  have hb := B.bytes
  have hr := B.returns
  have hts := atoms_spec (ws := wsX5_isConflict) B.pre
  have hown : s.vm.findClass RX5 = some m.cls := findClass_of_methodNamed B.named
  have hlocks := B.notSynchronized
  have hl := lv_entry [.ref (X.1 0 0), .int (nI i), .int (nI i)] (n := 5) (Nat.le_of_ble_eq_true rfl)
  rw [lg_entry_eq]
  generalize (lg_sl [.ref (X.1 0 0), .int (nI i), .int (nI i)] ++ List.replicate (5 - (lg_sl [.ref (X.1 0 0), .int (nI i), .int (nI i)]).length) Slot.unset).toArray = ls at hl ⊢
  have hl : lv_has ls 5 [(0, .ref (X.1 0 0)), (1, .int (nI i)), (2, .int (nI i))] := hl
  have b0 := hI.n0
  have b1 := hI.n1
  have b2 := hI.n2
  have b3 := hI.n3
  refine lv_aload_n hx hb dX5_isConflict_0 rfl (lv_at hl 0 rfl) ?_
  refine lv_iload_n hx hb dX5_isConflict_1 rfl (lv_at hl 1 rfl) ?_
  refine wk_V (As := [.int (nI i)]) (rest := []) ⟨hx, hb, hml, hown, hts⟩ (c_X5_passAt l E hA hI hi) (cwV 1 hts gX5_isConflict_X5_passAt rfl rfl rfl (by decide +kernel) ⟨(Nat.le_of_ble_eq_true rfl), (Nat.le_of_ble_eq_true rfl)⟩) (wk_recv hK hA.desk rfl) hK rfl hl.1 rfl (Nat.le_of_ble_eq_true rfl) dX5_isConflict_2 ⟨Nat.zero_le _, Nat.zero_le _⟩ ?_
  refine lv_astore_n (lv' := [(3, .ref (X.1 7 i)), (0, .ref (X.1 0 0)), (1, .int (nI i)), (2, .int (nI i))]) hx hb dX5_isConflict_5 rfl hl (by decide) rfl (fun ls hl => ?_)
  refine lv_aload_n hx hb dX5_isConflict_6 rfl (lv_at hl 1 rfl) ?_
  refine lv_iload_n hx hb dX5_isConflict_7 rfl (lv_at hl 3 rfl) ?_
  refine wk_V (As := [.int (nI i)]) (rest := []) ⟨hx, hb, hml, hown, hts⟩ (c_X5_passAt l E hA hI hi) (cwV 1 hts gX5_isConflict_X5_passAt rfl rfl rfl (by decide +kernel) ⟨(Nat.le_of_ble_eq_true rfl), (Nat.le_of_ble_eq_true rfl)⟩) (wk_recv hK hA.desk rfl) hK rfl hl.1 rfl (Nat.le_of_ble_eq_true rfl) dX5_isConflict_8 ⟨Nat.zero_le _, Nat.zero_le _⟩ ?_
  refine lv_astore (lv' := [(4, .ref (X.1 7 i)), (3, .ref (X.1 7 i)), (0, .ref (X.1 0 0)), (1, .int (nI i)), (2, .int (nI i))]) hx hb dX5_isConflict_11 hl (by decide) rfl (fun ls hl => ?_)
  refine lv_iload_n hx hb dX5_isConflict_13 rfl (lv_at hl 3 rfl) ?_
  refine lv_iload_n hx hb dX5_isConflict_14 rfl (lv_at hl 4 rfl) ?_
  refine lv_icmp_ne (tgt := 28) hx hb dX5_isConflict_15 (by decide) (fun c_15 => ?_) (fun c_15 => ?_)
  · skip
    have e_15 : ¬ i = i := wk_cnet (by omega) (by omega) c_15
    exact absurd rfl e_15
  have e_15 : i = i := wk_cnef (by omega) (by omega) c_15
  exact wx_throw (nL := 5) hx hb hlf hown hml hl.1 (by decide) (by decide) (hts _ (List.mem_of_getElem? (i := 1) rfl)) (hts _ (List.mem_of_getElem? (i := 2) rfl)) (List.mem_of_getElem? (i := 16) rfl) (fun w h => hts w (List.mem_cons_of_mem _ (List.mem_append_left _ (List.mem_append_right _ h)))) wx_bad_IAE wx_good_IAE hV htab hlocks dX5_isConflict_18 dX5_isConflict_21 dX5_isConflict_22 dX5_isConflict_24 dX5_isConflict_27 ⟨(Nat.le_of_ble_eq_true rfl), (Nat.le_of_ble_eq_true rfl), (Nat.le_of_ble_eq_true rfl), (Nat.le_of_ble_eq_true rfl)⟩

abbrev rmX5_canTake : Room := { frames := 5, cells := 0, slots := 0, locals := 110 }
set_option maxHeartbeats 4000000 in
set_option maxRecDepth 100000 in
theorem c_X5_canTake (l : Launch) (E : wk_E) {T : Nat → Nat × Nat} {X : z_X} {σ : z_S} {H : Heap} (hA : DA E T X σ H) (hI : z_Ok σ) {i : Nat} (hi : i < z_n σ 2) : wk_Met l yX5_canTake wsX5_canTake rmX5_canTake E H [.ref (X.1 0 0), .int (nI i)] (some (.int (wk_b (f_free σ i)))) := by
  refine Met.ofW (cc := cX5_canTake) (maxL := 2) (ret := (some .boolean)) (by decide) rfl ?_
  intro p e s m args below meth c s₁ B hml hv
  obtain ⟨rfl, hH, hK⟩ := hv
  subst hH
  have hx := B.exec
  have hb := B.bytes
  have hr := B.returns
  have hts := atoms_spec (ws := wsX5_canTake) B.pre
  have hown : s.vm.findClass RX5 = some m.cls := findClass_of_methodNamed B.named
  have hlocks := B.notSynchronized
  have hl := lv_entry [.ref (X.1 0 0), .int (nI i)] (n := 2) (Nat.le_of_ble_eq_true rfl)
  rw [lg_entry_eq]
  generalize (lg_sl [.ref (X.1 0 0), .int (nI i)] ++ List.replicate (2 - (lg_sl [.ref (X.1 0 0), .int (nI i)]).length) Slot.unset).toArray = ls at hl ⊢
  have hl : lv_has ls 2 [(0, .ref (X.1 0 0)), (1, .int (nI i))] := hl
  have b0 := hI.n0
  have b1 := hI.n1
  have b2 := hI.n2
  have b3 := hI.n3
  refine lv_aload_n hx hb dX5_canTake_0 rfl (lv_at hl 0 rfl) ?_
  refine lv_aload_n hx hb dX5_canTake_1 rfl (lv_at hl 0 rfl) ?_
  refine lv_iload_n hx hb dX5_canTake_2 rfl (lv_at hl 1 rfl) ?_
  refine wk_V (As := [.int (nI i)]) (rest := [.ref (X.1 0 0)]) ⟨hx, hb, hml, hown, hts⟩ (c_X5_passAt l E hA hI hi) (cwV 1 hts gX5_canTake_X5_passAt rfl rfl rfl (by decide +kernel) ⟨(Nat.le_of_ble_eq_true rfl), (Nat.le_of_ble_eq_true rfl)⟩) (wk_recv hK hA.desk rfl) hK rfl hl.1 rfl (Nat.le_of_ble_eq_true rfl) dX5_canTake_3 ⟨Nat.zero_le _, Nat.zero_le _⟩ ?_
  refine wk_V (As := [.ref (X.1 7 i)]) (rest := []) ⟨hx, hb, hml, hown, hts⟩ (c_X5_isFree l E hA hI hi) (cwV 1 hts gX5_canTake_X5_isFree rfl rfl rfl (by decide +kernel) ⟨(Nat.le_of_ble_eq_true rfl), (Nat.le_of_ble_eq_true rfl)⟩) (wk_recv hK hA.desk rfl) hK rfl hl.1 rfl (Nat.le_of_ble_eq_true rfl) dX5_canTake_6 ⟨Nat.zero_le _, Nat.zero_le _⟩ ?_
  exact W.zret hx hb hr (wk_nz _) (fun t ht _ => wk_ret (congrArg Value.int rfl) ht) wk_nil dX5_canTake_9

abbrev rmt_X5_canTake : Room := { frames := 7, cells := 1, slots := 6, locals := 111 }
set_option maxHeartbeats 4000000 in
set_option maxRecDepth 100000 in
theorem t_X5_canTake (l : Launch) (hlf : l.stackTraces = false) (E : wk_E) {T : Nat → Nat × Nat} {X : z_X} {σ : z_S} {H : Heap} (hA : DA E T X σ H) (hI : z_Ok σ) {x : Int32} (hbad : v_ix x (z_n σ 2) = false) : wx_Met l yX5_canTake wsX5_canTake rmt_X5_canTake E H [.ref (X.1 0 0), .int x] "java/lang/IndexOutOfBoundsException" := by
  refine vx_ofW (cc := cX5_canTake) (maxL := 2) (ret := (some .boolean)) (by decide) rfl ?_
  intro p e s m args below meth c s₁ B hml htab hv
  obtain ⟨rfl, hH, hV⟩ := hv
  subst hH
  have hK := hV.k
  have hx := B.exec
  have hb := B.bytes
  have hr := B.returns
  have hts := atoms_spec (ws := wsX5_canTake) B.pre
  have hown : s.vm.findClass RX5 = some m.cls := findClass_of_methodNamed B.named
  have hlocks := B.notSynchronized
  have hl := lv_entry [.ref (X.1 0 0), .int x] (n := 2) (Nat.le_of_ble_eq_true rfl)
  rw [lg_entry_eq]
  generalize (lg_sl [.ref (X.1 0 0), .int x] ++ List.replicate (2 - (lg_sl [.ref (X.1 0 0), .int x]).length) Slot.unset).toArray = ls at hl ⊢
  have hl : lv_has ls 2 [(0, .ref (X.1 0 0)), (1, .int x)] := hl
  have b0 := hI.n0
  have b1 := hI.n1
  have b2 := hI.n2
  have b3 := hI.n3
  refine lv_aload_n hx hb dX5_canTake_0 rfl (lv_at hl 0 rfl) ?_
  refine lv_aload_n hx hb dX5_canTake_1 rfl (lv_at hl 0 rfl) ?_
  refine lv_iload_n hx hb dX5_canTake_2 rfl (lv_at hl 1 rfl) ?_
  refine wx_V (As := [.int x]) (rest := [.ref (X.1 0 0)]) ⟨hx, hb, hml, hown, hts⟩ (t_X5_passAt l hlf E hA hI hbad) (cwV 1 hts gX5_canTake_X5_passAt rfl rfl rfl (by decide +kernel) ⟨(Nat.le_of_ble_eq_true rfl), (Nat.le_of_ble_eq_true rfl)⟩) (wk_recv hK hA.desk rfl) hV rfl hl.1 rfl (Nat.le_of_ble_eq_true rfl) dX5_canTake_3 ⟨(Nat.le_of_ble_eq_true rfl), (Nat.le_of_ble_eq_true rfl)⟩ (fun ce q9 H1 hz9 hk9 hc9 hv9 hcl9 => ?_)
  exact wx_out htab hlocks hz9 hk9 hc9 hv9 hcl9

abbrev rmX5_weight : Room := { frames := 3, cells := 0, slots := 0, locals := 64 }
set_option maxHeartbeats 4000000 in
set_option maxRecDepth 100000 in
theorem c_X5_weight (l : Launch) (E : wk_E) {T : Nat → Nat × Nat} {X : z_X} {σ : z_S} {H : Heap} (hA : DA E T X σ H) (hI : z_Ok σ) {w : Nat} (hw : w < 2 ^ z_n σ 2) : wk_Met l yX5_weight wsX5_weight rmX5_weight E H [.ref (X.1 0 0), .int (nI w)] (some (.int (f_weight σ w))) := by
  refine Met.ofW (cc := cX5_weight) (maxL := 4) (ret := (some .int)) (by decide) rfl ?_
  intro p e s m args below meth c s₁ B hml hv
  obtain ⟨rfl, hH, hK⟩ := hv
  subst hH
  have hx := B.exec
  have hb := B.bytes
  have hr := B.returns
  have hts := atoms_spec (ws := wsX5_weight) B.pre
  have hown : s.vm.findClass RX5 = some m.cls := findClass_of_methodNamed B.named
  have hlocks := B.notSynchronized
  have i_X5 : ∀ w ∈ u_ws RX5 TX5 7, w ∈ wsX5_weight := fun w h => (List.mem_cons_of_mem _ (List.mem_append_left _ (List.mem_append_left _ (List.mem_append_left _ (List.mem_append_left _ (List.mem_append_right _ h))))))
  have hl := lv_entry [.ref (X.1 0 0), .int (nI w)] (n := 4) (Nat.le_of_ble_eq_true rfl)
  rw [lg_entry_eq]
  generalize (lg_sl [.ref (X.1 0 0), .int (nI w)] ++ List.replicate (4 - (lg_sl [.ref (X.1 0 0), .int (nI w)]).length) Slot.unset).toArray = ls at hl ⊢
  have hl : lv_has ls 4 [(0, .ref (X.1 0 0)), (1, .int (nI w))] := hl
  have b0 := hI.n0
  have b1 := hI.n1
  have b2 := hI.n2
  have b3 := hI.n3
  refine lv_aload_n hx hb dX5_weight_0 rfl (lv_at hl 0 rfl) ?_
  refine lv_iload_n hx hb dX5_weight_1 rfl (lv_at hl 1 rfl) ?_
  refine wk_Vv (As := [.int (nI w)]) (rest := []) ⟨hx, hb, hml, hown, hts⟩ (c_X5_checkSet l E hA hI (v_set_nI hI.n2 hw)) (cwV 1 hts gX5_weight_X5_checkSet rfl rfl rfl (by decide +kernel) ⟨(Nat.le_of_ble_eq_true rfl), (Nat.le_of_ble_eq_true rfl)⟩) (wk_recv hK hA.desk rfl) hK rfl hl.1 rfl (Nat.le_of_ble_eq_true rfl) dX5_weight_2 ⟨Nat.zero_le _, Nat.zero_le _⟩ ?_
  refine lv_iconst (v := 0) hx hb dX5_weight_5 (by decide) ?_
  refine lv_istore_n (lv' := [(2, .int 0), (0, .ref (X.1 0 0)), (1, .int (nI w))]) hx hb dX5_weight_6 rfl hl (by decide) rfl (fun ls hl => ?_)
  refine lv_iconst (v := 0) hx hb dX5_weight_7 (by decide) ?_
  refine lv_istore_n (lv' := [(3, .int 0), (2, .int 0), (0, .ref (X.1 0 0)), (1, .int (nI w))]) hx hb dX5_weight_8 rfl hl (by decide) rfl (fun ls hl => ?_)
  have L_9 : ∀ (n_9 : Nat) (k : Nat), z_n σ 2 - k < n_9 → (k ≤ z_n σ 2) → ∀ ls : Array Slot, lv_has ls 4 [(0, .ref (X.1 0 0)), (1, .int (nI w)), (2, .int (f_sumw σ w k)), (3, .int (nI k))] → W p l e (headSpec wsX5_weight rmX5_weight).room s m ([.ref (X.1 0 0), .int (nI w)] : List Value).toArray below meth c s.heap [] 0 0 (MQ below (wk_Q (some (.int (f_weight σ w)))) ([.ref (X.1 0 0), .int (nI w)] : List Value).toArray s 0 0 (fun _ => False)) (F0 m 9 ls []) := by
    intro n_9
    induction n_9 with
    | zero => intro k hm; exact absurd hm (Nat.not_lt_zero _)
    | succ n_9 ih_9 =>
      intro k hm_9 hk_k ls hl
      refine lv_iload_n hx hb dX5_weight_9 rfl (lv_at hl 3 rfl) ?_
      refine lv_aload_n hx hb dX5_weight_10 rfl (lv_at hl 0 rfl) ?_
      refine wk_get (own := RX5) (C := RX5) (T := TX5) (N := 7) (ci := 6) (v := .ref (X.1 1 2)) hx hb hts i_X5 hown hK hA.desk rfl 2 (by decide) (hts _ (List.mem_of_getElem? (i := 1) rfl)) (fun _ h9 => h9) rfl dX5_weight_11 ?_
      refine wk_V (As := []) (rest := [.int (nI k)]) ⟨hx, hb, hml, hown, hts⟩ (c_size2 l E hA) (cwV 0 hts gX5_weight_Jx4a65c_size_8abf5 rfl rfl rfl (by decide +kernel) ⟨(Nat.le_of_ble_eq_true rfl), (Nat.le_of_ble_eq_true rfl)⟩) (wk_recv hK (hA.list (j := 2) (by decide)) rfl) hK rfl hl.1 rfl (Nat.le_of_ble_eq_true rfl) dX5_weight_14 ⟨Nat.zero_le _, Nat.zero_le _⟩ ?_
      refine lv_icmp_ge (tgt := 51) hx hb dX5_weight_17 (by decide) (fun c_17 => ?_) (fun c_17 => ?_)
      · skip
        have e_17 : (z_n σ 2) ≤ k := wk_cget (by omega) (by omega) c_17
        have hkN : k = z_n σ 2 := by omega
        refine lv_iload_n hx hb dX5_weight_51 rfl (lv_at hl 2 rfl) ?_
        exact W.iret hx hb hr (fun t ht _ => wk_ret (congrArg Value.int (by rw [hkN]; rfl)) ht) wk_nil dX5_weight_52
      have e_17 : k < (z_n σ 2) := wk_cgef (by omega) (by omega) c_17
      refine lv_iload_n hx hb dX5_weight_20 rfl (lv_at hl 1 rfl) ?_
      refine lv_iload_n hx hb dX5_weight_21 rfl (lv_at hl 3 rfl) ?_
      refine wk_S (As := [.int (nI w), .int (nI k)]) (rest := []) ⟨hx, hb, hml, hown, hts⟩ (c_X5_contains l E (mm := w) (k := k) (by omega)) (va_cwS 2 hts gX5_weight_X5_contains rfl rfl rfl (by decide +kernel) ⟨(Nat.le_of_ble_eq_true rfl), (Nat.le_of_ble_eq_true rfl)⟩) hK rfl hl.1 rfl (Nat.le_of_ble_eq_true rfl) dX5_weight_22 ⟨Nat.zero_le _, Nat.zero_le _⟩ ?_
      refine lv_if_eq (tgt := 45) hx hb dX5_weight_25 (by decide) (fun c_25 => ?_) (fun c_25 => ?_)
      · skip
        have e_25 : (Nat.testBit w k) = false := wk_b0 c_25
        refine lv_iinc (v := nI (k + 1)) (lv' := [(3, .int (nI (k + 1))), (0, .ref (X.1 0 0)), (1, .int (nI w)), (2, .int (f_sumw σ w k))]) hx hb dX5_weight_45 hl (k := 3) rfl (nI_1 _) (by decide) rfl (fun ls hl => ?_)
        refine lv_goto (tgt := 9) hx hb dX5_weight_48 (by decide) ?_
        have hl : lv_has ls 4 [(3, .int (nI (k + 1))), (0, .ref (X.1 0 0)), (1, .int (nI w)), (2, .int (f_sumw σ w (k + 1)))] := by rw [show f_sumw σ w (k + 1) = f_sumw σ w k from (by simp [f_sumw, e_25])]; exact hl
        exact ih_9 (k + 1) (by omega) (by omega) ls (lv_sub hl [1, 2, 3, 0] rfl)
      have e_25 : (Nat.testBit w k) = true := wk_b1 c_25
      refine lv_iload_n hx hb dX5_weight_28 rfl (lv_at hl 2 rfl) ?_
      refine lv_aload_n hx hb dX5_weight_29 rfl (lv_at hl 0 rfl) ?_
      refine wk_get (own := RX5) (C := RX5) (T := TX5) (N := 7) (ci := 6) (v := .ref (X.1 1 2)) hx hb hts i_X5 hown hK hA.desk rfl 2 (by decide) (hts _ (List.mem_of_getElem? (i := 1) rfl)) (fun _ h9 => h9) rfl dX5_weight_30 ?_
      refine lv_iload_n hx hb dX5_weight_33 rfl (lv_at hl 3 rfl) ?_
      refine wk_V (As := [.int (nI k)]) (rest := [.int (f_sumw σ w k)]) ⟨hx, hb, hml, hown, hts⟩ (c_get2 l E hA hI e_17) (cwV 1 hts gX5_weight_Jx4a65c_get_915e3 rfl rfl rfl (by decide +kernel) ⟨(Nat.le_of_ble_eq_true rfl), (Nat.le_of_ble_eq_true rfl)⟩) (wk_recv hK (hA.list (j := 2) (by decide)) rfl) hK rfl hl.1 rfl (Nat.le_of_ble_eq_true rfl) dX5_weight_34 ⟨Nat.zero_le _, Nat.zero_le _⟩ ?_
      refine va_castS (own := RX5) hx hb hown (hts _ (List.mem_of_getElem? (i := 2) rfl)) (hK.1.1 3 _ rfl).2 (wk_recv hK (hA.pass e_17) rfl) dX5_weight_37 ?_
      refine wk_V (As := []) (rest := [.int (f_sumw σ w k)]) ⟨hx, hb, hml, hown, hts⟩ (c_X2_worth l E hA hI e_17) (cwV 0 hts gX5_weight_X2_worth rfl rfl rfl (by decide +kernel) ⟨(Nat.le_of_ble_eq_true rfl), (Nat.le_of_ble_eq_true rfl)⟩) (wk_recv hK (hA.pass e_17) rfl) hK rfl hl.1 rfl (Nat.le_of_ble_eq_true rfl) dX5_weight_40 ⟨Nat.zero_le _, Nat.zero_le _⟩ ?_
      refine lv_iadd hx hb dX5_weight_43 ?_
      refine lv_istore_n (lv' := [(2, .int ((f_sumw σ w k) + (f_worth σ k))), (0, .ref (X.1 0 0)), (1, .int (nI w)), (3, .int (nI k))]) hx hb dX5_weight_44 rfl hl (by decide) rfl (fun ls hl => ?_)
      refine lv_iinc (v := nI (k + 1)) (lv' := [(3, .int (nI (k + 1))), (2, .int ((f_sumw σ w k) + (f_worth σ k))), (0, .ref (X.1 0 0)), (1, .int (nI w))]) hx hb dX5_weight_45 hl (k := 3) rfl (nI_1 _) (by decide) rfl (fun ls hl => ?_)
      refine lv_goto (tgt := 9) hx hb dX5_weight_48 (by decide) ?_
      have hl : lv_has ls 4 [(3, .int (nI (k + 1))), (2, .int (f_sumw σ w (k + 1))), (0, .ref (X.1 0 0)), (1, .int (nI w))] := by rw [show f_sumw σ w (k + 1) = (f_sumw σ w k) + (f_worth σ k) from (by simp [f_sumw, e_25])]; exact hl
      exact ih_9 (k + 1) (by omega) (by omega) ls (lv_sub hl [2, 3, 1, 0] rfl)
  exact L_9 _ 0 (Nat.lt_succ_self _) (Nat.zero_le _) ls (lv_sub hl [2, 3, 1, 0] rfl)

abbrev rmt_X5_weight : Room := { frames := 7, cells := 1, slots := 6, locals := 111 }
set_option maxHeartbeats 4000000 in
set_option maxRecDepth 100000 in
theorem t_X5_weight (l : Launch) (hlf : l.stackTraces = false) (E : wk_E) {T : Nat → Nat × Nat} {X : z_X} {σ : z_S} {H : Heap} (hA : DA E T X σ H) (hI : z_Ok σ) {x : Int32} (hbad : v_set x (z_n σ 2) = false) : wx_Met l yX5_weight wsX5_weight rmt_X5_weight E H [.ref (X.1 0 0), .int x] "java/lang/IllegalArgumentException" := by
  refine vx_ofW (cc := cX5_weight) (maxL := 4) (ret := (some .int)) (by decide) rfl ?_
  intro p e s m args below meth c s₁ B hml htab hv
  obtain ⟨rfl, hH, hV⟩ := hv
  subst hH
  have hK := hV.k
  have hx := B.exec
  have hb := B.bytes
  have hr := B.returns
  have hts := atoms_spec (ws := wsX5_weight) B.pre
  have hown : s.vm.findClass RX5 = some m.cls := findClass_of_methodNamed B.named
  have hlocks := B.notSynchronized
  have hl := lv_entry [.ref (X.1 0 0), .int x] (n := 4) (Nat.le_of_ble_eq_true rfl)
  rw [lg_entry_eq]
  generalize (lg_sl [.ref (X.1 0 0), .int x] ++ List.replicate (4 - (lg_sl [.ref (X.1 0 0), .int x]).length) Slot.unset).toArray = ls at hl ⊢
  have hl : lv_has ls 4 [(0, .ref (X.1 0 0)), (1, .int x)] := hl
  have b0 := hI.n0
  have b1 := hI.n1
  have b2 := hI.n2
  have b3 := hI.n3
  refine lv_aload_n hx hb dX5_weight_0 rfl (lv_at hl 0 rfl) ?_
  refine lv_iload_n hx hb dX5_weight_1 rfl (lv_at hl 1 rfl) ?_
  refine wx_V (As := [.int x]) (rest := []) ⟨hx, hb, hml, hown, hts⟩ (t_X5_checkSet l hlf E hA hI hbad) (cwV 1 hts gX5_weight_X5_checkSet rfl rfl rfl (by decide +kernel) ⟨(Nat.le_of_ble_eq_true rfl), (Nat.le_of_ble_eq_true rfl)⟩) (wk_recv hK hA.desk rfl) hV rfl hl.1 rfl (Nat.le_of_ble_eq_true rfl) dX5_weight_2 ⟨(Nat.le_of_ble_eq_true rfl), (Nat.le_of_ble_eq_true rfl)⟩ (fun ce q9 H1 hz9 hk9 hc9 hv9 hcl9 => ?_)
  exact wx_out htab hlocks hz9 hk9 hc9 hv9 hcl9
