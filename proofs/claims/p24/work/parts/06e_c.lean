abbrev rmX5_weight : Room := { frames := 3, cells := 0, slots := 0, locals := 64 }
set_option maxHeartbeats 4000000 in
set_option maxRecDepth 100000 in
theorem c_X5_weight (l : Launch) (E : wk_E) {T : Nat → Nat × Nat} {X : z_X} {σ : z_S} {H : Heap} (hA : DA E T X σ H) (hI : z_Ok σ) {w : Nat} (hw : w < 2 ^ z_n σ 2) : wk_Met l yX5_weight wsX5_weight rmX5_weight E H [.ref (X.1 0 0), .int (nI w)] (some (.int (f_weight σ w))) := by
  refine Met.ofW (cc := cX5_weight) (maxL := 4) (ret := (some .int)) (by decide) rfl ?_
  intro p e s m args below meth c s₁ B hml hv
  obtain ⟨rfl, hH, hK⟩ := hv
  subst hH
  have hx := B.exec
  have hb := B.bytes
  have hr := B.returns
  have hts := atoms_spec (ws := wsX5_weight) B.pre
  have hown : s.vm.findClass RX5 = some m.cls := findClass_of_methodNamed B.named
  have hlocks := B.notSynchronized
  have i_X5 : ∀ w ∈ u_ws RX5 TX5 7, w ∈ wsX5_weight := fun w h => (List.mem_cons_of_mem _ (List.mem_append_left _ (List.mem_append_left _ (List.mem_append_left _ (List.mem_append_left _ (List.mem_append_right _ h))))))
  have hl := lv_entry [.ref (X.1 0 0), .int (nI w)] (n := 4) (Nat.le_of_ble_eq_true rfl)
  rw [lg_entry_eq]
  generalize (lg_sl [.ref (X.1 0 0), .int (nI w)] ++ List.replicate (4 - (lg_sl [.ref (X.1 0 0), .int (nI w)]).length) Slot.unset).toArray = ls at hl ⊢
  have hl : lv_has ls 4 [(0, .ref (X.1 0 0)), (1, .int (nI w))] := hl
  have b0 := hI.n0
  have b1 := hI.n1
  have b2 := hI.n2
  have b3 := hI.n3
  refine lv_aload_n hx hb dX5_weight_0 rfl (lv_at hl 0 rfl) ?_
  refine lv_iload_n hx hb dX5_weight_1 rfl (lv_at hl 1 rfl) ?_
  refine wk_Vv (As := [.int (nI w)]) (rest := []) ⟨hx, hb, hml, hown, hts⟩ (c_X5_checkSet l E hA hI (v_set_nI hI.n2 hw)) (cwV 1 hts gX5_weight_X5_checkSet rfl rfl rfl (by decide +kernel) ⟨(Nat.le_of_ble_eq_true rfl), (Nat.le_of_ble_eq_true rfl)⟩) (wk_recv hK hA.desk rfl) hK rfl hl.1 rfl (Nat.le_of_ble_eq_true rfl) dX5_weight_2 ⟨Nat.zero_le _, Nat.zero_le _⟩ ?_
  refine lv_iconst (v := 0) hx hb dX5_weight_5 (by decide) ?_
  refine lv_istore_n (lv' := [(2, .int 0), (0, .ref (X.1 0 0)), (1, .int (nI w))]) hx hb dX5_weight_6 rfl hl (by decide) rfl (fun ls hl => ?_)
  refine lv_iconst (v := 0) hx hb dX5_weight_7 (by decide) ?_
  refine lv_istore_n (lv' := [(3, .int 0), (2, .int 0), (0, .ref (X.1 0 0)), (1, .int (nI w))]) hx hb dX5_weight_8 rfl hl (by decide) rfl (fun ls hl => ?_)
  have L_9 : ∀ (n_9 : Nat) (k : Nat), z_n σ 2 - k < n_9 → (k ≤ z_n σ 2) → ∀ ls : Array Slot, lv_has ls 4 [(0, .ref (X.1 0 0)), (1, .int (nI w)), (2, .int (f_sumw σ w k)), (3, .int (nI k))] → W p l e (headSpec wsX5_weight rmX5_weight).room s m ([.ref (X.1 0 0), .int (nI w)] : List Value).toArray below meth c s.heap [] 0 0 (MQ below (wk_Q (some (.int (f_weight σ w)))) ([.ref (X.1 0 0), .int (nI w)] : List Value).toArray s 0 0 (fun _ => False)) (F0 m 9 ls []) := by
    intro n_9
    induction n_9 with
    | zero => intro k hm; exact absurd hm (Nat.not_lt_zero _)
    | succ n_9 ih_9 =>
      intro k hm_9 hk_k ls hl
      refine lv_iload_n hx hb dX5_weight_9 rfl (lv_at hl 3 rfl) ?_
      refine lv_aload_n hx hb dX5_weight_10 rfl (lv_at hl 0 rfl) ?_
      refine wk_get (own := RX5) (C := RX5) (T := TX5) (N := 7) (ci := 6) (v := .ref (X.1 1 2)) hx hb hts i_X5 hown hK hA.desk rfl 2 (by decide) (hts _ (List.mem_of_getElem? (i := 1) rfl)) (fun _ h9 => h9) rfl dX5_weight_11 ?_
      refine wk_V (As := []) (rest := [.int (nI k)]) ⟨hx, hb, hml, hown, hts⟩ (c_size2 l E hA) (cwV 0 hts gX5_weight_Jx4a65c_size_8abf5 rfl rfl rfl (by decide +kernel) ⟨(Nat.le_of_ble_eq_true rfl), (Nat.le_of_ble_eq_true rfl)⟩) (wk_recv hK (hA.list (j := 2) (by decide)) rfl) hK rfl hl.1 rfl (Nat.le_of_ble_eq_true rfl) dX5_weight_14 ⟨Nat.zero_le _, Nat.zero_le _⟩ ?_
      refine lv_icmp_ge (tgt := 51) hx hb dX5_weight_17 (by decide) (fun c_17 => ?_) (fun c_17 => ?_)
      · skip
        have e_17 : (z_n σ 2) ≤ k := wk_cget (by omega) (by omega) c_17
        have hkN : k = z_n σ 2 := by omega
        refine lv_iload_n hx hb dX5_weight_51 rfl (lv_at hl 2 rfl) ?_
        exact W.iret hx hb hr (fun t ht _ => wk_ret (congrArg Value.int (by rw [hkN]; rfl)) ht) wk_nil dX5_weight_52
      have e_17 : k < (z_n σ 2) := wk_cgef (by omega) (by omega) c_17
      refine lv_iload_n hx hb dX5_weight_20 rfl (lv_at hl 1 rfl) ?_
      refine lv_iload_n hx hb dX5_weight_21 rfl (lv_at hl 3 rfl) ?_
      refine wk_S (As := [.int (nI w), .int (nI k)]) (rest := []) ⟨hx, hb, hml, hown, hts⟩ (c_X5_contains l E (mm := w) (k := k) (by omega)) (va_cwS 2 hts gX5_weight_X5_contains rfl rfl rfl (by decide +kernel) ⟨(Nat.le_of_ble_eq_true rfl), (Nat.le_of_ble_eq_true rfl)⟩) hK rfl hl.1 rfl (Nat.le_of_ble_eq_true rfl) dX5_weight_22 ⟨Nat.zero_le _, Nat.zero_le _⟩ ?_
      refine lv_if_eq (tgt := 45) hx hb dX5_weight_25 (by decide) (fun c_25 => ?_) (fun c_25 => ?_)
      · skip
        have e_25 : (Nat.testBit w k) = false := wk_b0 c_25
        refine lv_iinc (v := nI (k + 1)) (lv' := [(3, .int (nI (k + 1))), (0, .ref (X.1 0 0)), (1, .int (nI w)), (2, .int (f_sumw σ w k))]) hx hb dX5_weight_45 hl (k := 3) rfl (nI_1 _) (by decide) rfl (fun ls hl => ?_)
        refine lv_goto (tgt := 9) hx hb dX5_weight_48 (by decide) ?_
        have hl : lv_has ls 4 [(3, .int (nI (k + 1))), (0, .ref (X.1 0 0)), (1, .int (nI w)), (2, .int (f_sumw σ w (k + 1)))] := by rw [show f_sumw σ w (k + 1) = f_sumw σ w k from (by simp [f_sumw, e_25])]; exact hl
        exact ih_9 (k + 1) (by omega) (by omega) ls (lv_sub hl [1, 2, 3, 0] rfl)
      have e_25 : (Nat.testBit w k) = true := wk_b1 c_25
      refine lv_iload_n hx hb dX5_weight_28 rfl (lv_at hl 2 rfl) ?_
      refine lv_aload_n hx hb dX5_weight_29 rfl (lv_at hl 0 rfl) ?_
      refine wk_get (own := RX5) (C := RX5) (T := TX5) (N := 7) (ci := 6) (v := .ref (X.1 1 2)) hx hb hts i_X5 hown hK hA.desk rfl 2 (by decide) (hts _ (List.mem_of_getElem? (i := 1) rfl)) (fun _ h9 => h9) rfl dX5_weight_30 ?_
      refine lv_iload_n hx hb dX5_weight_33 rfl (lv_at hl 3 rfl) ?_
      refine wk_V (As := [.int (nI k)]) (rest := [.int (f_sumw σ w k)]) ⟨hx, hb, hml, hown, hts⟩ (c_get2 l E hA hI e_17) (cwV 1 hts gX5_weight_Jx4a65c_get_915e3 rfl rfl rfl (by decide +kernel) ⟨(Nat.le_of_ble_eq_true rfl), (Nat.le_of_ble_eq_true rfl)⟩) (wk_recv hK (hA.list (j := 2) (by decide)) rfl) hK rfl hl.1 rfl (Nat.le_of_ble_eq_true rfl) dX5_weight_34 ⟨Nat.zero_le _, Nat.zero_le _⟩ ?_
      refine va_castS (own := RX5) hx hb hown (hts _ (List.mem_of_getElem? (i := 2) rfl)) (hK.1.1 3 _ rfl).2 (wk_recv hK (hA.pass e_17) rfl) dX5_weight_37 ?_
      refine wk_V (As := []) (rest := [.int (f_sumw σ w k)]) ⟨hx, hb, hml, hown, hts⟩ (c_X2_worth l E hA hI e_17) (cwV 0 hts gX5_weight_X2_worth rfl rfl rfl (by decide +kernel) ⟨(Nat.le_of_ble_eq_true rfl), (Nat.le_of_ble_eq_true rfl)⟩) (wk_recv hK (hA.pass e_17) rfl) hK rfl hl.1 rfl (Nat.le_of_ble_eq_true rfl) dX5_weight_40 ⟨Nat.zero_le _, Nat.zero_le _⟩ ?_
      refine lv_iadd hx hb dX5_weight_43 ?_
      refine lv_istore_n (lv' := [(2, .int ((f_sumw σ w k) + (f_worth σ k))), (0, .ref (X.1 0 0)), (1, .int (nI w)), (3, .int (nI k))]) hx hb dX5_weight_44 rfl hl (by decide) rfl (fun ls hl => ?_)
      refine lv_iinc (v := nI (k + 1)) (lv' := [(3, .int (nI (k + 1))), (2, .int ((f_sumw σ w k) + (f_worth σ k))), (0, .ref (X.1 0 0)), (1, .int (nI w))]) hx hb dX5_weight_45 hl (k := 3) rfl (nI_1 _) (by decide) rfl (fun ls hl => ?_)
      refine lv_goto (tgt := 9) hx hb dX5_weight_48 (by decide) ?_
      have hl : lv_has ls 4 [(3, .int (nI (k + 1))), (2, .int (f_sumw σ w (k + 1))), (0, .ref (X.1 0 0)), (1, .int (nI w))] := by rw [show f_sumw σ w (k + 1) = (f_sumw σ w k) + (f_worth σ k) from (by simp [f_sumw, e_25])]; exact hl
      exact ih_9 (k + 1) (by omega) (by omega) ls (lv_sub hl [2, 3, 1, 0] rfl)
  exact L_9 _ 0 (Nat.lt_succ_self _) (Nat.zero_le _) ls (lv_sub hl [2, 3, 1, 0] rfl)

abbrev rmX5_taken : Room := { frames := 4, cells := 0, slots := 0, locals := 86 }
set_option maxHeartbeats 4000000 in
set_option maxRecDepth 100000 in
theorem c_X5_taken (l : Launch) (E : wk_E) {T : Nat → Nat × Nat} {X : z_X} {σ : z_S} {H : Heap} (hA : DA E T X σ H) (hI : z_Ok σ)  : wk_Met l yX5_taken wsX5_taken rmX5_taken E H [.ref (X.1 0 0)] (some (.int (nI (z_mk σ)))) := by
  refine Met.ofW (cc := cX5_taken) (maxL := 1) (ret := (some .int)) (by decide) rfl ?_
  intro p e s m args below meth c s₁ B hml hv
  obtain ⟨rfl, hH, hK⟩ := hv
  subst hH
  have hx := B.exec
  have hb := B.bytes
  have hr := B.returns
  have hts := atoms_spec (ws := wsX5_taken) B.pre
  have hown : s.vm.findClass RX5 = some m.cls := findClass_of_methodNamed B.named
  have hlocks := B.notSynchronized
  have hl := lv_entry [.ref (X.1 0 0)] (n := 1) (Nat.le_of_ble_eq_true rfl)
  rw [lg_entry_eq]
  generalize (lg_sl [.ref (X.1 0 0)] ++ List.replicate (1 - (lg_sl [.ref (X.1 0 0)]).length) Slot.unset).toArray = ls at hl ⊢
  have hl : lv_has ls 1 [(0, .ref (X.1 0 0))] := hl
  have b0 := hI.n0
  have b1 := hI.n1
  have b2 := hI.n2
  have b3 := hI.n3
  refine lv_aload_n hx hb dX5_taken_0 rfl (lv_at hl 0 rfl) ?_
  refine wk_V (As := []) (rest := []) ⟨hx, hb, hml, hown, hts⟩ (c_X5_takenSet l E hA hI) (cwV 0 hts gX5_taken_X5_takenSet rfl rfl rfl (by decide +kernel) ⟨(Nat.le_of_ble_eq_true rfl), (Nat.le_of_ble_eq_true rfl)⟩) (wk_recv hK hA.desk rfl) hK rfl hl.1 rfl (Nat.le_of_ble_eq_true rfl) dX5_taken_1 ⟨Nat.zero_le _, Nat.zero_le _⟩ ?_
  exact W.iret hx hb hr (fun t ht _ => wk_ret (congrArg Value.int rfl) ht) wk_nil dX5_taken_4

abbrev rmX5_areFreeTogether : Room := { frames := 5, cells := 0, slots := 0, locals := 108 }
set_option maxHeartbeats 4000000 in
set_option maxRecDepth 100000 in
theorem c_X5_areFreeTogether (l : Launch) (E : wk_E) {T : Nat → Nat × Nat} {X : z_X} {σ : z_S} {H : Heap} (hA : DA E T X σ H) (hI : z_Ok σ) {w : Nat} (hw : w < 2 ^ z_n σ 2) : wk_Met l yX5_areFreeTogether wsX5_areFreeTogether rmX5_areFreeTogether E H [.ref (X.1 0 0), .int (nI w)] (some (.int (wk_b (f_tog σ w)))) := by
  refine Met.ofW (cc := cX5_areFreeTogether) (maxL := 4) (ret := (some .boolean)) (by decide) rfl ?_
  intro p e s m args below meth c s₁ B hml hv
  obtain ⟨rfl, hH, hK⟩ := hv
  subst hH
  have hx := B.exec
  have hb := B.bytes
  have hr := B.returns
  have hts := atoms_spec (ws := wsX5_areFreeTogether) B.pre
  have hown : s.vm.findClass RX5 = some m.cls := findClass_of_methodNamed B.named
  have hlocks := B.notSynchronized
  have i_X5 : ∀ w ∈ u_ws RX5 TX5 7, w ∈ wsX5_areFreeTogether := fun w h => (List.mem_cons_of_mem _ (List.mem_append_left _ (List.mem_append_left _ (List.mem_append_left _ (List.mem_append_right _ h)))))
  have hl := lv_entry [.ref (X.1 0 0), .int (nI w)] (n := 4) (Nat.le_of_ble_eq_true rfl)
  rw [lg_entry_eq]
  generalize (lg_sl [.ref (X.1 0 0), .int (nI w)] ++ List.replicate (4 - (lg_sl [.ref (X.1 0 0), .int (nI w)]).length) Slot.unset).toArray = ls at hl ⊢
  have hl : lv_has ls 4 [(0, .ref (X.1 0 0)), (1, .int (nI w))] := hl
  have b0 := hI.n0
  have b1 := hI.n1
  have b2 := hI.n2
  have b3 := hI.n3
  refine lv_iconst (v := 0) hx hb dX5_areFreeTogether_0 (by decide) ?_
  refine lv_istore_n (lv' := [(2, .int 0), (0, .ref (X.1 0 0)), (1, .int (nI w))]) hx hb dX5_areFreeTogether_1 rfl hl (by decide) rfl (fun ls hl => ?_)
  have L_2 : ∀ (n_2 : Nat) (k : Nat), z_n σ 2 - k < n_2 → (k ≤ z_n σ 2) → (f_any (f_notTog σ w) k = false) → ∀ ls : Array Slot, lv_has ls 4 [(0, .ref (X.1 0 0)), (1, .int (nI w)), (2, .int (nI k))] → W p l e (headSpec wsX5_areFreeTogether rmX5_areFreeTogether).room s m ([.ref (X.1 0 0), .int (nI w)] : List Value).toArray below meth c s.heap [] 0 0 (MQ below (wk_Q (some (.int (wk_b (f_tog σ w))))) ([.ref (X.1 0 0), .int (nI w)] : List Value).toArray s 0 0 (fun _ => False)) (F0 m 2 ls []) := by
    intro n_2
    induction n_2 with
    | zero => intro k hm; exact absurd hm (Nat.not_lt_zero _)
    | succ n_2 ih_2 =>
      intro k hm_2 hk_k hf ls hl
      refine lv_iload_n hx hb dX5_areFreeTogether_2 rfl (lv_at hl 2 rfl) ?_
      refine lv_aload_n hx hb dX5_areFreeTogether_3 rfl (lv_at hl 0 rfl) ?_
      refine wk_get (own := RX5) (C := RX5) (T := TX5) (N := 7) (ci := 6) (v := .ref (X.1 1 2)) hx hb hts i_X5 hown hK hA.desk rfl 2 (by decide) (hts _ (List.mem_of_getElem? (i := 1) rfl)) (fun _ h9 => h9) rfl dX5_areFreeTogether_4 ?_
      refine wk_V (As := []) (rest := [.int (nI k)]) ⟨hx, hb, hml, hown, hts⟩ (c_size2 l E hA) (cwV 0 hts gX5_areFreeTogether_Jx4a65c_size_8abf5 rfl rfl rfl (by decide +kernel) ⟨(Nat.le_of_ble_eq_true rfl), (Nat.le_of_ble_eq_true rfl)⟩) (wk_recv hK (hA.list (j := 2) (by decide)) rfl) hK rfl hl.1 rfl (Nat.le_of_ble_eq_true rfl) dX5_areFreeTogether_7 ⟨Nat.zero_le _, Nat.zero_le _⟩ ?_
      refine lv_icmp_ge (tgt := 59) hx hb dX5_areFreeTogether_10 (by decide) (fun c_10 => ?_) (fun c_10 => ?_)
      · skip
        have e_10 : (z_n σ 2) ≤ k := wk_cget (by omega) (by omega) c_10
        have hkN : k = z_n σ 2 := by omega
        refine lv_iconst (v := 1) hx hb dX5_areFreeTogether_59 (by decide) ?_
        exact W.zret hx hb hr rfl (fun t ht _ => wk_ret (congrArg Value.int ((wk_bt (by rw [f_tog, ← hkN, hf]; rfl)).symm)) ht) wk_nil dX5_areFreeTogether_60
      have e_10 : k < (z_n σ 2) := wk_cgef (by omega) (by omega) c_10
      refine lv_iload_n hx hb dX5_areFreeTogether_13 rfl (lv_at hl 1 rfl) ?_
      refine lv_iload_n hx hb dX5_areFreeTogether_14 rfl (lv_at hl 2 rfl) ?_
      refine wk_S (As := [.int (nI w), .int (nI k)]) (rest := []) ⟨hx, hb, hml, hown, hts⟩ (c_X5_contains l E (mm := w) (k := k) (by omega)) (va_cwS 2 hts gX5_areFreeTogether_X5_contains rfl rfl rfl (by decide +kernel) ⟨(Nat.le_of_ble_eq_true rfl), (Nat.le_of_ble_eq_true rfl)⟩) hK rfl hl.1 rfl (Nat.le_of_ble_eq_true rfl) dX5_areFreeTogether_15 ⟨Nat.zero_le _, Nat.zero_le _⟩ ?_
      refine lv_if_eq (tgt := 53) hx hb dX5_areFreeTogether_18 (by decide) (fun c_18 => ?_) (fun c_18 => ?_)
      · skip
        have e_18 : (Nat.testBit w k) = false := wk_b0 c_18
        refine lv_iinc (v := nI (k + 1)) (lv' := [(2, .int (nI (k + 1))), (0, .ref (X.1 0 0)), (1, .int (nI w))]) hx hb dX5_areFreeTogether_53 hl (k := 2) rfl (nI_1 _) (by decide) rfl (fun ls hl => ?_)
        refine lv_goto (tgt := 2) hx hb dX5_areFreeTogether_56 (by decide) ?_
        exact ih_2 (k + 1) (by omega) (by omega) (f_any_step hf (by simp [f_notTog, e_18])) ls (lv_sub hl [1, 2, 0] rfl)
      have e_18 : (Nat.testBit w k) = true := wk_b1 c_18
      refine lv_aload_n hx hb dX5_areFreeTogether_21 rfl (lv_at hl 0 rfl) ?_
      refine wk_get (own := RX5) (C := RX5) (T := TX5) (N := 7) (ci := 6) (v := .ref (X.1 1 2)) hx hb hts i_X5 hown hK hA.desk rfl 2 (by decide) (hts _ (List.mem_of_getElem? (i := 1) rfl)) (fun _ h9 => h9) rfl dX5_areFreeTogether_22 ?_
      refine lv_iload_n hx hb dX5_areFreeTogether_25 rfl (lv_at hl 2 rfl) ?_
      refine wk_V (As := [.int (nI k)]) (rest := []) ⟨hx, hb, hml, hown, hts⟩ (c_get2 l E hA hI e_10) (cwV 1 hts gX5_areFreeTogether_Jx4a65c_get_915e3 rfl rfl rfl (by decide +kernel) ⟨(Nat.le_of_ble_eq_true rfl), (Nat.le_of_ble_eq_true rfl)⟩) (wk_recv hK (hA.list (j := 2) (by decide)) rfl) hK rfl hl.1 rfl (Nat.le_of_ble_eq_true rfl) dX5_areFreeTogether_26 ⟨Nat.zero_le _, Nat.zero_le _⟩ ?_
      refine va_castS (own := RX5) hx hb hown (hts _ (List.mem_of_getElem? (i := 2) rfl)) (hK.1.1 3 _ rfl).2 (wk_recv hK (hA.pass e_10) rfl) dX5_areFreeTogether_29 ?_
      refine lv_astore_n (lv' := [(3, .ref (X.1 7 k)), (0, .ref (X.1 0 0)), (1, .int (nI w)), (2, .int (nI k))]) hx hb dX5_areFreeTogether_32 rfl hl (by decide) rfl (fun ls hl => ?_)
      refine lv_aload_n hx hb dX5_areFreeTogether_33 rfl (lv_at hl 1 rfl) ?_
      refine lv_aload_n hx hb dX5_areFreeTogether_34 rfl (lv_at hl 0 rfl) ?_
      refine wk_V (As := [.ref (X.1 7 k)]) (rest := []) ⟨hx, hb, hml, hown, hts⟩ (c_X5_isFree l E hA hI e_10) (cwV 1 hts gX5_areFreeTogether_X5_isFree rfl rfl rfl (by decide +kernel) ⟨(Nat.le_of_ble_eq_true rfl), (Nat.le_of_ble_eq_true rfl)⟩) (wk_recv hK hA.desk rfl) hK rfl hl.1 rfl (Nat.le_of_ble_eq_true rfl) dX5_areFreeTogether_35 ⟨Nat.zero_le _, Nat.zero_le _⟩ ?_
      refine lv_if_eq (tgt := 51) hx hb dX5_areFreeTogether_38 (by decide) (fun c_38 => ?_) (fun c_38 => ?_)
      · skip
        have e_38 : (f_free σ k) = false := wk_b0 c_38
        refine lv_iconst (v := 0) hx hb dX5_areFreeTogether_51 (by decide) ?_
        exact W.zret hx hb hr rfl (fun t ht _ => wk_ret (congrArg Value.int ((wk_bf (by rw [f_tog, f_any_yes e_10 (by simp [f_notTog, e_18, e_38])]; rfl)).symm)) ht) wk_nil dX5_areFreeTogether_52
      have e_38 : (f_free σ k) = true := wk_b1 c_38
      refine lv_aload_n hx hb dX5_areFreeTogether_41 rfl (lv_at hl 1 rfl) ?_
      refine lv_aload_n hx hb dX5_areFreeTogether_42 rfl (lv_at hl 0 rfl) ?_
      refine wk_V (As := [.ref (X.1 7 k)]) (rest := []) ⟨hx, hb, hml, hown, hts⟩ (c_X5_conflictsOf l E hA hI e_10) (cwV 1 hts gX5_areFreeTogether_X5_conflictsOf rfl rfl rfl (by decide +kernel) ⟨(Nat.le_of_ble_eq_true rfl), (Nat.le_of_ble_eq_true rfl)⟩) (wk_recv hK hA.desk rfl) hK rfl hl.1 rfl (Nat.le_of_ble_eq_true rfl) dX5_areFreeTogether_43 ⟨Nat.zero_le _, Nat.zero_le _⟩ ?_
      refine lv_iload_n hx hb dX5_areFreeTogether_46 rfl (lv_at hl 2 rfl) ?_
      refine lv_iand hx hb dX5_areFreeTogether_47 ?_
      refine wk_eqi (show (nI (f_cfl σ k)) &&& (nI w) = nI ((f_cfl σ k) &&& w) from fa_and (f_cfl σ k) w) ?_
      refine lv_if_eq (tgt := 53) hx hb dX5_areFreeTogether_48 (by decide) (fun c_48 => ?_) (fun c_48 => ?_)
      · skip
        have e_48 : ((f_cfl σ k) &&& w) = 0 := wk_ceqt (b := 0) (Nat.lt_of_le_of_lt Nat.and_le_left (f_cfl_lt hI k)) (by decide) c_48
        refine lv_iinc (v := nI (k + 1)) (lv' := [(2, .int (nI (k + 1))), (3, .ref (X.1 7 k)), (0, .ref (X.1 0 0)), (1, .int (nI w))]) hx hb dX5_areFreeTogether_53 hl (k := 3) rfl (nI_1 _) (by decide) rfl (fun ls hl => ?_)
        refine lv_goto (tgt := 2) hx hb dX5_areFreeTogether_56 (by decide) ?_
        exact ih_2 (k + 1) (by omega) (by omega) (f_any_step hf (by simp [f_notTog, e_18, e_38, e_48])) ls (lv_sub hl [2, 3, 0] rfl)
      have e_48 : ¬ ((f_cfl σ k) &&& w) = 0 := wk_ceqf (b := 0) (Nat.lt_of_le_of_lt Nat.and_le_left (f_cfl_lt hI k)) (by decide) c_48
      refine lv_iconst (v := 0) hx hb dX5_areFreeTogether_51 (by decide) ?_
      exact W.zret hx hb hr rfl (fun t ht _ => wk_ret (congrArg Value.int ((wk_bf (by rw [f_tog, f_any_yes e_10 (by simp [f_notTog, e_18, e_38, e_48])]; rfl)).symm)) ht) wk_nil dX5_areFreeTogether_52
  exact L_2 _ 0 (Nat.lt_succ_self _) (Nat.zero_le _) rfl ls (lv_sub hl [1, 2, 0] rfl)
