abbrev rmX5_takenSet : Room := { frames := 3, cells := 0, slots := 0, locals := 64 }
set_option maxHeartbeats 4000000 in
set_option maxRecDepth 100000 in
theorem c_X5_takenSet (l : Launch) (E : wk_E) {T : Nat → Nat × Nat} {X : z_X} {σ : z_S} {H : Heap} (hA : DA E T X σ H) (hI : z_Ok σ)  : wk_Met l yX5_takenSet wsX5_takenSet rmX5_takenSet E H [.ref (X.1 0 0)] (some (.int (nI (z_mk σ)))) := by
  refine Met.ofW (cc := cX5_takenSet) (maxL := 3) (ret := (some .int)) (by decide) rfl ?_
  intro p e s m args below meth c s₁ B hml hv
  obtain ⟨rfl, hH, hK⟩ := hv
  subst hH
  have hx := B.exec
  have hb := B.bytes
  have hr := B.returns
  have hts := atoms_spec (ws := wsX5_takenSet) B.pre
  have hown : s.vm.findClass RX5 = some m.cls := findClass_of_methodNamed B.named
  have hlocks := B.notSynchronized
  have i_X5 : ∀ w ∈ u_ws RX5 TX5 7, w ∈ wsX5_takenSet := fun w h => (List.mem_cons_of_mem _ (List.mem_append_left _ (List.mem_append_left _ (List.mem_append_right _ h))))
  have i_X2 : ∀ w ∈ u_ws RX2 TX2 7, w ∈ wsX5_takenSet := fun w h => (List.mem_cons_of_mem _ (List.mem_append_left _ (List.mem_append_right _ h)))
  have hl := lv_entry [.ref (X.1 0 0)] (n := 3) (Nat.le_of_ble_eq_true rfl)
  rw [lg_entry_eq]
  generalize (lg_sl [.ref (X.1 0 0)] ++ List.replicate (3 - (lg_sl [.ref (X.1 0 0)]).length) Slot.unset).toArray = ls at hl ⊢
  have hl : lv_has ls 3 [(0, .ref (X.1 0 0))] := hl
  have b0 := hI.n0
  have b1 := hI.n1
  have b2 := hI.n2
  have b3 := hI.n3
  refine lv_iconst (v := 0) hx hb dX5_takenSet_0 (by decide) ?_
  refine lv_istore_n (lv' := [(1, .int 0), (0, .ref (X.1 0 0))]) hx hb dX5_takenSet_1 rfl hl (by decide) rfl (fun ls hl => ?_)
  refine lv_iconst (v := 0) hx hb dX5_takenSet_2 (by decide) ?_
  refine lv_istore_n (lv' := [(2, .int 0), (1, .int 0), (0, .ref (X.1 0 0))]) hx hb dX5_takenSet_3 rfl hl (by decide) rfl (fun ls hl => ?_)
  have L_4 : ∀ (n_4 : Nat) (k : Nat), z_n σ 2 - k < n_4 → (k ≤ z_n σ 2) → ∀ ls : Array Slot, lv_has ls 3 [(0, .ref (X.1 0 0)), (1, .int (nI (f_set (fun k => z_tk σ k) k))), (2, .int (nI k))] → W p l e (headSpec wsX5_takenSet rmX5_takenSet).room s m ([.ref (X.1 0 0)] : List Value).toArray below meth c s.heap [] 0 0 (MQ below (wk_Q (some (.int (nI (z_mk σ))))) ([.ref (X.1 0 0)] : List Value).toArray s 0 0 (fun _ => False)) (F0 m 4 ls []) := by
    intro n_4
    induction n_4 with
    | zero => intro k hm; exact absurd hm (Nat.not_lt_zero _)
    | succ n_4 ih_4 =>
      intro k hm_4 hk_k ls hl
      refine lv_iload_n hx hb dX5_takenSet_4 rfl (lv_at hl 2 rfl) ?_
      refine lv_aload_n hx hb dX5_takenSet_5 rfl (lv_at hl 0 rfl) ?_
      refine wk_get (own := RX5) (C := RX5) (T := TX5) (N := 7) (ci := 6) (v := .ref (X.1 1 2)) hx hb hts i_X5 hown hK hA.desk rfl 2 (by decide) (hts _ (List.mem_of_getElem? (i := 1) rfl)) (fun _ h9 => h9) rfl dX5_takenSet_6 ?_
      refine wk_V (As := []) (rest := [.int (nI k)]) ⟨hx, hb, hml, hown, hts⟩ (c_size2 l E hA) (cwV 0 hts gX5_takenSet_Jx4a65c_size_8abf5 rfl rfl rfl (by decide +kernel) ⟨(Nat.le_of_ble_eq_true rfl), (Nat.le_of_ble_eq_true rfl)⟩) (wk_recv hK (hA.list (j := 2) (by decide)) rfl) hK rfl hl.1 rfl (Nat.le_of_ble_eq_true rfl) dX5_takenSet_9 ⟨Nat.zero_le _, Nat.zero_le _⟩ ?_
      refine lv_icmp_ge (tgt := 44) hx hb dX5_takenSet_12 (by decide) (fun c_12 => ?_) (fun c_12 => ?_)
      · skip
        have e_12 : (z_n σ 2) ≤ k := wk_cget (by omega) (by omega) c_12
        have hkN : k = z_n σ 2 := by omega
        refine lv_iload_n hx hb dX5_takenSet_44 rfl (lv_at hl 1 rfl) ?_
        exact W.iret hx hb hr (fun t ht _ => wk_ret (congrArg Value.int (by rw [hkN]; exact congrArg nI (f_set_self hI.mk))) ht) wk_nil dX5_takenSet_45
      have e_12 : k < (z_n σ 2) := wk_cgef (by omega) (by omega) c_12
      refine lv_aload_n hx hb dX5_takenSet_15 rfl (lv_at hl 0 rfl) ?_
      refine wk_get (own := RX5) (C := RX5) (T := TX5) (N := 7) (ci := 6) (v := .ref (X.1 1 2)) hx hb hts i_X5 hown hK hA.desk rfl 2 (by decide) (hts _ (List.mem_of_getElem? (i := 1) rfl)) (fun _ h9 => h9) rfl dX5_takenSet_16 ?_
      refine lv_iload_n hx hb dX5_takenSet_19 rfl (lv_at hl 2 rfl) ?_
      refine wk_V (As := [.int (nI k)]) (rest := []) ⟨hx, hb, hml, hown, hts⟩ (c_get2 l E hA hI e_12) (cwV 1 hts gX5_takenSet_Jx4a65c_get_915e3 rfl rfl rfl (by decide +kernel) ⟨(Nat.le_of_ble_eq_true rfl), (Nat.le_of_ble_eq_true rfl)⟩) (wk_recv hK (hA.list (j := 2) (by decide)) rfl) hK rfl hl.1 rfl (Nat.le_of_ble_eq_true rfl) dX5_takenSet_20 ⟨Nat.zero_le _, Nat.zero_le _⟩ ?_
      refine va_castS (own := RX5) hx hb hown (hts _ (List.mem_of_getElem? (i := 2) rfl)) (hK.1.1 3 _ rfl).2 (wk_recv hK (hA.pass e_12) rfl) dX5_takenSet_23 ?_
      refine wk_get (own := RX5) (C := RX2) (T := TX2) (N := 7) (ci := 3) (v := .int (wk_b (z_tk σ k))) hx hb hts i_X2 hown hK (hA.pass e_12) rfl 5 (by decide) (hts _ (List.mem_of_getElem? (i := 3) rfl)) (fun _ h9 => h9) rfl dX5_takenSet_26 ?_
      refine lv_if_eq (tgt := 38) hx hb dX5_takenSet_29 (by decide) (fun c_29 => ?_) (fun c_29 => ?_)
      · skip
        have e_29 : (z_tk σ k) = false := wk_b0 c_29
        refine lv_iinc (v := nI (k + 1)) (lv' := [(2, .int (nI (k + 1))), (0, .ref (X.1 0 0)), (1, .int (nI (f_set (fun k => z_tk σ k) k)))]) hx hb dX5_takenSet_38 hl (k := 2) rfl (nI_1 _) (by decide) rfl (fun ls hl => ?_)
        refine lv_goto (tgt := 4) hx hb dX5_takenSet_41 (by decide) ?_
        have hl : lv_has ls 3 [(2, .int (nI (k + 1))), (0, .ref (X.1 0 0)), (1, .int (nI (f_set (fun k => z_tk σ k) (k + 1))))] := by rw [show nI (f_set (fun k => z_tk σ k) (k + 1)) = nI (f_set (fun k => z_tk σ k) k) from (by simp [f_set, e_29])]; exact hl
        exact ih_4 (k + 1) (by omega) (by omega) ls (lv_sub hl [1, 2, 0] rfl)
      have e_29 : (z_tk σ k) = true := wk_b1 c_29
      refine lv_iload_n hx hb dX5_takenSet_32 rfl (lv_at hl 1 rfl) ?_
      refine lv_iconst (v := 1) hx hb dX5_takenSet_33 (by decide) ?_
      refine lv_iload_n hx hb dX5_takenSet_34 rfl (lv_at hl 2 rfl) ?_
      refine lv_ishl hx hb dX5_takenSet_35 ?_
      refine lv_ior hx hb dX5_takenSet_36 ?_
      refine lv_istore_n (lv' := [(1, .int ((nI (f_set (fun k => z_tk σ k) k)) ||| (1 <<< ((nI k) &&& 31)))), (0, .ref (X.1 0 0)), (2, .int (nI k))]) hx hb dX5_takenSet_37 rfl hl (by decide) rfl (fun ls hl => ?_)
      refine lv_iinc (v := nI (k + 1)) (lv' := [(2, .int (nI (k + 1))), (1, .int ((nI (f_set (fun k => z_tk σ k) k)) ||| (1 <<< ((nI k) &&& 31)))), (0, .ref (X.1 0 0))]) hx hb dX5_takenSet_38 hl (k := 2) rfl (nI_1 _) (by decide) rfl (fun ls hl => ?_)
      refine lv_goto (tgt := 4) hx hb dX5_takenSet_41 (by decide) ?_
      have hl : lv_has ls 3 [(2, .int (nI (k + 1))), (1, .int (nI (f_set (fun k => z_tk σ k) (k + 1)))), (0, .ref (X.1 0 0))] := by rw [show nI (f_set (fun k => z_tk σ k) (k + 1)) = (nI (f_set (fun k => z_tk σ k) k)) ||| (1 <<< ((nI k) &&& 31)) from (by simp [f_set, e_29, wk_or1 (show k < 31 by omega)])]; exact hl
      exact ih_4 (k + 1) (by omega) (by omega) ls (lv_sub hl [2, 1, 0] rfl)
  exact L_4 _ 0 (Nat.lt_succ_self _) (Nat.zero_le _) ls (lv_sub hl [2, 1, 0] rfl)

abbrev rmX5_heardOver : Room := { frames := 5, cells := 0, slots := 0, locals := 109 }
set_option maxHeartbeats 4000000 in
set_option maxRecDepth 100000 in
theorem c_X5_heardOver (l : Launch) (E : wk_E) {T : Nat → Nat × Nat} {X : z_X} {σ : z_S} {H : Heap} (hA : DA E T X σ H) (hI : z_Ok σ) {a : Nat} (ha : a < z_n σ 0) : wk_Met l yX5_heardOver wsX5_heardOver rmX5_heardOver E H [.ref (X.1 0 0), .ref (X.1 5 a)] (some (.int (f_heardBy σ a))) := by
  refine Met.ofW (cc := cX5_heardOver) (maxL := 4) (ret := (some .int)) (by decide) rfl ?_
  intro p e s m args below meth c s₁ B hml hv
  obtain ⟨rfl, hH, hK⟩ := hv
  subst hH
  have hx := B.exec
  have hb := B.bytes
  have hr := B.returns
  have hts := atoms_spec (ws := wsX5_heardOver) B.pre
  have hown : s.vm.findClass RX5 = some m.cls := findClass_of_methodNamed B.named
  have hlocks := B.notSynchronized
  have i_X5 : ∀ w ∈ u_ws RX5 TX5 7, w ∈ wsX5_heardOver := fun w h => (List.mem_cons_of_mem _ (List.mem_append_left _ (List.mem_append_left _ (List.mem_append_right _ h))))
  have i_X2 : ∀ w ∈ u_ws RX2 TX2 7, w ∈ wsX5_heardOver := fun w h => (List.mem_cons_of_mem _ (List.mem_append_left _ (List.mem_append_right _ h)))
  have hl := lv_entry [.ref (X.1 0 0), .ref (X.1 5 a)] (n := 4) (Nat.le_of_ble_eq_true rfl)
  rw [lg_entry_eq]
  generalize (lg_sl [.ref (X.1 0 0), .ref (X.1 5 a)] ++ List.replicate (4 - (lg_sl [.ref (X.1 0 0), .ref (X.1 5 a)]).length) Slot.unset).toArray = ls at hl ⊢
  have hl : lv_has ls 4 [(0, .ref (X.1 0 0)), (1, .ref (X.1 5 a))] := hl
  have b0 := hI.n0
  have b1 := hI.n1
  have b2 := hI.n2
  have b3 := hI.n3
  refine lv_iconst (v := 0) hx hb dX5_heardOver_0 (by decide) ?_
  refine lv_istore_n (lv' := [(2, .int 0), (0, .ref (X.1 0 0)), (1, .ref (X.1 5 a))]) hx hb dX5_heardOver_1 rfl hl (by decide) rfl (fun ls hl => ?_)
  have L_2 : ∀ (n_2 : Nat) (k : Nat), z_n σ 2 - k < n_2 → (k ≤ z_n σ 2) → (f_any (fun k => decide (z_pA σ k = a) && f_heard σ k) k = false) → ∀ ls : Array Slot, lv_has ls 4 [(0, .ref (X.1 0 0)), (1, .ref (X.1 5 a)), (2, .int (nI k))] → W p l e (headSpec wsX5_heardOver rmX5_heardOver).room s m ([.ref (X.1 0 0), .ref (X.1 5 a)] : List Value).toArray below meth c s.heap [] 0 0 (MQ below (wk_Q (some (.int (f_heardBy σ a)))) ([.ref (X.1 0 0), .ref (X.1 5 a)] : List Value).toArray s 0 0 (fun _ => False)) (F0 m 2 ls []) := by
    intro n_2
    induction n_2 with
    | zero => intro k hm; exact absurd hm (Nat.not_lt_zero _)
    | succ n_2 ih_2 =>
      intro k hm_2 hk_k hf ls hl
      refine lv_iload_n hx hb dX5_heardOver_2 rfl (lv_at hl 2 rfl) ?_
      refine lv_aload_n hx hb dX5_heardOver_3 rfl (lv_at hl 0 rfl) ?_
      refine wk_get (own := RX5) (C := RX5) (T := TX5) (N := 7) (ci := 6) (v := .ref (X.1 1 2)) hx hb hts i_X5 hown hK hA.desk rfl 2 (by decide) (hts _ (List.mem_of_getElem? (i := 1) rfl)) (fun _ h9 => h9) rfl dX5_heardOver_4 ?_
      refine wk_V (As := []) (rest := [.int (nI k)]) ⟨hx, hb, hml, hown, hts⟩ (c_size2 l E hA) (cwV 0 hts gX5_heardOver_Jx4a65c_size_8abf5 rfl rfl rfl (by decide +kernel) ⟨(Nat.le_of_ble_eq_true rfl), (Nat.le_of_ble_eq_true rfl)⟩) (wk_recv hK (hA.list (j := 2) (by decide)) rfl) hK rfl hl.1 rfl (Nat.le_of_ble_eq_true rfl) dX5_heardOver_7 ⟨Nat.zero_le _, Nat.zero_le _⟩ ?_
      refine lv_icmp_ge (tgt := 49) hx hb dX5_heardOver_10 (by decide) (fun c_10 => ?_) (fun c_10 => ?_)
      · skip
        have e_10 : (z_n σ 2) ≤ k := wk_cget (by omega) (by omega) c_10
        have hkN : k = z_n σ 2 := by omega
        refine lv_iconst (v := (-1)) hx hb dX5_heardOver_49 (by decide) ?_
        exact W.iret hx hb hr (fun t ht _ => wk_ret (congrArg Value.int (by rw [f_heardBy, ← hkN]; exact (f_fst_no hf).symm)) ht) wk_nil dX5_heardOver_50
      have e_10 : k < (z_n σ 2) := wk_cgef (by omega) (by omega) c_10
      refine lv_aload_n hx hb dX5_heardOver_13 rfl (lv_at hl 0 rfl) ?_
      refine wk_get (own := RX5) (C := RX5) (T := TX5) (N := 7) (ci := 6) (v := .ref (X.1 1 2)) hx hb hts i_X5 hown hK hA.desk rfl 2 (by decide) (hts _ (List.mem_of_getElem? (i := 1) rfl)) (fun _ h9 => h9) rfl dX5_heardOver_14 ?_
      refine lv_iload_n hx hb dX5_heardOver_17 rfl (lv_at hl 2 rfl) ?_
      refine wk_V (As := [.int (nI k)]) (rest := []) ⟨hx, hb, hml, hown, hts⟩ (c_get2 l E hA hI e_10) (cwV 1 hts gX5_heardOver_Jx4a65c_get_915e3 rfl rfl rfl (by decide +kernel) ⟨(Nat.le_of_ble_eq_true rfl), (Nat.le_of_ble_eq_true rfl)⟩) (wk_recv hK (hA.list (j := 2) (by decide)) rfl) hK rfl hl.1 rfl (Nat.le_of_ble_eq_true rfl) dX5_heardOver_18 ⟨Nat.zero_le _, Nat.zero_le _⟩ ?_
      refine va_castS (own := RX5) hx hb hown (hts _ (List.mem_of_getElem? (i := 2) rfl)) (hK.1.1 3 _ rfl).2 (wk_recv hK (hA.pass e_10) rfl) dX5_heardOver_21 ?_
      refine lv_astore_n (lv' := [(3, .ref (X.1 7 k)), (0, .ref (X.1 0 0)), (1, .ref (X.1 5 a)), (2, .int (nI k))]) hx hb dX5_heardOver_24 rfl hl (by decide) rfl (fun ls hl => ?_)
      refine lv_aload_n hx hb dX5_heardOver_25 rfl (lv_at hl 0 rfl) ?_
      refine wk_get (own := RX5) (C := RX2) (T := TX2) (N := 7) (ci := 3) (v := .ref (X.1 5 (z_pA σ k))) hx hb hts i_X2 hown hK (hA.pass e_10) rfl 2 (by decide) (hts _ (List.mem_of_getElem? (i := 3) rfl)) (fun _ h9 => h9) rfl dX5_heardOver_26 ?_
      refine lv_aload_n hx hb dX5_heardOver_29 rfl (lv_at hl 2 rfl) ?_
      refine lv_acmp_ne (rx := some (X.1 5 (z_pA σ k))) (ry := some (X.1 5 a)) (tgt := 43) hx hb dX5_heardOver_30 (by decide) (fun c_30 => ?_) (fun c_30 => ?_)
      · skip
        have e_30 : ¬ (z_pA σ k) = a := fun q => c_30 (by rw [q])
        refine lv_iinc (v := nI (k + 1)) (lv' := [(2, .int (nI (k + 1))), (3, .ref (X.1 7 k)), (0, .ref (X.1 0 0)), (1, .ref (X.1 5 a))]) hx hb dX5_heardOver_43 hl (k := 3) rfl (nI_1 _) (by decide) rfl (fun ls hl => ?_)
        refine lv_goto (tgt := 2) hx hb dX5_heardOver_46 (by decide) ?_
        exact ih_2 (k + 1) (by omega) (by omega) (f_any_step hf (by simp [e_30])) ls (lv_sub hl [2, 3, 0] rfl)
      have e_30 : (z_pA σ k) = a := hA.antI (hI.pA e_10) ha (Option.some.inj c_30)
      refine lv_aload_n hx hb dX5_heardOver_33 rfl (lv_at hl 1 rfl) ?_
      refine lv_aload_n hx hb dX5_heardOver_34 rfl (lv_at hl 0 rfl) ?_
      refine wk_V (As := [.ref (X.1 7 k)]) (rest := []) ⟨hx, hb, hml, hown, hts⟩ (c_X5_isHeard l E hA hI e_10) (cwV 1 hts gX5_heardOver_X5_isHeard rfl rfl rfl (by decide +kernel) ⟨(Nat.le_of_ble_eq_true rfl), (Nat.le_of_ble_eq_true rfl)⟩) (wk_recv hK hA.desk rfl) hK rfl hl.1 rfl (Nat.le_of_ble_eq_true rfl) dX5_heardOver_35 ⟨Nat.zero_le _, Nat.zero_le _⟩ ?_
      refine lv_if_eq (tgt := 43) hx hb dX5_heardOver_38 (by decide) (fun c_38 => ?_) (fun c_38 => ?_)
      · skip
        have e_38 : (f_heard σ k) = false := wk_b0 c_38
        refine lv_iinc (v := nI (k + 1)) (lv' := [(2, .int (nI (k + 1))), (3, .ref (X.1 7 k)), (0, .ref (X.1 0 0)), (1, .ref (X.1 5 a))]) hx hb dX5_heardOver_43 hl (k := 3) rfl (nI_1 _) (by decide) rfl (fun ls hl => ?_)
        refine lv_goto (tgt := 2) hx hb dX5_heardOver_46 (by decide) ?_
        exact ih_2 (k + 1) (by omega) (by omega) (f_any_step hf (by simp [e_30, e_38])) ls (lv_sub hl [2, 3, 0] rfl)
      have e_38 : (f_heard σ k) = true := wk_b1 c_38
      refine lv_iload_n hx hb dX5_heardOver_41 rfl (lv_at hl 3 rfl) ?_
      exact W.iret hx hb hr (fun t ht _ => wk_ret (congrArg Value.int ((f_fst_yes hf (by simp [e_30, e_38]) e_10).symm)) ht) wk_nil dX5_heardOver_42
  exact L_2 _ 0 (Nat.lt_succ_self _) (Nat.zero_le _) rfl ls (lv_sub hl [1, 2, 0] rfl)

abbrev rmX5_nextOver : Room := { frames := 3, cells := 0, slots := 0, locals := 64 }
set_option maxHeartbeats 4000000 in
set_option maxRecDepth 100000 in
theorem c_X5_nextOver (l : Launch) (E : wk_E) {T : Nat → Nat × Nat} {X : z_X} {σ : z_S} {H : Heap} (hA : DA E T X σ H) (hI : z_Ok σ) {a : Nat} (ha : a < z_n σ 0) : wk_Met l yX5_nextOver wsX5_nextOver rmX5_nextOver E H [.ref (X.1 0 0), .ref (X.1 5 a)] (some (.int (f_nextOver σ a))) := by
  refine Met.ofW (cc := cX5_nextOver) (maxL := 6) (ret := (some .int)) (by decide) rfl ?_
  intro p e s m args below meth c s₁ B hml hv
  obtain ⟨rfl, hH, hK⟩ := hv
  subst hH
  have hx := B.exec
  have hb := B.bytes
  have hr := B.returns
  have hts := atoms_spec (ws := wsX5_nextOver) B.pre
  have hown : s.vm.findClass RX5 = some m.cls := findClass_of_methodNamed B.named
  have hlocks := B.notSynchronized
  have i_X5 : ∀ w ∈ u_ws RX5 TX5 7, w ∈ wsX5_nextOver := fun w h => (List.mem_cons_of_mem _ (List.mem_append_left _ (List.mem_append_left _ (List.mem_append_right _ h))))
  have i_X2 : ∀ w ∈ u_ws RX2 TX2 7, w ∈ wsX5_nextOver := fun w h => (List.mem_cons_of_mem _ (List.mem_append_left _ (List.mem_append_right _ h)))
  have hl := lv_entry [.ref (X.1 0 0), .ref (X.1 5 a)] (n := 6) (Nat.le_of_ble_eq_true rfl)
  rw [lg_entry_eq]
  generalize (lg_sl [.ref (X.1 0 0), .ref (X.1 5 a)] ++ List.replicate (6 - (lg_sl [.ref (X.1 0 0), .ref (X.1 5 a)]).length) Slot.unset).toArray = ls at hl ⊢
  have hl : lv_has ls 6 [(0, .ref (X.1 0 0)), (1, .ref (X.1 5 a))] := hl
  have b0 := hI.n0
  have b1 := hI.n1
  have b2 := hI.n2
  have b3 := hI.n3
  refine lv_iconst (v := (-1)) hx hb dX5_nextOver_0 (by decide) ?_
  refine lv_istore_n (lv' := [(2, .int (-1)), (0, .ref (X.1 0 0)), (1, .ref (X.1 5 a))]) hx hb dX5_nextOver_1 rfl hl (by decide) rfl (fun ls hl => ?_)
  refine lv_sipush (v := 9999) hx hb dX5_nextOver_2 (by decide) ?_
  refine lv_istore_n (lv' := [(3, .int 9999), (2, .int (-1)), (0, .ref (X.1 0 0)), (1, .ref (X.1 5 a))]) hx hb dX5_nextOver_5 rfl hl (by decide) rfl (fun ls hl => ?_)
  refine lv_iconst (v := 0) hx hb dX5_nextOver_6 (by decide) ?_
  refine lv_istore (lv' := [(4, .int 0), (3, .int 9999), (2, .int (-1)), (0, .ref (X.1 0 0)), (1, .ref (X.1 5 a))]) hx hb dX5_nextOver_7 hl (by decide) rfl (fun ls hl => ?_)
  have L_9 : ∀ (n_9 : Nat) (k : Nat), z_n σ 2 - k < n_9 → (k ≤ z_n σ 2) → ∀ ls : Array Slot, lv_has ls 6 [(0, .ref (X.1 0 0)), (1, .ref (X.1 5 a)), (2, .int (f_opt (f_nextTo σ a k))), (3, .int (f_optB σ (f_nextTo σ a k))), (4, .int (nI k))] → W p l e (headSpec wsX5_nextOver rmX5_nextOver).room s m ([.ref (X.1 0 0), .ref (X.1 5 a)] : List Value).toArray below meth c s.heap [] 0 0 (MQ below (wk_Q (some (.int (f_nextOver σ a)))) ([.ref (X.1 0 0), .ref (X.1 5 a)] : List Value).toArray s 0 0 (fun _ => False)) (F0 m 9 ls []) := by
    intro n_9
    induction n_9 with
    | zero => intro k hm; exact absurd hm (Nat.not_lt_zero _)
    | succ n_9 ih_9 =>
      intro k hm_9 hk_k ls hl
      refine lv_iload hx hb dX5_nextOver_9 (lv_at hl 4 rfl) ?_
      refine lv_aload_n hx hb dX5_nextOver_11 rfl (lv_at hl 0 rfl) ?_
      refine wk_get (own := RX5) (C := RX5) (T := TX5) (N := 7) (ci := 6) (v := .ref (X.1 1 2)) hx hb hts i_X5 hown hK hA.desk rfl 2 (by decide) (hts _ (List.mem_of_getElem? (i := 1) rfl)) (fun _ h9 => h9) rfl dX5_nextOver_12 ?_
      refine wk_V (As := []) (rest := [.int (nI k)]) ⟨hx, hb, hml, hown, hts⟩ (c_size2 l E hA) (cwV 0 hts gX5_nextOver_Jx4a65c_size_8abf5 rfl rfl rfl (by decide +kernel) ⟨(Nat.le_of_ble_eq_true rfl), (Nat.le_of_ble_eq_true rfl)⟩) (wk_recv hK (hA.list (j := 2) (by decide)) rfl) hK rfl hl.1 rfl (Nat.le_of_ble_eq_true rfl) dX5_nextOver_15 ⟨Nat.zero_le _, Nat.zero_le _⟩ ?_
      refine lv_icmp_ge (tgt := 88) hx hb dX5_nextOver_18 (by decide) (fun c_18 => ?_) (fun c_18 => ?_)
      · skip
        have e_18 : (z_n σ 2) ≤ k := wk_cget (by omega) (by omega) c_18
        have hkN : k = z_n σ 2 := by omega
        refine lv_iload_n hx hb dX5_nextOver_88 rfl (lv_at hl 2 rfl) ?_
        exact W.iret hx hb hr (fun t ht _ => wk_ret (congrArg Value.int (by rw [hkN]; rfl)) ht) wk_nil dX5_nextOver_89
      have e_18 : k < (z_n σ 2) := wk_cgef (by omega) (by omega) c_18
      refine lv_aload_n hx hb dX5_nextOver_21 rfl (lv_at hl 0 rfl) ?_
      refine wk_get (own := RX5) (C := RX5) (T := TX5) (N := 7) (ci := 6) (v := .ref (X.1 1 2)) hx hb hts i_X5 hown hK hA.desk rfl 2 (by decide) (hts _ (List.mem_of_getElem? (i := 1) rfl)) (fun _ h9 => h9) rfl dX5_nextOver_22 ?_
      refine lv_iload hx hb dX5_nextOver_25 (lv_at hl 4 rfl) ?_
      refine wk_V (As := [.int (nI k)]) (rest := []) ⟨hx, hb, hml, hown, hts⟩ (c_get2 l E hA hI e_18) (cwV 1 hts gX5_nextOver_Jx4a65c_get_915e3 rfl rfl rfl (by decide +kernel) ⟨(Nat.le_of_ble_eq_true rfl), (Nat.le_of_ble_eq_true rfl)⟩) (wk_recv hK (hA.list (j := 2) (by decide)) rfl) hK rfl hl.1 rfl (Nat.le_of_ble_eq_true rfl) dX5_nextOver_27 ⟨Nat.zero_le _, Nat.zero_le _⟩ ?_
      refine va_castS (own := RX5) hx hb hown (hts _ (List.mem_of_getElem? (i := 2) rfl)) (hK.1.1 3 _ rfl).2 (wk_recv hK (hA.pass e_18) rfl) dX5_nextOver_30 ?_
      refine lv_astore (lv' := [(5, .ref (X.1 7 k)), (0, .ref (X.1 0 0)), (1, .ref (X.1 5 a)), (2, .int (f_opt (f_nextTo σ a k))), (3, .int (f_optB σ (f_nextTo σ a k))), (4, .int (nI k))]) hx hb dX5_nextOver_33 hl (by decide) rfl (fun ls hl => ?_)
      refine lv_aload hx hb dX5_nextOver_35 (lv_at hl 0 rfl) ?_
      refine wk_get (own := RX5) (C := RX2) (T := TX2) (N := 7) (ci := 3) (v := .ref (X.1 5 (z_pA σ k))) hx hb hts i_X2 hown hK (hA.pass e_18) rfl 2 (by decide) (hts _ (List.mem_of_getElem? (i := 3) rfl)) (fun _ h9 => h9) rfl dX5_nextOver_37 ?_
      refine lv_aload_n hx hb dX5_nextOver_40 rfl (lv_at hl 2 rfl) ?_
      refine lv_acmp_ne (rx := some (X.1 5 (z_pA σ k))) (ry := some (X.1 5 a)) (tgt := 82) hx hb dX5_nextOver_41 (by decide) (fun c_41 => ?_) (fun c_41 => ?_)
      · skip
        have e_41 : ¬ (z_pA σ k) = a := fun q => c_41 (by rw [q])
        refine lv_iinc (v := nI (k + 1)) (lv' := [(4, .int (nI (k + 1))), (5, .ref (X.1 7 k)), (0, .ref (X.1 0 0)), (1, .ref (X.1 5 a)), (2, .int (f_opt (f_nextTo σ a k))), (3, .int (f_optB σ (f_nextTo σ a k)))]) hx hb dX5_nextOver_82 hl (k := 5) rfl (nI_1 _) (by decide) rfl (fun ls hl => ?_)
        refine lv_goto (tgt := 9) hx hb dX5_nextOver_85 (by decide) ?_
        have hl : lv_has ls 6 [(4, .int (nI (k + 1))), (5, .ref (X.1 7 k)), (0, .ref (X.1 0 0)), (1, .ref (X.1 5 a)), (2, .int (f_opt (f_nextTo σ a (k + 1)))), (3, .int (f_optB σ (f_nextTo σ a k)))] := by rw [show f_opt (f_nextTo σ a (k + 1)) = f_opt (f_nextTo σ a k) from (by rw [f_next_not (by simp [f_isNext, e_41])])]; exact hl
        have hl : lv_has ls 6 [(4, .int (nI (k + 1))), (5, .ref (X.1 7 k)), (0, .ref (X.1 0 0)), (1, .ref (X.1 5 a)), (2, .int (f_opt (f_nextTo σ a (k + 1)))), (3, .int (f_optB σ (f_nextTo σ a (k + 1))))] := by rw [show f_optB σ (f_nextTo σ a (k + 1)) = f_optB σ (f_nextTo σ a k) from (by rw [f_next_not (by simp [f_isNext, e_41])])]; exact hl
        exact ih_9 (k + 1) (by omega) (by omega) ls (lv_sub hl [2, 3, 4, 5, 0] rfl)
      have e_41 : (z_pA σ k) = a := hA.antI (hI.pA e_18) ha (Option.some.inj c_41)
      refine lv_aload hx hb dX5_nextOver_44 (lv_at hl 0 rfl) ?_
      refine wk_get (own := RX5) (C := RX2) (T := TX2) (N := 7) (ci := 3) (v := .int (wk_b (z_tk σ k))) hx hb hts i_X2 hown hK (hA.pass e_18) rfl 5 (by decide) (hts _ (List.mem_of_getElem? (i := 4) rfl)) (fun _ h9 => h9) rfl dX5_nextOver_46 ?_
      refine lv_if_eq (tgt := 82) hx hb dX5_nextOver_49 (by decide) (fun c_49 => ?_) (fun c_49 => ?_)
      · skip
        have e_49 : (z_tk σ k) = false := wk_b0 c_49
        refine lv_iinc (v := nI (k + 1)) (lv' := [(4, .int (nI (k + 1))), (5, .ref (X.1 7 k)), (0, .ref (X.1 0 0)), (1, .ref (X.1 5 a)), (2, .int (f_opt (f_nextTo σ a k))), (3, .int (f_optB σ (f_nextTo σ a k)))]) hx hb dX5_nextOver_82 hl (k := 5) rfl (nI_1 _) (by decide) rfl (fun ls hl => ?_)
        refine lv_goto (tgt := 9) hx hb dX5_nextOver_85 (by decide) ?_
        have hl : lv_has ls 6 [(4, .int (nI (k + 1))), (5, .ref (X.1 7 k)), (0, .ref (X.1 0 0)), (1, .ref (X.1 5 a)), (2, .int (f_opt (f_nextTo σ a (k + 1)))), (3, .int (f_optB σ (f_nextTo σ a k)))] := by rw [show f_opt (f_nextTo σ a (k + 1)) = f_opt (f_nextTo σ a k) from (by rw [f_next_not (by simp [f_isNext, e_41, e_49])])]; exact hl
        have hl : lv_has ls 6 [(4, .int (nI (k + 1))), (5, .ref (X.1 7 k)), (0, .ref (X.1 0 0)), (1, .ref (X.1 5 a)), (2, .int (f_opt (f_nextTo σ a (k + 1)))), (3, .int (f_optB σ (f_nextTo σ a (k + 1))))] := by rw [show f_optB σ (f_nextTo σ a (k + 1)) = f_optB σ (f_nextTo σ a k) from (by rw [f_next_not (by simp [f_isNext, e_41, e_49])])]; exact hl
        exact ih_9 (k + 1) (by omega) (by omega) ls (lv_sub hl [2, 3, 4, 5, 0] rfl)
      have e_49 : (z_tk σ k) = true := wk_b1 c_49
      refine lv_aload hx hb dX5_nextOver_52 (lv_at hl 0 rfl) ?_
      refine wk_get (own := RX5) (C := RX2) (T := TX2) (N := 7) (ci := 3) (v := .int (z_pb σ k)) hx hb hts i_X2 hown hK (hA.pass e_18) rfl 3 (by decide) (hts _ (List.mem_of_getElem? (i := 5) rfl)) (fun _ h9 => h9) rfl dX5_nextOver_54 ?_
      refine lv_aload_n hx hb dX5_nextOver_57 rfl (lv_at hl 1 rfl) ?_
      refine wk_get (own := RX5) (C := RX5) (T := TX5) (N := 7) (ci := 6) (v := .int (z_now σ)) hx hb hts i_X5 hown hK hA.desk rfl 5 (by decide) (hts _ (List.mem_of_getElem? (i := 6) rfl)) (fun _ h9 => h9) rfl dX5_nextOver_58 ?_
      refine lv_icmp_lt (tgt := 82) hx hb dX5_nextOver_61 (by decide) (fun c_61 => ?_) (fun c_61 => ?_)
      · skip
        have d_61 := Int32.not_le.mpr c_61
        refine lv_iinc (v := nI (k + 1)) (lv' := [(4, .int (nI (k + 1))), (5, .ref (X.1 7 k)), (0, .ref (X.1 0 0)), (1, .ref (X.1 5 a)), (2, .int (f_opt (f_nextTo σ a k))), (3, .int (f_optB σ (f_nextTo σ a k)))]) hx hb dX5_nextOver_82 hl (k := 5) rfl (nI_1 _) (by decide) rfl (fun ls hl => ?_)
        refine lv_goto (tgt := 9) hx hb dX5_nextOver_85 (by decide) ?_
        have hl : lv_has ls 6 [(4, .int (nI (k + 1))), (5, .ref (X.1 7 k)), (0, .ref (X.1 0 0)), (1, .ref (X.1 5 a)), (2, .int (f_opt (f_nextTo σ a (k + 1)))), (3, .int (f_optB σ (f_nextTo σ a k)))] := by rw [show f_opt (f_nextTo σ a (k + 1)) = f_opt (f_nextTo σ a k) from (by rw [f_next_not (by simp [f_isNext, e_41, e_49, c_61, d_61])])]; exact hl
        have hl : lv_has ls 6 [(4, .int (nI (k + 1))), (5, .ref (X.1 7 k)), (0, .ref (X.1 0 0)), (1, .ref (X.1 5 a)), (2, .int (f_opt (f_nextTo σ a (k + 1)))), (3, .int (f_optB σ (f_nextTo σ a (k + 1))))] := by rw [show f_optB σ (f_nextTo σ a (k + 1)) = f_optB σ (f_nextTo σ a k) from (by rw [f_next_not (by simp [f_isNext, e_41, e_49, c_61, d_61])])]; exact hl
        exact ih_9 (k + 1) (by omega) (by omega) ls (lv_sub hl [2, 3, 4, 5, 0] rfl)
      have d_61 := Int32.not_lt.mp c_61
      refine lv_aload hx hb dX5_nextOver_64 (lv_at hl 0 rfl) ?_
      refine wk_get (own := RX5) (C := RX2) (T := TX2) (N := 7) (ci := 3) (v := .int (z_pb σ k)) hx hb hts i_X2 hown hK (hA.pass e_18) rfl 3 (by decide) (hts _ (List.mem_of_getElem? (i := 5) rfl)) (fun _ h9 => h9) rfl dX5_nextOver_66 ?_
      refine lv_iload_n hx hb dX5_nextOver_69 rfl (lv_at hl 4 rfl) ?_
      refine lv_icmp_ge (tgt := 82) hx hb dX5_nextOver_70 (by decide) (fun c_70 => ?_) (fun c_70 => ?_)
      · skip
        refine lv_iinc (v := nI (k + 1)) (lv' := [(4, .int (nI (k + 1))), (5, .ref (X.1 7 k)), (0, .ref (X.1 0 0)), (1, .ref (X.1 5 a)), (2, .int (f_opt (f_nextTo σ a k))), (3, .int (f_optB σ (f_nextTo σ a k)))]) hx hb dX5_nextOver_82 hl (k := 5) rfl (nI_1 _) (by decide) rfl (fun ls hl => ?_)
        refine lv_goto (tgt := 9) hx hb dX5_nextOver_85 (by decide) ?_
        have hl : lv_has ls 6 [(4, .int (nI (k + 1))), (5, .ref (X.1 7 k)), (0, .ref (X.1 0 0)), (1, .ref (X.1 5 a)), (2, .int (f_opt (f_nextTo σ a (k + 1)))), (3, .int (f_optB σ (f_nextTo σ a k)))] := by rw [show f_opt (f_nextTo σ a (k + 1)) = f_opt (f_nextTo σ a k) from (by rw [f_next_keep hI e_18 (by simp [f_isNext, e_41, e_49, c_61, d_61, c_70]) c_70])]; exact hl
        have hl : lv_has ls 6 [(4, .int (nI (k + 1))), (5, .ref (X.1 7 k)), (0, .ref (X.1 0 0)), (1, .ref (X.1 5 a)), (2, .int (f_opt (f_nextTo σ a (k + 1)))), (3, .int (f_optB σ (f_nextTo σ a (k + 1))))] := by rw [show f_optB σ (f_nextTo σ a (k + 1)) = f_optB σ (f_nextTo σ a k) from (by rw [f_next_keep hI e_18 (by simp [f_isNext, e_41, e_49, c_61, d_61, c_70]) c_70])]; exact hl
        exact ih_9 (k + 1) (by omega) (by omega) ls (lv_sub hl [2, 3, 4, 5, 0] rfl)
      refine lv_iload hx hb dX5_nextOver_73 (lv_at hl 5 rfl) ?_
      refine lv_istore_n (lv' := [(2, .int (nI k)), (5, .ref (X.1 7 k)), (0, .ref (X.1 0 0)), (1, .ref (X.1 5 a)), (3, .int (f_optB σ (f_nextTo σ a k))), (4, .int (nI k))]) hx hb dX5_nextOver_75 rfl hl (by decide) rfl (fun ls hl => ?_)
      refine lv_aload hx hb dX5_nextOver_76 (lv_at hl 1 rfl) ?_
      refine wk_get (own := RX5) (C := RX2) (T := TX2) (N := 7) (ci := 3) (v := .int (z_pb σ k)) hx hb hts i_X2 hown hK (hA.pass e_18) rfl 3 (by decide) (hts _ (List.mem_of_getElem? (i := 5) rfl)) (fun _ h9 => h9) rfl dX5_nextOver_78 ?_
      refine lv_istore_n (lv' := [(3, .int (z_pb σ k)), (2, .int (nI k)), (5, .ref (X.1 7 k)), (0, .ref (X.1 0 0)), (1, .ref (X.1 5 a)), (4, .int (nI k))]) hx hb dX5_nextOver_81 rfl hl (by decide) rfl (fun ls hl => ?_)
      refine lv_iinc (v := nI (k + 1)) (lv' := [(4, .int (nI (k + 1))), (3, .int (z_pb σ k)), (2, .int (nI k)), (5, .ref (X.1 7 k)), (0, .ref (X.1 0 0)), (1, .ref (X.1 5 a))]) hx hb dX5_nextOver_82 hl (k := 5) rfl (nI_1 _) (by decide) rfl (fun ls hl => ?_)
      refine lv_goto (tgt := 9) hx hb dX5_nextOver_85 (by decide) ?_
      have hl : lv_has ls 6 [(4, .int (nI (k + 1))), (3, .int (z_pb σ k)), (2, .int (f_opt (f_nextTo σ a (k + 1)))), (5, .ref (X.1 7 k)), (0, .ref (X.1 0 0)), (1, .ref (X.1 5 a))] := by rw [show f_opt (f_nextTo σ a (k + 1)) = nI k from (by rw [f_next_yes hI e_18 (by simp [f_isNext, e_41, e_49, c_61, d_61, c_70]) c_70]; rfl)]; exact hl
      have hl : lv_has ls 6 [(4, .int (nI (k + 1))), (3, .int (f_optB σ (f_nextTo σ a (k + 1)))), (2, .int (f_opt (f_nextTo σ a (k + 1)))), (5, .ref (X.1 7 k)), (0, .ref (X.1 0 0)), (1, .ref (X.1 5 a))] := by rw [show f_optB σ (f_nextTo σ a (k + 1)) = z_pb σ k from (by rw [f_next_yes hI e_18 (by simp [f_isNext, e_41, e_49, c_61, d_61, c_70]) c_70]; rfl)]; exact hl
      exact ih_9 (k + 1) (by omega) (by omega) ls (lv_sub hl [4, 5, 2, 1, 0] rfl)
  exact L_9 _ 0 (Nat.lt_succ_self _) (Nat.zero_le _) ls (lv_sub hl [3, 4, 2, 1, 0] rfl)

abbrev rmX5_minuteOfFull : Room := { frames := 0, cells := 0, slots := 0, locals := 0 }
set_option maxHeartbeats 4000000 in
set_option maxRecDepth 100000 in
theorem c_X5_minuteOfFull (l : Launch) (E : wk_E) {T : Nat → Nat × Nat} {X : z_X} {σ : z_S} {H : Heap} (hA : DA E T X σ H) (hI : z_Ok σ) {k : Nat} (hk : k < z_n σ 1) : wk_Met l yX5_minuteOfFull wsX5_minuteOfFull rmX5_minuteOfFull E H [.ref (X.1 0 0), .ref (X.1 6 k)] (some (.int (f_full σ k))) := by
  refine Met.ofW (cc := cX5_minuteOfFull) (maxL := 3) (ret := (some .int)) (by decide) rfl ?_
  intro p e s m args below meth c s₁ B hml hv
  obtain ⟨rfl, hH, hK⟩ := hv
  subst hH
  have hx := B.exec
  have hb := B.bytes
  have hr := B.returns
  have hts := atoms_spec (ws := wsX5_minuteOfFull) B.pre
  have hown : s.vm.findClass RX5 = some m.cls := findClass_of_methodNamed B.named
  have hlocks := B.notSynchronized
  have i_X3 : ∀ w ∈ u_ws RX3 TX3 8, w ∈ wsX5_minuteOfFull := fun w h => (List.mem_cons_of_mem _ (List.mem_append_left _ (List.mem_append_right _ h)))
  have i_X5 : ∀ w ∈ u_ws RX5 TX5 7, w ∈ wsX5_minuteOfFull := fun w h => (List.mem_cons_of_mem _ (List.mem_append_right _ h))
  have hl := lv_entry [.ref (X.1 0 0), .ref (X.1 6 k)] (n := 3) (Nat.le_of_ble_eq_true rfl)
  rw [lg_entry_eq]
  generalize (lg_sl [.ref (X.1 0 0), .ref (X.1 6 k)] ++ List.replicate (3 - (lg_sl [.ref (X.1 0 0), .ref (X.1 6 k)]).length) Slot.unset).toArray = ls at hl ⊢
  have hl : lv_has ls 3 [(0, .ref (X.1 0 0)), (1, .ref (X.1 6 k))] := hl
  have b0 := hI.n0
  have b1 := hI.n1
  have b2 := hI.n2
  have b3 := hI.n3
  refine lv_aload_n hx hb dX5_minuteOfFull_0 rfl (lv_at hl 1 rfl) ?_
  refine wk_get (own := RX5) (C := RX3) (T := TX3) (N := 8) (ci := 4) (v := .int (z_sm σ k)) hx hb hts i_X3 hown hK (hA.sat hk) rfl 4 (by decide) (hts _ (List.mem_of_getElem? (i := 1) rfl)) (fun _ h9 => h9) rfl dX5_minuteOfFull_1 ?_
  refine lv_aload_n hx hb dX5_minuteOfFull_4 rfl (lv_at hl 1 rfl) ?_
  refine wk_get (own := RX5) (C := RX3) (T := TX3) (N := 8) (ci := 4) (v := .int (z_su σ k)) hx hb hts i_X3 hown hK (hA.sat hk) rfl 5 (by decide) (hts _ (List.mem_of_getElem? (i := 2) rfl)) (fun _ h9 => h9) rfl dX5_minuteOfFull_5 ?_
  refine lv_isub hx hb dX5_minuteOfFull_8 ?_
  refine lv_istore_n (lv' := [(2, .int ((z_sm σ k) - (z_su σ k))), (0, .ref (X.1 0 0)), (1, .ref (X.1 6 k))]) hx hb dX5_minuteOfFull_9 rfl hl (by decide) rfl (fun ls hl => ?_)
  refine lv_iload_n hx hb dX5_minuteOfFull_10 rfl (lv_at hl 0 rfl) ?_
  refine lv_if_le (tgt := 21) hx hb dX5_minuteOfFull_11 (by decide) (fun c_11 => ?_) (fun c_11 => ?_)
  · skip
    have d_11 := Int32.not_lt.mpr c_11
    refine lv_iconst (v := (-1)) hx hb dX5_minuteOfFull_21 (by decide) ?_
    exact W.iret hx hb hr (fun t ht _ => wk_ret (congrArg Value.int (by simp [f_full, wk_b, c_11, d_11])) ht) wk_nil dX5_minuteOfFull_22
  have d_11 := Int32.not_le.mp c_11
  refine lv_aload_n hx hb dX5_minuteOfFull_14 rfl (lv_at hl 2 rfl) ?_
  refine wk_get (own := RX5) (C := RX3) (T := TX3) (N := 8) (ci := 4) (v := .int (z_sg σ k)) hx hb hts i_X3 hown hK (hA.sat hk) rfl 3 (by decide) (hts _ (List.mem_of_getElem? (i := 3) rfl)) (fun _ h9 => h9) rfl dX5_minuteOfFull_15 ?_
  refine lv_if_gt (tgt := 23) hx hb dX5_minuteOfFull_18 (by decide) (fun c_18 => ?_) (fun c_18 => ?_)
  · skip
    have d_18 := Int32.not_le.mpr c_18
    refine lv_aload_n hx hb dX5_minuteOfFull_23 rfl (lv_at hl 1 rfl) ?_
    refine wk_get (own := RX5) (C := RX5) (T := TX5) (N := 7) (ci := 6) (v := .int (z_now σ)) hx hb hts i_X5 hown hK hA.desk rfl 5 (by decide) (hts _ (List.mem_of_getElem? (i := 4) rfl)) (fun _ h9 => h9) rfl dX5_minuteOfFull_24 ?_
    refine lv_iload_n hx hb dX5_minuteOfFull_27 rfl (lv_at hl 0 rfl) ?_
    refine lv_iconst (v := 1) hx hb dX5_minuteOfFull_28 (by decide) ?_
    refine lv_isub hx hb dX5_minuteOfFull_29 ?_
    refine lv_aload_n hx hb dX5_minuteOfFull_30 rfl (lv_at hl 2 rfl) ?_
    refine wk_get (own := RX5) (C := RX3) (T := TX3) (N := 8) (ci := 4) (v := .int (z_sg σ k)) hx hb hts i_X3 hown hK (hA.sat hk) rfl 3 (by decide) (hts _ (List.mem_of_getElem? (i := 3) rfl)) (fun _ h9 => h9) rfl dX5_minuteOfFull_31 ?_
    refine lv_idiv hx hb dX5_minuteOfFull_34 (fun q => absurd c_18 (by rw [q]; decide)) ?_
    refine lv_iadd hx hb dX5_minuteOfFull_35 ?_
    exact W.iret hx hb hr (fun t ht _ => wk_ret (congrArg Value.int (by simp [f_full, wk_b, c_11, d_11, c_18, d_18])) ht) wk_nil dX5_minuteOfFull_36
  have d_18 := Int32.not_lt.mp c_18
  refine lv_iconst (v := (-1)) hx hb dX5_minuteOfFull_21 (by decide) ?_
  exact W.iret hx hb hr (fun t ht _ => wk_ret (congrArg Value.int (by simp [f_full, wk_b, c_11, d_11, c_18, d_18])) ht) wk_nil dX5_minuteOfFull_22

abbrev rmX5_countTakenIn : Room := { frames := 3, cells := 0, slots := 0, locals := 64 }
set_option maxHeartbeats 4000000 in
set_option maxRecDepth 100000 in
theorem c_X5_countTakenIn (l : Launch) (E : wk_E) {T : Nat → Nat × Nat} {X : z_X} {σ : z_S} {H : Heap} (hA : DA E T X σ H) (hI : z_Ok σ) {o : Nat} (ho : o < z_n σ 3) : wk_Met l yX5_countTakenIn wsX5_countTakenIn rmX5_countTakenIn E H [.ref (X.1 0 0), .ref (X.1 8 o)] (some (.int (f_cntOut σ (z_oA σ o) (z_of σ o) (z_ot σ o)))) := by
  refine Met.ofW (cc := cX5_countTakenIn) (maxL := 5) (ret := (some .int)) (by decide) rfl ?_
  intro p e s m args below meth c s₁ B hml hv
  obtain ⟨rfl, hH, hK⟩ := hv
  subst hH
  have hx := B.exec
  have hb := B.bytes
  have hr := B.returns
  have hts := atoms_spec (ws := wsX5_countTakenIn) B.pre
  have hown : s.vm.findClass RX5 = some m.cls := findClass_of_methodNamed B.named
  have hlocks := B.notSynchronized
  have i_X5 : ∀ w ∈ u_ws RX5 TX5 7, w ∈ wsX5_countTakenIn := fun w h => (List.mem_cons_of_mem _ (List.mem_append_left _ (List.mem_append_left _ (List.mem_append_left _ (List.mem_append_right _ h)))))
  have i_X2 : ∀ w ∈ u_ws RX2 TX2 7, w ∈ wsX5_countTakenIn := fun w h => (List.mem_cons_of_mem _ (List.mem_append_left _ (List.mem_append_left _ (List.mem_append_right _ h))))
  have i_X1 : ∀ w ∈ u_ws RX1 TX1 3, w ∈ wsX5_countTakenIn := fun w h => (List.mem_cons_of_mem _ (List.mem_append_left _ (List.mem_append_right _ h)))
  have hl := lv_entry [.ref (X.1 0 0), .ref (X.1 8 o)] (n := 5) (Nat.le_of_ble_eq_true rfl)
  rw [lg_entry_eq]
  generalize (lg_sl [.ref (X.1 0 0), .ref (X.1 8 o)] ++ List.replicate (5 - (lg_sl [.ref (X.1 0 0), .ref (X.1 8 o)]).length) Slot.unset).toArray = ls at hl ⊢
  have hl : lv_has ls 5 [(0, .ref (X.1 0 0)), (1, .ref (X.1 8 o))] := hl
  have b0 := hI.n0
  have b1 := hI.n1
  have b2 := hI.n2
  have b3 := hI.n3
  refine lv_iconst (v := 0) hx hb dX5_countTakenIn_0 (by decide) ?_
  refine lv_istore_n (lv' := [(2, .int 0), (0, .ref (X.1 0 0)), (1, .ref (X.1 8 o))]) hx hb dX5_countTakenIn_1 rfl hl (by decide) rfl (fun ls hl => ?_)
  refine lv_iconst (v := 0) hx hb dX5_countTakenIn_2 (by decide) ?_
  refine lv_istore_n (lv' := [(3, .int 0), (2, .int 0), (0, .ref (X.1 0 0)), (1, .ref (X.1 8 o))]) hx hb dX5_countTakenIn_3 rfl hl (by decide) rfl (fun ls hl => ?_)
  have L_4 : ∀ (n_4 : Nat) (k : Nat), z_n σ 2 - k < n_4 → (k ≤ z_n σ 2) → ∀ ls : Array Slot, lv_has ls 5 [(0, .ref (X.1 0 0)), (1, .ref (X.1 8 o)), (2, .int (f_cnt (fun k => decide (z_pA σ k = z_oA σ o) && (z_tk σ k && f_meets σ o (z_pb σ k) (z_pe σ k))) k)), (3, .int (nI k))] → W p l e (headSpec wsX5_countTakenIn rmX5_countTakenIn).room s m ([.ref (X.1 0 0), .ref (X.1 8 o)] : List Value).toArray below meth c s.heap [] 0 0 (MQ below (wk_Q (some (.int (f_cntOut σ (z_oA σ o) (z_of σ o) (z_ot σ o))))) ([.ref (X.1 0 0), .ref (X.1 8 o)] : List Value).toArray s 0 0 (fun _ => False)) (F0 m 4 ls []) := by
    intro n_4
    induction n_4 with
    | zero => intro k hm; exact absurd hm (Nat.not_lt_zero _)
    | succ n_4 ih_4 =>
      intro k hm_4 hk_k ls hl
      refine lv_iload_n hx hb dX5_countTakenIn_4 rfl (lv_at hl 3 rfl) ?_
      refine lv_aload_n hx hb dX5_countTakenIn_5 rfl (lv_at hl 0 rfl) ?_
      refine wk_get (own := RX5) (C := RX5) (T := TX5) (N := 7) (ci := 6) (v := .ref (X.1 1 2)) hx hb hts i_X5 hown hK hA.desk rfl 2 (by decide) (hts _ (List.mem_of_getElem? (i := 1) rfl)) (fun _ h9 => h9) rfl dX5_countTakenIn_6 ?_
      refine wk_V (As := []) (rest := [.int (nI k)]) ⟨hx, hb, hml, hown, hts⟩ (c_size2 l E hA) (cwV 0 hts gX5_countTakenIn_Jx4a65c_size_8abf5 rfl rfl rfl (by decide +kernel) ⟨(Nat.le_of_ble_eq_true rfl), (Nat.le_of_ble_eq_true rfl)⟩) (wk_recv hK (hA.list (j := 2) (by decide)) rfl) hK rfl hl.1 rfl (Nat.le_of_ble_eq_true rfl) dX5_countTakenIn_9 ⟨Nat.zero_le _, Nat.zero_le _⟩ ?_
      refine lv_icmp_ge (tgt := 74) hx hb dX5_countTakenIn_12 (by decide) (fun c_12 => ?_) (fun c_12 => ?_)
      · skip
        have e_12 : (z_n σ 2) ≤ k := wk_cget (by omega) (by omega) c_12
        have hkN : k = z_n σ 2 := by omega
        refine lv_iload_n hx hb dX5_countTakenIn_74 rfl (lv_at hl 2 rfl) ?_
        exact W.iret hx hb hr (fun t ht _ => wk_ret (congrArg Value.int (by rw [hkN]; rfl)) ht) wk_nil dX5_countTakenIn_75
      have e_12 : k < (z_n σ 2) := wk_cgef (by omega) (by omega) c_12
      refine lv_aload_n hx hb dX5_countTakenIn_15 rfl (lv_at hl 0 rfl) ?_
      refine wk_get (own := RX5) (C := RX5) (T := TX5) (N := 7) (ci := 6) (v := .ref (X.1 1 2)) hx hb hts i_X5 hown hK hA.desk rfl 2 (by decide) (hts _ (List.mem_of_getElem? (i := 1) rfl)) (fun _ h9 => h9) rfl dX5_countTakenIn_16 ?_
      refine lv_iload_n hx hb dX5_countTakenIn_19 rfl (lv_at hl 3 rfl) ?_
      refine wk_V (As := [.int (nI k)]) (rest := []) ⟨hx, hb, hml, hown, hts⟩ (c_get2 l E hA hI e_12) (cwV 1 hts gX5_countTakenIn_Jx4a65c_get_915e3 rfl rfl rfl (by decide +kernel) ⟨(Nat.le_of_ble_eq_true rfl), (Nat.le_of_ble_eq_true rfl)⟩) (wk_recv hK (hA.list (j := 2) (by decide)) rfl) hK rfl hl.1 rfl (Nat.le_of_ble_eq_true rfl) dX5_countTakenIn_20 ⟨Nat.zero_le _, Nat.zero_le _⟩ ?_
      refine va_castS (own := RX5) hx hb hown (hts _ (List.mem_of_getElem? (i := 2) rfl)) (hK.1.1 3 _ rfl).2 (wk_recv hK (hA.pass e_12) rfl) dX5_countTakenIn_23 ?_
      refine lv_astore (lv' := [(4, .ref (X.1 7 k)), (0, .ref (X.1 0 0)), (1, .ref (X.1 8 o)), (2, .int (f_cnt (fun k => decide (z_pA σ k = z_oA σ o) && (z_tk σ k && f_meets σ o (z_pb σ k) (z_pe σ k))) k)), (3, .int (nI k))]) hx hb dX5_countTakenIn_26 hl (by decide) rfl (fun ls hl => ?_)
      refine lv_aload hx hb dX5_countTakenIn_28 (lv_at hl 0 rfl) ?_
      refine wk_get (own := RX5) (C := RX2) (T := TX2) (N := 7) (ci := 3) (v := .ref (X.1 5 (z_pA σ k))) hx hb hts i_X2 hown hK (hA.pass e_12) rfl 2 (by decide) (hts _ (List.mem_of_getElem? (i := 3) rfl)) (fun _ h9 => h9) rfl dX5_countTakenIn_30 ?_
      refine lv_aload_n hx hb dX5_countTakenIn_33 rfl (lv_at hl 2 rfl) ?_
      refine wk_get (own := RX5) (C := RX1) (T := TX1) (N := 3) (ci := 2) (v := .ref (X.1 5 (z_oA σ o))) hx hb hts i_X1 hown hK (hA.outg ho) rfl 0 (by decide) (hts _ (List.mem_of_getElem? (i := 4) rfl)) (fun _ h9 => h9) rfl dX5_countTakenIn_34 ?_
      refine lv_acmp_ne (rx := some (X.1 5 (z_pA σ k))) (ry := some (X.1 5 (z_oA σ o))) (tgt := 68) hx hb dX5_countTakenIn_37 (by decide) (fun c_37 => ?_) (fun c_37 => ?_)
      · skip
        have e_37 : ¬ (z_pA σ k) = (z_oA σ o) := fun q => c_37 (by rw [q])
        refine lv_iinc (v := nI (k + 1)) (lv' := [(3, .int (nI (k + 1))), (4, .ref (X.1 7 k)), (0, .ref (X.1 0 0)), (1, .ref (X.1 8 o)), (2, .int (f_cnt (fun k => decide (z_pA σ k = z_oA σ o) && (z_tk σ k && f_meets σ o (z_pb σ k) (z_pe σ k))) k))]) hx hb dX5_countTakenIn_68 hl (k := 4) rfl (nI_1 _) (by decide) rfl (fun ls hl => ?_)
        refine lv_goto (tgt := 4) hx hb dX5_countTakenIn_71 (by decide) ?_
        have hl : lv_has ls 5 [(3, .int (nI (k + 1))), (4, .ref (X.1 7 k)), (0, .ref (X.1 0 0)), (1, .ref (X.1 8 o)), (2, .int (f_cnt (fun k => decide (z_pA σ k = z_oA σ o) && (z_tk σ k && f_meets σ o (z_pb σ k) (z_pe σ k))) (k + 1)))] := by rw [show f_cnt (fun k => decide (z_pA σ k = z_oA σ o) && (z_tk σ k && f_meets σ o (z_pb σ k) (z_pe σ k))) (k + 1) = f_cnt (fun k => decide (z_pA σ k = z_oA σ o) && (z_tk σ k && f_meets σ o (z_pb σ k) (z_pe σ k))) k from (by simp [f_cnt, e_37])]; exact hl
        exact ih_4 (k + 1) (by omega) (by omega) ls (lv_sub hl [2, 3, 4, 0] rfl)
      have e_37 : (z_pA σ k) = (z_oA σ o) := hA.antI (hI.pA e_12) (hI.oA ho) (Option.some.inj c_37)
      refine lv_aload hx hb dX5_countTakenIn_40 (lv_at hl 0 rfl) ?_
      refine wk_get (own := RX5) (C := RX2) (T := TX2) (N := 7) (ci := 3) (v := .int (wk_b (z_tk σ k))) hx hb hts i_X2 hown hK (hA.pass e_12) rfl 5 (by decide) (hts _ (List.mem_of_getElem? (i := 5) rfl)) (fun _ h9 => h9) rfl dX5_countTakenIn_42 ?_
      refine lv_if_eq (tgt := 68) hx hb dX5_countTakenIn_45 (by decide) (fun c_45 => ?_) (fun c_45 => ?_)
      · skip
        have e_45 : (z_tk σ k) = false := wk_b0 c_45
        refine lv_iinc (v := nI (k + 1)) (lv' := [(3, .int (nI (k + 1))), (4, .ref (X.1 7 k)), (0, .ref (X.1 0 0)), (1, .ref (X.1 8 o)), (2, .int (f_cnt (fun k => decide (z_pA σ k = z_oA σ o) && (z_tk σ k && f_meets σ o (z_pb σ k) (z_pe σ k))) k))]) hx hb dX5_countTakenIn_68 hl (k := 4) rfl (nI_1 _) (by decide) rfl (fun ls hl => ?_)
        refine lv_goto (tgt := 4) hx hb dX5_countTakenIn_71 (by decide) ?_
        have hl : lv_has ls 5 [(3, .int (nI (k + 1))), (4, .ref (X.1 7 k)), (0, .ref (X.1 0 0)), (1, .ref (X.1 8 o)), (2, .int (f_cnt (fun k => decide (z_pA σ k = z_oA σ o) && (z_tk σ k && f_meets σ o (z_pb σ k) (z_pe σ k))) (k + 1)))] := by rw [show f_cnt (fun k => decide (z_pA σ k = z_oA σ o) && (z_tk σ k && f_meets σ o (z_pb σ k) (z_pe σ k))) (k + 1) = f_cnt (fun k => decide (z_pA σ k = z_oA σ o) && (z_tk σ k && f_meets σ o (z_pb σ k) (z_pe σ k))) k from (by simp [f_cnt, e_37, e_45])]; exact hl
        exact ih_4 (k + 1) (by omega) (by omega) ls (lv_sub hl [2, 3, 4, 0] rfl)
      have e_45 : (z_tk σ k) = true := wk_b1 c_45
      refine lv_aload_n hx hb dX5_countTakenIn_48 rfl (lv_at hl 2 rfl) ?_
      refine lv_aload hx hb dX5_countTakenIn_49 (lv_at hl 0 rfl) ?_
      refine wk_get (own := RX5) (C := RX2) (T := TX2) (N := 7) (ci := 3) (v := .int (z_pb σ k)) hx hb hts i_X2 hown hK (hA.pass e_12) rfl 3 (by decide) (hts _ (List.mem_of_getElem? (i := 6) rfl)) (fun _ h9 => h9) rfl dX5_countTakenIn_51 ?_
      refine lv_aload hx hb dX5_countTakenIn_54 (lv_at hl 0 rfl) ?_
      refine wk_get (own := RX5) (C := RX2) (T := TX2) (N := 7) (ci := 3) (v := .int (z_pe σ k)) hx hb hts i_X2 hown hK (hA.pass e_12) rfl 4 (by decide) (hts _ (List.mem_of_getElem? (i := 7) rfl)) (fun _ h9 => h9) rfl dX5_countTakenIn_56 ?_
      refine wk_V (As := [.int (z_pb σ k), .int (z_pe σ k)]) (rest := []) ⟨hx, hb, hml, hown, hts⟩ (c_X1_meets l E hA hI ho (x := z_pb σ k) (y := z_pe σ k)) (cwV 2 hts gX5_countTakenIn_X1_meets rfl rfl rfl (by decide +kernel) ⟨(Nat.le_of_ble_eq_true rfl), (Nat.le_of_ble_eq_true rfl)⟩) (wk_recv hK (hA.outg ho) rfl) hK rfl hl.1 rfl (Nat.le_of_ble_eq_true rfl) dX5_countTakenIn_59 ⟨Nat.zero_le _, Nat.zero_le _⟩ ?_
      refine lv_if_eq (tgt := 68) hx hb dX5_countTakenIn_62 (by decide) (fun c_62 => ?_) (fun c_62 => ?_)
      · skip
        have e_62 : (f_meets σ o (z_pb σ k) (z_pe σ k)) = false := wk_b0 c_62
        refine lv_iinc (v := nI (k + 1)) (lv' := [(3, .int (nI (k + 1))), (4, .ref (X.1 7 k)), (0, .ref (X.1 0 0)), (1, .ref (X.1 8 o)), (2, .int (f_cnt (fun k => decide (z_pA σ k = z_oA σ o) && (z_tk σ k && f_meets σ o (z_pb σ k) (z_pe σ k))) k))]) hx hb dX5_countTakenIn_68 hl (k := 4) rfl (nI_1 _) (by decide) rfl (fun ls hl => ?_)
        refine lv_goto (tgt := 4) hx hb dX5_countTakenIn_71 (by decide) ?_
        have hl : lv_has ls 5 [(3, .int (nI (k + 1))), (4, .ref (X.1 7 k)), (0, .ref (X.1 0 0)), (1, .ref (X.1 8 o)), (2, .int (f_cnt (fun k => decide (z_pA σ k = z_oA σ o) && (z_tk σ k && f_meets σ o (z_pb σ k) (z_pe σ k))) (k + 1)))] := by rw [show f_cnt (fun k => decide (z_pA σ k = z_oA σ o) && (z_tk σ k && f_meets σ o (z_pb σ k) (z_pe σ k))) (k + 1) = f_cnt (fun k => decide (z_pA σ k = z_oA σ o) && (z_tk σ k && f_meets σ o (z_pb σ k) (z_pe σ k))) k from (by simp [f_cnt, e_37, e_45, e_62])]; exact hl
        exact ih_4 (k + 1) (by omega) (by omega) ls (lv_sub hl [2, 3, 4, 0] rfl)
      have e_62 : (f_meets σ o (z_pb σ k) (z_pe σ k)) = true := wk_b1 c_62
      refine lv_iinc (v := f_cnt (fun k => decide (z_pA σ k = z_oA σ o) && (z_tk σ k && f_meets σ o (z_pb σ k) (z_pe σ k))) k + 1) (lv' := [(2, .int (f_cnt (fun k => decide (z_pA σ k = z_oA σ o) && (z_tk σ k && f_meets σ o (z_pb σ k) (z_pe σ k))) k + 1)), (4, .ref (X.1 7 k)), (0, .ref (X.1 0 0)), (1, .ref (X.1 8 o)), (3, .int (nI k))]) hx hb dX5_countTakenIn_65 hl (k := 3) rfl (rfl) (by decide) rfl (fun ls hl => ?_)
      refine lv_iinc (v := nI (k + 1)) (lv' := [(3, .int (nI (k + 1))), (2, .int (f_cnt (fun k => decide (z_pA σ k = z_oA σ o) && (z_tk σ k && f_meets σ o (z_pb σ k) (z_pe σ k))) k + 1)), (4, .ref (X.1 7 k)), (0, .ref (X.1 0 0)), (1, .ref (X.1 8 o))]) hx hb dX5_countTakenIn_68 hl (k := 4) rfl (nI_1 _) (by decide) rfl (fun ls hl => ?_)
      refine lv_goto (tgt := 4) hx hb dX5_countTakenIn_71 (by decide) ?_
      have hl : lv_has ls 5 [(3, .int (nI (k + 1))), (2, .int (f_cnt (fun k => decide (z_pA σ k = z_oA σ o) && (z_tk σ k && f_meets σ o (z_pb σ k) (z_pe σ k))) (k + 1))), (4, .ref (X.1 7 k)), (0, .ref (X.1 0 0)), (1, .ref (X.1 8 o))] := by rw [show f_cnt (fun k => decide (z_pA σ k = z_oA σ o) && (z_tk σ k && f_meets σ o (z_pb σ k) (z_pe σ k))) (k + 1) = f_cnt (fun k => decide (z_pA σ k = z_oA σ o) && (z_tk σ k && f_meets σ o (z_pb σ k) (z_pe σ k))) k + 1 from (by simp [f_cnt, e_37, e_45, e_62])]; exact hl
      exact ih_4 (k + 1) (by omega) (by omega) ls (lv_sub hl [3, 4, 1, 0] rfl)
  exact L_4 _ 0 (Nat.lt_succ_self _) (Nat.zero_le _) ls (lv_sub hl [2, 3, 1, 0] rfl)
