abbrev rmX5_digest : Room := { frames := 7, cells := 0, slots := 0, locals := 155 }
set_option maxHeartbeats 4000000 in
set_option maxRecDepth 100000 in
theorem c_X5_digest (l : Launch) (E : wk_E) {T : Nat → Nat × Nat} {X : z_X} {σ : z_S} {H : Heap} (hA : DA E T X σ H) (hI : z_Ok σ)  : wk_Met l yX5_digest wsX5_digest rmX5_digest E H [.ref (X.1 0 0)] (some (.long (f_digest σ))) := by
  refine Met.ofW (cc := cX5_digest) (maxL := 5) (ret := (some .long)) (by decide) rfl ?_
  intro p e s m args below meth c s₁ B hml hv
  obtain ⟨rfl, hH, hK⟩ := hv
  subst hH
  have hx := B.exec
  have hb := B.bytes
  have hr := B.returns
  have hts := atoms_spec (ws := wsX5_digest) B.pre
  have hown : s.vm.findClass RX5 = some m.cls := findClass_of_methodNamed B.named
  have hlocks := B.notSynchronized
  have i_X5 : ∀ w ∈ u_ws RX5 TX5 7, w ∈ wsX5_digest := fun w h => (List.mem_cons_of_mem _ (List.mem_append_left _ (List.mem_append_left _ (List.mem_append_left _ (List.mem_append_left _ (List.mem_append_left _ (List.mem_append_left _ (List.mem_append_right _ h))))))))
  have hl := lv_entry [.ref (X.1 0 0)] (n := 5) (Nat.le_of_ble_eq_true rfl)
  rw [lg_entry_eq]
  generalize (lg_sl [.ref (X.1 0 0)] ++ List.replicate (5 - (lg_sl [.ref (X.1 0 0)]).length) Slot.unset).toArray = ls at hl ⊢
  have hl : lv_has ls 5 [(0, .ref (X.1 0 0))] := hl
  have b0 := hI.n0
  have b1 := hI.n1
  have b2 := hI.n2
  have b3 := hI.n3
  refine lv_ldc2 (own := RX5) (v := (227)) hx hb hown (hts _ (List.mem_of_getElem? (i := 1) rfl)) dX5_digest_0 ?_
  refine lv_aload_n hx hb dX5_digest_3 rfl (lv_at hl 0 rfl) ?_
  refine wk_get (own := RX5) (C := RX5) (T := TX5) (N := 7) (ci := 6) (v := .int (z_now σ)) hx hb hts i_X5 hown hK hA.desk rfl 5 (by decide) (hts _ (List.mem_of_getElem? (i := 2) rfl)) (fun _ h9 => h9) rfl dX5_digest_4 ?_
  refine lv_i2l (v := (z_now σ).toInt64) hx hb dX5_digest_7 rfl ?_
  refine wk_S (As := [.long (227), .long ((z_now σ).toInt64)]) (rest := []) ⟨hx, hb, hml, hown, hts⟩ (c_X5_mix l E (x := (227)) (y := (z_now σ).toInt64)) (va_cwS 2 hts gX5_digest_X5_mix rfl rfl rfl (by decide +kernel) ⟨(Nat.le_of_ble_eq_true rfl), (Nat.le_of_ble_eq_true rfl)⟩) hK rfl hl.1 rfl (Nat.le_of_ble_eq_true rfl) dX5_digest_8 ⟨Nat.zero_le _, Nat.zero_le _⟩ ?_
  refine lv_aload_n hx hb dX5_digest_11 rfl (lv_at hl 0 rfl) ?_
  refine wk_get (own := RX5) (C := RX5) (T := TX5) (N := 7) (ci := 6) (v := .int (z_ho σ)) hx hb hts i_X5 hown hK hA.desk rfl 6 (by decide) (hts _ (List.mem_of_getElem? (i := 3) rfl)) (fun _ h9 => h9) rfl dX5_digest_12 ?_
  refine lv_i2l (v := (z_ho σ).toInt64) hx hb dX5_digest_15 rfl ?_
  refine wk_S (As := [.long ((227) * 31 + ((z_now σ).toInt64)), .long ((z_ho σ).toInt64)]) (rest := []) ⟨hx, hb, hml, hown, hts⟩ (c_X5_mix l E (x := (227) * 31 + ((z_now σ).toInt64)) (y := (z_ho σ).toInt64)) (va_cwS 2 hts gX5_digest_X5_mix rfl rfl rfl (by decide +kernel) ⟨(Nat.le_of_ble_eq_true rfl), (Nat.le_of_ble_eq_true rfl)⟩) hK rfl hl.1 rfl (Nat.le_of_ble_eq_true rfl) dX5_digest_16 ⟨Nat.zero_le _, Nat.zero_le _⟩ ?_
  refine lv_lstore_n (lv' := [(1, .long (((227) * 31 + ((z_now σ).toInt64)) * 31 + ((z_ho σ).toInt64))), (0, .ref (X.1 0 0))]) hx hb dX5_digest_19 rfl hl (by decide) rfl (fun ls hl => ?_)
  refine lv_lload_n hx hb dX5_digest_20 rfl (lv_at hl 0 rfl) ?_
  refine lv_aload_n hx hb dX5_digest_21 rfl (lv_at hl 1 rfl) ?_
  refine wk_get (own := RX5) (C := RX5) (T := TX5) (N := 7) (ci := 6) (v := .ref (X.1 1 0)) hx hb hts i_X5 hown hK hA.desk rfl 0 (by decide) (hts _ (List.mem_of_getElem? (i := 4) rfl)) (fun _ h9 => h9) rfl dX5_digest_22 ?_
  refine wk_V (As := []) (rest := [.long (((227) * 31 + ((z_now σ).toInt64)) * 31 + ((z_ho σ).toInt64))]) ⟨hx, hb, hml, hown, hts⟩ (c_size0 l E hA) (cwV 0 hts gX5_digest_Jx4a65c_size_8abf5 rfl rfl rfl (by decide +kernel) ⟨(Nat.le_of_ble_eq_true rfl), (Nat.le_of_ble_eq_true rfl)⟩) (wk_recv hK (hA.list (j := 0) (by decide)) rfl) hK rfl hl.1 rfl (Nat.le_of_ble_eq_true rfl) dX5_digest_25 ⟨Nat.zero_le _, Nat.zero_le _⟩ ?_
  refine lv_i2l (v := (nI (z_n σ 0)).toInt64) hx hb dX5_digest_28 rfl ?_
  refine wk_S (As := [.long (((227) * 31 + ((z_now σ).toInt64)) * 31 + ((z_ho σ).toInt64)), .long ((nI (z_n σ 0)).toInt64)]) (rest := []) ⟨hx, hb, hml, hown, hts⟩ (c_X5_mix l E (x := ((227) * 31 + ((z_now σ).toInt64)) * 31 + ((z_ho σ).toInt64)) (y := (nI (z_n σ 0)).toInt64)) (va_cwS 2 hts gX5_digest_X5_mix rfl rfl rfl (by decide +kernel) ⟨(Nat.le_of_ble_eq_true rfl), (Nat.le_of_ble_eq_true rfl)⟩) hK rfl hl.1 rfl (Nat.le_of_ble_eq_true rfl) dX5_digest_29 ⟨Nat.zero_le _, Nat.zero_le _⟩ ?_
  refine lv_lstore_n (lv' := [(1, .long ((((227) * 31 + ((z_now σ).toInt64)) * 31 + ((z_ho σ).toInt64)) * 31 + ((nI (z_n σ 0)).toInt64))), (0, .ref (X.1 0 0))]) hx hb dX5_digest_32 rfl hl (by decide) rfl (fun ls hl => ?_)
  refine lv_iconst (v := 0) hx hb dX5_digest_33 (by decide) ?_
  refine lv_istore_n (lv' := [(3, .int 0), (1, .long ((((227) * 31 + ((z_now σ).toInt64)) * 31 + ((z_ho σ).toInt64)) * 31 + ((nI (z_n σ 0)).toInt64))), (0, .ref (X.1 0 0))]) hx hb dX5_digest_34 rfl hl (by decide) rfl (fun ls hl => ?_)
  have L_35 : ∀ (n_35 : Nat) (k : Nat), z_n σ 0 - k < n_35 → (k ≤ z_n σ 0) → ∀ ls : Array Slot, lv_has ls 5 [(0, .ref (X.1 0 0)), (1, .long (f_fold2 (f_ant σ) 4 (f_dig0 σ) k)), (3, .int (nI k))] → W p l e (headSpec wsX5_digest rmX5_digest).room s m ([.ref (X.1 0 0)] : List Value).toArray below meth c s.heap [] 0 0 (MQ below (wk_Q (some (.long (f_digest σ)))) ([.ref (X.1 0 0)] : List Value).toArray s 0 0 (fun _ => False)) (F0 m 35 ls []) := by
    intro n_35
    induction n_35 with
    | zero => intro k hm; exact absurd hm (Nat.not_lt_zero _)
    | succ n_35 ih_35 =>
      intro k hm_35 hk_k ls hl
      refine lv_iload_n hx hb dX5_digest_35 rfl (lv_at hl 2 rfl) ?_
      refine lv_aload_n hx hb dX5_digest_36 rfl (lv_at hl 0 rfl) ?_
      refine wk_get (own := RX5) (C := RX5) (T := TX5) (N := 7) (ci := 6) (v := .ref (X.1 1 0)) hx hb hts i_X5 hown hK hA.desk rfl 0 (by decide) (hts _ (List.mem_of_getElem? (i := 4) rfl)) (fun _ h9 => h9) rfl dX5_digest_37 ?_
      refine wk_V (As := []) (rest := [.int (nI k)]) ⟨hx, hb, hml, hown, hts⟩ (c_size0 l E hA) (cwV 0 hts gX5_digest_Jx4a65c_size_8abf5 rfl rfl rfl (by decide +kernel) ⟨(Nat.le_of_ble_eq_true rfl), (Nat.le_of_ble_eq_true rfl)⟩) (wk_recv hK (hA.list (j := 0) (by decide)) rfl) hK rfl hl.1 rfl (Nat.le_of_ble_eq_true rfl) dX5_digest_40 ⟨Nat.zero_le _, Nat.zero_le _⟩ ?_
      refine lv_icmp_ge (tgt := 80) hx hb dX5_digest_43 (by decide) (fun c_43 => ?_) (fun c_43 => ?_)
      · skip
        have e_43 : (z_n σ 0) ≤ k := wk_cget (by omega) (by omega) c_43
        have hkN : k = z_n σ 0 := by omega
        refine lv_lload_n hx hb dX5_digest_80 rfl (lv_at hl 1 rfl) ?_
        refine lv_aload_n hx hb dX5_digest_81 rfl (lv_at hl 0 rfl) ?_
        refine wk_get (own := RX5) (C := RX5) (T := TX5) (N := 7) (ci := 6) (v := .ref (X.1 1 1)) hx hb hts i_X5 hown hK hA.desk rfl 1 (by decide) (hts _ (List.mem_of_getElem? (i := 5) rfl)) (fun _ h9 => h9) rfl dX5_digest_82 ?_
        refine wk_V (As := []) (rest := [.long (f_fold2 (f_ant σ) 4 (f_dig0 σ) k)]) ⟨hx, hb, hml, hown, hts⟩ (c_size1 l E hA) (cwV 0 hts gX5_digest_Jx4a65c_size_8abf5 rfl rfl rfl (by decide +kernel) ⟨(Nat.le_of_ble_eq_true rfl), (Nat.le_of_ble_eq_true rfl)⟩) (wk_recv hK (hA.list (j := 1) (by decide)) rfl) hK rfl hl.1 rfl (Nat.le_of_ble_eq_true rfl) dX5_digest_85 ⟨Nat.zero_le _, Nat.zero_le _⟩ ?_
        refine lv_i2l (v := (nI (z_n σ 1)).toInt64) hx hb dX5_digest_88 rfl ?_
        refine wk_S (As := [.long (f_fold2 (f_ant σ) 4 (f_dig0 σ) k), .long ((nI (z_n σ 1)).toInt64)]) (rest := []) ⟨hx, hb, hml, hown, hts⟩ (c_X5_mix l E (x := f_fold2 (f_ant σ) 4 (f_dig0 σ) k) (y := (nI (z_n σ 1)).toInt64)) (va_cwS 2 hts gX5_digest_X5_mix rfl rfl rfl (by decide +kernel) ⟨(Nat.le_of_ble_eq_true rfl), (Nat.le_of_ble_eq_true rfl)⟩) hK rfl hl.1 rfl (Nat.le_of_ble_eq_true rfl) dX5_digest_89 ⟨Nat.zero_le _, Nat.zero_le _⟩ ?_
        refine wk_eql (show (f_fold2 (f_ant σ) 4 (f_dig0 σ) k) * 31 + ((nI (z_n σ 1)).toInt64) = f_dig1 σ from by rw [hkN]; rfl) ?_
        refine lv_lstore_n (lv' := [(1, .long (f_dig1 σ)), (0, .ref (X.1 0 0)), (3, .int (nI k))]) hx hb dX5_digest_92 rfl hl (by decide) rfl (fun ls hl => ?_)
        refine lv_iconst (v := 0) hx hb dX5_digest_93 (by decide) ?_
        refine lv_istore_n (lv' := [(3, .int 0), (1, .long (f_dig1 σ)), (0, .ref (X.1 0 0))]) hx hb dX5_digest_94 rfl hl (by decide) rfl (fun ls hl => ?_)
        have L_95 : ∀ (n_95 : Nat) (k : Nat), z_n σ 1 - k < n_95 → (k ≤ z_n σ 1) → ∀ ls : Array Slot, lv_has ls 5 [(0, .ref (X.1 0 0)), (1, .long (f_fold2 (f_sat σ) 4 (f_dig1 σ) k)), (3, .int (nI k))] → W p l e (headSpec wsX5_digest rmX5_digest).room s m ([.ref (X.1 0 0)] : List Value).toArray below meth c s.heap [] 0 0 (MQ below (wk_Q (some (.long (f_digest σ)))) ([.ref (X.1 0 0)] : List Value).toArray s 0 0 (fun _ => False)) (F0 m 95 ls []) := by
          intro n_95
          induction n_95 with
          | zero => intro k hm; exact absurd hm (Nat.not_lt_zero _)
          | succ n_95 ih_95 =>
            intro k hm_95 hk_k ls hl
            refine lv_iload_n hx hb dX5_digest_95 rfl (lv_at hl 2 rfl) ?_
            refine lv_aload_n hx hb dX5_digest_96 rfl (lv_at hl 0 rfl) ?_
            refine wk_get (own := RX5) (C := RX5) (T := TX5) (N := 7) (ci := 6) (v := .ref (X.1 1 1)) hx hb hts i_X5 hown hK hA.desk rfl 1 (by decide) (hts _ (List.mem_of_getElem? (i := 5) rfl)) (fun _ h9 => h9) rfl dX5_digest_97 ?_
            refine wk_V (As := []) (rest := [.int (nI k)]) ⟨hx, hb, hml, hown, hts⟩ (c_size1 l E hA) (cwV 0 hts gX5_digest_Jx4a65c_size_8abf5 rfl rfl rfl (by decide +kernel) ⟨(Nat.le_of_ble_eq_true rfl), (Nat.le_of_ble_eq_true rfl)⟩) (wk_recv hK (hA.list (j := 1) (by decide)) rfl) hK rfl hl.1 rfl (Nat.le_of_ble_eq_true rfl) dX5_digest_100 ⟨Nat.zero_le _, Nat.zero_le _⟩ ?_
            refine lv_icmp_ge (tgt := 140) hx hb dX5_digest_103 (by decide) (fun c_103 => ?_) (fun c_103 => ?_)
            · skip
              have e_103 : (z_n σ 1) ≤ k := wk_cget (by omega) (by omega) c_103
              have hkN : k = z_n σ 1 := by omega
              refine lv_lload_n hx hb dX5_digest_140 rfl (lv_at hl 1 rfl) ?_
              refine lv_aload_n hx hb dX5_digest_141 rfl (lv_at hl 0 rfl) ?_
              refine wk_get (own := RX5) (C := RX5) (T := TX5) (N := 7) (ci := 6) (v := .ref (X.1 1 2)) hx hb hts i_X5 hown hK hA.desk rfl 2 (by decide) (hts _ (List.mem_of_getElem? (i := 6) rfl)) (fun _ h9 => h9) rfl dX5_digest_142 ?_
              refine wk_V (As := []) (rest := [.long (f_fold2 (f_sat σ) 4 (f_dig1 σ) k)]) ⟨hx, hb, hml, hown, hts⟩ (c_size2 l E hA) (cwV 0 hts gX5_digest_Jx4a65c_size_8abf5 rfl rfl rfl (by decide +kernel) ⟨(Nat.le_of_ble_eq_true rfl), (Nat.le_of_ble_eq_true rfl)⟩) (wk_recv hK (hA.list (j := 2) (by decide)) rfl) hK rfl hl.1 rfl (Nat.le_of_ble_eq_true rfl) dX5_digest_145 ⟨Nat.zero_le _, Nat.zero_le _⟩ ?_
              refine lv_i2l (v := (nI (z_n σ 2)).toInt64) hx hb dX5_digest_148 rfl ?_
              refine wk_S (As := [.long (f_fold2 (f_sat σ) 4 (f_dig1 σ) k), .long ((nI (z_n σ 2)).toInt64)]) (rest := []) ⟨hx, hb, hml, hown, hts⟩ (c_X5_mix l E (x := f_fold2 (f_sat σ) 4 (f_dig1 σ) k) (y := (nI (z_n σ 2)).toInt64)) (va_cwS 2 hts gX5_digest_X5_mix rfl rfl rfl (by decide +kernel) ⟨(Nat.le_of_ble_eq_true rfl), (Nat.le_of_ble_eq_true rfl)⟩) hK rfl hl.1 rfl (Nat.le_of_ble_eq_true rfl) dX5_digest_149 ⟨Nat.zero_le _, Nat.zero_le _⟩ ?_
              refine wk_eql (show (f_fold2 (f_sat σ) 4 (f_dig1 σ) k) * 31 + ((nI (z_n σ 2)).toInt64) = f_dig2 σ from by rw [hkN]; rfl) ?_
              refine lv_lstore_n (lv' := [(1, .long (f_dig2 σ)), (0, .ref (X.1 0 0)), (3, .int (nI k))]) hx hb dX5_digest_152 rfl hl (by decide) rfl (fun ls hl => ?_)
              refine lv_iconst (v := 0) hx hb dX5_digest_153 (by decide) ?_
              refine lv_istore_n (lv' := [(3, .int 0), (1, .long (f_dig2 σ)), (0, .ref (X.1 0 0))]) hx hb dX5_digest_154 rfl hl (by decide) rfl (fun ls hl => ?_)
              have L_155 : ∀ (n_155 : Nat) (k : Nat), z_n σ 2 - k < n_155 → (k ≤ z_n σ 2) → ∀ ls : Array Slot, lv_has ls 5 [(0, .ref (X.1 0 0)), (1, .long (f_fold2 (f_pass σ) 8 (f_dig2 σ) k)), (3, .int (nI k))] → W p l e (headSpec wsX5_digest rmX5_digest).room s m ([.ref (X.1 0 0)] : List Value).toArray below meth c s.heap [] 0 0 (MQ below (wk_Q (some (.long (f_digest σ)))) ([.ref (X.1 0 0)] : List Value).toArray s 0 0 (fun _ => False)) (F0 m 155 ls []) := by
                intro n_155
                induction n_155 with
                | zero => intro k hm; exact absurd hm (Nat.not_lt_zero _)
                | succ n_155 ih_155 =>
                  intro k hm_155 hk_k ls hl
                  refine lv_iload_n hx hb dX5_digest_155 rfl (lv_at hl 2 rfl) ?_
                  refine lv_aload_n hx hb dX5_digest_156 rfl (lv_at hl 0 rfl) ?_
                  refine wk_get (own := RX5) (C := RX5) (T := TX5) (N := 7) (ci := 6) (v := .ref (X.1 1 2)) hx hb hts i_X5 hown hK hA.desk rfl 2 (by decide) (hts _ (List.mem_of_getElem? (i := 6) rfl)) (fun _ h9 => h9) rfl dX5_digest_157 ?_
                  refine wk_V (As := []) (rest := [.int (nI k)]) ⟨hx, hb, hml, hown, hts⟩ (c_size2 l E hA) (cwV 0 hts gX5_digest_Jx4a65c_size_8abf5 rfl rfl rfl (by decide +kernel) ⟨(Nat.le_of_ble_eq_true rfl), (Nat.le_of_ble_eq_true rfl)⟩) (wk_recv hK (hA.list (j := 2) (by decide)) rfl) hK rfl hl.1 rfl (Nat.le_of_ble_eq_true rfl) dX5_digest_160 ⟨Nat.zero_le _, Nat.zero_le _⟩ ?_
                  refine lv_icmp_ge (tgt := 201) hx hb dX5_digest_163 (by decide) (fun c_163 => ?_) (fun c_163 => ?_)
                  · skip
                    have e_163 : (z_n σ 2) ≤ k := wk_cget (by omega) (by omega) c_163
                    have hkN : k = z_n σ 2 := by omega
                    refine lv_lload_n hx hb dX5_digest_201 rfl (lv_at hl 1 rfl) ?_
                    exact W.lret hx hb hr (fun t ht _ => wk_ret (congrArg Value.long (by rw [hkN]; rfl)) ht) wk_nil dX5_digest_202
                  have e_163 : k < (z_n σ 2) := wk_cgef (by omega) (by omega) c_163
                  refine lv_iconst (v := 0) hx hb dX5_digest_166 (by decide) ?_
                  refine lv_istore (lv' := [(4, .int 0), (0, .ref (X.1 0 0)), (1, .long (f_fold2 (f_pass σ) 8 (f_dig2 σ) k)), (3, .int (nI k))]) hx hb dX5_digest_167 hl (by decide) rfl (fun ls hl => ?_)
                  have L_169 : ∀ (n_169 : Nat) (w : Nat), 8 - w < n_169 → (w ≤ 8) → ∀ ls : Array Slot, lv_has ls 5 [(0, .ref (X.1 0 0)), (1, .long (f_fold (f_pass σ k) (f_fold2 (f_pass σ) 8 (f_dig2 σ) k) w)), (3, .int (nI k)), (4, .int (nI w))] → W p l e (headSpec wsX5_digest rmX5_digest).room s m ([.ref (X.1 0 0)] : List Value).toArray below meth c s.heap [] 0 0 (MQ below (wk_Q (some (.long (f_digest σ)))) ([.ref (X.1 0 0)] : List Value).toArray s 0 0 (fun _ => False)) (F0 m 169 ls []) := by
                    intro n_169
                    induction n_169 with
                    | zero => intro w hm; exact absurd hm (Nat.not_lt_zero _)
                    | succ n_169 ih_169 =>
                      intro w hm_169 hk_w ls hl
                      refine lv_iload hx hb dX5_digest_169 (lv_at hl 3 rfl) ?_
                      refine lv_bipush (v := 8) hx hb dX5_digest_171 (by decide) ?_
                      refine lv_icmp_ge (tgt := 195) hx hb dX5_digest_173 (by decide) (fun c_173 => ?_) (fun c_173 => ?_)
                      · skip
                        have e_173 : 8 ≤ w := wk_cget (by omega) (by omega) c_173
                        have hkw_169 : w = 8 := by omega
                        refine lv_iinc (v := nI (k + 1)) (lv' := [(3, .int (nI (k + 1))), (0, .ref (X.1 0 0)), (1, .long (f_fold (f_pass σ k) (f_fold2 (f_pass σ) 8 (f_dig2 σ) k) w)), (4, .int (nI w))]) hx hb dX5_digest_195 hl (k := 2) rfl (nI_1 _) (by decide) rfl (fun ls hl => ?_)
                        refine lv_goto (tgt := 155) hx hb dX5_digest_198 (by decide) ?_
                        have hl : lv_has ls 5 [(3, .int (nI (k + 1))), (0, .ref (X.1 0 0)), (1, .long (f_fold2 (f_pass σ) 8 (f_dig2 σ) (k + 1))), (4, .int (nI w))] := by rw [show f_fold2 (f_pass σ) 8 (f_dig2 σ) (k + 1) = f_fold (f_pass σ k) (f_fold2 (f_pass σ) 8 (f_dig2 σ) k) w from (by rw [hkw_169]; rfl)]; exact hl
                        exact ih_155 (k + 1) (by omega) (by omega) ls (lv_sub hl [1, 2, 0] rfl)
                      have e_173 : w < 8 := wk_cgef (by omega) (by omega) c_173
                      refine lv_lload_n hx hb dX5_digest_176 rfl (lv_at hl 1 rfl) ?_
                      refine lv_aload_n hx hb dX5_digest_177 rfl (lv_at hl 0 rfl) ?_
                      refine lv_iload_n hx hb dX5_digest_178 rfl (lv_at hl 2 rfl) ?_
                      refine lv_iload hx hb dX5_digest_179 (lv_at hl 3 rfl) ?_
                      refine wk_V (As := [.int (nI k), .int (nI w)]) (rest := [.long (f_fold (f_pass σ k) (f_fold2 (f_pass σ) 8 (f_dig2 σ) k) w)]) ⟨hx, hb, hml, hown, hts⟩ (c_X5_pass l E hA hI e_163 (by omega)) (cwV 2 hts gX5_digest_X5_pass rfl rfl rfl (by decide +kernel) ⟨(Nat.le_of_ble_eq_true rfl), (Nat.le_of_ble_eq_true rfl)⟩) (wk_recv hK hA.desk rfl) hK rfl hl.1 rfl (Nat.le_of_ble_eq_true rfl) dX5_digest_181 ⟨Nat.zero_le _, Nat.zero_le _⟩ ?_
                      refine lv_i2l (v := (f_pass σ k w).toInt64) hx hb dX5_digest_184 rfl ?_
                      refine wk_S (As := [.long (f_fold (f_pass σ k) (f_fold2 (f_pass σ) 8 (f_dig2 σ) k) w), .long ((f_pass σ k w).toInt64)]) (rest := []) ⟨hx, hb, hml, hown, hts⟩ (c_X5_mix l E (x := f_fold (f_pass σ k) (f_fold2 (f_pass σ) 8 (f_dig2 σ) k) w) (y := (f_pass σ k w).toInt64)) (va_cwS 2 hts gX5_digest_X5_mix rfl rfl rfl (by decide +kernel) ⟨(Nat.le_of_ble_eq_true rfl), (Nat.le_of_ble_eq_true rfl)⟩) hK rfl hl.1 rfl (Nat.le_of_ble_eq_true rfl) dX5_digest_185 ⟨Nat.zero_le _, Nat.zero_le _⟩ ?_
                      refine lv_lstore_n (lv' := [(1, .long ((f_fold (f_pass σ k) (f_fold2 (f_pass σ) 8 (f_dig2 σ) k) w) * 31 + ((f_pass σ k w).toInt64))), (0, .ref (X.1 0 0)), (3, .int (nI k)), (4, .int (nI w))]) hx hb dX5_digest_188 rfl hl (by decide) rfl (fun ls hl => ?_)
                      refine lv_iinc (v := nI (w + 1)) (lv' := [(4, .int (nI (w + 1))), (1, .long ((f_fold (f_pass σ k) (f_fold2 (f_pass σ) 8 (f_dig2 σ) k) w) * 31 + ((f_pass σ k w).toInt64))), (0, .ref (X.1 0 0)), (3, .int (nI k))]) hx hb dX5_digest_189 hl (k := 3) rfl (nI_1 _) (by decide) rfl (fun ls hl => ?_)
                      refine lv_goto (tgt := 169) hx hb dX5_digest_192 (by decide) ?_
                      have hl : lv_has ls 5 [(4, .int (nI (w + 1))), (1, .long (f_fold (f_pass σ k) (f_fold2 (f_pass σ) 8 (f_dig2 σ) k) (w + 1))), (0, .ref (X.1 0 0)), (3, .int (nI k))] := by rw [show f_fold (f_pass σ k) (f_fold2 (f_pass σ) 8 (f_dig2 σ) k) (w + 1) = (f_fold (f_pass σ k) (f_fold2 (f_pass σ) 8 (f_dig2 σ) k) w) * 31 + ((f_pass σ k w).toInt64) from rfl]; exact hl
                      exact ih_169 (w + 1) (by omega) (by omega) ls (lv_sub hl [2, 1, 3, 0] rfl)
                  exact L_169 _ 0 (Nat.lt_succ_self _) (Nat.zero_le _) ls (lv_sub hl [1, 2, 3, 0] rfl)
              exact L_155 _ 0 (Nat.lt_succ_self _) (Nat.zero_le _) ls (lv_sub hl [2, 1, 0] rfl)
            have e_103 : k < (z_n σ 1) := wk_cgef (by omega) (by omega) c_103
            refine lv_iconst (v := 0) hx hb dX5_digest_106 (by decide) ?_
            refine lv_istore (lv' := [(4, .int 0), (0, .ref (X.1 0 0)), (1, .long (f_fold2 (f_sat σ) 4 (f_dig1 σ) k)), (3, .int (nI k))]) hx hb dX5_digest_107 hl (by decide) rfl (fun ls hl => ?_)
            have L_109 : ∀ (n_109 : Nat) (w : Nat), 4 - w < n_109 → (w ≤ 4) → ∀ ls : Array Slot, lv_has ls 5 [(0, .ref (X.1 0 0)), (1, .long (f_fold (f_sat σ k) (f_fold2 (f_sat σ) 4 (f_dig1 σ) k) w)), (3, .int (nI k)), (4, .int (nI w))] → W p l e (headSpec wsX5_digest rmX5_digest).room s m ([.ref (X.1 0 0)] : List Value).toArray below meth c s.heap [] 0 0 (MQ below (wk_Q (some (.long (f_digest σ)))) ([.ref (X.1 0 0)] : List Value).toArray s 0 0 (fun _ => False)) (F0 m 109 ls []) := by
              intro n_109
              induction n_109 with
              | zero => intro w hm; exact absurd hm (Nat.not_lt_zero _)
              | succ n_109 ih_109 =>
                intro w hm_109 hk_w ls hl
                refine lv_iload hx hb dX5_digest_109 (lv_at hl 3 rfl) ?_
                refine lv_iconst (v := 4) hx hb dX5_digest_111 (by decide) ?_
                refine lv_icmp_ge (tgt := 134) hx hb dX5_digest_112 (by decide) (fun c_112 => ?_) (fun c_112 => ?_)
                · skip
                  have e_112 : 4 ≤ w := wk_cget (by omega) (by omega) c_112
                  have hkw_109 : w = 4 := by omega
                  refine lv_iinc (v := nI (k + 1)) (lv' := [(3, .int (nI (k + 1))), (0, .ref (X.1 0 0)), (1, .long (f_fold (f_sat σ k) (f_fold2 (f_sat σ) 4 (f_dig1 σ) k) w)), (4, .int (nI w))]) hx hb dX5_digest_134 hl (k := 2) rfl (nI_1 _) (by decide) rfl (fun ls hl => ?_)
                  refine lv_goto (tgt := 95) hx hb dX5_digest_137 (by decide) ?_
                  have hl : lv_has ls 5 [(3, .int (nI (k + 1))), (0, .ref (X.1 0 0)), (1, .long (f_fold2 (f_sat σ) 4 (f_dig1 σ) (k + 1))), (4, .int (nI w))] := by rw [show f_fold2 (f_sat σ) 4 (f_dig1 σ) (k + 1) = f_fold (f_sat σ k) (f_fold2 (f_sat σ) 4 (f_dig1 σ) k) w from (by rw [hkw_109]; rfl)]; exact hl
                  exact ih_95 (k + 1) (by omega) (by omega) ls (lv_sub hl [1, 2, 0] rfl)
                have e_112 : w < 4 := wk_cgef (by omega) (by omega) c_112
                refine lv_lload_n hx hb dX5_digest_115 rfl (lv_at hl 1 rfl) ?_
                refine lv_aload_n hx hb dX5_digest_116 rfl (lv_at hl 0 rfl) ?_
                refine lv_iload_n hx hb dX5_digest_117 rfl (lv_at hl 2 rfl) ?_
                refine lv_iload hx hb dX5_digest_118 (lv_at hl 3 rfl) ?_
                refine wk_V (As := [.int (nI k), .int (nI w)]) (rest := [.long (f_fold (f_sat σ k) (f_fold2 (f_sat σ) 4 (f_dig1 σ) k) w)]) ⟨hx, hb, hml, hown, hts⟩ (c_X5_satellite l E hA hI e_103 (by omega)) (cwV 2 hts gX5_digest_X5_satellite rfl rfl rfl (by decide +kernel) ⟨(Nat.le_of_ble_eq_true rfl), (Nat.le_of_ble_eq_true rfl)⟩) (wk_recv hK hA.desk rfl) hK rfl hl.1 rfl (Nat.le_of_ble_eq_true rfl) dX5_digest_120 ⟨Nat.zero_le _, Nat.zero_le _⟩ ?_
                refine lv_i2l (v := (f_sat σ k w).toInt64) hx hb dX5_digest_123 rfl ?_
                refine wk_S (As := [.long (f_fold (f_sat σ k) (f_fold2 (f_sat σ) 4 (f_dig1 σ) k) w), .long ((f_sat σ k w).toInt64)]) (rest := []) ⟨hx, hb, hml, hown, hts⟩ (c_X5_mix l E (x := f_fold (f_sat σ k) (f_fold2 (f_sat σ) 4 (f_dig1 σ) k) w) (y := (f_sat σ k w).toInt64)) (va_cwS 2 hts gX5_digest_X5_mix rfl rfl rfl (by decide +kernel) ⟨(Nat.le_of_ble_eq_true rfl), (Nat.le_of_ble_eq_true rfl)⟩) hK rfl hl.1 rfl (Nat.le_of_ble_eq_true rfl) dX5_digest_124 ⟨Nat.zero_le _, Nat.zero_le _⟩ ?_
                refine lv_lstore_n (lv' := [(1, .long ((f_fold (f_sat σ k) (f_fold2 (f_sat σ) 4 (f_dig1 σ) k) w) * 31 + ((f_sat σ k w).toInt64))), (0, .ref (X.1 0 0)), (3, .int (nI k)), (4, .int (nI w))]) hx hb dX5_digest_127 rfl hl (by decide) rfl (fun ls hl => ?_)
                refine lv_iinc (v := nI (w + 1)) (lv' := [(4, .int (nI (w + 1))), (1, .long ((f_fold (f_sat σ k) (f_fold2 (f_sat σ) 4 (f_dig1 σ) k) w) * 31 + ((f_sat σ k w).toInt64))), (0, .ref (X.1 0 0)), (3, .int (nI k))]) hx hb dX5_digest_128 hl (k := 3) rfl (nI_1 _) (by decide) rfl (fun ls hl => ?_)
                refine lv_goto (tgt := 109) hx hb dX5_digest_131 (by decide) ?_
                have hl : lv_has ls 5 [(4, .int (nI (w + 1))), (1, .long (f_fold (f_sat σ k) (f_fold2 (f_sat σ) 4 (f_dig1 σ) k) (w + 1))), (0, .ref (X.1 0 0)), (3, .int (nI k))] := by rw [show f_fold (f_sat σ k) (f_fold2 (f_sat σ) 4 (f_dig1 σ) k) (w + 1) = (f_fold (f_sat σ k) (f_fold2 (f_sat σ) 4 (f_dig1 σ) k) w) * 31 + ((f_sat σ k w).toInt64) from rfl]; exact hl
                exact ih_109 (w + 1) (by omega) (by omega) ls (lv_sub hl [2, 1, 3, 0] rfl)
            exact L_109 _ 0 (Nat.lt_succ_self _) (Nat.zero_le _) ls (lv_sub hl [1, 2, 3, 0] rfl)
        exact L_95 _ 0 (Nat.lt_succ_self _) (Nat.zero_le _) ls (lv_sub hl [2, 1, 0] rfl)
      have e_43 : k < (z_n σ 0) := wk_cgef (by omega) (by omega) c_43
      refine lv_iconst (v := 0) hx hb dX5_digest_46 (by decide) ?_
      refine lv_istore (lv' := [(4, .int 0), (0, .ref (X.1 0 0)), (1, .long (f_fold2 (f_ant σ) 4 (f_dig0 σ) k)), (3, .int (nI k))]) hx hb dX5_digest_47 hl (by decide) rfl (fun ls hl => ?_)
      have L_49 : ∀ (n_49 : Nat) (w : Nat), 4 - w < n_49 → (w ≤ 4) → ∀ ls : Array Slot, lv_has ls 5 [(0, .ref (X.1 0 0)), (1, .long (f_fold (f_ant σ k) (f_fold2 (f_ant σ) 4 (f_dig0 σ) k) w)), (3, .int (nI k)), (4, .int (nI w))] → W p l e (headSpec wsX5_digest rmX5_digest).room s m ([.ref (X.1 0 0)] : List Value).toArray below meth c s.heap [] 0 0 (MQ below (wk_Q (some (.long (f_digest σ)))) ([.ref (X.1 0 0)] : List Value).toArray s 0 0 (fun _ => False)) (F0 m 49 ls []) := by
        intro n_49
        induction n_49 with
        | zero => intro w hm; exact absurd hm (Nat.not_lt_zero _)
        | succ n_49 ih_49 =>
          intro w hm_49 hk_w ls hl
          refine lv_iload hx hb dX5_digest_49 (lv_at hl 3 rfl) ?_
          refine lv_iconst (v := 4) hx hb dX5_digest_51 (by decide) ?_
          refine lv_icmp_ge (tgt := 74) hx hb dX5_digest_52 (by decide) (fun c_52 => ?_) (fun c_52 => ?_)
          · skip
            have e_52 : 4 ≤ w := wk_cget (by omega) (by omega) c_52
            have hkw_49 : w = 4 := by omega
            refine lv_iinc (v := nI (k + 1)) (lv' := [(3, .int (nI (k + 1))), (0, .ref (X.1 0 0)), (1, .long (f_fold (f_ant σ k) (f_fold2 (f_ant σ) 4 (f_dig0 σ) k) w)), (4, .int (nI w))]) hx hb dX5_digest_74 hl (k := 2) rfl (nI_1 _) (by decide) rfl (fun ls hl => ?_)
            refine lv_goto (tgt := 35) hx hb dX5_digest_77 (by decide) ?_
            have hl : lv_has ls 5 [(3, .int (nI (k + 1))), (0, .ref (X.1 0 0)), (1, .long (f_fold2 (f_ant σ) 4 (f_dig0 σ) (k + 1))), (4, .int (nI w))] := by rw [show f_fold2 (f_ant σ) 4 (f_dig0 σ) (k + 1) = f_fold (f_ant σ k) (f_fold2 (f_ant σ) 4 (f_dig0 σ) k) w from (by rw [hkw_49]; rfl)]; exact hl
            exact ih_35 (k + 1) (by omega) (by omega) ls (lv_sub hl [1, 2, 0] rfl)
          have e_52 : w < 4 := wk_cgef (by omega) (by omega) c_52
          refine lv_lload_n hx hb dX5_digest_55 rfl (lv_at hl 1 rfl) ?_
          refine lv_aload_n hx hb dX5_digest_56 rfl (lv_at hl 0 rfl) ?_
          refine lv_iload_n hx hb dX5_digest_57 rfl (lv_at hl 2 rfl) ?_
          refine lv_iload hx hb dX5_digest_58 (lv_at hl 3 rfl) ?_
          refine wk_V (As := [.int (nI k), .int (nI w)]) (rest := [.long (f_fold (f_ant σ k) (f_fold2 (f_ant σ) 4 (f_dig0 σ) k) w)]) ⟨hx, hb, hml, hown, hts⟩ (c_X5_antenna l E hA hI e_43 (by omega)) (cwV 2 hts gX5_digest_X5_antenna rfl rfl rfl (by decide +kernel) ⟨(Nat.le_of_ble_eq_true rfl), (Nat.le_of_ble_eq_true rfl)⟩) (wk_recv hK hA.desk rfl) hK rfl hl.1 rfl (Nat.le_of_ble_eq_true rfl) dX5_digest_60 ⟨Nat.zero_le _, Nat.zero_le _⟩ ?_
          refine lv_i2l (v := (f_ant σ k w).toInt64) hx hb dX5_digest_63 rfl ?_
          refine wk_S (As := [.long (f_fold (f_ant σ k) (f_fold2 (f_ant σ) 4 (f_dig0 σ) k) w), .long ((f_ant σ k w).toInt64)]) (rest := []) ⟨hx, hb, hml, hown, hts⟩ (c_X5_mix l E (x := f_fold (f_ant σ k) (f_fold2 (f_ant σ) 4 (f_dig0 σ) k) w) (y := (f_ant σ k w).toInt64)) (va_cwS 2 hts gX5_digest_X5_mix rfl rfl rfl (by decide +kernel) ⟨(Nat.le_of_ble_eq_true rfl), (Nat.le_of_ble_eq_true rfl)⟩) hK rfl hl.1 rfl (Nat.le_of_ble_eq_true rfl) dX5_digest_64 ⟨Nat.zero_le _, Nat.zero_le _⟩ ?_
          refine lv_lstore_n (lv' := [(1, .long ((f_fold (f_ant σ k) (f_fold2 (f_ant σ) 4 (f_dig0 σ) k) w) * 31 + ((f_ant σ k w).toInt64))), (0, .ref (X.1 0 0)), (3, .int (nI k)), (4, .int (nI w))]) hx hb dX5_digest_67 rfl hl (by decide) rfl (fun ls hl => ?_)
          refine lv_iinc (v := nI (w + 1)) (lv' := [(4, .int (nI (w + 1))), (1, .long ((f_fold (f_ant σ k) (f_fold2 (f_ant σ) 4 (f_dig0 σ) k) w) * 31 + ((f_ant σ k w).toInt64))), (0, .ref (X.1 0 0)), (3, .int (nI k))]) hx hb dX5_digest_68 hl (k := 3) rfl (nI_1 _) (by decide) rfl (fun ls hl => ?_)
          refine lv_goto (tgt := 49) hx hb dX5_digest_71 (by decide) ?_
          have hl : lv_has ls 5 [(4, .int (nI (w + 1))), (1, .long (f_fold (f_ant σ k) (f_fold2 (f_ant σ) 4 (f_dig0 σ) k) (w + 1))), (0, .ref (X.1 0 0)), (3, .int (nI k))] := by rw [show f_fold (f_ant σ k) (f_fold2 (f_ant σ) 4 (f_dig0 σ) k) (w + 1) = (f_fold (f_ant σ k) (f_fold2 (f_ant σ) 4 (f_dig0 σ) k) w) * 31 + ((f_ant σ k w).toInt64) from rfl]; exact hl
          exact ih_49 (w + 1) (by omega) (by omega) ls (lv_sub hl [2, 1, 3, 0] rfl)
      exact L_49 _ 0 (Nat.lt_succ_self _) (Nat.zero_le _) ls (lv_sub hl [1, 2, 3, 0] rfl)
  exact L_35 _ 0 (Nat.lt_succ_self _) (Nat.zero_le _) ls (lv_sub hl [2, 1, 0] rfl)
