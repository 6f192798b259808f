abbrev rmX5_share : Room := { frames := 3, cells := 0, slots := 0, locals := 64 }
set_option maxHeartbeats 4000000 in
set_option maxRecDepth 100000 in
theorem c_X5_share (l : Launch) (E : wk_E) {T : Nat → Nat × Nat} {X : z_X} {σ : z_S} {H : Heap} (hA : DA E T X σ H) (hI : z_Ok σ) (hSm : z_Sm σ) : wk_Met l yX5_share wsX5_share rmX5_share E H [.ref (X.1 0 0)] (some (.double (f_shareI σ))) := by
  refine Met.ofW (cc := cX5_share) (maxL := 4) (ret := (some .double)) (by decide) rfl ?_
  intro p e s m args below meth c s₁ B hml hv
  obtain ⟨rfl, hH, hK⟩ := hv
  subst hH
  have hx := B.exec
  have hb := B.bytes
  have hr := B.returns
  have hts := atoms_spec (ws := wsX5_share) B.pre
  have hown : s.vm.findClass RX5 = some m.cls := findClass_of_methodNamed B.named
  have hlocks := B.notSynchronized
  have i_X5 : ∀ w ∈ u_ws RX5 TX5 7, w ∈ wsX5_share := fun w h => (List.mem_cons_of_mem _ (List.mem_append_left _ (List.mem_append_left _ (List.mem_append_right _ h))))
  have i_X3 : ∀ w ∈ u_ws RX3 TX3 8, w ∈ wsX5_share := fun w h => (List.mem_cons_of_mem _ (List.mem_append_left _ (List.mem_append_right _ h)))
  have hl := lv_entry [.ref (X.1 0 0)] (n := 4) (Nat.le_of_ble_eq_true rfl)
  rw [lg_entry_eq]
  generalize (lg_sl [.ref (X.1 0 0)] ++ List.replicate (4 - (lg_sl [.ref (X.1 0 0)]).length) Slot.unset).toArray = ls at hl ⊢
  have hl : lv_has ls 4 [(0, .ref (X.1 0 0))] := hl
  have b0 := hI.n0
  have b1 := hI.n1
  have b2 := hI.n2
  have b3 := hI.n3
  refine lv_iconst (v := 0) hx hb dX5_share_0 (by decide) ?_
  refine lv_istore_n (lv' := [(1, .int 0), (0, .ref (X.1 0 0))]) hx hb dX5_share_1 rfl hl (by decide) rfl (fun ls hl => ?_)
  refine lv_iconst (v := 0) hx hb dX5_share_2 (by decide) ?_
  refine lv_istore_n (lv' := [(2, .int 0), (1, .int 0), (0, .ref (X.1 0 0))]) hx hb dX5_share_3 rfl hl (by decide) rfl (fun ls hl => ?_)
  refine lv_iconst (v := 0) hx hb dX5_share_4 (by decide) ?_
  refine lv_istore_n (lv' := [(3, .int 0), (2, .int 0), (1, .int 0), (0, .ref (X.1 0 0))]) hx hb dX5_share_5 rfl hl (by decide) rfl (fun ls hl => ?_)
  have L_6 : ∀ (n_6 : Nat) (k : Nat), z_n σ 1 - k < n_6 → (k ≤ z_n σ 1) → ∀ ls : Array Slot, lv_has ls 4 [(0, .ref (X.1 0 0)), (1, .int (f_gi σ k)), (2, .int (f_di σ k)), (3, .int (nI k))] → W p l e (headSpec wsX5_share rmX5_share).room s m ([.ref (X.1 0 0)] : List Value).toArray below meth c s.heap [] 0 0 (MQ below (wk_Q (some (.double (f_shareI σ)))) ([.ref (X.1 0 0)] : List Value).toArray s 0 0 (fun _ => False)) (F0 m 6 ls []) := by
    intro n_6
    induction n_6 with
    | zero => intro k hm; exact absurd hm (Nat.not_lt_zero _)
    | succ n_6 ih_6 =>
      intro k hm_6 hk_k ls hl
      refine lv_iload_n hx hb dX5_share_6 rfl (lv_at hl 3 rfl) ?_
      refine lv_aload_n hx hb dX5_share_7 rfl (lv_at hl 0 rfl) ?_
      refine wk_get (own := RX5) (C := RX5) (T := TX5) (N := 7) (ci := 6) (v := .ref (X.1 1 1)) hx hb hts i_X5 hown hK hA.desk rfl 1 (by decide) (hts _ (List.mem_of_getElem? (i := 1) rfl)) (fun _ h9 => h9) rfl dX5_share_8 ?_
      refine wk_V (As := []) (rest := [.int (nI k)]) ⟨hx, hb, hml, hown, hts⟩ (c_size1 l E hA) (cwV 0 hts gX5_share_Jx4a65c_size_8abf5 rfl rfl rfl (by decide +kernel) ⟨(Nat.le_of_ble_eq_true rfl), (Nat.le_of_ble_eq_true rfl)⟩) (wk_recv hK (hA.list (j := 1) (by decide)) rfl) hK rfl hl.1 rfl (Nat.le_of_ble_eq_true rfl) dX5_share_11 ⟨Nat.zero_le _, Nat.zero_le _⟩ ?_
      refine lv_icmp_ge (tgt := 57) hx hb dX5_share_14 (by decide) (fun c_14 => ?_) (fun c_14 => ?_)
      · skip
        have e_14 : (z_n σ 1) ≤ k := wk_cget (by omega) (by omega) c_14
        have hkN : k = z_n σ 1 := by omega
        subst hkN
        refine lv_iload_n hx hb dX5_share_57 rfl (lv_at hl 1 rfl) ?_
        refine lv_if_ne (tgt := 63) hx hb dX5_share_58 (by decide) (fun c_58 => ?_) (fun c_58 => ?_)
        · skip
          refine lv_iload_n hx hb dX5_share_63 rfl (lv_at hl 2 rfl) ?_
          refine lv_i2d hx hb dX5_share_64 ?_
          refine lv_iload_n hx hb dX5_share_65 rfl (lv_at hl 1 rfl) ?_
          refine lv_i2d hx hb dX5_share_66 ?_
          refine lv_ddiv hx hb dX5_share_67 (f_share_nI hI hSm c_58 _) ?_
          exact W.dret hx hb hr (fun t ht _ => wk_ret (congrArg Value.double (by unfold f_shareI; rw [if_neg c_58])) ht) wk_nil dX5_share_68
        refine lv_dconst1 hx hb dX5_share_61 ?_
        exact W.dret hx hb hr (fun t ht _ => wk_ret (congrArg Value.double (by unfold f_shareI; rw [if_pos c_58])) ht) wk_nil dX5_share_62
      have e_14 : k < (z_n σ 1) := wk_cgef (by omega) (by omega) c_14
      refine lv_iload_n hx hb dX5_share_17 rfl (lv_at hl 1 rfl) ?_
      refine lv_aload_n hx hb dX5_share_18 rfl (lv_at hl 0 rfl) ?_
      refine wk_get (own := RX5) (C := RX5) (T := TX5) (N := 7) (ci := 6) (v := .ref (X.1 1 1)) hx hb hts i_X5 hown hK hA.desk rfl 1 (by decide) (hts _ (List.mem_of_getElem? (i := 1) rfl)) (fun _ h9 => h9) rfl dX5_share_19 ?_
      refine lv_iload_n hx hb dX5_share_22 rfl (lv_at hl 3 rfl) ?_
      refine wk_V (As := [.int (nI k)]) (rest := [.int (f_gi σ k)]) ⟨hx, hb, hml, hown, hts⟩ (c_get1 l E hA hI e_14) (cwV 1 hts gX5_share_Jx4a65c_get_915e3 rfl rfl rfl (by decide +kernel) ⟨(Nat.le_of_ble_eq_true rfl), (Nat.le_of_ble_eq_true rfl)⟩) (wk_recv hK (hA.list (j := 1) (by decide)) rfl) hK rfl hl.1 rfl (Nat.le_of_ble_eq_true rfl) dX5_share_23 ⟨Nat.zero_le _, Nat.zero_le _⟩ ?_
      refine va_castS (own := RX5) hx hb hown (hts _ (List.mem_of_getElem? (i := 2) rfl)) (hK.1.1 4 _ rfl).2 (wk_recv hK (hA.sat e_14) rfl) dX5_share_26 ?_
      refine wk_V (As := []) (rest := [.int (f_gi σ k)]) ⟨hx, hb, hml, hown, hts⟩ (c_X3_gathered l E hA hI e_14) (cwV 0 hts gX5_share_X3_gathered rfl rfl rfl (by decide +kernel) ⟨(Nat.le_of_ble_eq_true rfl), (Nat.le_of_ble_eq_true rfl)⟩) (wk_recv hK (hA.sat e_14) rfl) hK rfl hl.1 rfl (Nat.le_of_ble_eq_true rfl) dX5_share_29 ⟨Nat.zero_le _, Nat.zero_le _⟩ ?_
      refine lv_iadd hx hb dX5_share_32 ?_
      refine lv_istore_n (lv' := [(1, .int ((f_gi σ k) + (z_su σ k + z_sl σ k + z_sd σ k))), (0, .ref (X.1 0 0)), (2, .int (f_di σ k)), (3, .int (nI k))]) hx hb dX5_share_33 rfl hl (by decide) rfl (fun ls hl => ?_)
      refine lv_iload_n hx hb dX5_share_34 rfl (lv_at hl 2 rfl) ?_
      refine lv_aload_n hx hb dX5_share_35 rfl (lv_at hl 1 rfl) ?_
      refine wk_get (own := RX5) (C := RX5) (T := TX5) (N := 7) (ci := 6) (v := .ref (X.1 1 1)) hx hb hts i_X5 hown hK hA.desk rfl 1 (by decide) (hts _ (List.mem_of_getElem? (i := 1) rfl)) (fun _ h9 => h9) rfl dX5_share_36 ?_
      refine lv_iload_n hx hb dX5_share_39 rfl (lv_at hl 3 rfl) ?_
      refine wk_V (As := [.int (nI k)]) (rest := [.int (f_di σ k)]) ⟨hx, hb, hml, hown, hts⟩ (c_get1 l E hA hI e_14) (cwV 1 hts gX5_share_Jx4a65c_get_915e3 rfl rfl rfl (by decide +kernel) ⟨(Nat.le_of_ble_eq_true rfl), (Nat.le_of_ble_eq_true rfl)⟩) (wk_recv hK (hA.list (j := 1) (by decide)) rfl) hK rfl hl.1 rfl (Nat.le_of_ble_eq_true rfl) dX5_share_40 ⟨Nat.zero_le _, Nat.zero_le _⟩ ?_
      refine va_castS (own := RX5) hx hb hown (hts _ (List.mem_of_getElem? (i := 2) rfl)) (hK.1.1 4 _ rfl).2 (wk_recv hK (hA.sat e_14) rfl) dX5_share_43 ?_
      refine wk_get (own := RX5) (C := RX3) (T := TX3) (N := 8) (ci := 4) (v := .int (z_sd σ k)) hx hb hts i_X3 hown hK (hA.sat e_14) rfl 7 (by decide) (hts _ (List.mem_of_getElem? (i := 3) rfl)) (fun _ h9 => h9) rfl dX5_share_46 ?_
      refine lv_iadd hx hb dX5_share_49 ?_
      refine lv_istore_n (lv' := [(2, .int ((f_di σ k) + (z_sd σ k))), (1, .int ((f_gi σ k) + (z_su σ k + z_sl σ k + z_sd σ k))), (0, .ref (X.1 0 0)), (3, .int (nI k))]) hx hb dX5_share_50 rfl hl (by decide) rfl (fun ls hl => ?_)
      refine lv_iinc (v := nI (k + 1)) (lv' := [(3, .int (nI (k + 1))), (2, .int ((f_di σ k) + (z_sd σ k))), (1, .int ((f_gi σ k) + (z_su σ k + z_sl σ k + z_sd σ k))), (0, .ref (X.1 0 0))]) hx hb dX5_share_51 hl (k := 3) rfl (nI_1 _) (by decide) rfl (fun ls hl => ?_)
      refine lv_goto (tgt := 6) hx hb dX5_share_54 (by decide) ?_
      have hl : lv_has ls 4 [(3, .int (nI (k + 1))), (2, .int ((f_di σ k) + (z_sd σ k))), (1, .int (f_gi σ (k + 1))), (0, .ref (X.1 0 0))] := by rw [show f_gi σ (k + 1) = (f_gi σ k) + (z_su σ k + z_sl σ k + z_sd σ k) from rfl]; exact hl
      have hl : lv_has ls 4 [(3, .int (nI (k + 1))), (2, .int (f_di σ (k + 1))), (1, .int (f_gi σ (k + 1))), (0, .ref (X.1 0 0))] := by rw [show f_di σ (k + 1) = (f_di σ k) + (z_sd σ k) from rfl]; exact hl
      exact ih_6 (k + 1) (by omega) (by omega) ls (lv_sub hl [3, 2, 1, 0] rfl)
  exact L_6 _ 0 (Nat.lt_succ_self _) (Nat.zero_le _) ls (lv_sub hl [3, 2, 1, 0] rfl)
