abbrev rmJ6_bitCount_0f7a4 : Room := { frames := 0, cells := 0, slots := 0, locals := 0 }
set_option maxHeartbeats 4000000 in
set_option maxRecDepth 100000 in
theorem c_J6_bitCount_0f7a4 (l : Launch) (E : wk_E) {H : Heap} {x : Int32} : wk_Met l yJ6_bitCount_0f7a4 wsJ6_bitCount_0f7a4 rmJ6_bitCount_0f7a4 E H [.int x] (some (.int (f_bc x))) := by
  refine Met.ofW (cc := cJ6_bitCount_0f7a4) (maxL := 1) (ret := (some .int)) (by decide) rfl ?_
  intro p e s m args below meth c s₁ B hml hv
  obtain ⟨rfl, hH, hK⟩ := hv
  subst hH
  have hx := B.exec
  have hb := B.bytes
  have hr := B.returns
  have hts := atoms_spec (ws := wsJ6_bitCount_0f7a4) B.pre
  have hown : s.vm.findClass RJ6 = some m.cls := findClass_of_methodNamed B.named
  have hlocks := B.notSynchronized
  have hl := lv_entry [.int x] (n := 1) (Nat.le_of_ble_eq_true rfl)
  rw [lg_entry_eq]
  generalize (lg_sl [.int x] ++ List.replicate (1 - (lg_sl [.int x]).length) Slot.unset).toArray = ls at hl ⊢
  have hl : lv_has ls 1 [(0, .int x)] := hl
  refine lv_iload_n hx hb dJ6_bitCount_0f7a4_0 rfl (lv_at hl 0 rfl) ?_
  refine lv_iload_n hx hb dJ6_bitCount_0f7a4_1 rfl (lv_at hl 0 rfl) ?_
  refine lv_iconst (v := 1) hx hb dJ6_bitCount_0f7a4_2 (by decide) ?_
  refine lv_iushr (v := f_us x 1) hx hb dJ6_bitCount_0f7a4_3 rfl ?_
  refine lv_ldcw (own := RJ6) (v := 1431655765) hx hb hown (hts _ (List.mem_of_getElem? (i := 1) rfl)) dJ6_bitCount_0f7a4_4 ?_
  refine lv_iand hx hb dJ6_bitCount_0f7a4_7 ?_
  refine lv_isub hx hb dJ6_bitCount_0f7a4_8 ?_
  refine lv_istore_n (lv' := [(0, .int (x - ((f_us x 1) &&& 1431655765)))]) hx hb dJ6_bitCount_0f7a4_9 rfl hl (by decide) rfl (fun ls hl => ?_)
  have hl : lv_has ls 1 [(0, .int (f_bc1 x))] := hl
  refine lv_iload_n hx hb dJ6_bitCount_0f7a4_10 rfl (lv_at hl 0 rfl) ?_
  refine lv_ldcw (own := RJ6) (v := 858993459) hx hb hown (hts _ (List.mem_of_getElem? (i := 2) rfl)) dJ6_bitCount_0f7a4_11 ?_
  refine lv_iand hx hb dJ6_bitCount_0f7a4_14 ?_
  refine lv_iload_n hx hb dJ6_bitCount_0f7a4_15 rfl (lv_at hl 0 rfl) ?_
  refine lv_iconst (v := 2) hx hb dJ6_bitCount_0f7a4_16 (by decide) ?_
  refine lv_iushr (v := f_us (f_bc1 x) 2) hx hb dJ6_bitCount_0f7a4_17 rfl ?_
  refine lv_ldcw (own := RJ6) (v := 858993459) hx hb hown (hts _ (List.mem_of_getElem? (i := 2) rfl)) dJ6_bitCount_0f7a4_18 ?_
  refine lv_iand hx hb dJ6_bitCount_0f7a4_21 ?_
  refine lv_iadd hx hb dJ6_bitCount_0f7a4_22 ?_
  refine lv_istore_n (lv' := [(0, .int (((f_bc1 x) &&& 858993459) + ((f_us (f_bc1 x) 2) &&& 858993459)))]) hx hb dJ6_bitCount_0f7a4_23 rfl hl (by decide) rfl (fun ls hl => ?_)
  have hl : lv_has ls 1 [(0, .int (f_bc2 (f_bc1 x)))] := hl
  refine lv_iload_n hx hb dJ6_bitCount_0f7a4_24 rfl (lv_at hl 0 rfl) ?_
  refine lv_iload_n hx hb dJ6_bitCount_0f7a4_25 rfl (lv_at hl 0 rfl) ?_
  refine lv_iconst (v := 4) hx hb dJ6_bitCount_0f7a4_26 (by decide) ?_
  refine lv_iushr (v := f_us (f_bc2 (f_bc1 x)) 4) hx hb dJ6_bitCount_0f7a4_27 rfl ?_
  refine lv_iadd hx hb dJ6_bitCount_0f7a4_28 ?_
  refine lv_ldcw (own := RJ6) (v := 252645135) hx hb hown (hts _ (List.mem_of_getElem? (i := 3) rfl)) dJ6_bitCount_0f7a4_29 ?_
  refine lv_iand hx hb dJ6_bitCount_0f7a4_32 ?_
  refine lv_istore_n (lv' := [(0, .int (((f_bc2 (f_bc1 x)) + (f_us (f_bc2 (f_bc1 x)) 4)) &&& 252645135))]) hx hb dJ6_bitCount_0f7a4_33 rfl hl (by decide) rfl (fun ls hl => ?_)
  have hl : lv_has ls 1 [(0, .int (f_bc3 (f_bc2 (f_bc1 x))))] := hl
  refine lv_iload_n hx hb dJ6_bitCount_0f7a4_34 rfl (lv_at hl 0 rfl) ?_
  refine lv_iload_n hx hb dJ6_bitCount_0f7a4_35 rfl (lv_at hl 0 rfl) ?_
  refine lv_bipush (v := 8) hx hb dJ6_bitCount_0f7a4_36 (by decide) ?_
  refine lv_iushr (v := f_us (f_bc3 (f_bc2 (f_bc1 x))) 8) hx hb dJ6_bitCount_0f7a4_38 rfl ?_
  refine lv_iadd hx hb dJ6_bitCount_0f7a4_39 ?_
  refine lv_istore_n (lv' := [(0, .int ((f_bc3 (f_bc2 (f_bc1 x))) + (f_us (f_bc3 (f_bc2 (f_bc1 x))) 8)))]) hx hb dJ6_bitCount_0f7a4_40 rfl hl (by decide) rfl (fun ls hl => ?_)
  have hl : lv_has ls 1 [(0, .int (f_bc4 (f_bc3 (f_bc2 (f_bc1 x)))))] := hl
  refine lv_iload_n hx hb dJ6_bitCount_0f7a4_41 rfl (lv_at hl 0 rfl) ?_
  refine lv_iload_n hx hb dJ6_bitCount_0f7a4_42 rfl (lv_at hl 0 rfl) ?_
  refine lv_bipush (v := 16) hx hb dJ6_bitCount_0f7a4_43 (by decide) ?_
  refine lv_iushr (v := f_us (f_bc4 (f_bc3 (f_bc2 (f_bc1 x)))) 16) hx hb dJ6_bitCount_0f7a4_45 rfl ?_
  refine lv_iadd hx hb dJ6_bitCount_0f7a4_46 ?_
  refine lv_istore_n (lv' := [(0, .int ((f_bc4 (f_bc3 (f_bc2 (f_bc1 x)))) + (f_us (f_bc4 (f_bc3 (f_bc2 (f_bc1 x)))) 16)))]) hx hb dJ6_bitCount_0f7a4_47 rfl hl (by decide) rfl (fun ls hl => ?_)
  have hl : lv_has ls 1 [(0, .int (f_bc5 (f_bc4 (f_bc3 (f_bc2 (f_bc1 x))))))] := hl
  refine lv_iload_n hx hb dJ6_bitCount_0f7a4_48 rfl (lv_at hl 0 rfl) ?_
  refine lv_bipush (v := 63) hx hb dJ6_bitCount_0f7a4_49 (by decide) ?_
  refine lv_iand hx hb dJ6_bitCount_0f7a4_51 ?_
  exact W.iret hx hb hr (fun t ht _ => wk_ret (congrArg Value.int rfl) ht) wk_nil dJ6_bitCount_0f7a4_52

abbrev rmX4_weightOf : Room := { frames := 1, cells := 0, slots := 0, locals := 21 }
set_option maxHeartbeats 4000000 in
set_option maxRecDepth 100000 in
theorem c_X4_weightOf (l : Launch) (E : wk_E) {T : Nat → Nat × Nat} {X : z_X} {σ : z_S} {H : Heap} (hA : DA E T X σ H) (hI : z_Ok σ) {w cf : Nat → Nat} {fr b cs o : Nat} (ho : o = X.1 3 0) (hB : b_SX w cf fr X b) (hC : b_cf fr cf) {L : Nat} (hL : ∀ i, L.testBit i = true → fr.testBit i = true) : wk_Met l yX4_weightOf wsX4_weightOf rmX4_weightOf E H [.ref o, .int (nI L)] (some (.int (nI (b_W w L 16)))) := by
  refine Met.ofW (cc := cX4_weightOf) (maxL := 4) (ret := (some .int)) (by decide) rfl ?_
  intro p e s m args below meth c s₁ B hml hv
  obtain ⟨rfl, hH, hK⟩ := hv
  subst hH
  have hx := B.exec
  have hb := B.bytes
  have hr := B.returns
  have hts := atoms_spec (ws := wsX4_weightOf) B.pre
  have hown : s.vm.findClass RX4 = some m.cls := findClass_of_methodNamed B.named
  have hlocks := B.notSynchronized
  have i_X4 : ∀ w ∈ u_ws RX4 TX4 4, w ∈ wsX4_weightOf := fun w h => (List.mem_cons_of_mem _ (List.mem_append_right _ h))
  have hl := lv_entry [.ref o, .int (nI L)] (n := 4) (Nat.le_of_ble_eq_true rfl)
  rw [lg_entry_eq]
  generalize (lg_sl [.ref o, .int (nI L)] ++ List.replicate (4 - (lg_sl [.ref o, .int (nI L)]).length) Slot.unset).toArray = ls at hl ⊢
  have hl : lv_has ls 4 [(0, .ref o), (1, .int (nI L))] := hl
  have b0 := hI.n0
  have b1 := hI.n1
  have b2 := hI.n2
  have b3 := hI.n3
  refine lv_iconst (v := 0) hx hb dX4_weightOf_0 (by decide) ?_
  refine lv_istore_n (lv' := [(2, .int 0), (0, .ref o), (1, .int (nI L))]) hx hb dX4_weightOf_1 rfl hl (by decide) rfl (fun ls hl => ?_)
  refine lv_iconst (v := 0) hx hb dX4_weightOf_2 (by decide) ?_
  refine lv_istore_n (lv' := [(3, .int 0), (2, .int 0), (0, .ref o), (1, .int (nI L))]) hx hb dX4_weightOf_3 rfl hl (by decide) rfl (fun ls hl => ?_)
  have L_4 : ∀ (n_4 : Nat) (k : Nat), 16 - k < n_4 → (k ≤ 16) → ∀ ls : Array Slot, lv_has ls 4 [(0, .ref o), (1, .int (nI L)), (2, .int (nI (b_W w L k))), (3, .int (nI k))] → W p l e (headSpec wsX4_weightOf rmX4_weightOf).room s m ([.ref o, .int (nI L)] : List Value).toArray below meth c s.heap [] 0 0 (MQ below (wk_Q (some (.int (nI (b_W w L 16))))) ([.ref o, .int (nI L)] : List Value).toArray s 0 0 (fun _ => False)) (F0 m 4 ls []) := by
    intro n_4
    induction n_4 with
    | zero => intro k hm; exact absurd hm (Nat.not_lt_zero _)
    | succ n_4 ih_4 =>
      intro k hm_4 hk_k ls hl
      refine lv_iload_n hx hb dX4_weightOf_4 rfl (lv_at hl 3 rfl) ?_
      refine lv_aload_n hx hb dX4_weightOf_5 rfl (lv_at hl 0 rfl) ?_
      refine wk_get (own := RX4) (C := RX4) (T := TX4) (N := 4) (ci := 5) (v := .ref (X.1 4 0)) hx hb hts i_X4 hown hK (hB.cell hA ho) rfl 0 (by decide) (hts _ (List.mem_of_getElem? (i := 1) rfl)) (fun _ h9 => h9) rfl dX4_weightOf_6 ?_
      refine wk_alen hx hb hK 0 (ty := .int) (v := nI 16) (hA.srow (j := 0) (by decide)) rfl rfl dX4_weightOf_9 ?_
      refine lv_icmp_ge (tgt := 36) hx hb dX4_weightOf_10 (by decide) (fun c_10 => ?_) (fun c_10 => ?_)
      · skip
        have e_10 : 16 ≤ k := wk_cget (by omega) (by omega) c_10
        have hkN : k = 16 := by omega
        refine lv_iload_n hx hb dX4_weightOf_36 rfl (lv_at hl 2 rfl) ?_
        exact W.iret hx hb hr (fun t ht _ => wk_ret (congrArg Value.int (by rw [hkN])) ht) wk_nil dX4_weightOf_37
      have e_10 : k < 16 := wk_cgef (by omega) (by omega) c_10
      refine lv_iload_n hx hb dX4_weightOf_13 rfl (lv_at hl 1 rfl) ?_
      refine lv_iload_n hx hb dX4_weightOf_14 rfl (lv_at hl 3 rfl) ?_
      refine wk_SN (As := [.int (nI L), .int (nI k)]) (rest := []) ⟨hx, hb, hml, hown, hts⟩ (c_X5_contains l E (mm := L) (k := k) (by omega)) ⟨va_cnB 2 hts gX4_weightOf_X5_contains_n18 rfl rfl rfl hK.2.1 (hts _ (List.mem_of_getElem? (i := 3) rfl)) (by decide +kernel) ⟨(Nat.le_of_ble_eq_true rfl), (Nat.le_of_ble_eq_true rfl)⟩, (hts _ (List.mem_of_getElem? (i := 2) rfl)), trivial⟩ hK rfl hl.1 rfl (Nat.le_of_ble_eq_true rfl) dX4_weightOf_15 ⟨Nat.zero_le _, Nat.zero_le _⟩ ?_
      refine lv_if_eq (tgt := 30) hx hb dX4_weightOf_18 (by decide) (fun c_18 => ?_) (fun c_18 => ?_)
      · skip
        have e_18 : (Nat.testBit L k) = false := wk_b0 c_18
        refine lv_iinc (v := nI (k + 1)) (lv' := [(3, .int (nI (k + 1))), (0, .ref o), (1, .int (nI L)), (2, .int (nI (b_W w L k)))]) hx hb dX4_weightOf_30 hl (k := 3) rfl (nI_1 _) (by decide) rfl (fun ls hl => ?_)
        refine lv_goto (tgt := 4) hx hb dX4_weightOf_33 (by decide) ?_
        have hl : lv_has ls 4 [(3, .int (nI (k + 1))), (0, .ref o), (1, .int (nI L)), (2, .int (nI (b_W w L (k + 1))))] := by rw [show nI (b_W w L (k + 1)) = nI (b_W w L k) from (by rw [b_Ws, if_neg (by rw [e_18]; decide)]; rfl)]; exact hl
        exact ih_4 (k + 1) (by omega) (by omega) ls (lv_sub hl [1, 2, 3, 0] rfl)
      have e_18 : (Nat.testBit L k) = true := wk_b1 c_18
      refine lv_iload_n hx hb dX4_weightOf_21 rfl (lv_at hl 2 rfl) ?_
      refine lv_aload_n hx hb dX4_weightOf_22 rfl (lv_at hl 0 rfl) ?_
      refine wk_get (own := RX4) (C := RX4) (T := TX4) (N := 4) (ci := 5) (v := .ref (X.1 4 0)) hx hb hts i_X4 hown hK (hB.cell hA ho) rfl 0 (by decide) (hts _ (List.mem_of_getElem? (i := 1) rfl)) (fun _ h9 => h9) rfl dX4_weightOf_23 ?_
      refine lv_iload_n hx hb dX4_weightOf_26 rfl (lv_at hl 3 rfl) ?_
      refine wk_iald (n := 16) (f := (X.2.1 2)) hx hb hK (hA.srow (j := 0) (by decide)) k rfl (by omega) (by omega) dX4_weightOf_27 ?_
      refine wk_eqi (hB.1 k (hL k e_18)).1 ?_
      refine lv_iadd hx hb dX4_weightOf_28 ?_
      refine wk_eqi (show (nI (b_W w L k)) + (nI (w k)) = nI ((b_W w L k) + (w k)) from nI_add (b_W w L k) (w k)) ?_
      refine wk_eqi (show nI (b_W w L k + w k) = nI (b_W w L (k + 1)) from by rw [b_Ws, if_pos e_18]) ?_
      refine lv_istore_n (lv' := [(2, .int (nI (b_W w L (k + 1)))), (0, .ref o), (1, .int (nI L)), (3, .int (nI k))]) hx hb dX4_weightOf_29 rfl hl (by decide) rfl (fun ls hl => ?_)
      refine lv_iinc (v := nI (k + 1)) (lv' := [(3, .int (nI (k + 1))), (2, .int (nI (b_W w L (k + 1)))), (0, .ref o), (1, .int (nI L))]) hx hb dX4_weightOf_30 hl (k := 3) rfl (nI_1 _) (by decide) rfl (fun ls hl => ?_)
      refine lv_goto (tgt := 4) hx hb dX4_weightOf_33 (by decide) ?_
      exact ih_4 (k + 1) (by omega) (by omega) ls (lv_sub hl [2, 3, 1, 0] rfl)
  exact L_4 _ 0 (Nat.lt_succ_self _) (Nat.zero_le _) ls (lv_sub hl [2, 3, 1, 0] rfl)

abbrev rmX4_isBetter : Room := { frames := 1, cells := 0, slots := 0, locals := 20 }
set_option maxHeartbeats 4000000 in
set_option maxRecDepth 100000 in
theorem c_X4_isBetter (l : Launch) (E : wk_E) {T : Nat → Nat × Nat} {X : z_X} {σ : z_S} {H : Heap} (hA : DA E T X σ H) (hI : z_Ok σ) {w cf : Nat → Nat} {fr b cs o : Nat} (ho : o = X.1 3 0) (hB : b_SX w cf fr X b) (hC : b_cf fr cf) (hc : b_ok fr cf cs) : wk_Met l yX4_isBetter wsX4_isBetter rmX4_isBetter E H [.ref o, .int (nI cs), .int (nI (b_W w cs 16))] (some (.int (wk_b (b_btb w cs b)))) := by
  refine Met.ofW (cc := cX4_isBetter) (maxL := 5) (ret := (some .boolean)) (by decide) rfl ?_
  intro p e s m args below meth c s₁ B hml hv
  obtain ⟨rfl, hH, hK⟩ := hv
  subst hH
  have hx := B.exec
  have hb := B.bytes
  have hr := B.returns
  have hts := atoms_spec (ws := wsX4_isBetter) B.pre
  have hown : s.vm.findClass RX4 = some m.cls := findClass_of_methodNamed B.named
  have hlocks := B.notSynchronized
  have i_X4 : ∀ w ∈ u_ws RX4 TX4 4, w ∈ wsX4_isBetter := fun w h => (List.mem_cons_of_mem _ (List.mem_append_right _ h))
  have hl := lv_entry [.ref o, .int (nI cs), .int (nI (b_W w cs 16))] (n := 5) (Nat.le_of_ble_eq_true rfl)
  rw [lg_entry_eq]
  generalize (lg_sl [.ref o, .int (nI cs), .int (nI (b_W w cs 16))] ++ List.replicate (5 - (lg_sl [.ref o, .int (nI cs), .int (nI (b_W w cs 16))]).length) Slot.unset).toArray = ls at hl ⊢
  have hl : lv_has ls 5 [(0, .ref o), (1, .int (nI cs)), (2, .int (nI (b_W w cs 16)))] := hl
  have b0 := hI.n0
  have b1 := hI.n1
  have b2 := hI.n2
  have b3 := hI.n3
  have hWb := hB.lim
  have hWc := b_okW hB.wl hc.1
  have hb16 := b_lt16 hC hB.2.2.2.1
  have hc16 := b_lt16 hC hc.1
  refine lv_iload_n hx hb dX4_isBetter_0 rfl (lv_at hl 2 rfl) ?_
  refine lv_aload_n hx hb dX4_isBetter_1 rfl (lv_at hl 0 rfl) ?_
  refine wk_get (own := RX4) (C := RX4) (T := TX4) (N := 4) (ci := 5) (v := .int (nI (b_W w b 16))) hx hb hts i_X4 hown hK (hB.cell hA ho) rfl 3 (by decide) (hts _ (List.mem_of_getElem? (i := 1) rfl)) (fun _ h9 => h9) rfl dX4_isBetter_2 ?_
  refine lv_icmp_eq (tgt := 22) hx hb dX4_isBetter_5 (by decide) (fun c_5 => ?_) (fun c_5 => ?_)
  · skip
    have e_5 : (b_W w cs 16) = (b_W w b 16) := wk_ceqt (by omega) (by omega) c_5
    refine lv_iload_n hx hb dX4_isBetter_22 rfl (lv_at hl 1 rfl) ?_
    refine wk_S (As := [.int (nI cs)]) (rest := []) ⟨hx, hb, hml, hown, hts⟩ (c_J6_bitCount_0f7a4 l E) (va_cwS 1 hts gX4_isBetter_J6_bitCount_0f7a4 rfl rfl rfl (by decide +kernel) ⟨(Nat.le_of_ble_eq_true rfl), (Nat.le_of_ble_eq_true rfl)⟩) hK rfl hl.1 rfl (Nat.le_of_ble_eq_true rfl) dX4_isBetter_23 ⟨Nat.zero_le _, Nat.zero_le _⟩ ?_
    refine lv_istore_n (lv' := [(3, .int (f_bc (nI cs))), (0, .ref o), (1, .int (nI cs)), (2, .int (nI (b_W w cs 16)))]) hx hb dX4_isBetter_26 rfl hl (by decide) rfl (fun ls hl => ?_)
    refine lv_aload_n hx hb dX4_isBetter_27 rfl (lv_at hl 1 rfl) ?_
    refine wk_get (own := RX4) (C := RX4) (T := TX4) (N := 4) (ci := 5) (v := .int (nI b)) hx hb hts i_X4 hown hK (hB.cell hA ho) rfl 2 (by decide) (hts _ (List.mem_of_getElem? (i := 2) rfl)) (fun _ h9 => h9) rfl dX4_isBetter_28 ?_
    refine wk_S (As := [.int (nI b)]) (rest := []) ⟨hx, hb, hml, hown, hts⟩ (c_J6_bitCount_0f7a4 l E) (va_cwS 1 hts gX4_isBetter_J6_bitCount_0f7a4 rfl rfl rfl (by decide +kernel) ⟨(Nat.le_of_ble_eq_true rfl), (Nat.le_of_ble_eq_true rfl)⟩) hK rfl hl.1 rfl (Nat.le_of_ble_eq_true rfl) dX4_isBetter_31 ⟨Nat.zero_le _, Nat.zero_le _⟩ ?_
    refine lv_istore (lv' := [(4, .int (f_bc (nI b))), (3, .int (f_bc (nI cs))), (0, .ref o), (1, .int (nI cs)), (2, .int (nI (b_W w cs 16)))]) hx hb dX4_isBetter_34 hl (by decide) rfl (fun ls hl => ?_)
    refine lv_iload_n hx hb dX4_isBetter_36 rfl (lv_at hl 1 rfl) ?_
    refine lv_iload hx hb dX4_isBetter_37 (lv_at hl 0 rfl) ?_
    refine lv_icmp_ne (tgt := 58) hx hb dX4_isBetter_39 (by decide) (fun c_39 => ?_) (fun c_39 => ?_)
    · skip
      refine lv_iload_n hx hb dX4_isBetter_58 rfl (lv_at hl 1 rfl) ?_
      refine lv_iload hx hb dX4_isBetter_59 (lv_at hl 0 rfl) ?_
      refine lv_icmp_ge (tgt := 68) hx hb dX4_isBetter_61 (by decide) (fun c_61 => ?_) (fun c_61 => ?_)
      · skip
        have d_61 := Int32.not_lt.mpr c_61
        refine lv_iconst (v := 0) hx hb dX4_isBetter_68 (by decide) ?_
        exact W.zret hx hb hr rfl (fun t ht _ => wk_ret (congrArg Value.int (by simp [b_btb, wk_b, e_5, c_39, c_61, d_61])) ht) wk_nil dX4_isBetter_69
      have d_61 := Int32.not_le.mp c_61
      refine lv_iconst (v := 1) hx hb dX4_isBetter_64 (by decide) ?_
      refine lv_goto (tgt := 69) hx hb dX4_isBetter_65 (by decide) ?_
      exact W.zret hx hb hr rfl (fun t ht _ => wk_ret (congrArg Value.int (by simp [b_btb, wk_b, e_5, c_39, c_61, d_61])) ht) wk_nil dX4_isBetter_69
    refine lv_iload_n hx hb dX4_isBetter_42 rfl (lv_at hl 3 rfl) ?_
    refine lv_aload_n hx hb dX4_isBetter_43 rfl (lv_at hl 2 rfl) ?_
    refine wk_get (own := RX4) (C := RX4) (T := TX4) (N := 4) (ci := 5) (v := .int (nI b)) hx hb hts i_X4 hown hK (hB.cell hA ho) rfl 2 (by decide) (hts _ (List.mem_of_getElem? (i := 2) rfl)) (fun _ h9 => h9) rfl dX4_isBetter_44 ?_
    refine lv_icmp_ge (tgt := 54) hx hb dX4_isBetter_47 (by decide) (fun c_47 => ?_) (fun c_47 => ?_)
    · skip
      have e_47 : b ≤ cs := wk_cget (by omega) (by omega) c_47
      refine lv_iconst (v := 0) hx hb dX4_isBetter_54 (by decide) ?_
      refine lv_goto (tgt := 69) hx hb dX4_isBetter_55 (by decide) ?_
      exact W.zret hx hb hr rfl (fun t ht _ => wk_ret (congrArg Value.int (by simp [b_btb, wk_b, e_5, c_39, (Nat.not_lt.mpr e_47)])) ht) wk_nil dX4_isBetter_69
    have e_47 : cs < b := wk_cgef (by omega) (by omega) c_47
    refine lv_iconst (v := 1) hx hb dX4_isBetter_50 (by decide) ?_
    refine lv_goto (tgt := 69) hx hb dX4_isBetter_51 (by decide) ?_
    exact W.zret hx hb hr rfl (fun t ht _ => wk_ret (congrArg Value.int (by simp [b_btb, wk_b, e_5, c_39, e_47])) ht) wk_nil dX4_isBetter_69
  have e_5 : ¬ (b_W w cs 16) = (b_W w b 16) := wk_ceqf (by omega) (by omega) c_5
  refine lv_iload_n hx hb dX4_isBetter_8 rfl (lv_at hl 2 rfl) ?_
  refine lv_aload_n hx hb dX4_isBetter_9 rfl (lv_at hl 0 rfl) ?_
  refine wk_get (own := RX4) (C := RX4) (T := TX4) (N := 4) (ci := 5) (v := .int (nI (b_W w b 16))) hx hb hts i_X4 hown hK (hB.cell hA ho) rfl 3 (by decide) (hts _ (List.mem_of_getElem? (i := 1) rfl)) (fun _ h9 => h9) rfl dX4_isBetter_10 ?_
  refine lv_icmp_le (tgt := 20) hx hb dX4_isBetter_13 (by decide) (fun c_13 => ?_) (fun c_13 => ?_)
  · skip
    have e_13 : (b_W w cs 16) ≤ (b_W w b 16) := wk_clet (by omega) (by omega) c_13
    refine lv_iconst (v := 0) hx hb dX4_isBetter_20 (by decide) ?_
    exact W.zret hx hb hr rfl (fun t ht _ => wk_ret (congrArg Value.int (by simp [b_btb, wk_b, e_5, (Nat.not_lt.mpr e_13)])) ht) wk_nil dX4_isBetter_21
  have e_13 : (b_W w b 16) < (b_W w cs 16) := wk_clef (by omega) (by omega) c_13
  refine lv_iconst (v := 1) hx hb dX4_isBetter_16 (by decide) ?_
  refine lv_goto (tgt := 21) hx hb dX4_isBetter_17 (by decide) ?_
  exact W.zret hx hb hr rfl (fun t ht _ => wk_ret (congrArg Value.int (by simp [b_btb, wk_b, e_5, e_13])) ht) wk_nil dX4_isBetter_21

abbrev rme_X4_offer : Room := { frames := 2, cells := 0, slots := 0, locals := 44 }
set_option maxHeartbeats 4000000 in
set_option maxRecDepth 100000 in
theorem e_X4_offer (l : Launch) (E : wk_E) {T : Nat → Nat × Nat} {X : z_X} {σ : z_S} {H : Heap} (hA : DA E T X σ H) (hI : z_Ok σ) {w cf : Nat → Nat} {fr b cs o : Nat} (ho : o = X.1 3 0) (hB : b_SX w cf fr X b) (hC : b_cf fr cf) (hc : b_ok fr cf cs) : we_Met l yX4_offer wsX4_offer rme_X4_offer E H [.ref o, .int (nI cs), .int (nI (b_W w cs 16))] (z_FD T) 0 0 (fun v H1 => v = none ∧ ∃ (X1 : z_X) (b1 : Nat), DA E T X1 σ H1 ∧ X1.1 = X.1 ∧ b_SX w cf fr X1 b1 ∧ ((b_bt w cs b ∧ b1 = cs) ∨ (¬ b_bt w cs b ∧ b1 = b))) := by
  refine Met.ofW (cc := cX4_offer) (maxL := 3) (ret := none) (by decide) rfl ?_
  intro p e s m args below meth c s₁ B hml hv
  obtain ⟨rfl, hH, hV⟩ := hv
  subst hH
  have hK := hV.k
  have hx := B.exec
  have hb := B.bytes
  have hr := B.returns
  have hts := atoms_spec (ws := wsX4_offer) B.pre
  have hown : s.vm.findClass RX4 = some m.cls := findClass_of_methodNamed B.named
  have hlocks := B.notSynchronized
  have hS : va_S (fun q => (z_FD T) q ∨ s.heap.size ≤ q) s.heap s.heap [] := va_S.rf
  have hA9 : ∀ q : Nat, s.heap.size ≤ q → ((z_FD T) q ∨ s.heap.size ≤ q) := fun _ h => Or.inr h
  have hbA : ∀ q : Nat, q < E.2.2.1 → ¬ ((z_FD T) q ∨ s.heap.size ≤ q) := fun q hq z => z.elim (z_FDb hA.2.1 hq) (fun z => absurd (Nat.lt_of_lt_of_le hq hV.2.2.2.2.2.2) (Nat.not_lt.mpr z))
  have i_X4 : ∀ w ∈ u_ws RX4 TX4 4, w ∈ wsX4_offer := fun w h => (List.mem_cons_of_mem _ (List.mem_append_right _ h))
  have hl := lv_entry [.ref o, .int (nI cs), .int (nI (b_W w cs 16))] (n := 3) (Nat.le_of_ble_eq_true rfl)
  rw [lg_entry_eq]
  generalize (lg_sl [.ref o, .int (nI cs), .int (nI (b_W w cs 16))] ++ List.replicate (3 - (lg_sl [.ref o, .int (nI cs), .int (nI (b_W w cs 16))]).length) Slot.unset).toArray = ls at hl ⊢
  have hl : lv_has ls 3 [(0, .ref o), (1, .int (nI cs)), (2, .int (nI (b_W w cs 16)))] := hl
  have b0 := hI.n0
  have b1 := hI.n1
  have b2 := hI.n2
  have b3 := hI.n3
  refine lv_aload_n hx hb dX4_offer_0 rfl (lv_at hl 0 rfl) ?_
  refine lv_iload_n hx hb dX4_offer_1 rfl (lv_at hl 1 rfl) ?_
  refine lv_iload_n hx hb dX4_offer_2 rfl (lv_at hl 2 rfl) ?_
  refine wk_V (As := [.int (nI cs), .int (nI (b_W w cs 16))]) (rest := []) ⟨hx, hb, hml, hown, hts⟩ (c_X4_isBetter l E hA hI ho hB hC hc) (cwV 2 hts gX4_offer_X4_isBetter rfl rfl rfl (by decide +kernel) ⟨(Nat.le_of_ble_eq_true rfl), (Nat.le_of_ble_eq_true rfl)⟩) (wk_recv hK (hB.cell hA ho) rfl) hK rfl hl.1 rfl (Nat.le_of_ble_eq_true rfl) dX4_offer_3 ⟨Nat.zero_le _, Nat.zero_le _⟩ ?_
  refine lv_if_eq (tgt := 19) hx hb dX4_offer_6 (by decide) (fun c_6 => ?_) (fun c_6 => ?_)
  · skip
    have e_6 : (b_btb w cs b) = false := wk_b0 c_6
    exact W.vret hx hb hr (we_end (Rt := fun v H1 => v = none ∧ ∃ (X1 : z_X) (b1 : Nat), DA E T X1 σ H1 ∧ X1.1 = X.1 ∧ b_SX w cf fr X1 b1 ∧ ((b_bt w cs b ∧ b1 = cs) ∨ (¬ b_bt w cs b ∧ b1 = b))) (F := z_FD T) (⟨rfl, X, b, hA, rfl, hB, Or.inr ⟨b_btb_f e_6, rfl⟩⟩) hS) hS.2.2 dX4_offer_19
  have e_6 : (b_btb w cs b) = true := wk_b1 c_6
  refine lv_aload_n hx hb dX4_offer_9 rfl (lv_at hl 0 rfl) ?_
  refine lv_iload_n hx hb dX4_offer_10 rfl (lv_at hl 1 rfl) ?_
  refine wk_put (own := RX4) (C := RX4) (T := TX4) (N := 4) (ci := 5) (v := .int (nI cs)) hx hb hts i_X4 tyX4 tyX4_ok nmX4 hown hK (show va_at E.1 vwCl (o, _) _ from ho ▸ hA.search) (Or.inl (by rw [ho]; exact hA.tag (i := 3) (k := 0) rfl)) hS rfl 2 (by decide) (hts _ (List.mem_of_getElem? (i := 1) rfl)) (fun _ h9 => h9) rfl (tyX4_ok 2 (by decide)) rfl rfl (Nat.le_of_ble_eq_true rfl) dX4_offer_11 (fun H locs hP9 hz9 hk9 hS => ?_)
  rw [ho] at hP9 hk9
  have hA := hA.setBs hP9 hk9
  refine lv_aload_n hx hb dX4_offer_14 rfl (lv_at hl 0 rfl) ?_
  refine lv_iload_n hx hb dX4_offer_15 rfl (lv_at hl 2 rfl) ?_
  refine wk_put (own := RX4) (C := RX4) (T := TX4) (N := 4) (ci := 5) (v := .int (nI (b_W w cs 16))) hx hb hts i_X4 tyX4 tyX4_ok nmX4 hown hK (show va_at E.1 vwCl (o, _) _ from ho ▸ b_sr1 hA) (Or.inl (by rw [ho]; exact hA.tag (i := 3) (k := 0) rfl)) hS rfl 3 (by decide) (hts _ (List.mem_of_getElem? (i := 2) rfl)) (fun _ h9 => h9) rfl (tyX4_ok 3 (by decide)) rfl rfl (Nat.le_of_ble_eq_true rfl) dX4_offer_16 (fun H locs hP9 hz9 hk9 hS => ?_)
  rw [ho] at hP9 hk9
  have hA := b_sr2 hA hP9 hk9
  exact W.vret hx hb hr (we_end (Rt := fun v H1 => v = none ∧ ∃ (X1 : z_X) (b1 : Nat), DA E T X1 σ H1 ∧ X1.1 = X.1 ∧ b_SX w cf fr X1 b1 ∧ ((b_bt w cs b ∧ b1 = cs) ∨ (¬ b_bt w cs b ∧ b1 = b))) (F := z_FD T) (⟨rfl, _, cs, hA, rfl, hB.put hc, Or.inl ⟨b_btb_t e_6, rfl⟩⟩) hS) hS.2.2 dX4_offer_19
