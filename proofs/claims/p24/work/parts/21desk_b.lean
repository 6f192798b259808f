set_option maxHeartbeats 4000000 in
set_option maxRecDepth 100000 in
theorem e_searchStep (l : Launch) (E : wk_E) {T : Nat → Nat × Nat} {X : z_X} {σ : z_S} {H : Heap} (hA : DA E T X σ H) (hI : z_Ok σ) {w cf : Nat → Nat} {fr b cs o : Nat} (ho : o = X.1 3 0) (hB : b_SX w cf fr X b) (hC : b_cf fr cf) {k L : Nat} (hin : b_in fr cf k cs L) {d9 : Nat} (hd : 17 - k ≤ d9 + 1) (IH : ∀ {T : Nat → Nat × Nat} {X : z_X} {σ : z_S} {H : Heap} (hA : DA E T X σ H) (hI : z_Ok σ) {w cf : Nat → Nat} {fr b cs o : Nat} (ho : o = X.1 3 0) (hB : b_SX w cf fr X b) (hC : b_cf fr cf) {k L : Nat} (hin : b_in fr cf k cs L) (hd : 17 - k ≤ d9), we_Met l yX5_searchFrom wsX5_searchFrom (rmS d9) E H [.ref o, .int (nI k), .int (nI cs), .int (nI L), .int (nI (b_W w cs 16))] (z_FD T) 0 0 (fun v H1 => v = none ∧ ∃ (X1 : z_X) (b1 : Nat), DA E T X1 σ H1 ∧ X1.1 = X.1 ∧ b_SX w cf fr X1 b1 ∧ b_res w fr cf k cs b b1)) : we_Met l yX5_searchFrom wsX5_searchFrom (rmS (d9 + 1)) E H [.ref o, .int (nI k), .int (nI cs), .int (nI L), .int (nI (b_W w cs 16))] (z_FD T) 0 0 (fun v H1 => v = none ∧ ∃ (X1 : z_X) (b1 : Nat), DA E T X1 σ H1 ∧ X1.1 = X.1 ∧ b_SX w cf fr X1 b1 ∧ b_res w fr cf k cs b b1) := by
  refine Met.ofW (cc := cX5_searchFrom) (maxL := 6) (ret := none) (by decide) rfl ?_
  intro p e s m args below meth c s₁ B hml hv
  obtain ⟨rfl, hH, hV⟩ := hv
  subst hH
  have hK := hV.k
  have hx := B.exec
  have hb := B.bytes
  have hr := B.returns
  have hts := atoms_spec (ws := wsX5_searchFrom) B.pre
  have hown : s.vm.findClass RX5 = some m.cls := findClass_of_methodNamed B.named
  have hlocks := B.notSynchronized
  have hS : va_S (fun q => (z_FD T) q ∨ s.heap.size ≤ q) s.heap s.heap [] := va_S.rf
  have hA9 : ∀ q : Nat, s.heap.size ≤ q → ((z_FD T) q ∨ s.heap.size ≤ q) := fun _ h => Or.inr h
  have hbA : ∀ q : Nat, q < E.2.2.1 → ¬ ((z_FD T) q ∨ s.heap.size ≤ q) := fun q hq z => z.elim (z_FDb hA.2.1 hq) (fun z => absurd (Nat.lt_of_lt_of_le hq hV.2.2.2.2.2.2) (Nat.not_lt.mpr z))
  have i_X4 : ∀ w ∈ u_ws RX4 TX4 4, w ∈ wsX5_searchFrom := fun w h => (List.mem_cons_of_mem _ (List.mem_append_right _ h))
  have hl := lv_entry [.ref o, .int (nI k), .int (nI cs), .int (nI L), .int (nI (b_W w cs 16))] (n := 6) (Nat.le_of_ble_eq_true rfl)
  rw [lg_entry_eq]
  generalize (lg_sl [.ref o, .int (nI k), .int (nI cs), .int (nI L), .int (nI (b_W w cs 16))] ++ List.replicate (6 - (lg_sl [.ref o, .int (nI k), .int (nI cs), .int (nI L), .int (nI (b_W w cs 16))]).length) Slot.unset).toArray = ls at hl ⊢
  have hl : lv_has ls 6 [(0, .ref o), (1, .int (nI k)), (2, .int (nI cs)), (3, .int (nI L)), (4, .int (nI (b_W w cs 16)))] := hl
  have b0 := hI.n0
  have b1 := hI.n1
  have b2 := hI.n2
  have b3 := hI.n3
  have hc := hin.2.2.1
  have hWb := hB.lim
  have hWc := b_okW hB.wl hc.1
  have hb16 := b_lt16 hC hB.2.2.2.1
  have hc16 := b_lt16 hC hc.1
  have hL16 := hin.lt hC
  have hk16 := hin.1
  have hWL := b_okW hB.wl hin.L
  refine lv_iload_n hx hb dX5_searchFrom_0 rfl (lv_at hl 3 rfl) ?_
  refine lv_if_eq (tgt := 14) hx hb dX5_searchFrom_1 (by decide) (fun c_1 => ?_) (fun c_1 => ?_)
  · skip
    have hL0 : L = 0 := (nI_eq (by omega) (by omega)).mp (c_1.trans nI_0.symm)
    refine lv_aload_n hx hb dX5_searchFrom_14 rfl (lv_at hl 0 rfl) ?_
    refine lv_iload_n hx hb dX5_searchFrom_15 rfl (lv_at hl 2 rfl) ?_
    refine lv_iload hx hb dX5_searchFrom_16 (lv_at hl 4 rfl) ?_
    refine we_V (As := [.int (nI cs), .int (nI (b_W w cs 16))]) (rest := []) ⟨hx, hb, hml, hown, hts⟩ (e_X4_offer l E hA hI ho hB hC hc) (cwV 2 hts gX5_searchFrom_X4_offer rfl rfl rfl (by decide +kernel) ⟨(Nat.le_of_ble_eq_true rfl), (Nat.le_of_ble_eq_true rfl)⟩) (wk_recv hK (hB.cell hA ho) rfl) hV hS (fun _ h => Or.inl h) hA9 rfl hl.1 rfl (Nat.le_of_ble_eq_true rfl) dX5_searchFrom_18 ⟨Nat.zero_le _, Nat.zero_le _⟩ (fun v9 H locs hR9 hz9 hk9 hS => ?_)
    obtain ⟨rfl, X1, b1, hA, hX1, hB1, hof⟩ := hR9
    exact W.vret hx hb hr (we_end (Rt := fun v H1 => v = none ∧ ∃ (X1 : z_X) (b1 : Nat), DA E T X1 σ H1 ∧ X1.1 = X.1 ∧ b_SX w cf fr X1 b1 ∧ b_res w fr cf k cs b b1) (F := z_FD T) (⟨rfl, X1, b1, hA, hX1, hB1, b_leaf hin hL0 hof⟩) hS) hS.2.2 dX5_searchFrom_21
  refine lv_iload_n hx hb dX5_searchFrom_4 rfl (lv_at hl 1 rfl) ?_
  refine lv_if_lt (tgt := 14) hx hb dX5_searchFrom_5 (by decide) (fun c_5 => ?_) (fun c_5 => ?_)
  · skip
    have d_5 := Int32.not_le.mpr c_5
    exact absurd c_5 (nI_pos (by omega))
  have d_5 := Int32.not_lt.mp c_5
  refine lv_iload_n hx hb dX5_searchFrom_8 rfl (lv_at hl 1 rfl) ?_
  refine lv_bipush (v := 16) hx hb dX5_searchFrom_9 (by decide) ?_
  refine lv_icmp_lt (tgt := 22) hx hb dX5_searchFrom_11 (by decide) (fun c_11 => ?_) (fun c_11 => ?_)
  · skip
    have e_11 : k < 16 := wk_cltt (by omega) (by omega) c_11
    refine lv_iload hx hb dX5_searchFrom_22 (lv_at hl 4 rfl) ?_
    refine lv_aload_n hx hb dX5_searchFrom_24 rfl (lv_at hl 0 rfl) ?_
    refine lv_iload_n hx hb dX5_searchFrom_25 rfl (lv_at hl 3 rfl) ?_
    refine wk_V (As := [.int (nI L)]) (rest := [.int (nI (b_W w cs 16))]) ⟨hx, hb, hml, hown, hts⟩ (c_X4_weightOf l E (cs := 0) hA hI ho hB hC hin.L) (cwV 1 hts gX5_searchFrom_X4_weightOf rfl rfl rfl (by decide +kernel) ⟨(Nat.le_of_ble_eq_true rfl), (Nat.le_of_ble_eq_true rfl)⟩) (wk_recv hK (hB.cell hA ho) rfl) hK rfl hl.1 rfl (Nat.le_of_ble_eq_true rfl) dX5_searchFrom_26 ⟨Nat.zero_le _, Nat.zero_le _⟩ ?_
    refine lv_iadd hx hb dX5_searchFrom_29 ?_
    refine wk_eqi (show (nI (b_W w cs 16)) + (nI (b_W w L 16)) = nI ((b_W w cs 16) + (b_W w L 16)) from nI_add (b_W w cs 16) (b_W w L 16)) ?_
    refine lv_aload_n hx hb dX5_searchFrom_30 rfl (lv_at hl 0 rfl) ?_
    refine wk_get (own := RX5) (C := RX4) (T := TX4) (N := 4) (ci := 5) (v := .int (nI (b_W w b 16))) hx hb hts i_X4 hown hK (hB.cell hA ho) rfl 3 (by decide) (hts _ (List.mem_of_getElem? (i := 1) rfl)) (fun _ h9 => h9) rfl dX5_searchFrom_31 ?_
    refine lv_icmp_ge (tgt := 38) hx hb dX5_searchFrom_34 (by decide) (fun c_34 => ?_) (fun c_34 => ?_)
    · skip
      have e_34 : (b_W w b 16) ≤ ((b_W w cs 16) + (b_W w L 16)) := wk_cget (by omega) (by omega) c_34
      refine lv_iload_n hx hb dX5_searchFrom_38 rfl (lv_at hl 3 rfl) ?_
      refine lv_iconst (v := 1) hx hb dX5_searchFrom_39 (by decide) ?_
      refine lv_iload_n hx hb dX5_searchFrom_40 rfl (lv_at hl 1 rfl) ?_
      refine lv_ishl hx hb dX5_searchFrom_41 ?_
      refine lv_iconst (v := (-1)) hx hb dX5_searchFrom_42 (by decide) ?_
      refine lv_ixor hx hb dX5_searchFrom_43 ?_
      refine lv_iand hx hb dX5_searchFrom_44 ?_
      refine wk_eqls (st' := [.int (nI (b_del L (2 ^ k)))]) (by rw [b_del1 L k (by omega)]) ?_
      refine lv_istore (lv' := [(5, .int (nI (b_del L (2 ^ k)))), (0, .ref o), (1, .int (nI k)), (2, .int (nI cs)), (3, .int (nI L)), (4, .int (nI (b_W w cs 16)))]) hx hb dX5_searchFrom_45 hl (by decide) rfl (fun ls hl => ?_)
      refine lv_iload_n hx hb dX5_searchFrom_47 rfl (lv_at hl 4 rfl) ?_
      refine lv_iload_n hx hb dX5_searchFrom_48 rfl (lv_at hl 2 rfl) ?_
      refine wk_S (As := [.int (nI L), .int (nI k)]) (rest := []) ⟨hx, hb, hml, hown, hts⟩ (c_X5_contains l E (mm := L) (k := k) (by omega)) (va_cwS 2 hts gX5_searchFrom_X5_contains rfl rfl rfl (by decide +kernel) ⟨(Nat.le_of_ble_eq_true rfl), (Nat.le_of_ble_eq_true rfl)⟩) hK rfl hl.1 rfl (Nat.le_of_ble_eq_true rfl) dX5_searchFrom_49 ⟨Nat.zero_le _, Nat.zero_le _⟩ ?_
      refine lv_if_eq (tgt := 100) hx hb dX5_searchFrom_52 (by decide) (fun c_52 => ?_) (fun c_52 => ?_)
      · skip
        have e_52 : (Nat.testBit L k) = false := wk_b0 c_52
        refine lv_aload_n hx hb dX5_searchFrom_100 rfl (lv_at hl 1 rfl) ?_
        refine lv_iload_n hx hb dX5_searchFrom_101 rfl (lv_at hl 2 rfl) ?_
        refine lv_iconst (v := 1) hx hb dX5_searchFrom_102 (by decide) ?_
        refine lv_iadd hx hb dX5_searchFrom_103 ?_
        refine wk_eqi (show (nI k) + 1 = nI (k + 1) from nI_add k 1) ?_
        refine lv_iload_n hx hb dX5_searchFrom_104 rfl (lv_at hl 3 rfl) ?_
        refine lv_iload hx hb dX5_searchFrom_105 (lv_at hl 0 rfl) ?_
        refine lv_iload hx hb dX5_searchFrom_107 (lv_at hl 5 rfl) ?_
        refine we_S (As := [.ref o, .int (nI (k + 1)), .int (nI cs), .int (nI (b_del L (2 ^ k))), .int (nI (b_W w cs 16))]) (rest := []) ⟨hx, hb, hml, hown, hts⟩ (IH hA hI ho hB hC (hin.skip hC (by omega)) (by omega))  (va_cwS 5 hts gX5_searchFrom_X5_searchFrom rfl rfl rfl (by decide +kernel) ⟨(rmS_lf d9), (rmS_le d9)⟩) hV hS (fun _ h => Or.inl h) hA9 rfl hl.1 rfl (Nat.le_of_ble_eq_true rfl) dX5_searchFrom_109 ⟨Nat.zero_le _, Nat.zero_le _⟩ (fun v9 H locs hR9 hz9 hk9 hS => ?_)
        obtain ⟨rfl, X2, b2, hA, hX2, hB, hr2⟩ := hR9
        exact W.vret hx hb hr (we_end (Rt := fun v H1 => v = none ∧ ∃ (X1 : z_X) (b1 : Nat), DA E T X1 σ H1 ∧ X1.1 = X.1 ∧ b_SX w cf fr X1 b1 ∧ b_res w fr cf k cs b b1) (F := z_FD T) (⟨rfl, X2, b2, hA, hX2, hB, b_one hin e_52 hr2⟩) hS) hS.2.2 dX5_searchFrom_112
      have e_52 : (Nat.testBit L k) = true := wk_b1 c_52
      refine lv_aload_n hx hb dX5_searchFrom_55 rfl (lv_at hl 1 rfl) ?_
      refine lv_iload_n hx hb dX5_searchFrom_56 rfl (lv_at hl 2 rfl) ?_
      refine lv_iconst (v := 1) hx hb dX5_searchFrom_57 (by decide) ?_
      refine lv_iadd hx hb dX5_searchFrom_58 ?_
      refine wk_eqi (show (nI k) + 1 = nI (k + 1) from nI_add k 1) ?_
      refine lv_iload_n hx hb dX5_searchFrom_59 rfl (lv_at hl 3 rfl) ?_
      refine lv_iconst (v := 1) hx hb dX5_searchFrom_60 (by decide) ?_
      refine lv_iload_n hx hb dX5_searchFrom_61 rfl (lv_at hl 2 rfl) ?_
      refine lv_ishl hx hb dX5_searchFrom_62 ?_
      refine lv_ior hx hb dX5_searchFrom_63 ?_
      refine wk_eqi (wk_or1 (by omega)) ?_
      refine lv_iload hx hb dX5_searchFrom_64 (lv_at hl 0 rfl) ?_
      refine lv_aload_n hx hb dX5_searchFrom_66 rfl (lv_at hl 1 rfl) ?_
      refine wk_get (own := RX5) (C := RX4) (T := TX4) (N := 4) (ci := 5) (v := .ref (X.1 4 1)) hx hb hts i_X4 hown hK (hB.cell hA ho) rfl 1 (by decide) (hts _ (List.mem_of_getElem? (i := 2) rfl)) (fun _ h9 => h9) rfl dX5_searchFrom_67 ?_
      refine lv_iload_n hx hb dX5_searchFrom_70 rfl (lv_at hl 2 rfl) ?_
      refine wk_iald (n := 16) (f := (X.2.1 3)) hx hb hK (hA.srow (j := 1) (by decide)) k rfl (by omega) (by omega) dX5_searchFrom_71 ?_
      refine wk_eqi ((hB.1 k ((hin.2.2.2 k).mp e_52).2.1).2.1) ?_
      refine lv_iconst (v := (-1)) hx hb dX5_searchFrom_72 (by decide) ?_
      refine lv_ixor hx hb dX5_searchFrom_73 ?_
      refine lv_iand hx hb dX5_searchFrom_74 ?_
      refine wk_eqi (b_del_I _ _) ?_
      refine lv_iload hx hb dX5_searchFrom_75 (lv_at hl 5 rfl) ?_
      refine lv_aload_n hx hb dX5_searchFrom_77 rfl (lv_at hl 1 rfl) ?_
      refine wk_get (own := RX5) (C := RX4) (T := TX4) (N := 4) (ci := 5) (v := .ref (X.1 4 0)) hx hb hts i_X4 hown hK (hB.cell hA ho) rfl 0 (by decide) (hts _ (List.mem_of_getElem? (i := 3) rfl)) (fun _ h9 => h9) rfl dX5_searchFrom_78 ?_
      refine lv_iload_n hx hb dX5_searchFrom_81 rfl (lv_at hl 2 rfl) ?_
      refine wk_iald (n := 16) (f := (X.2.1 2)) hx hb hK (hA.srow (j := 0) (by decide)) k rfl (by omega) (by omega) dX5_searchFrom_82 ?_
      refine wk_eqi ((hB.1 k ((hin.2.2.2 k).mp e_52).2.1).1) ?_
      refine lv_iadd hx hb dX5_searchFrom_83 ?_
      refine wk_eqi (show (nI (b_W w cs 16)) + (nI (w k)) = nI ((b_W w cs 16) + (w k)) from nI_add (b_W w cs 16) (w k)) ?_
      refine wk_eqi (show nI (b_W w cs 16 + w k) = nI (b_W w (cs ||| 2 ^ k) 16) from by rw [b_W_or hin.2.1, if_pos (by omega)]) ?_
      refine we_S (As := [.ref o, .int (nI (k + 1)), .int (nI (cs ||| 2 ^ k)), .int (nI (b_del (b_del L (2 ^ k)) (cf k))), .int (nI (b_W w (cs ||| 2 ^ k) 16))]) (rest := []) ⟨hx, hb, hml, hown, hts⟩ (IH hA hI ho hB hC (hin.keep hC e_52) (by omega))  (va_cwS 5 hts gX5_searchFrom_X5_searchFrom rfl rfl rfl (by decide +kernel) ⟨(rmS_lf d9), (rmS_le d9)⟩) hV hS (fun _ h => Or.inl h) hA9 rfl hl.1 rfl (Nat.le_of_ble_eq_true rfl) dX5_searchFrom_84 ⟨Nat.zero_le _, Nat.zero_le _⟩ (fun v9 H locs hR9 hz9 hk9 hS => ?_)
      obtain ⟨rfl, X1, b1, hA, hX1, hB, hr1⟩ := hR9
      refine lv_iload hx hb dX5_searchFrom_87 (lv_at hl 0 rfl) ?_
      refine lv_aload_n hx hb dX5_searchFrom_89 rfl (lv_at hl 1 rfl) ?_
      refine wk_get (own := RX5) (C := RX4) (T := TX4) (N := 4) (ci := 5) (v := .ref (X1.1 4 1)) hx hb hts i_X4 hown hK (hB.cell hA (by rw [hX1]; exact ho)) rfl 1 (by decide) (hts _ (List.mem_of_getElem? (i := 2) rfl)) (fun _ h9 => h9) rfl dX5_searchFrom_90 ?_
      refine lv_iload_n hx hb dX5_searchFrom_93 rfl (lv_at hl 2 rfl) ?_
      refine wk_iald (n := 16) (f := (X1.2.1 3)) hx hb hK (hA.srow (j := 1) (by decide)) k rfl (by omega) (by omega) dX5_searchFrom_94 ?_
      refine wk_eqi ((hB.1 k ((hin.2.2.2 k).mp e_52).2.1).2.1) ?_
      refine lv_iand hx hb dX5_searchFrom_95 ?_
      refine wk_eqi (show (nI (b_del L (2 ^ k))) &&& (nI (cf k)) = nI ((b_del L (2 ^ k)) &&& (cf k)) from fa_and (b_del L (2 ^ k)) (cf k)) ?_
      refine lv_if_ne (tgt := 100) hx hb dX5_searchFrom_96 (by decide) (fun c_96 => ?_) (fun c_96 => ?_)
      · skip
        refine lv_aload_n hx hb dX5_searchFrom_100 rfl (lv_at hl 1 rfl) ?_
        refine lv_iload_n hx hb dX5_searchFrom_101 rfl (lv_at hl 2 rfl) ?_
        refine lv_iconst (v := 1) hx hb dX5_searchFrom_102 (by decide) ?_
        refine lv_iadd hx hb dX5_searchFrom_103 ?_
        refine wk_eqi (show (nI k) + 1 = nI (k + 1) from nI_add k 1) ?_
        refine lv_iload_n hx hb dX5_searchFrom_104 rfl (lv_at hl 3 rfl) ?_
        refine lv_iload hx hb dX5_searchFrom_105 (lv_at hl 0 rfl) ?_
        refine lv_iload hx hb dX5_searchFrom_107 (lv_at hl 5 rfl) ?_
        refine we_S (As := [.ref o, .int (nI (k + 1)), .int (nI cs), .int (nI (b_del L (2 ^ k))), .int (nI (b_W w cs 16))]) (rest := []) ⟨hx, hb, hml, hown, hts⟩ (IH hA hI (by rw [hX1]; exact ho) hB hC (hin.skip hC (by omega)) (by omega))  (va_cwS 5 hts gX5_searchFrom_X5_searchFrom rfl rfl rfl (by decide +kernel) ⟨(rmS_lf d9), (rmS_le d9)⟩) (hV.heap hS.1 (fun q hq => hS.2.1 q (Nat.lt_of_lt_of_le hq hV.2.2.2.2.2.2) (hbA q hq))) hS (fun _ h => Or.inl h) hA9 rfl hl.1 rfl (Nat.le_of_ble_eq_true rfl) dX5_searchFrom_109 ⟨Nat.zero_le _, Nat.zero_le _⟩ (fun v9 H locs hR9 hz9 hk9 hS => ?_)
        obtain ⟨rfl, X2, b2, hA, hX2, hB, hr2⟩ := hR9
        exact W.vret hx hb hr (we_end (Rt := fun v H1 => v = none ∧ ∃ (X1 : z_X) (b1 : Nat), DA E T X1 σ H1 ∧ X1.1 = X.1 ∧ b_SX w cf fr X1 b1 ∧ b_res w fr cf k cs b b1) (F := z_FD T) (⟨rfl, X2, b2, hA, hX2.trans hX1, hB, b_both hin hr1 hr2⟩) hS) hS.2.2 dX5_searchFrom_112
      have hz : b_del L (2 ^ k) &&& cf k = 0 := b_nz0 (hin.skip hC (by omega)) hC c_96
      exact W.vret hx hb hr (we_end (Rt := fun v H1 => v = none ∧ ∃ (X1 : z_X) (b1 : Nat), DA E T X1 σ H1 ∧ X1.1 = X.1 ∧ b_SX w cf fr X1 b1 ∧ b_res w fr cf k cs b b1) (F := z_FD T) (⟨rfl, X1, b1, hA, hX1, hB, b_alone hin hC e_52 hz (hB.1 k ((hin.2.2.2 k).mp e_52).2.1).2.2.2 hr1⟩) hS) hS.2.2 dX5_searchFrom_99
    have e_34 : ((b_W w cs 16) + (b_W w L 16)) < (b_W w b 16) := wk_cgef (by omega) (by omega) c_34
    exact W.vret hx hb hr (we_end (Rt := fun v H1 => v = none ∧ ∃ (X1 : z_X) (b1 : Nat), DA E T X1 σ H1 ∧ X1.1 = X.1 ∧ b_SX w cf fr X1 b1 ∧ b_res w fr cf k cs b b1) (F := z_FD T) (⟨rfl, X, b, hA, rfl, hB, b_prune hin e_34⟩) hS) hS.2.2 dX5_searchFrom_37
  have e_11 : 16 ≤ k := wk_cltf (by omega) (by omega) c_11
  have hL0 : L = 0 := hin.top hC e_11
  refine lv_aload_n hx hb dX5_searchFrom_14 rfl (lv_at hl 0 rfl) ?_
  refine lv_iload_n hx hb dX5_searchFrom_15 rfl (lv_at hl 2 rfl) ?_
  refine lv_iload hx hb dX5_searchFrom_16 (lv_at hl 4 rfl) ?_
  refine we_V (As := [.int (nI cs), .int (nI (b_W w cs 16))]) (rest := []) ⟨hx, hb, hml, hown, hts⟩ (e_X4_offer l E hA hI ho hB hC hc) (cwV 2 hts gX5_searchFrom_X4_offer rfl rfl rfl (by decide +kernel) ⟨(Nat.le_of_ble_eq_true rfl), (Nat.le_of_ble_eq_true rfl)⟩) (wk_recv hK (hB.cell hA ho) rfl) hV hS (fun _ h => Or.inl h) hA9 rfl hl.1 rfl (Nat.le_of_ble_eq_true rfl) dX5_searchFrom_18 ⟨Nat.zero_le _, Nat.zero_le _⟩ (fun v9 H locs hR9 hz9 hk9 hS => ?_)
  obtain ⟨rfl, X1, b1, hA, hX1, hB1, hof⟩ := hR9
  exact W.vret hx hb hr (we_end (Rt := fun v H1 => v = none ∧ ∃ (X1 : z_X) (b1 : Nat), DA E T X1 σ H1 ∧ X1.1 = X.1 ∧ b_SX w cf fr X1 b1 ∧ b_res w fr cf k cs b b1) (F := z_FD T) (⟨rfl, X1, b1, hA, hX1, hB1, b_leaf hin hL0 hof⟩) hS) hS.2.2 dX5_searchFrom_21

theorem e_search (l : Launch) (E : wk_E) : ∀ (d : Nat) {T : Nat → Nat × Nat} {X : z_X} {σ : z_S} {H : Heap} (hA : DA E T X σ H) (hI : z_Ok σ) {w cf : Nat → Nat} {fr b cs o : Nat} (ho : o = X.1 3 0) (hB : b_SX w cf fr X b) (hC : b_cf fr cf) {k L : Nat} (hin : b_in fr cf k cs L) (hd : 17 - k ≤ d), we_Met l yX5_searchFrom wsX5_searchFrom (rmS d) E H [.ref o, .int (nI k), .int (nI cs), .int (nI L), .int (nI (b_W w cs 16))] (z_FD T) 0 0 (fun v H1 => v = none ∧ ∃ (X1 : z_X) (b1 : Nat), DA E T X1 σ H1 ∧ X1.1 = X.1 ∧ b_SX w cf fr X1 b1 ∧ b_res w fr cf k cs b b1)
  | 0, _, _, _, _, _, _, _, _, _, _, _, _, _, _, _, _, _, hin, hd => absurd hin.1 (by omega)
  | d + 1, _, _, _, _, hA, hI, _, _, _, _, _, _, ho, hB, hC, _, _, hin, hd => e_searchStep l E hA hI ho hB hC hin hd (fun hA hI _ _ _ _ _ _ ho hB hC _ _ hin hd => e_search l E d hA hI ho hB hC hin hd)

abbrev rme_X5_prepareSearch : Room := { frames := 5, cells := 0, slots := 0, locals := 108 }
set_option maxHeartbeats 4000000 in
set_option maxRecDepth 100000 in
theorem e_X5_prepareSearch (l : Launch) (E : wk_E) {T : Nat → Nat × Nat} {X : z_X} {σ : z_S} {H : Heap} (hA : DA E T X σ H) (hI : z_Ok σ)  : we_Met l yX5_prepareSearch wsX5_prepareSearch rme_X5_prepareSearch E H [.ref (X.1 0 0)] (z_FD T) 0 0 (fun v H1 => v = some (.int (nI (b_fr σ))) ∧ ∃ X1 : z_X, DA E T X1 σ H1 ∧ X1.1 = X.1 ∧ b_SX (b_w σ) (f_cfl σ) (b_fr σ) X1 0) := by
  refine Met.ofW (cc := cX5_prepareSearch) (maxL := 4) (ret := (some .int)) (by decide) rfl ?_
  intro p e s m args below meth c s₁ B hml hv
  obtain ⟨rfl, hH, hV⟩ := hv
  subst hH
  have hK := hV.k
  have hx := B.exec
  have hb := B.bytes
  have hr := B.returns
  have hts := atoms_spec (ws := wsX5_prepareSearch) B.pre
  have hown : s.vm.findClass RX5 = some m.cls := findClass_of_methodNamed B.named
  have hlocks := B.notSynchronized
  have hS : va_S (fun q => (z_FD T) q ∨ s.heap.size ≤ q) s.heap s.heap [] := va_S.rf
  have hA9 : ∀ q : Nat, s.heap.size ≤ q → ((z_FD T) q ∨ s.heap.size ≤ q) := fun _ h => Or.inr h
  have hbA : ∀ q : Nat, q < E.2.2.1 → ¬ ((z_FD T) q ∨ s.heap.size ≤ q) := fun q hq z => z.elim (z_FDb hA.2.1 hq) (fun z => absurd (Nat.lt_of_lt_of_le hq hV.2.2.2.2.2.2) (Nat.not_lt.mpr z))
  have i_X5 : ∀ w ∈ u_ws RX5 TX5 7, w ∈ wsX5_prepareSearch := fun w h => (List.mem_cons_of_mem _ (List.mem_append_left _ (List.mem_append_left _ (List.mem_append_left _ (List.mem_append_left _ (List.mem_append_left _ (List.mem_append_right _ h)))))))
  have i_X4 : ∀ w ∈ u_ws RX4 TX4 4, w ∈ wsX5_prepareSearch := fun w h => (List.mem_cons_of_mem _ (List.mem_append_left _ (List.mem_append_left _ (List.mem_append_left _ (List.mem_append_left _ (List.mem_append_right _ h))))))
  have hl := lv_entry [.ref (X.1 0 0)] (n := 4) (Nat.le_of_ble_eq_true rfl)
  rw [lg_entry_eq]
  generalize (lg_sl [.ref (X.1 0 0)] ++ List.replicate (4 - (lg_sl [.ref (X.1 0 0)]).length) Slot.unset).toArray = ls at hl ⊢
  have hl : lv_has ls 4 [(0, .ref (X.1 0 0))] := hl
  have b0 := hI.n0
  have b1 := hI.n1
  have b2 := hI.n2
  have b3 := hI.n3
  refine lv_iconst (v := 0) hx hb dX5_prepareSearch_0 (by decide) ?_
  refine lv_istore_n (lv' := [(1, .int 0), (0, .ref (X.1 0 0))]) hx hb dX5_prepareSearch_1 rfl hl (by decide) rfl (fun ls hl => ?_)
  refine lv_iconst (v := 0) hx hb dX5_prepareSearch_2 (by decide) ?_
  refine lv_istore_n (lv' := [(2, .int 0), (1, .int 0), (0, .ref (X.1 0 0))]) hx hb dX5_prepareSearch_3 rfl hl (by decide) rfl (fun ls hl => ?_)
  have L_4 : ∀ (n_4 : Nat) (k : Nat) (Uk : (Nat → Nat → Int32) × (Nat → Nat)) (H : Heap) (locs : List Loc), z_n σ 2 - k < n_4 → (k ≤ z_n σ 2) → (DA E T (X.1, Uk) σ H) → (∀ i, i < k → Uk.1 2 i = f_worth σ i ∧ Uk.1 3 i = nI (f_cfl σ i)) → (va_S (fun q => (z_FD T) q ∨ s.heap.size ≤ q) s.heap H locs) → ∀ ls : Array Slot, lv_has ls 4 [(0, .ref (X.1 0 0)), (1, .int (nI (f_set (f_free σ) k))), (2, .int (nI k))] → W p l e (headSpec wsX5_prepareSearch rme_X5_prepareSearch).room s m ([.ref (X.1 0 0)] : List Value).toArray below meth c H locs 0 0 (MQ below (fun _ _ oc t => (∃ v, oc = .returned v ∧ (fun v H1 => v = some (.int (nI (b_fr σ))) ∧ ∃ X1 : z_X, DA E T X1 σ H1 ∧ X1.1 = X.1 ∧ b_SX (b_w σ) (f_cfl σ) (b_fr σ) X1 0) v t.heap) ∧ s.heap.size ≤ t.heap.size ∧ ∀ q : Nat, q < s.heap.size → ¬ (z_FD T) q → t.heap[q]? = s.heap[q]?) ([.ref (X.1 0 0)] : List Value).toArray s 0 0 (fun q => (z_FD T) q ∨ s.heap.size ≤ q)) (F0 m 4 ls []) := by
    intro n_4
    induction n_4 with
    | zero => intro k Uk H locs hm; exact absurd hm (Nat.not_lt_zero _)
    | succ n_4 ih_4 =>
      intro k Uk H locs hm_4 hk_k hA hrows hS ls hl
      refine lv_iload_n hx hb dX5_prepareSearch_4 rfl (lv_at hl 2 rfl) ?_
      refine lv_aload_n hx hb dX5_prepareSearch_5 rfl (lv_at hl 0 rfl) ?_
      refine wk_get (own := RX5) (C := RX5) (T := TX5) (N := 7) (ci := 6) (v := .ref (X.1 1 2)) hx hb hts i_X5 hown hK hA.desk rfl 2 (by decide) (hts _ (List.mem_of_getElem? (i := 1) rfl)) (fun _ h9 => h9) rfl dX5_prepareSearch_6 ?_
      refine wk_V (As := []) (rest := [.int (nI k)]) ⟨hx, hb, hml, hown, hts⟩ (c_size2 l E hA) (cwV 0 hts gX5_prepareSearch_Jx4a65c_size_8abf5 rfl rfl rfl (by decide +kernel) ⟨(Nat.le_of_ble_eq_true rfl), (Nat.le_of_ble_eq_true rfl)⟩) (wk_recv hK (hA.list (j := 2) (by decide)) rfl) hK rfl hl.1 rfl (Nat.le_of_ble_eq_true rfl) dX5_prepareSearch_9 ⟨Nat.zero_le _, Nat.zero_le _⟩ ?_
      refine lv_icmp_ge (tgt := 80) hx hb dX5_prepareSearch_12 (by decide) (fun c_12 => ?_) (fun c_12 => ?_)
      · skip
        have e_12 : (z_n σ 2) ≤ k := wk_cget (by omega) (by omega) c_12
        have hkN : k = z_n σ 2 := by omega
        subst hkN
        refine lv_aload_n hx hb dX5_prepareSearch_80 rfl (lv_at hl 0 rfl) ?_
        refine wk_get (own := RX5) (C := RX5) (T := TX5) (N := 7) (ci := 6) (v := .ref (X.1 3 0)) hx hb hts i_X5 hown hK hA.desk rfl 4 (by decide) (hts _ (List.mem_of_getElem? (i := 3) rfl)) (fun _ h9 => h9) rfl dX5_prepareSearch_81 ?_
        refine lv_iconst (v := 0) hx hb dX5_prepareSearch_84 (by decide) ?_
        refine wk_put (own := RX5) (C := RX4) (T := TX4) (N := 4) (ci := 5) (v := .int 0) hx hb hts i_X4 tyX4 tyX4_ok nmX4 hown hK hA.search (Or.inl (hA.tag (i := 3) (k := 0) rfl)) hS rfl 2 (by decide) (hts _ (List.mem_of_getElem? (i := 6) rfl)) (fun _ h9 => h9) rfl (tyX4_ok 2 (by decide)) rfl rfl (Nat.le_of_ble_eq_true rfl) dX5_prepareSearch_85 (fun H locs hP9 hz9 hk9 hS => ?_)
        have hA := hA.setBs hP9 hk9
        refine lv_aload_n hx hb dX5_prepareSearch_88 rfl (lv_at hl 0 rfl) ?_
        refine wk_get (own := RX5) (C := RX5) (T := TX5) (N := 7) (ci := 6) (v := .ref (X.1 3 0)) hx hb hts i_X5 hown hK hA.desk rfl 4 (by decide) (hts _ (List.mem_of_getElem? (i := 3) rfl)) (fun _ h9 => h9) rfl dX5_prepareSearch_89 ?_
        refine lv_iconst (v := 0) hx hb dX5_prepareSearch_92 (by decide) ?_
        refine wk_put (own := RX5) (C := RX4) (T := TX4) (N := 4) (ci := 5) (v := .int 0) hx hb hts i_X4 tyX4 tyX4_ok nmX4 hown hK (b_sr1 (X := (X.1, Uk)) hA) (Or.inl (hA.tag (i := 3) (k := 0) rfl)) hS rfl 3 (by decide) (hts _ (List.mem_of_getElem? (i := 7) rfl)) (fun _ h9 => h9) rfl (tyX4_ok 3 (by decide)) rfl rfl (Nat.le_of_ble_eq_true rfl) dX5_prepareSearch_93 (fun H locs hP9 hz9 hk9 hS => ?_)
        have hA := b_sr2 (X := (X.1, Uk)) hA hP9 hk9
        refine lv_iload_n hx hb dX5_prepareSearch_96 rfl (lv_at hl 1 rfl) ?_
        exact W.iret hx hb hr (we_end (Rt := fun v H1 => v = some (.int (nI (b_fr σ))) ∧ ∃ X1 : z_X, DA E T X1 σ H1 ∧ X1.1 = X.1 ∧ b_SX (b_w σ) (f_cfl σ) (b_fr σ) X1 0) (F := z_FD T) (⟨rfl, _, hA, rfl, b_SX0 hI hrows⟩) hS) hS.2.2 dX5_prepareSearch_97
      have e_12 : k < (z_n σ 2) := wk_cgef (by omega) (by omega) c_12
      refine lv_iload_n hx hb dX5_prepareSearch_15 rfl (lv_at hl 2 rfl) ?_
      refine lv_bipush (v := 16) hx hb dX5_prepareSearch_16 (by decide) ?_
      refine lv_icmp_ge (tgt := 80) hx hb dX5_prepareSearch_18 (by decide) (fun c_18 => ?_) (fun c_18 => ?_)
      · skip
        have e_18 : 16 ≤ k := wk_cget (by omega) (by omega) c_18
        omega
      have e_18 : k < 16 := wk_cgef (by omega) (by omega) c_18
      refine lv_aload_n hx hb dX5_prepareSearch_21 rfl (lv_at hl 0 rfl) ?_
      refine wk_get (own := RX5) (C := RX5) (T := TX5) (N := 7) (ci := 6) (v := .ref (X.1 1 2)) hx hb hts i_X5 hown hK hA.desk rfl 2 (by decide) (hts _ (List.mem_of_getElem? (i := 1) rfl)) (fun _ h9 => h9) rfl dX5_prepareSearch_22 ?_
      refine lv_iload_n hx hb dX5_prepareSearch_25 rfl (lv_at hl 2 rfl) ?_
      refine wk_V (As := [.int (nI k)]) (rest := []) ⟨hx, hb, hml, hown, hts⟩ (c_get2 l E hA hI e_12) (cwV 1 hts gX5_prepareSearch_Jx4a65c_get_915e3 rfl rfl rfl (by decide +kernel) ⟨(Nat.le_of_ble_eq_true rfl), (Nat.le_of_ble_eq_true rfl)⟩) (wk_recv hK (hA.list (j := 2) (by decide)) rfl) hK rfl hl.1 rfl (Nat.le_of_ble_eq_true rfl) dX5_prepareSearch_26 ⟨Nat.zero_le _, Nat.zero_le _⟩ ?_
      refine va_castS (own := RX5) hx hb hown (hts _ (List.mem_of_getElem? (i := 2) rfl)) (hK.1.1 3 _ rfl).2 (wk_recv hK (hA.pass e_12) rfl) dX5_prepareSearch_29 ?_
      refine lv_astore_n (lv' := [(3, .ref (X.1 7 k)), (0, .ref (X.1 0 0)), (1, .int (nI (f_set (f_free σ) k))), (2, .int (nI k))]) hx hb dX5_prepareSearch_32 rfl hl (by decide) rfl (fun ls hl => ?_)
      refine lv_aload_n hx hb dX5_prepareSearch_33 rfl (lv_at hl 1 rfl) ?_
      refine wk_get (own := RX5) (C := RX5) (T := TX5) (N := 7) (ci := 6) (v := .ref (X.1 3 0)) hx hb hts i_X5 hown hK hA.desk rfl 4 (by decide) (hts _ (List.mem_of_getElem? (i := 3) rfl)) (fun _ h9 => h9) rfl dX5_prepareSearch_34 ?_
      refine wk_get (own := RX5) (C := RX4) (T := TX4) (N := 4) (ci := 5) (v := .ref (X.1 4 0)) hx hb hts i_X4 hown hK hA.search rfl 0 (by decide) (hts _ (List.mem_of_getElem? (i := 4) rfl)) (fun _ h9 => h9) rfl dX5_prepareSearch_37 ?_
      refine lv_iload_n hx hb dX5_prepareSearch_40 rfl (lv_at hl 3 rfl) ?_
      refine lv_aload_n hx hb dX5_prepareSearch_41 rfl (lv_at hl 0 rfl) ?_
      refine wk_V (As := []) (rest := [.int (nI k), .ref (X.1 4 0)]) ⟨hx, hb, hml, hown, hts⟩ (c_X2_worth l E hA hI e_12) (cwV 0 hts gX5_prepareSearch_X2_worth rfl rfl rfl (by decide +kernel) ⟨(Nat.le_of_ble_eq_true rfl), (Nat.le_of_ble_eq_true rfl)⟩) (wk_recv hK (hA.pass e_12) rfl) hK rfl hl.1 rfl (Nat.le_of_ble_eq_true rfl) dX5_prepareSearch_42 ⟨Nat.zero_le _, Nat.zero_le _⟩ ?_
      refine wk_iast (nn := 16) hx hb hK (hA.srow (j := 0) (by decide)) (Or.inl (hA.tag (z_cl4 (j := 0) (by decide)))) hS k rfl (by omega) (by decide) dX5_prepareSearch_45 (fun H locs hP9 hz9 hk9 hS => ?_)
      have hA := hA.setSr (r := 0) (j := k) (by decide) hP9 hk9
      refine lv_aload_n hx hb dX5_prepareSearch_46 rfl (lv_at hl 1 rfl) ?_
      refine wk_get (own := RX5) (C := RX5) (T := TX5) (N := 7) (ci := 6) (v := .ref (X.1 3 0)) hx hb hts i_X5 hown hK hA.desk rfl 4 (by decide) (hts _ (List.mem_of_getElem? (i := 3) rfl)) (fun _ h9 => h9) rfl dX5_prepareSearch_47 ?_
      refine wk_get (own := RX5) (C := RX4) (T := TX4) (N := 4) (ci := 5) (v := .ref (X.1 4 1)) hx hb hts i_X4 hown hK hA.search rfl 1 (by decide) (hts _ (List.mem_of_getElem? (i := 5) rfl)) (fun _ h9 => h9) rfl dX5_prepareSearch_50 ?_
      refine lv_iload_n hx hb dX5_prepareSearch_53 rfl (lv_at hl 3 rfl) ?_
      refine lv_aload_n hx hb dX5_prepareSearch_54 rfl (lv_at hl 1 rfl) ?_
      refine lv_aload_n hx hb dX5_prepareSearch_55 rfl (lv_at hl 0 rfl) ?_
      refine wk_V (As := [.ref (X.1 7 k)]) (rest := [.int (nI k), .ref (X.1 4 1)]) ⟨hx, hb, hml, hown, hts⟩ (c_X5_conflictsOf l E hA hI e_12) (cwV 1 hts gX5_prepareSearch_X5_conflictsOf rfl rfl rfl (by decide +kernel) ⟨(Nat.le_of_ble_eq_true rfl), (Nat.le_of_ble_eq_true rfl)⟩) (wk_recv hK hA.desk rfl) hK rfl hl.1 rfl (Nat.le_of_ble_eq_true rfl) dX5_prepareSearch_56 ⟨Nat.zero_le _, Nat.zero_le _⟩ ?_
      refine wk_iast (nn := 16) hx hb hK (hA.srow (j := 1) (by decide)) (Or.inl (hA.tag (z_cl4 (j := 1) (by decide)))) hS k rfl (by omega) (by decide) dX5_prepareSearch_59 (fun H locs hP9 hz9 hk9 hS => ?_)
      have hA := hA.setSr (r := 1) (j := k) (by decide) hP9 hk9
      refine lv_aload_n hx hb dX5_prepareSearch_60 rfl (lv_at hl 1 rfl) ?_
      refine lv_aload_n hx hb dX5_prepareSearch_61 rfl (lv_at hl 0 rfl) ?_
      refine wk_V (As := [.ref (X.1 7 k)]) (rest := []) ⟨hx, hb, hml, hown, hts⟩ (c_X5_isFree l E hA hI e_12) (cwV 1 hts gX5_prepareSearch_X5_isFree rfl rfl rfl (by decide +kernel) ⟨(Nat.le_of_ble_eq_true rfl), (Nat.le_of_ble_eq_true rfl)⟩) (wk_recv hK hA.desk rfl) hK rfl hl.1 rfl (Nat.le_of_ble_eq_true rfl) dX5_prepareSearch_62 ⟨Nat.zero_le _, Nat.zero_le _⟩ ?_
      refine lv_if_eq (tgt := 74) hx hb dX5_prepareSearch_65 (by decide) (fun c_65 => ?_) (fun c_65 => ?_)
      · skip
        have e_65 : (f_free σ k) = false := wk_b0 c_65
        refine lv_iinc (v := nI (k + 1)) (lv' := [(2, .int (nI (k + 1))), (3, .ref (X.1 7 k)), (0, .ref (X.1 0 0)), (1, .int (nI (f_set (f_free σ) k)))]) hx hb dX5_prepareSearch_74 hl (k := 3) rfl (nI_1 _) (by decide) rfl (fun ls hl => ?_)
        refine lv_goto (tgt := 4) hx hb dX5_prepareSearch_77 (by decide) ?_
        have hl : lv_has ls 4 [(2, .int (nI (k + 1))), (3, .ref (X.1 7 k)), (0, .ref (X.1 0 0)), (1, .int (nI (f_set (f_free σ) (k + 1))))] := by rw [show nI (f_set (f_free σ) (k + 1)) = nI (f_set (f_free σ) k) from (by simp [f_set, e_65])]; exact hl
        exact ih_4 (k + 1) ((x1 (x1 (X.1, Uk) (2 + 0) k (f_worth σ k)) (2 + 1) k (nI (f_cfl σ k))).2) H locs (by omega) (by omega) hA (b_rows hrows) hS ls (lv_sub hl [2, 3, 0] rfl)
      have e_65 : (f_free σ k) = true := wk_b1 c_65
      refine lv_iload_n hx hb dX5_prepareSearch_68 rfl (lv_at hl 2 rfl) ?_
      refine lv_iconst (v := 1) hx hb dX5_prepareSearch_69 (by decide) ?_
      refine lv_iload_n hx hb dX5_prepareSearch_70 rfl (lv_at hl 3 rfl) ?_
      refine lv_ishl hx hb dX5_prepareSearch_71 ?_
      refine lv_ior hx hb dX5_prepareSearch_72 ?_
      refine lv_istore_n (lv' := [(1, .int ((nI (f_set (f_free σ) k)) ||| (1 <<< ((nI k) &&& 31)))), (3, .ref (X.1 7 k)), (0, .ref (X.1 0 0)), (2, .int (nI k))]) hx hb dX5_prepareSearch_73 rfl hl (by decide) rfl (fun ls hl => ?_)
      refine lv_iinc (v := nI (k + 1)) (lv' := [(2, .int (nI (k + 1))), (1, .int ((nI (f_set (f_free σ) k)) ||| (1 <<< ((nI k) &&& 31)))), (3, .ref (X.1 7 k)), (0, .ref (X.1 0 0))]) hx hb dX5_prepareSearch_74 hl (k := 3) rfl (nI_1 _) (by decide) rfl (fun ls hl => ?_)
      refine lv_goto (tgt := 4) hx hb dX5_prepareSearch_77 (by decide) ?_
      have hl : lv_has ls 4 [(2, .int (nI (k + 1))), (1, .int (nI (f_set (f_free σ) (k + 1)))), (3, .ref (X.1 7 k)), (0, .ref (X.1 0 0))] := by rw [show nI (f_set (f_free σ) (k + 1)) = (nI (f_set (f_free σ) k)) ||| (1 <<< ((nI k) &&& 31)) from (by simp [f_set, e_65, wk_or1 (k := k) (show k < 31 by omega)])]; exact hl
      exact ih_4 (k + 1) ((x1 (x1 (X.1, Uk) (2 + 0) k (f_worth σ k)) (2 + 1) k (nI (f_cfl σ k))).2) H locs (by omega) (by omega) hA (b_rows hrows) hS ls (lv_sub hl [3, 1, 0] rfl)
  exact L_4 _ 0 X.2 s.heap ([]) (Nat.lt_succ_self _) (Nat.zero_le _) hA (fun i hi => absurd hi (Nat.not_lt_zero _)) hS ls (lv_sub hl [2, 1, 0] rfl)

abbrev rme_X5_best : Room := { frames := 30, cells := 0, slots := 0, locals := 935 }
set_option maxHeartbeats 4000000 in
set_option maxRecDepth 100000 in
theorem e_X5_best (l : Launch) (E : wk_E) {T : Nat → Nat × Nat} {X : z_X} {σ : z_S} {H : Heap} (hA : DA E T X σ H) (hI : z_Ok σ)  : we_Met l yX5_best wsX5_best rme_X5_best E H [.ref (X.1 0 0)] (z_FD T) 0 0 (fun v H1 => ∃ (b1 : Nat) (X1 : z_X), v = some (.int (nI b1)) ∧ b_best (b_w σ) (b_fr σ) (f_cfl σ) b1 ∧ DA E T X1 σ H1 ∧ X1.1 = X.1) := by
  refine Met.ofW (cc := cX5_best) (maxL := 2) (ret := (some .int)) (by decide) rfl ?_
  intro p e s m args below meth c s₁ B hml hv
  obtain ⟨rfl, hH, hV⟩ := hv
  subst hH
  have hK := hV.k
  have hx := B.exec
  have hb := B.bytes
  have hr := B.returns
  have hts := atoms_spec (ws := wsX5_best) B.pre
  have hown : s.vm.findClass RX5 = some m.cls := findClass_of_methodNamed B.named
  have hlocks := B.notSynchronized
  have hS : va_S (fun q => (z_FD T) q ∨ s.heap.size ≤ q) s.heap s.heap [] := va_S.rf
  have hA9 : ∀ q : Nat, s.heap.size ≤ q → ((z_FD T) q ∨ s.heap.size ≤ q) := fun _ h => Or.inr h
  have hbA : ∀ q : Nat, q < E.2.2.1 → ¬ ((z_FD T) q ∨ s.heap.size ≤ q) := fun q hq z => z.elim (z_FDb hA.2.1 hq) (fun z => absurd (Nat.lt_of_lt_of_le hq hV.2.2.2.2.2.2) (Nat.not_lt.mpr z))
  have i_X5 : ∀ w ∈ u_ws RX5 TX5 7, w ∈ wsX5_best := fun w h => (List.mem_cons_of_mem _ (List.mem_append_left _ (List.mem_append_left _ (List.mem_append_left _ (List.mem_append_left _ (List.mem_append_left _ (List.mem_append_right _ h)))))))
  have i_X4 : ∀ w ∈ u_ws RX4 TX4 4, w ∈ wsX5_best := fun w h => (List.mem_cons_of_mem _ (List.mem_append_left _ (List.mem_append_left _ (List.mem_append_left _ (List.mem_append_left _ (List.mem_append_right _ h))))))
  have hl := lv_entry [.ref (X.1 0 0)] (n := 2) (Nat.le_of_ble_eq_true rfl)
  rw [lg_entry_eq]
  generalize (lg_sl [.ref (X.1 0 0)] ++ List.replicate (2 - (lg_sl [.ref (X.1 0 0)]).length) Slot.unset).toArray = ls at hl ⊢
  have hl : lv_has ls 2 [(0, .ref (X.1 0 0))] := hl
  have b0 := hI.n0
  have b1 := hI.n1
  have b2 := hI.n2
  have b3 := hI.n3
  refine lv_aload_n hx hb dX5_best_0 rfl (lv_at hl 0 rfl) ?_
  refine we_V (As := []) (rest := []) ⟨hx, hb, hml, hown, hts⟩ (e_X5_prepareSearch l E hA hI) (cwV 0 hts gX5_best_X5_prepareSearch rfl rfl rfl (by decide +kernel) ⟨(Nat.le_of_ble_eq_true rfl), (Nat.le_of_ble_eq_true rfl)⟩) (wk_recv hK hA.desk rfl) hV hS (fun _ h => Or.inl h) hA9 rfl hl.1 rfl (Nat.le_of_ble_eq_true rfl) dX5_best_1 ⟨Nat.zero_le _, Nat.zero_le _⟩ (fun v9 H locs hR9 hz9 hk9 hS => ?_)
  obtain ⟨rfl, ⟨a1, U1⟩, hA, hX1, hB⟩ := hR9
  have hX1 : a1 = X.1 := hX1
  subst hX1
  refine wk_eqls (st' := [.int (nI (b_fr σ))]) rfl ?_
  refine lv_istore_n (lv' := [(1, .int (nI (b_fr σ))), (0, .ref (X.1 0 0))]) hx hb dX5_best_4 rfl hl (by decide) rfl (fun ls hl => ?_)
  refine lv_aload_n hx hb dX5_best_5 rfl (lv_at hl 1 rfl) ?_
  refine wk_get (own := RX5) (C := RX5) (T := TX5) (N := 7) (ci := 6) (v := .ref (X.1 3 0)) hx hb hts i_X5 hown hK hA.desk rfl 4 (by decide) (hts _ (List.mem_of_getElem? (i := 1) rfl)) (fun _ h9 => h9) rfl dX5_best_6 ?_
  refine lv_iconst (v := 0) hx hb dX5_best_9 (by decide) ?_
  refine lv_iconst (v := 0) hx hb dX5_best_10 (by decide) ?_
  refine lv_iload_n hx hb dX5_best_11 rfl (lv_at hl 0 rfl) ?_
  refine lv_iconst (v := 0) hx hb dX5_best_12 (by decide) ?_
  refine wk_eqls (st' := [.int (nI (b_W (b_w σ) 0 16)), .int (nI (b_fr σ)), .int (nI 0), .int (nI 0), .ref (X.1 3 0)]) (by rw [b_W_0, nI_0]) ?_
  refine we_S (As := [.ref (X.1 3 0), .int (nI 0), .int (nI 0), .int (nI (b_fr σ)), .int (nI (b_W (b_w σ) 0 16))]) (rest := []) ⟨hx, hb, hml, hown, hts⟩ (e_search l E 17 hA hI rfl hB (b_cfσ hI) (b_in.start (b_cfσ hI)) (by decide))  (va_cwS 5 hts gX5_best_X5_searchFrom rfl rfl rfl (by decide +kernel) ⟨(Nat.le_of_ble_eq_true rfl), (Nat.le_of_ble_eq_true rfl)⟩) (hV.heap hS.1 (fun q hq => hS.2.1 q (Nat.lt_of_lt_of_le hq hV.2.2.2.2.2.2) (hbA q hq))) hS (fun _ h => Or.inl h) hA9 rfl hl.1 rfl (Nat.le_of_ble_eq_true rfl) dX5_best_13 ⟨Nat.zero_le _, Nat.zero_le _⟩ (fun v9 H locs hR9 hz9 hk9 hS => ?_)
  obtain ⟨rfl, ⟨a2, U2⟩, b2, hA, hX2, hB, hres⟩ := hR9
  have hX2 : a2 = X.1 := hX2
  subst hX2
  refine lv_aload_n hx hb dX5_best_16 rfl (lv_at hl 1 rfl) ?_
  refine wk_get (own := RX5) (C := RX5) (T := TX5) (N := 7) (ci := 6) (v := .ref (X.1 3 0)) hx hb hts i_X5 hown hK hA.desk rfl 4 (by decide) (hts _ (List.mem_of_getElem? (i := 1) rfl)) (fun _ h9 => h9) rfl dX5_best_17 ?_
  refine wk_get (own := RX5) (C := RX4) (T := TX4) (N := 4) (ci := 5) (v := .int (nI b2)) hx hb hts i_X4 hown hK (hB.cell hA rfl) rfl 2 (by decide) (hts _ (List.mem_of_getElem? (i := 2) rfl)) (fun _ h9 => h9) rfl dX5_best_20 ?_
  exact W.iret hx hb hr (we_end (Rt := fun v H1 => ∃ (b1 : Nat) (X1 : z_X), v = some (.int (nI b1)) ∧ b_best (b_w σ) (b_fr σ) (f_cfl σ) b1 ∧ DA E T X1 σ H1 ∧ X1.1 = X.1) (F := z_FD T) (⟨b2, _, rfl, b_end hres, hA, rfl⟩) hS) hS.2.2 dX5_best_23
