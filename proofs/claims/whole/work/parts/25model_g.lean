abbrev rmf2_X6_take : Room := { frames := 4, cells := 0, slots := 0, locals := 92 }
set_option maxHeartbeats 4000000 in
set_option maxRecDepth 100000 in
theorem f2_X6_take (l : Launch) (E : wk_E) {T : Nat → Nat × Nat} {Y : Nat → Nat → Nat} {σ : z_S} {th : Int32} {gt : Int64} {H : Heap} (hA : MA E T Y σ th gt H) (hI : z_Ok σ) {w : Nat} (hw : w < 2 ^ z_n σ 2) (hbad : f_tog σ w = false) : we_Met l yX6_take wsX6_take rmf2_X6_take E H [.ref (Y 10 0), .int (nI w)] (z_FM T) 0 0 (fun v H1 => v = some (.int (0)) ∧ MA E T Y σ 2 gt H1) := by
  refine Met.ofW (cc := cX6_take) (maxL := 3) (ret := (some .int)) (by decide) rfl ?_
  intro p e s m args below meth c s₁ B hml hv
  obtain ⟨rfl, hH, hV⟩ := hv
  subst hH
  have hK := hV.k
  have hx := B.exec
  have hb := B.bytes
  have hr := B.returns
  have hts := atoms_spec (ws := wsX6_take) B.pre
  have hown : s.vm.findClass RX6 = some m.cls := findClass_of_methodNamed B.named
  have hlocks := B.notSynchronized
  have hS : va_S (fun q => (z_FM T) q ∨ s.heap.size ≤ q) s.heap s.heap [] := va_S.rf
  have hA9 : ∀ q : Nat, s.heap.size ≤ q → ((z_FM T) q ∨ s.heap.size ≤ q) := fun _ h => Or.inr h
  have hbA : ∀ q : Nat, q < E.2.2.1 → ¬ ((z_FM T) q ∨ s.heap.size ≤ q) := fun q hq z => z.elim (z_FMb hA.2 hq) (fun z => absurd (Nat.lt_of_lt_of_le hq hV.2.2.2.2.2.2) (Nat.not_lt.mpr z))
  have i_X6 : ∀ w ∈ u_ws RX6 TX6 26, w ∈ wsX6_take := fun w h => (List.mem_cons_of_mem _ (List.mem_append_right _ h))
  have hl := lv_entry [.ref (Y 10 0), .int (nI w)] (n := 3) (Nat.le_of_ble_eq_true rfl)
  rw [lg_entry_eq]
  generalize (lg_sl [.ref (Y 10 0), .int (nI w)] ++ List.replicate (3 - (lg_sl [.ref (Y 10 0), .int (nI w)]).length) Slot.unset).toArray = ls at hl ⊢
  have hl : lv_has ls 3 [(0, .ref (Y 10 0)), (1, .int (nI w))] := hl
  have b0 := hI.n0
  have b1 := hI.n1
  have b2 := hI.n2
  have b3 := hI.n3
  refine lv_aload_n hx hb dX6_take_0 rfl (lv_at hl 0 rfl) ?_
  refine lv_iconst (v := 0) hx hb dX6_take_1 (by decide) ?_
  refine wk_put (own := RX6) (C := RX6) (T := TX6) (N := 26) (ci := 7) (v := .int 0) hx hb hts i_X6 tyX6 tyX6_ok nmX6 hown hK hA.obj (Or.inl hA.tagO) hS rfl 0 (by decide) (hts _ (List.mem_of_getElem? (i := 1) rfl)) (fun _ h9 => h9) rfl (tyX6_ok 0 (by decide)) rfl rfl (Nat.le_of_ble_eq_true rfl) dX6_take_2 (fun H locs hP9 hz9 hk9 hS => ?_)
  have hA := hA.setTh hP9 hk9
  refine lv_aload_n hx hb dX6_take_5 rfl (lv_at hl 0 rfl) ?_
  refine lv_iload_n hx hb dX6_take_6 rfl (lv_at hl 1 rfl) ?_
  refine wk_V (As := [.int (nI w)]) (rest := []) ⟨hx, hb, hml, hown, hts⟩ (c_X6_arePasses l E hA hI (x := nI w)) (cwV 1 hts gX6_take_X6_arePasses rfl rfl rfl (by decide +kernel) ⟨(Nat.le_of_ble_eq_true rfl), (Nat.le_of_ble_eq_true rfl)⟩) (wk_recv hK hA.obj rfl) hK rfl hl.1 rfl (Nat.le_of_ble_eq_true rfl) dX6_take_7 ⟨Nat.zero_le _, Nat.zero_le _⟩ ?_
  refine lv_if_ne (tgt := 19) hx hb dX6_take_10 (by decide) (fun c_10 => ?_) (fun c_10 => ?_)
  · skip
    have e_10 : (v_set (nI w) (z_n σ 2)) = true := wk_b1 c_10
    refine lv_iconst (v := 0) hx hb dX6_take_19 (by decide) ?_
    refine lv_istore_n (lv' := [(2, .int 0), (0, .ref (Y 10 0)), (1, .int (nI w))]) hx hb dX6_take_20 rfl hl (by decide) rfl (fun ls hl => ?_)
    have L_21 : ∀ (n_21 : Nat) (k : Nat), z_n σ 2 - k < n_21 → (k ≤ z_n σ 2) → (f_any (f_notTog σ w) k = false) → ∀ ls : Array Slot, lv_has ls 3 [(0, .ref (Y 10 0)), (1, .int (nI w)), (2, .int (nI k))] → W p l e (headSpec wsX6_take rmf2_X6_take).room s m ([.ref (Y 10 0), .int (nI w)] : List Value).toArray below meth c H locs 0 0 (MQ below (fun _ _ oc t => (∃ v, oc = .returned v ∧ (fun v H1 => v = some (.int (0)) ∧ MA E T Y σ 2 gt H1) v t.heap) ∧ s.heap.size ≤ t.heap.size ∧ ∀ q : Nat, q < s.heap.size → ¬ (z_FM T) q → t.heap[q]? = s.heap[q]?) ([.ref (Y 10 0), .int (nI w)] : List Value).toArray s 0 0 (fun q => (z_FM T) q ∨ s.heap.size ≤ q)) (F0 m 21 ls []) := by
      intro n_21
      induction n_21 with
      | zero => intro k hm; exact absurd hm (Nat.not_lt_zero _)
      | succ n_21 ih_21 =>
        intro k hm_21 hk_k hf ls hl
        refine lv_iload_n hx hb dX6_take_21 rfl (lv_at hl 2 rfl) ?_
        refine lv_aload_n hx hb dX6_take_22 rfl (lv_at hl 0 rfl) ?_
        refine wk_get (own := RX6) (C := RX6) (T := TX6) (N := 26) (ci := 7) (v := .int (nI (z_n σ 2))) hx hb hts i_X6 hown hK hA.obj rfl 18 (by decide) (hts _ (List.mem_of_getElem? (i := 2) rfl)) (fun _ h9 => h9) rfl dX6_take_23 ?_
        refine lv_icmp_ge (tgt := 67) hx hb dX6_take_26 (by decide) (fun c_26 => ?_) (fun c_26 => ?_)
        · skip
          have e_26 : (z_n σ 2) ≤ k := wk_cget (by omega) (by omega) c_26
          exact absurd hbad (by rw [f_tog, show z_n σ 2 = k by omega, hf]; decide)
        have e_26 : k < (z_n σ 2) := wk_cgef (by omega) (by omega) c_26
        refine lv_iload_n hx hb dX6_take_29 rfl (lv_at hl 1 rfl) ?_
        refine lv_iload_n hx hb dX6_take_30 rfl (lv_at hl 2 rfl) ?_
        refine wk_S (As := [.int (nI w), .int (nI k)]) (rest := []) ⟨hx, hb, hml, hown, hts⟩ (c_X6_has l E (mm := w) (k := k) (v_set_31 b2 hw) (by omega)) (va_cwS 2 hts gX6_take_X6_has rfl rfl rfl (by decide +kernel) ⟨(Nat.le_of_ble_eq_true rfl), (Nat.le_of_ble_eq_true rfl)⟩) hK rfl hl.1 rfl (Nat.le_of_ble_eq_true rfl) dX6_take_31 ⟨Nat.zero_le _, Nat.zero_le _⟩ ?_
        refine lv_if_eq (tgt := 61) hx hb dX6_take_34 (by decide) (fun c_34 => ?_) (fun c_34 => ?_)
        · skip
          have e_34 : (Nat.testBit w k) = false := wk_b0 c_34
          refine lv_iinc (v := nI (k + 1)) (lv' := [(2, .int (nI (k + 1))), (0, .ref (Y 10 0)), (1, .int (nI w))]) hx hb dX6_take_61 hl (k := 2) rfl (nI_1 _) (by decide) rfl (fun ls hl => ?_)
          refine lv_goto (tgt := 21) hx hb dX6_take_64 (by decide) ?_
          exact ih_21 (k + 1) (by omega) (by omega) (f_any_step hf (by simp [f_notTog, e_34])) ls (lv_sub hl [1, 2, 0] rfl)
        have e_34 : (Nat.testBit w k) = true := wk_b1 c_34
        refine lv_aload_n hx hb dX6_take_37 rfl (lv_at hl 0 rfl) ?_
        refine lv_iload_n hx hb dX6_take_38 rfl (lv_at hl 2 rfl) ?_
        refine wk_V (As := [.int (nI k)]) (rest := []) ⟨hx, hb, hml, hown, hts⟩ (c_X6_canBeTaken l E hA hI e_26) (cwV 1 hts gX6_take_X6_canBeTaken rfl rfl rfl (by decide +kernel) ⟨(Nat.le_of_ble_eq_true rfl), (Nat.le_of_ble_eq_true rfl)⟩) (wk_recv hK hA.obj rfl) hK rfl hl.1 rfl (Nat.le_of_ble_eq_true rfl) dX6_take_39 ⟨Nat.zero_le _, Nat.zero_le _⟩ ?_
        refine lv_if_eq (tgt := 55) hx hb dX6_take_42 (by decide) (fun c_42 => ?_) (fun c_42 => ?_)
        · skip
          have e_42 : (f_free σ k) = false := wk_b0 c_42
          refine lv_aload_n hx hb dX6_take_55 rfl (lv_at hl 0 rfl) ?_
          refine lv_iconst (v := 2) hx hb dX6_take_56 (by decide) ?_
          refine we_V (As := [.int 2]) (rest := []) ⟨hx, hb, hml, hown, hts⟩ (e_X6_fail l E hA hI) (cwV 1 hts gX6_take_X6_fail rfl rfl rfl (by decide +kernel) ⟨(Nat.le_of_ble_eq_true rfl), (Nat.le_of_ble_eq_true rfl)⟩) (wk_recv hK hA.obj rfl) (hV.heap hS.1 (fun q hq => hS.2.1 q (Nat.lt_of_lt_of_le hq hV.2.2.2.2.2.2) (hbA q hq))) hS (fun _ h => Or.inl h) hA9 rfl hl.1 rfl (Nat.le_of_ble_eq_true rfl) dX6_take_57 ⟨Nat.zero_le _, Nat.zero_le _⟩ (fun v9 H locs hR9 hz9 hk9 hS => ?_)
          obtain ⟨rfl, hA⟩ := hR9
          refine wk_eqls (st' := [.int 0]) rfl ?_
          exact W.iret hx hb hr (we_end (Rt := fun v H1 => v = some (.int (0)) ∧ MA E T Y σ 2 gt H1) (F := z_FM T) (⟨rfl, hA⟩) hS) hS.2.2 dX6_take_60
        have e_42 : (f_free σ k) = true := wk_b1 c_42
        refine lv_aload_n hx hb dX6_take_45 rfl (lv_at hl 0 rfl) ?_
        refine lv_iload_n hx hb dX6_take_46 rfl (lv_at hl 2 rfl) ?_
        refine wk_V (As := [.int (nI k)]) (rest := []) ⟨hx, hb, hml, hown, hts⟩ (c_X6_conflictsOf l E hA hI e_26) (cwV 1 hts gX6_take_X6_conflictsOf rfl rfl rfl (by decide +kernel) ⟨(Nat.le_of_ble_eq_true rfl), (Nat.le_of_ble_eq_true rfl)⟩) (wk_recv hK hA.obj rfl) hK rfl hl.1 rfl (Nat.le_of_ble_eq_true rfl) dX6_take_47 ⟨Nat.zero_le _, Nat.zero_le _⟩ ?_
        refine lv_iload_n hx hb dX6_take_50 rfl (lv_at hl 1 rfl) ?_
        refine lv_iand hx hb dX6_take_51 ?_
        refine wk_eqi (show (nI (f_cfl σ k)) &&& (nI w) = nI ((f_cfl σ k) &&& w) from fa_and (f_cfl σ k) w) ?_
        refine lv_if_eq (tgt := 61) hx hb dX6_take_52 (by decide) (fun c_52 => ?_) (fun c_52 => ?_)
        · skip
          have e_52 : ((f_cfl σ k) &&& w) = 0 := wk_ceqt (b := 0) (Nat.lt_of_le_of_lt Nat.and_le_left (f_cfl_lt hI k)) (by decide) c_52
          refine lv_iinc (v := nI (k + 1)) (lv' := [(2, .int (nI (k + 1))), (0, .ref (Y 10 0)), (1, .int (nI w))]) hx hb dX6_take_61 hl (k := 2) rfl (nI_1 _) (by decide) rfl (fun ls hl => ?_)
          refine lv_goto (tgt := 21) hx hb dX6_take_64 (by decide) ?_
          exact ih_21 (k + 1) (by omega) (by omega) (f_any_step hf (by simp [f_notTog, e_34, e_42, e_52])) ls (lv_sub hl [1, 2, 0] rfl)
        have e_52 : ¬ ((f_cfl σ k) &&& w) = 0 := wk_ceqf (b := 0) (Nat.lt_of_le_of_lt Nat.and_le_left (f_cfl_lt hI k)) (by decide) c_52
        refine lv_aload_n hx hb dX6_take_55 rfl (lv_at hl 0 rfl) ?_
        refine lv_iconst (v := 2) hx hb dX6_take_56 (by decide) ?_
        refine we_V (As := [.int 2]) (rest := []) ⟨hx, hb, hml, hown, hts⟩ (e_X6_fail l E hA hI) (cwV 1 hts gX6_take_X6_fail rfl rfl rfl (by decide +kernel) ⟨(Nat.le_of_ble_eq_true rfl), (Nat.le_of_ble_eq_true rfl)⟩) (wk_recv hK hA.obj rfl) (hV.heap hS.1 (fun q hq => hS.2.1 q (Nat.lt_of_lt_of_le hq hV.2.2.2.2.2.2) (hbA q hq))) hS (fun _ h => Or.inl h) hA9 rfl hl.1 rfl (Nat.le_of_ble_eq_true rfl) dX6_take_57 ⟨Nat.zero_le _, Nat.zero_le _⟩ (fun v9 H locs hR9 hz9 hk9 hS => ?_)
        obtain ⟨rfl, hA⟩ := hR9
        refine wk_eqls (st' := [.int 0]) rfl ?_
        exact W.iret hx hb hr (we_end (Rt := fun v H1 => v = some (.int (0)) ∧ MA E T Y σ 2 gt H1) (F := z_FM T) (⟨rfl, hA⟩) hS) hS.2.2 dX6_take_60
    exact L_21 _ 0 (Nat.lt_succ_self _) (Nat.zero_le _) rfl ls (lv_sub hl [1, 2, 0] rfl)
  have e_10 : (v_set (nI w) (z_n σ 2)) = false := wk_b0 c_10
  exact absurd (e_10.symm.trans (v_set_nI b2 hw)) (by decide)

abbrev rme_X6_handovers : Room := { frames := 2, cells := 0, slots := 0, locals := 45 }
set_option maxHeartbeats 4000000 in
set_option maxRecDepth 100000 in
theorem e_X6_handovers (l : Launch) (E : wk_E) {T : Nat → Nat × Nat} {Y : Nat → Nat → Nat} {σ : z_S} {th : Int32} {gt : Int64} {H : Heap} (hA : MA E T Y σ th gt H) (hI : z_Ok σ) {s9 : Nat} (hs9 : s9 < z_n σ 1) : we_Met l yX6_handovers wsX6_handovers rme_X6_handovers E H [.ref (Y 10 0), .int (nI s9)] (z_FM T) 0 0 (fun v H1 => v = some (.int (f_hand σ s9)) ∧ MA E T Y σ 0 gt H1) := by
  refine Met.ofW (cc := cX6_handovers) (maxL := 4) (ret := (some .int)) (by decide) rfl ?_
  intro p e s m args below meth c s₁ B hml hv
  obtain ⟨rfl, hH, hV⟩ := hv
  subst hH
  have hK := hV.k
  have hx := B.exec
  have hb := B.bytes
  have hr := B.returns
  have hts := atoms_spec (ws := wsX6_handovers) B.pre
  have hown : s.vm.findClass RX6 = some m.cls := findClass_of_methodNamed B.named
  have hlocks := B.notSynchronized
  have hS : va_S (fun q => (z_FM T) q ∨ s.heap.size ≤ q) s.heap s.heap [] := va_S.rf
  have hA9 : ∀ q : Nat, s.heap.size ≤ q → ((z_FM T) q ∨ s.heap.size ≤ q) := fun _ h => Or.inr h
  have hbA : ∀ q : Nat, q < E.2.2.1 → ¬ ((z_FM T) q ∨ s.heap.size ≤ q) := fun q hq z => z.elim (z_FMb hA.2 hq) (fun z => absurd (Nat.lt_of_lt_of_le hq hV.2.2.2.2.2.2) (Nat.not_lt.mpr z))
  have i_X6 : ∀ w ∈ u_ws RX6 TX6 26, w ∈ wsX6_handovers := fun w h => (List.mem_cons_of_mem _ (List.mem_append_right _ h))
  have hl := lv_entry [.ref (Y 10 0), .int (nI s9)] (n := 4) (Nat.le_of_ble_eq_true rfl)
  rw [lg_entry_eq]
  generalize (lg_sl [.ref (Y 10 0), .int (nI s9)] ++ List.replicate (4 - (lg_sl [.ref (Y 10 0), .int (nI s9)]).length) Slot.unset).toArray = ls at hl ⊢
  have hl : lv_has ls 4 [(0, .ref (Y 10 0)), (1, .int (nI s9))] := hl
  have b0 := hI.n0
  have b1 := hI.n1
  have b2 := hI.n2
  have b3 := hI.n3
  refine lv_aload_n hx hb dX6_handovers_0 rfl (lv_at hl 0 rfl) ?_
  refine lv_iconst (v := 0) hx hb dX6_handovers_1 (by decide) ?_
  refine wk_put (own := RX6) (C := RX6) (T := TX6) (N := 26) (ci := 7) (v := .int 0) hx hb hts i_X6 tyX6 tyX6_ok nmX6 hown hK hA.obj (Or.inl hA.tagO) hS rfl 0 (by decide) (hts _ (List.mem_of_getElem? (i := 1) rfl)) (fun _ h9 => h9) rfl (tyX6_ok 0 (by decide)) rfl rfl (Nat.le_of_ble_eq_true rfl) dX6_handovers_2 (fun H locs hP9 hz9 hk9 hS => ?_)
  have hA := hA.setTh hP9 hk9
  refine lv_aload_n hx hb dX6_handovers_5 rfl (lv_at hl 0 rfl) ?_
  refine lv_iload_n hx hb dX6_handovers_6 rfl (lv_at hl 1 rfl) ?_
  refine wk_V (As := [.int (nI s9)]) (rest := []) ⟨hx, hb, hml, hown, hts⟩ (c_X6_isSatellite l E hA hI (x := nI s9)) (cwV 1 hts gX6_handovers_X6_isSatellite rfl rfl rfl (by decide +kernel) ⟨(Nat.le_of_ble_eq_true rfl), (Nat.le_of_ble_eq_true rfl)⟩) (wk_recv hK hA.obj rfl) hK rfl hl.1 rfl (Nat.le_of_ble_eq_true rfl) dX6_handovers_7 ⟨Nat.zero_le _, Nat.zero_le _⟩ ?_
  refine lv_if_ne (tgt := 19) hx hb dX6_handovers_10 (by decide) (fun c_10 => ?_) (fun c_10 => ?_)
  · skip
    have e_10 : (v_ix (nI s9) (z_n σ 1)) = true := wk_b1 c_10
    refine lv_iconst (v := 0) hx hb dX6_handovers_19 (by decide) ?_
    refine lv_istore_n (lv' := [(2, .int 0), (0, .ref (Y 10 0)), (1, .int (nI s9))]) hx hb dX6_handovers_20 rfl hl (by decide) rfl (fun ls hl => ?_)
    refine lv_iconst (v := 0) hx hb dX6_handovers_21 (by decide) ?_
    refine lv_istore_n (lv' := [(3, .int 0), (2, .int 0), (0, .ref (Y 10 0)), (1, .int (nI s9))]) hx hb dX6_handovers_22 rfl hl (by decide) rfl (fun ls hl => ?_)
    have L_23 : ∀ (n_23 : Nat) (k : Nat), z_n σ 2 - k < n_23 → (k ≤ z_n σ 2) → ∀ ls : Array Slot, lv_has ls 4 [(0, .ref (Y 10 0)), (1, .int (nI s9)), (2, .int (f_cnt (fun k => decide (z_pS σ k = s9) && (z_tk σ k && !decide (f_start σ k = z_pb σ k))) k)), (3, .int (nI k))] → W p l e (headSpec wsX6_handovers rme_X6_handovers).room s m ([.ref (Y 10 0), .int (nI s9)] : List Value).toArray below meth c H locs 0 0 (MQ below (fun _ _ oc t => (∃ v, oc = .returned v ∧ (fun v H1 => v = some (.int (f_hand σ s9)) ∧ MA E T Y σ 0 gt H1) v t.heap) ∧ s.heap.size ≤ t.heap.size ∧ ∀ q : Nat, q < s.heap.size → ¬ (z_FM T) q → t.heap[q]? = s.heap[q]?) ([.ref (Y 10 0), .int (nI s9)] : List Value).toArray s 0 0 (fun q => (z_FM T) q ∨ s.heap.size ≤ q)) (F0 m 23 ls []) := by
      intro n_23
      induction n_23 with
      | zero => intro k hm; exact absurd hm (Nat.not_lt_zero _)
      | succ n_23 ih_23 =>
        intro k hm_23 hk_k ls hl
        refine lv_iload_n hx hb dX6_handovers_23 rfl (lv_at hl 3 rfl) ?_
        refine lv_aload_n hx hb dX6_handovers_24 rfl (lv_at hl 0 rfl) ?_
        refine wk_get (own := RX6) (C := RX6) (T := TX6) (N := 26) (ci := 7) (v := .int (nI (z_n σ 2))) hx hb hts i_X6 hown hK hA.obj rfl 18 (by decide) (hts _ (List.mem_of_getElem? (i := 2) rfl)) (fun _ h9 => h9) rfl dX6_handovers_25 ?_
        refine lv_icmp_ge (tgt := 80) hx hb dX6_handovers_28 (by decide) (fun c_28 => ?_) (fun c_28 => ?_)
        · skip
          have e_28 : (z_n σ 2) ≤ k := wk_cget (by omega) (by omega) c_28
          have hkN : k = z_n σ 2 := by omega
          refine lv_iload_n hx hb dX6_handovers_80 rfl (lv_at hl 2 rfl) ?_
          exact W.iret hx hb hr (we_end (Rt := fun v H1 => v = some (.int (f_hand σ s9)) ∧ MA E T Y σ 0 gt H1) (F := z_FM T) (⟨by rw [hkN]; rfl, hA⟩) hS) hS.2.2 dX6_handovers_81
        have e_28 : k < (z_n σ 2) := wk_cgef (by omega) (by omega) c_28
        have hp9 := hI.pS e_28
        refine lv_iload_n hx hb dX6_handovers_31 rfl (lv_at hl 2 rfl) ?_
        refine lv_aload_n hx hb dX6_handovers_32 rfl (lv_at hl 0 rfl) ?_
        refine wk_get (own := RX6) (C := RX6) (T := TX6) (N := 26) (ci := 7) (v := .int (nI (z_mk σ))) hx hb hts i_X6 hown hK hA.obj rfl 24 (by decide) (hts _ (List.mem_of_getElem? (i := 3) rfl)) (fun _ h9 => h9) rfl dX6_handovers_33 ?_
        refine lv_iload_n hx hb dX6_handovers_36 rfl (lv_at hl 3 rfl) ?_
        refine wk_S (As := [.int (nI (z_mk σ)), .int (nI k)]) (rest := [.int (f_cnt (fun k => decide (z_pS σ k = s9) && (z_tk σ k && !decide (f_start σ k = z_pb σ k))) k)]) ⟨hx, hb, hml, hown, hts⟩ (c_X6_has l E (mm := z_mk σ) (k := k) (z_mklt hI) (by omega)) (va_cwS 2 hts gX6_handovers_X6_has rfl rfl rfl (by decide +kernel) ⟨(Nat.le_of_ble_eq_true rfl), (Nat.le_of_ble_eq_true rfl)⟩) hK rfl hl.1 rfl (Nat.le_of_ble_eq_true rfl) dX6_handovers_37 ⟨Nat.zero_le _, Nat.zero_le _⟩ ?_
        refine lv_if_eq (tgt := 71) hx hb dX6_handovers_40 (by decide) (fun c_40 => ?_) (fun c_40 => ?_)
        · skip
          have e_40 : (z_tk σ k) = false := wk_b0 c_40
          refine lv_iconst (v := 0) hx hb dX6_handovers_71 (by decide) ?_
          refine lv_iadd hx hb dX6_handovers_72 ?_
          refine lv_istore_n (lv' := [(2, .int ((f_cnt (fun k => decide (z_pS σ k = s9) && (z_tk σ k && !decide (f_start σ k = z_pb σ k))) k) + 0)), (0, .ref (Y 10 0)), (1, .int (nI s9)), (3, .int (nI k))]) hx hb dX6_handovers_73 rfl hl (by decide) rfl (fun ls hl => ?_)
          refine lv_iinc (v := nI (k + 1)) (lv' := [(3, .int (nI (k + 1))), (2, .int ((f_cnt (fun k => decide (z_pS σ k = s9) && (z_tk σ k && !decide (f_start σ k = z_pb σ k))) k) + 0)), (0, .ref (Y 10 0)), (1, .int (nI s9))]) hx hb dX6_handovers_74 hl (k := 3) rfl (nI_1 _) (by decide) rfl (fun ls hl => ?_)
          refine lv_goto (tgt := 23) hx hb dX6_handovers_77 (by decide) ?_
          have hl : lv_has ls 4 [(3, .int (nI (k + 1))), (2, .int (f_cnt (fun k => decide (z_pS σ k = s9) && (z_tk σ k && !decide (f_start σ k = z_pb σ k))) (k + 1))), (0, .ref (Y 10 0)), (1, .int (nI s9))] := by rw [show f_cnt (fun k => decide (z_pS σ k = s9) && (z_tk σ k && !decide (f_start σ k = z_pb σ k))) (k + 1) = (f_cnt (fun k => decide (z_pS σ k = s9) && (z_tk σ k && !decide (f_start σ k = z_pb σ k))) k) + 0 from (by simp [f_cnt, e_40])]; exact hl
          exact ih_23 (k + 1) (by omega) (by omega) ls (lv_sub hl [2, 3, 1, 0] rfl)
        have e_40 : (z_tk σ k) = true := wk_b1 c_40
        refine lv_aload_n hx hb dX6_handovers_43 rfl (lv_at hl 0 rfl) ?_
        refine wk_get (own := RX6) (C := RX6) (T := TX6) (N := 26) (ci := 7) (v := .ref (Y 11 12)) hx hb hts i_X6 hown hK hA.obj rfl 19 (by decide) (hts _ (List.mem_of_getElem? (i := 4) rfl)) (fun _ h9 => h9) rfl dX6_handovers_44 ?_
        refine lv_iload_n hx hb dX6_handovers_47 rfl (lv_at hl 3 rfl) ?_
        refine wk_iald (n := 16) (f := fun j => nI (z_pS σ j)) hx hb hK hA.a12 k rfl (by have := e_28; omega) (by decide) dX6_handovers_48 ?_
        refine lv_iload_n hx hb dX6_handovers_49 rfl (lv_at hl 1 rfl) ?_
        refine lv_icmp_ne (tgt := 71) hx hb dX6_handovers_50 (by decide) (fun c_50 => ?_) (fun c_50 => ?_)
        · skip
          have e_50 : ¬ (z_pS σ k) = s9 := wk_cnet (by omega) (by omega) c_50
          refine lv_iconst (v := 0) hx hb dX6_handovers_71 (by decide) ?_
          refine lv_iadd hx hb dX6_handovers_72 ?_
          refine lv_istore_n (lv' := [(2, .int ((f_cnt (fun k => decide (z_pS σ k = s9) && (z_tk σ k && !decide (f_start σ k = z_pb σ k))) k) + 0)), (0, .ref (Y 10 0)), (1, .int (nI s9)), (3, .int (nI k))]) hx hb dX6_handovers_73 rfl hl (by decide) rfl (fun ls hl => ?_)
          refine lv_iinc (v := nI (k + 1)) (lv' := [(3, .int (nI (k + 1))), (2, .int ((f_cnt (fun k => decide (z_pS σ k = s9) && (z_tk σ k && !decide (f_start σ k = z_pb σ k))) k) + 0)), (0, .ref (Y 10 0)), (1, .int (nI s9))]) hx hb dX6_handovers_74 hl (k := 3) rfl (nI_1 _) (by decide) rfl (fun ls hl => ?_)
          refine lv_goto (tgt := 23) hx hb dX6_handovers_77 (by decide) ?_
          have hl : lv_has ls 4 [(3, .int (nI (k + 1))), (2, .int (f_cnt (fun k => decide (z_pS σ k = s9) && (z_tk σ k && !decide (f_start σ k = z_pb σ k))) (k + 1))), (0, .ref (Y 10 0)), (1, .int (nI s9))] := by rw [show f_cnt (fun k => decide (z_pS σ k = s9) && (z_tk σ k && !decide (f_start σ k = z_pb σ k))) (k + 1) = (f_cnt (fun k => decide (z_pS σ k = s9) && (z_tk σ k && !decide (f_start σ k = z_pb σ k))) k) + 0 from (by simp [f_cnt, e_40, e_50])]; exact hl
          exact ih_23 (k + 1) (by omega) (by omega) ls (lv_sub hl [2, 3, 1, 0] rfl)
        have e_50 : (z_pS σ k) = s9 := wk_cnef (by omega) (by omega) c_50
        refine lv_aload_n hx hb dX6_handovers_53 rfl (lv_at hl 0 rfl) ?_
        refine lv_iload_n hx hb dX6_handovers_54 rfl (lv_at hl 3 rfl) ?_
        refine wk_V (As := [.int (nI k)]) (rest := [.int (f_cnt (fun k => decide (z_pS σ k = s9) && (z_tk σ k && !decide (f_start σ k = z_pb σ k))) k)]) ⟨hx, hb, hml, hown, hts⟩ (c_X6_startOf l E hA hI e_28) (cwV 1 hts gX6_handovers_X6_startOf rfl rfl rfl (by decide +kernel) ⟨(Nat.le_of_ble_eq_true rfl), (Nat.le_of_ble_eq_true rfl)⟩) (wk_recv hK hA.obj rfl) hK rfl hl.1 rfl (Nat.le_of_ble_eq_true rfl) dX6_handovers_55 ⟨Nat.zero_le _, Nat.zero_le _⟩ ?_
        refine lv_aload_n hx hb dX6_handovers_58 rfl (lv_at hl 0 rfl) ?_
        refine wk_get (own := RX6) (C := RX6) (T := TX6) (N := 26) (ci := 7) (v := .ref (Y 11 14)) hx hb hts i_X6 hown hK hA.obj rfl 21 (by decide) (hts _ (List.mem_of_getElem? (i := 5) rfl)) (fun _ h9 => h9) rfl dX6_handovers_59 ?_
        refine lv_iload_n hx hb dX6_handovers_62 rfl (lv_at hl 3 rfl) ?_
        refine wk_iald (n := 16) (f := fun j => z_pb σ j) hx hb hK hA.a14 k rfl (by have := e_28; omega) (by decide) dX6_handovers_63 ?_
        refine lv_icmp_eq (tgt := 71) hx hb dX6_handovers_64 (by decide) (fun c_64 => ?_) (fun c_64 => ?_)
        · skip
          refine lv_iconst (v := 0) hx hb dX6_handovers_71 (by decide) ?_
          refine lv_iadd hx hb dX6_handovers_72 ?_
          refine lv_istore_n (lv' := [(2, .int ((f_cnt (fun k => decide (z_pS σ k = s9) && (z_tk σ k && !decide (f_start σ k = z_pb σ k))) k) + 0)), (0, .ref (Y 10 0)), (1, .int (nI s9)), (3, .int (nI k))]) hx hb dX6_handovers_73 rfl hl (by decide) rfl (fun ls hl => ?_)
          refine lv_iinc (v := nI (k + 1)) (lv' := [(3, .int (nI (k + 1))), (2, .int ((f_cnt (fun k => decide (z_pS σ k = s9) && (z_tk σ k && !decide (f_start σ k = z_pb σ k))) k) + 0)), (0, .ref (Y 10 0)), (1, .int (nI s9))]) hx hb dX6_handovers_74 hl (k := 3) rfl (nI_1 _) (by decide) rfl (fun ls hl => ?_)
          refine lv_goto (tgt := 23) hx hb dX6_handovers_77 (by decide) ?_
          have hl : lv_has ls 4 [(3, .int (nI (k + 1))), (2, .int (f_cnt (fun k => decide (z_pS σ k = s9) && (z_tk σ k && !decide (f_start σ k = z_pb σ k))) (k + 1))), (0, .ref (Y 10 0)), (1, .int (nI s9))] := by rw [show f_cnt (fun k => decide (z_pS σ k = s9) && (z_tk σ k && !decide (f_start σ k = z_pb σ k))) (k + 1) = (f_cnt (fun k => decide (z_pS σ k = s9) && (z_tk σ k && !decide (f_start σ k = z_pb σ k))) k) + 0 from (by simp [f_cnt, e_40, e_50, c_64])]; exact hl
          exact ih_23 (k + 1) (by omega) (by omega) ls (lv_sub hl [2, 3, 1, 0] rfl)
        refine lv_iconst (v := 1) hx hb dX6_handovers_67 (by decide) ?_
        refine lv_goto (tgt := 72) hx hb dX6_handovers_68 (by decide) ?_
        refine lv_iadd hx hb dX6_handovers_72 ?_
        refine lv_istore_n (lv' := [(2, .int ((f_cnt (fun k => decide (z_pS σ k = s9) && (z_tk σ k && !decide (f_start σ k = z_pb σ k))) k) + 1)), (0, .ref (Y 10 0)), (1, .int (nI s9)), (3, .int (nI k))]) hx hb dX6_handovers_73 rfl hl (by decide) rfl (fun ls hl => ?_)
        refine lv_iinc (v := nI (k + 1)) (lv' := [(3, .int (nI (k + 1))), (2, .int ((f_cnt (fun k => decide (z_pS σ k = s9) && (z_tk σ k && !decide (f_start σ k = z_pb σ k))) k) + 1)), (0, .ref (Y 10 0)), (1, .int (nI s9))]) hx hb dX6_handovers_74 hl (k := 3) rfl (nI_1 _) (by decide) rfl (fun ls hl => ?_)
        refine lv_goto (tgt := 23) hx hb dX6_handovers_77 (by decide) ?_
        have hl : lv_has ls 4 [(3, .int (nI (k + 1))), (2, .int (f_cnt (fun k => decide (z_pS σ k = s9) && (z_tk σ k && !decide (f_start σ k = z_pb σ k))) (k + 1))), (0, .ref (Y 10 0)), (1, .int (nI s9))] := by rw [show f_cnt (fun k => decide (z_pS σ k = s9) && (z_tk σ k && !decide (f_start σ k = z_pb σ k))) (k + 1) = (f_cnt (fun k => decide (z_pS σ k = s9) && (z_tk σ k && !decide (f_start σ k = z_pb σ k))) k) + 1 from (by simp [f_cnt, e_40, e_50, c_64])]; exact hl
        exact ih_23 (k + 1) (by omega) (by omega) ls (lv_sub hl [2, 3, 1, 0] rfl)
    exact L_23 _ 0 (Nat.lt_succ_self _) (Nat.zero_le _) ls (lv_sub hl [2, 3, 1, 0] rfl)
  have e_10 : (v_ix (nI s9) (z_n σ 1)) = false := wk_b0 c_10
  exact absurd (e_10.symm.trans (v_ix_nI hs9 (by omega))) (by decide)

abbrev rmf_X6_handovers : Room := { frames := 2, cells := 0, slots := 0, locals := 43 }
set_option maxHeartbeats 4000000 in
set_option maxRecDepth 100000 in
theorem f_X6_handovers (l : Launch) (E : wk_E) {T : Nat → Nat × Nat} {Y : Nat → Nat → Nat} {σ : z_S} {th : Int32} {gt : Int64} {H : Heap} (hA : MA E T Y σ th gt H) (hI : z_Ok σ) {x : Int32} (hbad : v_ix x (z_n σ 1) = false) : we_Met l yX6_handovers wsX6_handovers rmf_X6_handovers E H [.ref (Y 10 0), .int x] (z_FM T) 0 0 (fun v H1 => v = some (.int (0)) ∧ MA E T Y σ 1 gt H1) := by
  refine Met.ofW (cc := cX6_handovers) (maxL := 4) (ret := (some .int)) (by decide) rfl ?_
  intro p e s m args below meth c s₁ B hml hv
  obtain ⟨rfl, hH, hV⟩ := hv
  subst hH
  have hK := hV.k
  have hx := B.exec
  have hb := B.bytes
  have hr := B.returns
  have hts := atoms_spec (ws := wsX6_handovers) B.pre
  have hown : s.vm.findClass RX6 = some m.cls := findClass_of_methodNamed B.named
  have hlocks := B.notSynchronized
  have hS : va_S (fun q => (z_FM T) q ∨ s.heap.size ≤ q) s.heap s.heap [] := va_S.rf
  have hA9 : ∀ q : Nat, s.heap.size ≤ q → ((z_FM T) q ∨ s.heap.size ≤ q) := fun _ h => Or.inr h
  have hbA : ∀ q : Nat, q < E.2.2.1 → ¬ ((z_FM T) q ∨ s.heap.size ≤ q) := fun q hq z => z.elim (z_FMb hA.2 hq) (fun z => absurd (Nat.lt_of_lt_of_le hq hV.2.2.2.2.2.2) (Nat.not_lt.mpr z))
  have i_X6 : ∀ w ∈ u_ws RX6 TX6 26, w ∈ wsX6_handovers := fun w h => (List.mem_cons_of_mem _ (List.mem_append_right _ h))
  have hl := lv_entry [.ref (Y 10 0), .int x] (n := 4) (Nat.le_of_ble_eq_true rfl)
  rw [lg_entry_eq]
  generalize (lg_sl [.ref (Y 10 0), .int x] ++ List.replicate (4 - (lg_sl [.ref (Y 10 0), .int x]).length) Slot.unset).toArray = ls at hl ⊢
  have hl : lv_has ls 4 [(0, .ref (Y 10 0)), (1, .int x)] := hl
  have b0 := hI.n0
  have b1 := hI.n1
  have b2 := hI.n2
  have b3 := hI.n3
  refine lv_aload_n hx hb dX6_handovers_0 rfl (lv_at hl 0 rfl) ?_
  refine lv_iconst (v := 0) hx hb dX6_handovers_1 (by decide) ?_
  refine wk_put (own := RX6) (C := RX6) (T := TX6) (N := 26) (ci := 7) (v := .int 0) hx hb hts i_X6 tyX6 tyX6_ok nmX6 hown hK hA.obj (Or.inl hA.tagO) hS rfl 0 (by decide) (hts _ (List.mem_of_getElem? (i := 1) rfl)) (fun _ h9 => h9) rfl (tyX6_ok 0 (by decide)) rfl rfl (Nat.le_of_ble_eq_true rfl) dX6_handovers_2 (fun H locs hP9 hz9 hk9 hS => ?_)
  have hA := hA.setTh hP9 hk9
  refine lv_aload_n hx hb dX6_handovers_5 rfl (lv_at hl 0 rfl) ?_
  refine lv_iload_n hx hb dX6_handovers_6 rfl (lv_at hl 1 rfl) ?_
  refine wk_V (As := [.int x]) (rest := []) ⟨hx, hb, hml, hown, hts⟩ (c_X6_isSatellite l E hA hI (x := x)) (cwV 1 hts gX6_handovers_X6_isSatellite rfl rfl rfl (by decide +kernel) ⟨(Nat.le_of_ble_eq_true rfl), (Nat.le_of_ble_eq_true rfl)⟩) (wk_recv hK hA.obj rfl) hK rfl hl.1 rfl (Nat.le_of_ble_eq_true rfl) dX6_handovers_7 ⟨Nat.zero_le _, Nat.zero_le _⟩ ?_
  refine lv_if_ne (tgt := 19) hx hb dX6_handovers_10 (by decide) (fun c_10 => ?_) (fun c_10 => ?_)
  · skip
    have e_10 : (v_ix x (z_n σ 1)) = true := wk_b1 c_10
    exact absurd (hbad.symm.trans e_10) (by decide)
  have e_10 : (v_ix x (z_n σ 1)) = false := wk_b0 c_10
  refine lv_aload_n hx hb dX6_handovers_13 rfl (lv_at hl 0 rfl) ?_
  refine lv_iconst (v := 1) hx hb dX6_handovers_14 (by decide) ?_
  refine we_V (As := [.int 1]) (rest := []) ⟨hx, hb, hml, hown, hts⟩ (e_X6_fail l E hA hI) (cwV 1 hts gX6_handovers_X6_fail rfl rfl rfl (by decide +kernel) ⟨(Nat.le_of_ble_eq_true rfl), (Nat.le_of_ble_eq_true rfl)⟩) (wk_recv hK hA.obj rfl) (hV.heap hS.1 (fun q hq => hS.2.1 q (Nat.lt_of_lt_of_le hq hV.2.2.2.2.2.2) (hbA q hq))) hS (fun _ h => Or.inl h) hA9 rfl hl.1 rfl (Nat.le_of_ble_eq_true rfl) dX6_handovers_15 ⟨Nat.zero_le _, Nat.zero_le _⟩ (fun v9 H locs hR9 hz9 hk9 hS => ?_)
  obtain ⟨rfl, hA⟩ := hR9
  refine wk_eqls (st' := [.int 0]) rfl ?_
  exact W.iret hx hb hr (we_end (Rt := fun v H1 => v = some (.int (0)) ∧ MA E T Y σ 1 gt H1) (F := z_FM T) (⟨rfl, hA⟩) hS) hS.2.2 dX6_handovers_18

abbrev rme_X6_addPass : Room := { frames := 2, cells := 0, slots := 0, locals := 43 }
set_option maxHeartbeats 4000000 in
set_option maxRecDepth 100000 in
theorem e_X6_addPass (l : Launch) (E : wk_E) {T : Nat → Nat × Nat} {Y : Nat → Nat → Nat} {σ : z_S} {th : Int32} {gt : Int64} {H : Heap} (hA : MA E T Y σ th gt H) (hI : z_Ok σ) {i a : Nat} {x y : Int32} (hi : i < z_n σ 1) (ha : a < z_n σ 0) (hsp : v_span σ x y = true) (hlen : y - x ≤ 600) (hhe : f_hears σ a i = true) (hn : z_n σ 2 < 16) : we_Met l yX6_addPass wsX6_addPass rme_X6_addPass E H [.ref (Y 10 0), .int (nI i), .int (nI a), .int x, .int y] (z_FM T) 0 0 (fun v H1 => v = some (.int (nI (z_n σ 2))) ∧ MA E T Y (f_addP σ i a x y) 0 gt H1) := by
  refine Met.ofW (cc := cX6_addPass) (maxL := 5) (ret := (some .int)) (by decide) rfl ?_
  intro p e s m args below meth c s₁ B hml hv
  obtain ⟨rfl, hH, hV⟩ := hv
  subst hH
  have hK := hV.k
  have hx := B.exec
  have hb := B.bytes
  have hr := B.returns
  have hts := atoms_spec (ws := wsX6_addPass) B.pre
  have hown : s.vm.findClass RX6 = some m.cls := findClass_of_methodNamed B.named
  have hlocks := B.notSynchronized
  have hS : va_S (fun q => (z_FM T) q ∨ s.heap.size ≤ q) s.heap s.heap [] := va_S.rf
  have hA9 : ∀ q : Nat, s.heap.size ≤ q → ((z_FM T) q ∨ s.heap.size ≤ q) := fun _ h => Or.inr h
  have hbA : ∀ q : Nat, q < E.2.2.1 → ¬ ((z_FM T) q ∨ s.heap.size ≤ q) := fun q hq z => z.elim (z_FMb hA.2 hq) (fun z => absurd (Nat.lt_of_lt_of_le hq hV.2.2.2.2.2.2) (Nat.not_lt.mpr z))
  have i_X6 : ∀ w ∈ u_ws RX6 TX6 26, w ∈ wsX6_addPass := fun w h => (List.mem_cons_of_mem _ (List.mem_append_right _ h))
  have hl := lv_entry [.ref (Y 10 0), .int (nI i), .int (nI a), .int x, .int y] (n := 5) (Nat.le_of_ble_eq_true rfl)
  rw [lg_entry_eq]
  generalize (lg_sl [.ref (Y 10 0), .int (nI i), .int (nI a), .int x, .int y] ++ List.replicate (5 - (lg_sl [.ref (Y 10 0), .int (nI i), .int (nI a), .int x, .int y]).length) Slot.unset).toArray = ls at hl ⊢
  have hl : lv_has ls 5 [(0, .ref (Y 10 0)), (1, .int (nI i)), (2, .int (nI a)), (3, .int x), (4, .int y)] := hl
  have b0 := hI.n0
  have b1 := hI.n1
  have b2 := hI.n2
  have b3 := hI.n3
  refine lv_aload_n hx hb dX6_addPass_0 rfl (lv_at hl 0 rfl) ?_
  refine lv_iconst (v := 0) hx hb dX6_addPass_1 (by decide) ?_
  refine wk_put (own := RX6) (C := RX6) (T := TX6) (N := 26) (ci := 7) (v := .int 0) hx hb hts i_X6 tyX6 tyX6_ok nmX6 hown hK hA.obj (Or.inl hA.tagO) hS rfl 0 (by decide) (hts _ (List.mem_of_getElem? (i := 1) rfl)) (fun _ h9 => h9) rfl (tyX6_ok 0 (by decide)) rfl rfl (Nat.le_of_ble_eq_true rfl) dX6_addPass_2 (fun H locs hP9 hz9 hk9 hS => ?_)
  have hA := hA.setTh hP9 hk9
  refine lv_aload_n hx hb dX6_addPass_5 rfl (lv_at hl 0 rfl) ?_
  refine lv_iload_n hx hb dX6_addPass_6 rfl (lv_at hl 1 rfl) ?_
  refine wk_V (As := [.int (nI i)]) (rest := []) ⟨hx, hb, hml, hown, hts⟩ (c_X6_isSatellite l E hA hI (x := nI i)) (cwV 1 hts gX6_addPass_X6_isSatellite rfl rfl rfl (by decide +kernel) ⟨(Nat.le_of_ble_eq_true rfl), (Nat.le_of_ble_eq_true rfl)⟩) (wk_recv hK hA.obj rfl) hK rfl hl.1 rfl (Nat.le_of_ble_eq_true rfl) dX6_addPass_7 ⟨Nat.zero_le _, Nat.zero_le _⟩ ?_
  refine lv_if_eq (tgt := 21) hx hb dX6_addPass_10 (by decide) (fun c_10 => ?_) (fun c_10 => ?_)
  · skip
    have e_10 : (v_ix (nI i) (z_n σ 1)) = false := wk_b0 c_10
    exact absurd (e_10.symm.trans (v_ix_nI hi (by omega))) (by decide)
  have e_10 : (v_ix (nI i) (z_n σ 1)) = true := wk_b1 c_10
  refine lv_aload_n hx hb dX6_addPass_13 rfl (lv_at hl 0 rfl) ?_
  refine lv_iload_n hx hb dX6_addPass_14 rfl (lv_at hl 2 rfl) ?_
  refine wk_V (As := [.int (nI a)]) (rest := []) ⟨hx, hb, hml, hown, hts⟩ (c_X6_isAntenna l E hA hI (x := nI a)) (cwV 1 hts gX6_addPass_X6_isAntenna rfl rfl rfl (by decide +kernel) ⟨(Nat.le_of_ble_eq_true rfl), (Nat.le_of_ble_eq_true rfl)⟩) (wk_recv hK hA.obj rfl) hK rfl hl.1 rfl (Nat.le_of_ble_eq_true rfl) dX6_addPass_15 ⟨Nat.zero_le _, Nat.zero_le _⟩ ?_
  refine lv_if_ne (tgt := 27) hx hb dX6_addPass_18 (by decide) (fun c_18 => ?_) (fun c_18 => ?_)
  · skip
    have e_18 : (v_ix (nI a) (z_n σ 0)) = true := wk_b1 c_18
    refine lv_iload_n hx hb dX6_addPass_27 rfl (lv_at hl 3 rfl) ?_
    refine lv_aload_n hx hb dX6_addPass_28 rfl (lv_at hl 0 rfl) ?_
    refine wk_get (own := RX6) (C := RX6) (T := TX6) (N := 26) (ci := 7) (v := .int (z_now σ)) hx hb hts i_X6 hown hK hA.obj rfl 1 (by decide) (hts _ (List.mem_of_getElem? (i := 2) rfl)) (fun _ h9 => h9) rfl dX6_addPass_29 ?_
    refine lv_icmp_lt (tgt := 77) hx hb dX6_addPass_32 (by decide) (fun c_32 => ?_) (fun c_32 => ?_)
    · skip
      have d_32 := Int32.not_le.mpr c_32
      exact absurd c_32 (v_span1 hsp)
    have d_32 := Int32.not_lt.mp c_32
    refine lv_iload hx hb dX6_addPass_35 (lv_at hl 4 rfl) ?_
    refine lv_iload_n hx hb dX6_addPass_37 rfl (lv_at hl 3 rfl) ?_
    refine lv_icmp_le (tgt := 77) hx hb dX6_addPass_38 (by decide) (fun c_38 => ?_) (fun c_38 => ?_)
    · skip
      have d_38 := Int32.not_lt.mpr c_38
      exact absurd c_38 (v_span2 hsp)
    have d_38 := Int32.not_le.mp c_38
    refine lv_iload hx hb dX6_addPass_41 (lv_at hl 4 rfl) ?_
    refine lv_sipush (v := 9999) hx hb dX6_addPass_43 (by decide) ?_
    refine lv_icmp_gt (tgt := 77) hx hb dX6_addPass_46 (by decide) (fun c_46 => ?_) (fun c_46 => ?_)
    · skip
      have d_46 := Int32.not_le.mpr c_46
      exact absurd c_46 (v_span3 hsp)
    have d_46 := Int32.not_lt.mp c_46
    refine lv_iload hx hb dX6_addPass_49 (lv_at hl 4 rfl) ?_
    refine lv_iload_n hx hb dX6_addPass_51 rfl (lv_at hl 3 rfl) ?_
    refine lv_isub hx hb dX6_addPass_52 ?_
    refine lv_sipush (v := 600) hx hb dX6_addPass_53 (by decide) ?_
    refine lv_icmp_gt (tgt := 77) hx hb dX6_addPass_56 (by decide) (fun c_56 => ?_) (fun c_56 => ?_)
    · skip
      have d_56 := Int32.not_le.mpr c_56
      exact absurd hlen (Int32.not_le.mpr c_56)
    have d_56 := Int32.not_lt.mp c_56
    refine lv_aload_n hx hb dX6_addPass_59 rfl (lv_at hl 0 rfl) ?_
    refine wk_get (own := RX6) (C := RX6) (T := TX6) (N := 26) (ci := 7) (v := .ref (Y 11 0)) hx hb hts i_X6 hown hK hA.obj rfl 4 (by decide) (hts _ (List.mem_of_getElem? (i := 3) rfl)) (fun _ h9 => h9) rfl dX6_addPass_60 ?_
    refine lv_iload_n hx hb dX6_addPass_63 rfl (lv_at hl 2 rfl) ?_
    refine wk_iald (n := 5) (f := fun j => z_ab σ j) hx hb hK hA.a0 a rfl (by have := ha; omega) (by decide) dX6_addPass_64 ?_
    refine lv_aload_n hx hb dX6_addPass_65 rfl (lv_at hl 0 rfl) ?_
    refine wk_get (own := RX6) (C := RX6) (T := TX6) (N := 26) (ci := 7) (v := .ref (Y 11 5)) hx hb hts i_X6 hown hK hA.obj rfl 11 (by decide) (hts _ (List.mem_of_getElem? (i := 4) rfl)) (fun _ h9 => h9) rfl dX6_addPass_66 ?_
    refine lv_iload_n hx hb dX6_addPass_69 rfl (lv_at hl 1 rfl) ?_
    refine wk_iald (n := 8) (f := fun j => z_sb σ j) hx hb hK hA.a5 i rfl (by have := hi; omega) (by decide) dX6_addPass_70 ?_
    obtain ⟨mm, bb, hmm, hbb, emm, ebb, ehe⟩ := f_hearsN hI ha hi
    refine wk_eqls (st' := [.int (nI bb), .int (nI mm)]) (by rw [emm, ebb]) ?_
    refine wk_S (As := [.int (nI mm), .int (nI bb)]) (rest := []) ⟨hx, hb, hml, hown, hts⟩ (c_X6_has l E (mm := mm) (k := bb) (by omega) (by omega)) (va_cwS 2 hts gX6_addPass_X6_has rfl rfl rfl (by decide +kernel) ⟨(Nat.le_of_ble_eq_true rfl), (Nat.le_of_ble_eq_true rfl)⟩) hK rfl hl.1 rfl (Nat.le_of_ble_eq_true rfl) dX6_addPass_71 ⟨Nat.zero_le _, Nat.zero_le _⟩ ?_
    refine lv_if_ne (tgt := 83) hx hb dX6_addPass_74 (by decide) (fun c_74 => ?_) (fun c_74 => ?_)
    · skip
      have e_74 : (Nat.testBit mm bb) = true := wk_b1 c_74
      refine lv_aload_n hx hb dX6_addPass_83 rfl (lv_at hl 0 rfl) ?_
      refine wk_get (own := RX6) (C := RX6) (T := TX6) (N := 26) (ci := 7) (v := .int (nI (z_n σ 2))) hx hb hts i_X6 hown hK hA.obj rfl 18 (by decide) (hts _ (List.mem_of_getElem? (i := 5) rfl)) (fun _ h9 => h9) rfl dX6_addPass_84 ?_
      refine lv_bipush (v := 16) hx hb dX6_addPass_87 (by decide) ?_
      refine lv_icmp_ne (tgt := 98) hx hb dX6_addPass_89 (by decide) (fun c_89 => ?_) (fun c_89 => ?_)
      · skip
        have e_89 : ¬ (z_n σ 2) = 16 := wk_cnet (by omega) (by omega) c_89
        refine lv_aload_n hx hb dX6_addPass_98 rfl (lv_at hl 0 rfl) ?_
        refine wk_get (own := RX6) (C := RX6) (T := TX6) (N := 26) (ci := 7) (v := .ref (Y 11 12)) hx hb hts i_X6 hown hK hA.obj rfl 19 (by decide) (hts _ (List.mem_of_getElem? (i := 6) rfl)) (fun _ h9 => h9) rfl dX6_addPass_99 ?_
        refine lv_aload_n hx hb dX6_addPass_102 rfl (lv_at hl 0 rfl) ?_
        refine wk_get (own := RX6) (C := RX6) (T := TX6) (N := 26) (ci := 7) (v := .int (nI (z_n σ 2))) hx hb hts i_X6 hown hK hA.obj rfl 18 (by decide) (hts _ (List.mem_of_getElem? (i := 5) rfl)) (fun _ h9 => h9) rfl dX6_addPass_103 ?_
        refine wk_eqi (show _ = nI (z_n σ 2) from rfl) ?_
        refine lv_iload_n hx hb dX6_addPass_106 rfl (lv_at hl 1 rfl) ?_
        refine wk_iast (nn := 16) hx hb hK hA.a12 (Or.inl (hA.tagA (k := 12) rfl)) hS (z_n σ 2) rfl (by omega) (by decide) dX6_addPass_107 (fun H locs hP9 hz9 hk9 hS => ?_)
        have hA := hA.setA12 (j := z_n σ 2) (v := i) hP9 hk9
        refine lv_aload_n hx hb dX6_addPass_108 rfl (lv_at hl 0 rfl) ?_
        refine wk_get (own := RX6) (C := RX6) (T := TX6) (N := 26) (ci := 7) (v := .ref (Y 11 13)) hx hb hts i_X6 hown hK hA.obj rfl 20 (by decide) (hts _ (List.mem_of_getElem? (i := 7) rfl)) (fun _ h9 => h9) rfl dX6_addPass_109 ?_
        refine lv_aload_n hx hb dX6_addPass_112 rfl (lv_at hl 0 rfl) ?_
        refine wk_get (own := RX6) (C := RX6) (T := TX6) (N := 26) (ci := 7) (v := .int (nI (z_n (s2 σ 2 (z_n σ 2) i) 2))) hx hb hts i_X6 hown hK hA.obj rfl 18 (by decide) (hts _ (List.mem_of_getElem? (i := 5) rfl)) (fun _ h9 => h9) rfl dX6_addPass_113 ?_
        refine wk_eqi (show _ = nI (z_n σ 2) from rfl) ?_
        refine lv_iload_n hx hb dX6_addPass_116 rfl (lv_at hl 2 rfl) ?_
        refine wk_iast (nn := 16) hx hb hK hA.a13 (Or.inl (hA.tagA (k := 13) rfl)) hS (z_n σ 2) rfl (by omega) (by decide) dX6_addPass_117 (fun H locs hP9 hz9 hk9 hS => ?_)
        have hA := hA.setA13 (j := z_n σ 2) (v := a) hP9 hk9
        refine lv_aload_n hx hb dX6_addPass_118 rfl (lv_at hl 0 rfl) ?_
        refine wk_get (own := RX6) (C := RX6) (T := TX6) (N := 26) (ci := 7) (v := .ref (Y 11 14)) hx hb hts i_X6 hown hK hA.obj rfl 21 (by decide) (hts _ (List.mem_of_getElem? (i := 8) rfl)) (fun _ h9 => h9) rfl dX6_addPass_119 ?_
        refine lv_aload_n hx hb dX6_addPass_122 rfl (lv_at hl 0 rfl) ?_
        refine wk_get (own := RX6) (C := RX6) (T := TX6) (N := 26) (ci := 7) (v := .int (nI (z_n (s2 (s2 σ 2 (z_n σ 2) i) 3 (z_n σ 2) a) 2))) hx hb hts i_X6 hown hK hA.obj rfl 18 (by decide) (hts _ (List.mem_of_getElem? (i := 5) rfl)) (fun _ h9 => h9) rfl dX6_addPass_123 ?_
        refine wk_eqi (show _ = nI (z_n σ 2) from rfl) ?_
        refine lv_iload_n hx hb dX6_addPass_126 rfl (lv_at hl 3 rfl) ?_
        refine wk_iast (nn := 16) hx hb hK hA.a14 (Or.inl (hA.tagA (k := 14) rfl)) hS (z_n σ 2) rfl (by omega) (by decide) dX6_addPass_127 (fun H locs hP9 hz9 hk9 hS => ?_)
        have hA := hA.setA14 (j := z_n σ 2) (v := x) hP9 hk9
        refine lv_aload_n hx hb dX6_addPass_128 rfl (lv_at hl 0 rfl) ?_
        refine wk_get (own := RX6) (C := RX6) (T := TX6) (N := 26) (ci := 7) (v := .ref (Y 11 15)) hx hb hts i_X6 hown hK hA.obj rfl 22 (by decide) (hts _ (List.mem_of_getElem? (i := 9) rfl)) (fun _ h9 => h9) rfl dX6_addPass_129 ?_
        refine lv_aload_n hx hb dX6_addPass_132 rfl (lv_at hl 0 rfl) ?_
        refine wk_get (own := RX6) (C := RX6) (T := TX6) (N := 26) (ci := 7) (v := .int (nI (z_n (s1 (s2 (s2 σ 2 (z_n σ 2) i) 3 (z_n σ 2) a) 30 (z_n σ 2) x) 2))) hx hb hts i_X6 hown hK hA.obj rfl 18 (by decide) (hts _ (List.mem_of_getElem? (i := 5) rfl)) (fun _ h9 => h9) rfl dX6_addPass_133 ?_
        refine wk_eqi (show _ = nI (z_n σ 2) from rfl) ?_
        refine lv_iload hx hb dX6_addPass_136 (lv_at hl 4 rfl) ?_
        refine wk_iast (nn := 16) hx hb hK hA.a15 (Or.inl (hA.tagA (k := 15) rfl)) hS (z_n σ 2) rfl (by omega) (by decide) dX6_addPass_138 (fun H locs hP9 hz9 hk9 hS => ?_)
        have hA := hA.setA15 (j := z_n σ 2) (v := y) hP9 hk9
        refine lv_aload_n hx hb dX6_addPass_139 rfl (lv_at hl 0 rfl) ?_
        refine lv_dup hx hb dX6_addPass_140 rfl ?_
        refine wk_get (own := RX6) (C := RX6) (T := TX6) (N := 26) (ci := 7) (v := .int (nI (z_n (s1 (s1 (s2 (s2 σ 2 (z_n σ 2) i) 3 (z_n σ 2) a) 30 (z_n σ 2) x) 31 (z_n σ 2) y) 2))) hx hb hts i_X6 hown hK hA.obj rfl 18 (by decide) (hts _ (List.mem_of_getElem? (i := 5) rfl)) (fun _ h9 => h9) rfl dX6_addPass_141 ?_
        refine wk_eqi (show _ = nI (z_n σ 2) from rfl) ?_
        refine lv_iconst (v := 1) hx hb dX6_addPass_144 (by decide) ?_
        refine lv_iadd hx hb dX6_addPass_145 ?_
        refine wk_eqi (show (nI (z_n σ 2)) + 1 = nI ((z_n σ 2) + 1) from nI_add (z_n σ 2) 1) ?_
        refine wk_put (own := RX6) (C := RX6) (T := TX6) (N := 26) (ci := 7) (v := .int (nI ((z_n σ 2) + 1))) hx hb hts i_X6 tyX6 tyX6_ok nmX6 hown hK hA.obj (Or.inl hA.tagO) hS rfl 18 (by decide) (hts _ (List.mem_of_getElem? (i := 5) rfl)) (fun _ h9 => h9) rfl (tyX6_ok 18 (by decide)) rfl rfl (Nat.le_of_ble_eq_true rfl) dX6_addPass_146 (fun H locs hP9 hz9 hk9 hS => ?_)
        have hA := hA.setN2 (v := ((z_n σ 2) + 1)) hP9 hk9
        refine lv_aload_n hx hb dX6_addPass_149 rfl (lv_at hl 0 rfl) ?_
        refine wk_get (own := RX6) (C := RX6) (T := TX6) (N := 26) (ci := 7) (v := .int (nI (z_n (s2 (s1 (s1 (s2 (s2 σ 2 (z_n σ 2) i) 3 (z_n σ 2) a) 30 (z_n σ 2) x) 31 (z_n σ 2) y) 0 2 ((z_n σ 2) + 1)) 2))) hx hb hts i_X6 hown hK hA.obj rfl 18 (by decide) (hts _ (List.mem_of_getElem? (i := 5) rfl)) (fun _ h9 => h9) rfl dX6_addPass_150 ?_
        refine lv_iconst (v := 1) hx hb dX6_addPass_153 (by decide) ?_
        refine lv_isub hx hb dX6_addPass_154 ?_
        refine wk_eqi (show _ = nI (z_n σ 2) from wk_pred (by omega)) ?_
        exact W.iret hx hb hr (we_end (Rt := fun v H1 => v = some (.int (nI (z_n σ 2))) ∧ MA E T Y (f_addP σ i a x y) 0 gt H1) (F := z_FM T) (⟨rfl, hA⟩) hS) hS.2.2 dX6_addPass_155
      have e_89 : (z_n σ 2) = 16 := wk_cnef (by omega) (by omega) c_89
      omega
    have e_74 : (Nat.testBit mm bb) = false := wk_b0 c_74
    exact absurd (hhe.symm.trans (ehe.trans e_74)) (by decide)
  have e_18 : (v_ix (nI a) (z_n σ 0)) = false := wk_b0 c_18
  exact absurd (e_18.symm.trans (v_ix_nI ha (by omega))) (by decide)

abbrev rmf_X6_addPass : Room := { frames := 2, cells := 0, slots := 0, locals := 43 }
set_option maxHeartbeats 4000000 in
set_option maxRecDepth 100000 in
theorem f_X6_addPass (l : Launch) (E : wk_E) {T : Nat → Nat × Nat} {Y : Nat → Nat → Nat} {σ : z_S} {th : Int32} {gt : Int64} {H : Heap} (hA : MA E T Y σ th gt H) (hI : z_Ok σ) {v9 w9 x y : Int32} (hbad : v_ix v9 (z_n σ 1) = false) : we_Met l yX6_addPass wsX6_addPass rmf_X6_addPass E H [.ref (Y 10 0), .int v9, .int w9, .int x, .int y] (z_FM T) 0 0 (fun v H1 => v = some (.int (0)) ∧ MA E T Y σ 1 gt H1) := by
  refine Met.ofW (cc := cX6_addPass) (maxL := 5) (ret := (some .int)) (by decide) rfl ?_
  intro p e s m args below meth c s₁ B hml hv
  obtain ⟨rfl, hH, hV⟩ := hv
  subst hH
  have hK := hV.k
  have hx := B.exec
  have hb := B.bytes
  have hr := B.returns
  have hts := atoms_spec (ws := wsX6_addPass) B.pre
  have hown : s.vm.findClass RX6 = some m.cls := findClass_of_methodNamed B.named
  have hlocks := B.notSynchronized
  have hS : va_S (fun q => (z_FM T) q ∨ s.heap.size ≤ q) s.heap s.heap [] := va_S.rf
  have hA9 : ∀ q : Nat, s.heap.size ≤ q → ((z_FM T) q ∨ s.heap.size ≤ q) := fun _ h => Or.inr h
  have hbA : ∀ q : Nat, q < E.2.2.1 → ¬ ((z_FM T) q ∨ s.heap.size ≤ q) := fun q hq z => z.elim (z_FMb hA.2 hq) (fun z => absurd (Nat.lt_of_lt_of_le hq hV.2.2.2.2.2.2) (Nat.not_lt.mpr z))
  have i_X6 : ∀ w ∈ u_ws RX6 TX6 26, w ∈ wsX6_addPass := fun w h => (List.mem_cons_of_mem _ (List.mem_append_right _ h))
  have hl := lv_entry [.ref (Y 10 0), .int v9, .int w9, .int x, .int y] (n := 5) (Nat.le_of_ble_eq_true rfl)
  rw [lg_entry_eq]
  generalize (lg_sl [.ref (Y 10 0), .int v9, .int w9, .int x, .int y] ++ List.replicate (5 - (lg_sl [.ref (Y 10 0), .int v9, .int w9, .int x, .int y]).length) Slot.unset).toArray = ls at hl ⊢
  have hl : lv_has ls 5 [(0, .ref (Y 10 0)), (1, .int v9), (2, .int w9), (3, .int x), (4, .int y)] := hl
  have b0 := hI.n0
  have b1 := hI.n1
  have b2 := hI.n2
  have b3 := hI.n3
  refine lv_aload_n hx hb dX6_addPass_0 rfl (lv_at hl 0 rfl) ?_
  refine lv_iconst (v := 0) hx hb dX6_addPass_1 (by decide) ?_
  refine wk_put (own := RX6) (C := RX6) (T := TX6) (N := 26) (ci := 7) (v := .int 0) hx hb hts i_X6 tyX6 tyX6_ok nmX6 hown hK hA.obj (Or.inl hA.tagO) hS rfl 0 (by decide) (hts _ (List.mem_of_getElem? (i := 1) rfl)) (fun _ h9 => h9) rfl (tyX6_ok 0 (by decide)) rfl rfl (Nat.le_of_ble_eq_true rfl) dX6_addPass_2 (fun H locs hP9 hz9 hk9 hS => ?_)
  have hA := hA.setTh hP9 hk9
  refine lv_aload_n hx hb dX6_addPass_5 rfl (lv_at hl 0 rfl) ?_
  refine lv_iload_n hx hb dX6_addPass_6 rfl (lv_at hl 1 rfl) ?_
  refine wk_V (As := [.int v9]) (rest := []) ⟨hx, hb, hml, hown, hts⟩ (c_X6_isSatellite l E hA hI (x := v9)) (cwV 1 hts gX6_addPass_X6_isSatellite rfl rfl rfl (by decide +kernel) ⟨(Nat.le_of_ble_eq_true rfl), (Nat.le_of_ble_eq_true rfl)⟩) (wk_recv hK hA.obj rfl) hK rfl hl.1 rfl (Nat.le_of_ble_eq_true rfl) dX6_addPass_7 ⟨Nat.zero_le _, Nat.zero_le _⟩ ?_
  refine lv_if_eq (tgt := 21) hx hb dX6_addPass_10 (by decide) (fun c_10 => ?_) (fun c_10 => ?_)
  · skip
    have e_10 : (v_ix v9 (z_n σ 1)) = false := wk_b0 c_10
    refine lv_aload_n hx hb dX6_addPass_21 rfl (lv_at hl 0 rfl) ?_
    refine lv_iconst (v := 1) hx hb dX6_addPass_22 (by decide) ?_
    refine we_V (As := [.int 1]) (rest := []) ⟨hx, hb, hml, hown, hts⟩ (e_X6_fail l E hA hI) (cwV 1 hts gX6_addPass_X6_fail rfl rfl rfl (by decide +kernel) ⟨(Nat.le_of_ble_eq_true rfl), (Nat.le_of_ble_eq_true rfl)⟩) (wk_recv hK hA.obj rfl) (hV.heap hS.1 (fun q hq => hS.2.1 q (Nat.lt_of_lt_of_le hq hV.2.2.2.2.2.2) (hbA q hq))) hS (fun _ h => Or.inl h) hA9 rfl hl.1 rfl (Nat.le_of_ble_eq_true rfl) dX6_addPass_23 ⟨Nat.zero_le _, Nat.zero_le _⟩ (fun v9 H locs hR9 hz9 hk9 hS => ?_)
    obtain ⟨rfl, hA⟩ := hR9
    refine wk_eqls (st' := [.int 0]) rfl ?_
    exact W.iret hx hb hr (we_end (Rt := fun v H1 => v = some (.int (0)) ∧ MA E T Y σ 1 gt H1) (F := z_FM T) (⟨rfl, hA⟩) hS) hS.2.2 dX6_addPass_26
  have e_10 : (v_ix v9 (z_n σ 1)) = true := wk_b1 c_10
  exact absurd (hbad.symm.trans e_10) (by decide)

abbrev rmf2_X6_addPass : Room := { frames := 2, cells := 0, slots := 0, locals := 43 }
set_option maxHeartbeats 4000000 in
set_option maxRecDepth 100000 in
theorem f2_X6_addPass (l : Launch) (E : wk_E) {T : Nat → Nat × Nat} {Y : Nat → Nat → Nat} {σ : z_S} {th : Int32} {gt : Int64} {H : Heap} (hA : MA E T Y σ th gt H) (hI : z_Ok σ) {i : Nat} {w9 x y : Int32} (hi : i < z_n σ 1) (hbad : v_ix w9 (z_n σ 0) = false) : we_Met l yX6_addPass wsX6_addPass rmf2_X6_addPass E H [.ref (Y 10 0), .int (nI i), .int w9, .int x, .int y] (z_FM T) 0 0 (fun v H1 => v = some (.int (0)) ∧ MA E T Y σ 1 gt H1) := by
  refine Met.ofW (cc := cX6_addPass) (maxL := 5) (ret := (some .int)) (by decide) rfl ?_
  intro p e s m args below meth c s₁ B hml hv
  obtain ⟨rfl, hH, hV⟩ := hv
  subst hH
  have hK := hV.k
  have hx := B.exec
  have hb := B.bytes
  have hr := B.returns
  have hts := atoms_spec (ws := wsX6_addPass) B.pre
  have hown : s.vm.findClass RX6 = some m.cls := findClass_of_methodNamed B.named
  have hlocks := B.notSynchronized
  have hS : va_S (fun q => (z_FM T) q ∨ s.heap.size ≤ q) s.heap s.heap [] := va_S.rf
  have hA9 : ∀ q : Nat, s.heap.size ≤ q → ((z_FM T) q ∨ s.heap.size ≤ q) := fun _ h => Or.inr h
  have hbA : ∀ q : Nat, q < E.2.2.1 → ¬ ((z_FM T) q ∨ s.heap.size ≤ q) := fun q hq z => z.elim (z_FMb hA.2 hq) (fun z => absurd (Nat.lt_of_lt_of_le hq hV.2.2.2.2.2.2) (Nat.not_lt.mpr z))
  have i_X6 : ∀ w ∈ u_ws RX6 TX6 26, w ∈ wsX6_addPass := fun w h => (List.mem_cons_of_mem _ (List.mem_append_right _ h))
  have hl := lv_entry [.ref (Y 10 0), .int (nI i), .int w9, .int x, .int y] (n := 5) (Nat.le_of_ble_eq_true rfl)
  rw [lg_entry_eq]
  generalize (lg_sl [.ref (Y 10 0), .int (nI i), .int w9, .int x, .int y] ++ List.replicate (5 - (lg_sl [.ref (Y 10 0), .int (nI i), .int w9, .int x, .int y]).length) Slot.unset).toArray = ls at hl ⊢
  have hl : lv_has ls 5 [(0, .ref (Y 10 0)), (1, .int (nI i)), (2, .int w9), (3, .int x), (4, .int y)] := hl
  have b0 := hI.n0
  have b1 := hI.n1
  have b2 := hI.n2
  have b3 := hI.n3
  refine lv_aload_n hx hb dX6_addPass_0 rfl (lv_at hl 0 rfl) ?_
  refine lv_iconst (v := 0) hx hb dX6_addPass_1 (by decide) ?_
  refine wk_put (own := RX6) (C := RX6) (T := TX6) (N := 26) (ci := 7) (v := .int 0) hx hb hts i_X6 tyX6 tyX6_ok nmX6 hown hK hA.obj (Or.inl hA.tagO) hS rfl 0 (by decide) (hts _ (List.mem_of_getElem? (i := 1) rfl)) (fun _ h9 => h9) rfl (tyX6_ok 0 (by decide)) rfl rfl (Nat.le_of_ble_eq_true rfl) dX6_addPass_2 (fun H locs hP9 hz9 hk9 hS => ?_)
  have hA := hA.setTh hP9 hk9
  refine lv_aload_n hx hb dX6_addPass_5 rfl (lv_at hl 0 rfl) ?_
  refine lv_iload_n hx hb dX6_addPass_6 rfl (lv_at hl 1 rfl) ?_
  refine wk_V (As := [.int (nI i)]) (rest := []) ⟨hx, hb, hml, hown, hts⟩ (c_X6_isSatellite l E hA hI (x := nI i)) (cwV 1 hts gX6_addPass_X6_isSatellite rfl rfl rfl (by decide +kernel) ⟨(Nat.le_of_ble_eq_true rfl), (Nat.le_of_ble_eq_true rfl)⟩) (wk_recv hK hA.obj rfl) hK rfl hl.1 rfl (Nat.le_of_ble_eq_true rfl) dX6_addPass_7 ⟨Nat.zero_le _, Nat.zero_le _⟩ ?_
  refine lv_if_eq (tgt := 21) hx hb dX6_addPass_10 (by decide) (fun c_10 => ?_) (fun c_10 => ?_)
  · skip
    have e_10 : (v_ix (nI i) (z_n σ 1)) = false := wk_b0 c_10
    exact absurd (e_10.symm.trans (v_ix_nI hi (by omega))) (by decide)
  have e_10 : (v_ix (nI i) (z_n σ 1)) = true := wk_b1 c_10
  refine lv_aload_n hx hb dX6_addPass_13 rfl (lv_at hl 0 rfl) ?_
  refine lv_iload_n hx hb dX6_addPass_14 rfl (lv_at hl 2 rfl) ?_
  refine wk_V (As := [.int w9]) (rest := []) ⟨hx, hb, hml, hown, hts⟩ (c_X6_isAntenna l E hA hI (x := w9)) (cwV 1 hts gX6_addPass_X6_isAntenna rfl rfl rfl (by decide +kernel) ⟨(Nat.le_of_ble_eq_true rfl), (Nat.le_of_ble_eq_true rfl)⟩) (wk_recv hK hA.obj rfl) hK rfl hl.1 rfl (Nat.le_of_ble_eq_true rfl) dX6_addPass_15 ⟨Nat.zero_le _, Nat.zero_le _⟩ ?_
  refine lv_if_ne (tgt := 27) hx hb dX6_addPass_18 (by decide) (fun c_18 => ?_) (fun c_18 => ?_)
  · skip
    have e_18 : (v_ix w9 (z_n σ 0)) = true := wk_b1 c_18
    exact absurd (hbad.symm.trans e_18) (by decide)
  have e_18 : (v_ix w9 (z_n σ 0)) = false := wk_b0 c_18
  refine lv_aload_n hx hb dX6_addPass_21 rfl (lv_at hl 0 rfl) ?_
  refine lv_iconst (v := 1) hx hb dX6_addPass_22 (by decide) ?_
  refine we_V (As := [.int 1]) (rest := []) ⟨hx, hb, hml, hown, hts⟩ (e_X6_fail l E hA hI) (cwV 1 hts gX6_addPass_X6_fail rfl rfl rfl (by decide +kernel) ⟨(Nat.le_of_ble_eq_true rfl), (Nat.le_of_ble_eq_true rfl)⟩) (wk_recv hK hA.obj rfl) (hV.heap hS.1 (fun q hq => hS.2.1 q (Nat.lt_of_lt_of_le hq hV.2.2.2.2.2.2) (hbA q hq))) hS (fun _ h => Or.inl h) hA9 rfl hl.1 rfl (Nat.le_of_ble_eq_true rfl) dX6_addPass_23 ⟨Nat.zero_le _, Nat.zero_le _⟩ (fun v9 H locs hR9 hz9 hk9 hS => ?_)
  obtain ⟨rfl, hA⟩ := hR9
  refine wk_eqls (st' := [.int 0]) rfl ?_
  exact W.iret hx hb hr (we_end (Rt := fun v H1 => v = some (.int (0)) ∧ MA E T Y σ 1 gt H1) (F := z_FM T) (⟨rfl, hA⟩) hS) hS.2.2 dX6_addPass_26
