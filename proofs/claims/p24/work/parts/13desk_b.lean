abbrev rme_X5_setHandover : Room := { frames := 1, cells := 0, slots := 0, locals := 22 }
set_option maxHeartbeats 4000000 in
set_option maxRecDepth 100000 in
theorem e_X5_setHandover (l : Launch) (E : wk_E) {T : Nat → Nat × Nat} {X : z_X} {σ : z_S} {H : Heap} (hA : DA E T X σ H) (hI : z_Ok σ) {x : Int32} (hok : v_in x 0 60 = true) : we_Met l yX5_setHandover wsX5_setHandover rme_X5_setHandover E H [.ref (X.1 0 0), .int x] (z_FD T) 0 0 (fun v H1 => v = some (.int (z_ho σ)) ∧ DA E T X (s1 σ 1 0 x) H1) := by
  refine Met.ofW (cc := cX5_setHandover) (maxL := 3) (ret := (some .int)) (by decide) rfl ?_
  intro p e s m args below meth c s₁ B hml hv
  obtain ⟨rfl, hH, hV⟩ := hv
  subst hH
  have hK := hV.k
  have hx := B.exec
  have hb := B.bytes
  have hr := B.returns
  have hts := atoms_spec (ws := wsX5_setHandover) B.pre
  have hown : s.vm.findClass RX5 = some m.cls := findClass_of_methodNamed B.named
  have hlocks := B.notSynchronized
  have hS : va_S (fun q => (z_FD T) q ∨ s.heap.size ≤ q) s.heap s.heap [] := va_S.rf
  have hA9 : ∀ q : Nat, s.heap.size ≤ q → ((z_FD T) q ∨ s.heap.size ≤ q) := fun _ h => Or.inr h
  have hbA : ∀ q : Nat, q < E.2.2.1 → ¬ ((z_FD T) q ∨ s.heap.size ≤ q) := fun q hq z => z.elim (z_FDb hA.2.1 hq) (fun z => absurd (Nat.lt_of_lt_of_le hq hV.2.2.2.2.2.2) (Nat.not_lt.mpr z))
  have i_X5 : ∀ w ∈ u_ws RX5 TX5 7, w ∈ wsX5_setHandover := fun w h => (List.mem_cons_of_mem _ (List.mem_append_left _ (List.mem_append_right _ h)))
  have hl := lv_entry [.ref (X.1 0 0), .int x] (n := 3) (Nat.le_of_ble_eq_true rfl)
  rw [lg_entry_eq]
  generalize (lg_sl [.ref (X.1 0 0), .int x] ++ List.replicate (3 - (lg_sl [.ref (X.1 0 0), .int x]).length) Slot.unset).toArray = ls at hl ⊢
  have hl : lv_has ls 3 [(0, .ref (X.1 0 0)), (1, .int x)] := hl
  have b0 := hI.n0
  have b1 := hI.n1
  have b2 := hI.n2
  have b3 := hI.n3
  refine lv_iload_n hx hb dX5_setHandover_0 rfl (lv_at hl 1 rfl) ?_
  refine lv_iconst (v := 0) hx hb dX5_setHandover_1 (by decide) ?_
  refine lv_bipush (v := 60) hx hb dX5_setHandover_2 (by decide) ?_
  refine wk_S (As := [.int x, .int 0, .int 60]) (rest := []) ⟨hx, hb, hml, hown, hts⟩ (c_X5_isWithin l E (x := x) (y := 0) (z := 60)) (va_cwS 3 hts gX5_setHandover_X5_isWithin rfl rfl rfl (by decide +kernel) ⟨(Nat.le_of_ble_eq_true rfl), (Nat.le_of_ble_eq_true rfl)⟩) hK rfl hl.1 rfl (Nat.le_of_ble_eq_true rfl) dX5_setHandover_4 ⟨Nat.zero_le _, Nat.zero_le _⟩ ?_
  refine lv_if_ne (tgt := 20) hx hb dX5_setHandover_7 (by decide) (fun c_7 => ?_) (fun c_7 => ?_)
  · skip
    have e_7 : (v_in x 0 60) = true := wk_b1 c_7
    refine lv_aload_n hx hb dX5_setHandover_20 rfl (lv_at hl 0 rfl) ?_
    refine wk_get (own := RX5) (C := RX5) (T := TX5) (N := 7) (ci := 6) (v := .int (z_ho σ)) hx hb hts i_X5 hown hK hA.desk rfl 6 (by decide) (hts _ (List.mem_of_getElem? (i := 3) rfl)) (fun _ h9 => h9) rfl dX5_setHandover_21 ?_
    refine lv_istore_n (lv' := [(2, .int (z_ho σ)), (0, .ref (X.1 0 0)), (1, .int x)]) hx hb dX5_setHandover_24 rfl hl (by decide) rfl (fun ls hl => ?_)
    refine lv_aload_n hx hb dX5_setHandover_25 rfl (lv_at hl 1 rfl) ?_
    refine lv_iload_n hx hb dX5_setHandover_26 rfl (lv_at hl 2 rfl) ?_
    refine wk_put (own := RX5) (C := RX5) (T := TX5) (N := 7) (ci := 6) (v := .int x) hx hb hts i_X5 tyX5 tyX5_ok nmX5 hown hK hA.desk (Or.inl (hA.tag (i := 0) (k := 0) rfl)) hS rfl 6 (by decide) (hts _ (List.mem_of_getElem? (i := 3) rfl)) (fun _ h9 => h9) rfl (tyX5_ok 6 (by decide)) rfl rfl (Nat.le_of_ble_eq_true rfl) dX5_setHandover_27 (fun H locs hP9 hz9 hk9 hS => ?_)
    have hA := hA.setHo hP9 hk9
    refine lv_iload_n hx hb dX5_setHandover_30 rfl (lv_at hl 0 rfl) ?_
    exact W.iret hx hb hr (we_end (Rt := fun v H1 => v = some (.int (z_ho σ)) ∧ DA E T X (s1 σ 1 0 x) H1) (F := z_FD T) (⟨rfl, hA⟩) hS) hS.2.2 dX5_setHandover_31
  have e_7 : (v_in x 0 60) = false := wk_b0 c_7
  exact absurd (hok.symm.trans e_7) (by decide)

abbrev rme_X5_giveUp : Room := { frames := 4, cells := 0, slots := 0, locals := 86 }
set_option maxHeartbeats 4000000 in
set_option maxRecDepth 100000 in
theorem e_X5_giveUp (l : Launch) (E : wk_E) {T : Nat → Nat × Nat} {X : z_X} {σ : z_S} {H : Heap} (hA : DA E T X σ H) (hI : z_Ok σ) {i : Nat} (hi : i < z_n σ 2) (htk : z_tk σ i = true) (hnb : z_now σ ≤ z_pb σ i) : we_Met l yX5_giveUp wsX5_giveUp rme_X5_giveUp E H [.ref (X.1 0 0), .int (nI i)] (z_FD T) 0 0 (fun v H1 => v = some (.int (nI (z_mk (f_give σ i)))) ∧ DA E T X (f_give σ i) H1) := by
  refine Met.ofW (cc := cX5_giveUp) (maxL := 3) (ret := (some .int)) (by decide) rfl ?_
  intro p e s m args below meth c s₁ B hml hv
  obtain ⟨rfl, hH, hV⟩ := hv
  subst hH
  have hK := hV.k
  have hx := B.exec
  have hb := B.bytes
  have hr := B.returns
  have hts := atoms_spec (ws := wsX5_giveUp) B.pre
  have hown : s.vm.findClass RX5 = some m.cls := findClass_of_methodNamed B.named
  have hlocks := B.notSynchronized
  have hS : va_S (fun q => (z_FD T) q ∨ s.heap.size ≤ q) s.heap s.heap [] := va_S.rf
  have hA9 : ∀ q : Nat, s.heap.size ≤ q → ((z_FD T) q ∨ s.heap.size ≤ q) := fun _ h => Or.inr h
  have hbA : ∀ q : Nat, q < E.2.2.1 → ¬ ((z_FD T) q ∨ s.heap.size ≤ q) := fun q hq z => z.elim (z_FDb hA.2.1 hq) (fun z => absurd (Nat.lt_of_lt_of_le hq hV.2.2.2.2.2.2) (Nat.not_lt.mpr z))
  have i_X2 : ∀ w ∈ u_ws RX2 TX2 7, w ∈ wsX5_giveUp := fun w h => (List.mem_cons_of_mem _ (List.mem_append_left _ (List.mem_append_left _ (List.mem_append_left _ (List.mem_append_left _ (List.mem_append_right _ h))))))
  have i_X5 : ∀ w ∈ u_ws RX5 TX5 7, w ∈ wsX5_giveUp := fun w h => (List.mem_cons_of_mem _ (List.mem_append_left _ (List.mem_append_left _ (List.mem_append_left _ (List.mem_append_right _ h)))))
  have hl := lv_entry [.ref (X.1 0 0), .int (nI i)] (n := 3) (Nat.le_of_ble_eq_true rfl)
  rw [lg_entry_eq]
  generalize (lg_sl [.ref (X.1 0 0), .int (nI i)] ++ List.replicate (3 - (lg_sl [.ref (X.1 0 0), .int (nI i)]).length) Slot.unset).toArray = ls at hl ⊢
  have hl : lv_has ls 3 [(0, .ref (X.1 0 0)), (1, .int (nI i))] := hl
  have b0 := hI.n0
  have b1 := hI.n1
  have b2 := hI.n2
  have b3 := hI.n3
  refine lv_aload_n hx hb dX5_giveUp_0 rfl (lv_at hl 0 rfl) ?_
  refine lv_iload_n hx hb dX5_giveUp_1 rfl (lv_at hl 1 rfl) ?_
  refine wk_V (As := [.int (nI i)]) (rest := []) ⟨hx, hb, hml, hown, hts⟩ (c_X5_passAt l E hA hI hi) (cwV 1 hts gX5_giveUp_X5_passAt rfl rfl rfl (by decide +kernel) ⟨(Nat.le_of_ble_eq_true rfl), (Nat.le_of_ble_eq_true rfl)⟩) (wk_recv hK hA.desk rfl) hK rfl hl.1 rfl (Nat.le_of_ble_eq_true rfl) dX5_giveUp_2 ⟨Nat.zero_le _, Nat.zero_le _⟩ ?_
  refine lv_astore_n (lv' := [(2, .ref (X.1 7 i)), (0, .ref (X.1 0 0)), (1, .int (nI i))]) hx hb dX5_giveUp_5 rfl hl (by decide) rfl (fun ls hl => ?_)
  refine lv_aload_n hx hb dX5_giveUp_6 rfl (lv_at hl 0 rfl) ?_
  refine wk_get (own := RX5) (C := RX2) (T := TX2) (N := 7) (ci := 3) (v := .int (wk_b (z_tk σ i))) hx hb hts i_X2 hown hK (hA.pass hi) rfl 5 (by decide) (hts _ (List.mem_of_getElem? (i := 3) rfl)) (fun _ h9 => h9) rfl dX5_giveUp_7 ?_
  refine lv_if_eq (tgt := 24) hx hb dX5_giveUp_10 (by decide) (fun c_10 => ?_) (fun c_10 => ?_)
  · skip
    have e_10 : (z_tk σ i) = false := wk_b0 c_10
    exact absurd (htk.symm.trans e_10) (by decide)
  have e_10 : (z_tk σ i) = true := wk_b1 c_10
  refine lv_aload_n hx hb dX5_giveUp_13 rfl (lv_at hl 0 rfl) ?_
  refine wk_get (own := RX5) (C := RX2) (T := TX2) (N := 7) (ci := 3) (v := .int (z_pb σ i)) hx hb hts i_X2 hown hK (hA.pass hi) rfl 3 (by decide) (hts _ (List.mem_of_getElem? (i := 4) rfl)) (fun _ h9 => h9) rfl dX5_giveUp_14 ?_
  refine lv_aload_n hx hb dX5_giveUp_17 rfl (lv_at hl 1 rfl) ?_
  refine wk_get (own := RX5) (C := RX5) (T := TX5) (N := 7) (ci := 6) (v := .int (z_now σ)) hx hb hts i_X5 hown hK hA.desk rfl 5 (by decide) (hts _ (List.mem_of_getElem? (i := 5) rfl)) (fun _ h9 => h9) rfl dX5_giveUp_18 ?_
  refine lv_icmp_ge (tgt := 34) hx hb dX5_giveUp_21 (by decide) (fun c_21 => ?_) (fun c_21 => ?_)
  · skip
    have d_21 := Int32.not_lt.mpr c_21
    refine lv_aload_n hx hb dX5_giveUp_34 rfl (lv_at hl 0 rfl) ?_
    refine lv_iconst (v := 0) hx hb dX5_giveUp_35 (by decide) ?_
    refine wk_put (own := RX5) (C := RX2) (T := TX2) (N := 7) (ci := 3) (v := .int 0) hx hb hts i_X2 tyX2 tyX2_ok nmX2 hown hK (hA.pass hi) (Or.inl (hA.tag (i := 7) (k := i) (if_pos hi))) hS rfl 5 (by decide) (hts _ (List.mem_of_getElem? (i := 3) rfl)) (fun _ h9 => h9) rfl (tyX2_ok 5 (by decide)) rfl rfl (Nat.le_of_ble_eq_true rfl) dX5_giveUp_36 (fun H locs hP9 hz9 hk9 hS => ?_)
    have hA : DA E T X (f_give σ i) H := hA.setTk hi (b := false) (f_give_bit htk) (fun j hj => f_give_other hj) hP9 hk9
    have hI := hI.setMk (f_give_lt hI hi)
    have hI : z_Ok (f_give σ i) := hI
    refine lv_aload_n hx hb dX5_giveUp_39 rfl (lv_at hl 1 rfl) ?_
    refine wk_V (As := []) (rest := []) ⟨hx, hb, hml, hown, hts⟩ (c_X5_takenSet l E hA hI) (cwV 0 hts gX5_giveUp_X5_takenSet rfl rfl rfl (by decide +kernel) ⟨(Nat.le_of_ble_eq_true rfl), (Nat.le_of_ble_eq_true rfl)⟩) (wk_recv hK hA.desk rfl) hK rfl hl.1 rfl (Nat.le_of_ble_eq_true rfl) dX5_giveUp_40 ⟨Nat.zero_le _, Nat.zero_le _⟩ ?_
    exact W.iret hx hb hr (we_end (Rt := fun v H1 => v = some (.int (nI (z_mk (f_give σ i)))) ∧ DA E T X (f_give σ i) H1) (F := z_FD T) (⟨rfl, hA⟩) hS) hS.2.2 dX5_giveUp_43
  have d_21 := Int32.not_le.mp c_21
  exact absurd hnb c_21

abbrev rme_X5_take : Room := { frames := 6, cells := 0, slots := 0, locals := 131 }
set_option maxHeartbeats 4000000 in
set_option maxRecDepth 100000 in
theorem e_X5_take (l : Launch) (E : wk_E) {T : Nat → Nat × Nat} {X : z_X} {σ0 : z_S} {H : Heap} (hA : DA E T X σ0 H) (hI : z_Ok σ0) {w : Nat} (hw : w < 2 ^ z_n σ0 2) (hok : f_tog σ0 w = true) : we_Met l yX5_take wsX5_take rme_X5_take E H [.ref (X.1 0 0), .int (nI w)] (z_FD T) 0 0 (fun v H1 => v = some (.int (nI (z_mk (f_take σ0 w)))) ∧ DA E T X (f_take σ0 w) H1) := by
  refine Met.ofW (cc := cX5_take) (maxL := 3) (ret := (some .int)) (by decide) rfl ?_
  intro p e s m args below meth c s₁ B hml hv
  obtain ⟨rfl, hH, hV⟩ := hv
  subst hH
  have hK := hV.k
  have hx := B.exec
  have hb := B.bytes
  have hr := B.returns
  have hts := atoms_spec (ws := wsX5_take) B.pre
  have hown : s.vm.findClass RX5 = some m.cls := findClass_of_methodNamed B.named
  have hlocks := B.notSynchronized
  have hS : va_S (fun q => (z_FD T) q ∨ s.heap.size ≤ q) s.heap s.heap [] := va_S.rf
  have hA9 : ∀ q : Nat, s.heap.size ≤ q → ((z_FD T) q ∨ s.heap.size ≤ q) := fun _ h => Or.inr h
  have hbA : ∀ q : Nat, q < E.2.2.1 → ¬ ((z_FD T) q ∨ s.heap.size ≤ q) := fun q hq z => z.elim (z_FDb hA.2.1 hq) (fun z => absurd (Nat.lt_of_lt_of_le hq hV.2.2.2.2.2.2) (Nat.not_lt.mpr z))
  have i_X5 : ∀ w ∈ u_ws RX5 TX5 7, w ∈ wsX5_take := fun w h => (List.mem_cons_of_mem _ (List.mem_append_left _ (List.mem_append_left _ (List.mem_append_left _ (List.mem_append_left _ (List.mem_append_left _ (List.mem_append_right _ h)))))))
  have i_X2 : ∀ w ∈ u_ws RX2 TX2 7, w ∈ wsX5_take := fun w h => (List.mem_cons_of_mem _ (List.mem_append_left _ (List.mem_append_left _ (List.mem_append_left _ (List.mem_append_left _ (List.mem_append_right _ h))))))
  have hl := lv_entry [.ref (X.1 0 0), .int (nI w)] (n := 3) (Nat.le_of_ble_eq_true rfl)
  rw [lg_entry_eq]
  generalize (lg_sl [.ref (X.1 0 0), .int (nI w)] ++ List.replicate (3 - (lg_sl [.ref (X.1 0 0), .int (nI w)]).length) Slot.unset).toArray = ls at hl ⊢
  have hl : lv_has ls 3 [(0, .ref (X.1 0 0)), (1, .int (nI w))] := hl
  have b0 := hI.n0
  have b1 := hI.n1
  have b2 := hI.n2
  have b3 := hI.n3
  refine lv_aload_n hx hb dX5_take_0 rfl (lv_at hl 0 rfl) ?_
  refine lv_iload_n hx hb dX5_take_1 rfl (lv_at hl 1 rfl) ?_
  refine wk_Vv (As := [.int (nI w)]) (rest := []) ⟨hx, hb, hml, hown, hts⟩ (c_X5_checkSet l E hA hI (v_set_nI hI.n2 hw)) (cwV 1 hts gX5_take_X5_checkSet rfl rfl rfl (by decide +kernel) ⟨(Nat.le_of_ble_eq_true rfl), (Nat.le_of_ble_eq_true rfl)⟩) (wk_recv hK hA.desk rfl) hK rfl hl.1 rfl (Nat.le_of_ble_eq_true rfl) dX5_take_2 ⟨Nat.zero_le _, Nat.zero_le _⟩ ?_
  refine lv_aload_n hx hb dX5_take_5 rfl (lv_at hl 0 rfl) ?_
  refine lv_iload_n hx hb dX5_take_6 rfl (lv_at hl 1 rfl) ?_
  refine wk_V (As := [.int (nI w)]) (rest := []) ⟨hx, hb, hml, hown, hts⟩ (c_X5_areFreeTogether l E hA hI hw) (cwV 1 hts gX5_take_X5_areFreeTogether rfl rfl rfl (by decide +kernel) ⟨(Nat.le_of_ble_eq_true rfl), (Nat.le_of_ble_eq_true rfl)⟩) (wk_recv hK hA.desk rfl) hK rfl hl.1 rfl (Nat.le_of_ble_eq_true rfl) dX5_take_7 ⟨Nat.zero_le _, Nat.zero_le _⟩ ?_
  refine lv_if_ne (tgt := 23) hx hb dX5_take_10 (by decide) (fun c_10 => ?_) (fun c_10 => ?_)
  · skip
    have e_10 : (f_tog σ0 w) = true := wk_b1 c_10
    refine lv_iconst (v := 0) hx hb dX5_take_23 (by decide) ?_
    refine lv_istore_n (lv' := [(2, .int 0), (0, .ref (X.1 0 0)), (1, .int (nI w))]) hx hb dX5_take_24 rfl hl (by decide) rfl (fun ls hl => ?_)
    have L_25 : ∀ (n_25 : Nat) (k : Nat) (σ : z_S) (H : Heap) (locs : List Loc), z_n σ0 2 - k < n_25 → (k ≤ z_n σ0 2) → (σ = s2 σ0 1 0 (z_mk σ0 ||| f_set (fun i => w.testBit i) k)) → (DA E T X σ H) → (z_Ok σ) → (va_S (fun q => (z_FD T) q ∨ s.heap.size ≤ q) s.heap H locs) → ∀ ls : Array Slot, lv_has ls 3 [(0, .ref (X.1 0 0)), (1, .int (nI w)), (2, .int (nI k))] → W p l e (headSpec wsX5_take rme_X5_take).room s m ([.ref (X.1 0 0), .int (nI w)] : List Value).toArray below meth c H locs 0 0 (MQ below (fun _ _ oc t => (∃ v, oc = .returned v ∧ (fun v H1 => v = some (.int (nI (z_mk (f_take σ0 w)))) ∧ DA E T X (f_take σ0 w) H1) v t.heap) ∧ s.heap.size ≤ t.heap.size ∧ ∀ q : Nat, q < s.heap.size → ¬ (z_FD T) q → t.heap[q]? = s.heap[q]?) ([.ref (X.1 0 0), .int (nI w)] : List Value).toArray s 0 0 (fun q => (z_FD T) q ∨ s.heap.size ≤ q)) (F0 m 25 ls []) := by
      intro n_25
      induction n_25 with
      | zero => intro k σ H locs hm; exact absurd hm (Nat.not_lt_zero _)
      | succ n_25 ih_25 =>
        intro k σ H locs hm_25 hk_k heq hA hI hS ls hl
        have hn9 : z_n σ 2 = z_n σ0 2 := by rw [heq]; rfl
        have b0 := hI.n0
        have b1 := hI.n1
        have b2 := hI.n2
        have b3 := hI.n3
        refine lv_iload_n hx hb dX5_take_25 rfl (lv_at hl 2 rfl) ?_
        refine lv_aload_n hx hb dX5_take_26 rfl (lv_at hl 0 rfl) ?_
        refine wk_get (own := RX5) (C := RX5) (T := TX5) (N := 7) (ci := 6) (v := .ref (X.1 1 2)) hx hb hts i_X5 hown hK hA.desk rfl 2 (by decide) (hts _ (List.mem_of_getElem? (i := 3) rfl)) (fun _ h9 => h9) rfl dX5_take_27 ?_
        refine wk_V (As := []) (rest := [.int (nI k)]) ⟨hx, hb, hml, hown, hts⟩ (c_size2 l E hA) (cwV 0 hts gX5_take_Jx4a65c_size_8abf5 rfl rfl rfl (by decide +kernel) ⟨(Nat.le_of_ble_eq_true rfl), (Nat.le_of_ble_eq_true rfl)⟩) (wk_recv hK (hA.list (j := 2) (by decide)) rfl) hK rfl hl.1 rfl (Nat.le_of_ble_eq_true rfl) dX5_take_30 ⟨Nat.zero_le _, Nat.zero_le _⟩ ?_
        refine lv_icmp_ge (tgt := 65) hx hb dX5_take_33 (by decide) (fun c_33 => ?_) (fun c_33 => ?_)
        · skip
          have e_33 : (z_n σ 2) ≤ k := wk_cget (by omega) (by omega) c_33
          have hkN : k = z_n σ0 2 := by omega
          have heq : σ = f_take σ0 w := by rw [heq, hkN]; exact f_take_end hw
          refine lv_aload_n hx hb dX5_take_65 rfl (lv_at hl 0 rfl) ?_
          refine wk_V (As := []) (rest := []) ⟨hx, hb, hml, hown, hts⟩ (c_X5_takenSet l E hA hI) (cwV 0 hts gX5_take_X5_takenSet rfl rfl rfl (by decide +kernel) ⟨(Nat.le_of_ble_eq_true rfl), (Nat.le_of_ble_eq_true rfl)⟩) (wk_recv hK hA.desk rfl) hK rfl hl.1 rfl (Nat.le_of_ble_eq_true rfl) dX5_take_66 ⟨Nat.zero_le _, Nat.zero_le _⟩ ?_
          exact W.iret hx hb hr (we_end (Rt := fun v H1 => v = some (.int (nI (z_mk (f_take σ0 w)))) ∧ DA E T X (f_take σ0 w) H1) (F := z_FD T) (⟨by rw [heq], by rw [heq] at hA; exact hA⟩) hS) hS.2.2 dX5_take_69
        have e_33 : k < (z_n σ 2) := wk_cgef (by omega) (by omega) c_33
        refine lv_iload_n hx hb dX5_take_36 rfl (lv_at hl 1 rfl) ?_
        refine lv_iload_n hx hb dX5_take_37 rfl (lv_at hl 2 rfl) ?_
        refine wk_S (As := [.int (nI w), .int (nI k)]) (rest := []) ⟨hx, hb, hml, hown, hts⟩ (c_X5_contains l E (mm := w) (k := k) (by omega)) (va_cwS 2 hts gX5_take_X5_contains rfl rfl rfl (by decide +kernel) ⟨(Nat.le_of_ble_eq_true rfl), (Nat.le_of_ble_eq_true rfl)⟩) hK rfl hl.1 rfl (Nat.le_of_ble_eq_true rfl) dX5_take_38 ⟨Nat.zero_le _, Nat.zero_le _⟩ ?_
        refine lv_if_eq (tgt := 59) hx hb dX5_take_41 (by decide) (fun c_41 => ?_) (fun c_41 => ?_)
        · skip
          have e_41 : (Nat.testBit w k) = false := wk_b0 c_41
          refine lv_iinc (v := nI (k + 1)) (lv' := [(2, .int (nI (k + 1))), (0, .ref (X.1 0 0)), (1, .int (nI w))]) hx hb dX5_take_59 hl (k := 2) rfl (nI_1 _) (by decide) rfl (fun ls hl => ?_)
          refine lv_goto (tgt := 25) hx hb dX5_take_62 (by decide) ?_
          exact ih_25 (k + 1) σ H locs (by omega) (by omega) (by rw [heq]; exact f_take_skip e_41) hA hI hS ls (lv_sub hl [1, 2, 0] rfl)
        have e_41 : (Nat.testBit w k) = true := wk_b1 c_41
        refine lv_aload_n hx hb dX5_take_44 rfl (lv_at hl 0 rfl) ?_
        refine wk_get (own := RX5) (C := RX5) (T := TX5) (N := 7) (ci := 6) (v := .ref (X.1 1 2)) hx hb hts i_X5 hown hK hA.desk rfl 2 (by decide) (hts _ (List.mem_of_getElem? (i := 3) rfl)) (fun _ h9 => h9) rfl dX5_take_45 ?_
        refine lv_iload_n hx hb dX5_take_48 rfl (lv_at hl 2 rfl) ?_
        refine wk_V (As := [.int (nI k)]) (rest := []) ⟨hx, hb, hml, hown, hts⟩ (c_get2 l E hA hI e_33) (cwV 1 hts gX5_take_Jx4a65c_get_915e3 rfl rfl rfl (by decide +kernel) ⟨(Nat.le_of_ble_eq_true rfl), (Nat.le_of_ble_eq_true rfl)⟩) (wk_recv hK (hA.list (j := 2) (by decide)) rfl) hK rfl hl.1 rfl (Nat.le_of_ble_eq_true rfl) dX5_take_49 ⟨Nat.zero_le _, Nat.zero_le _⟩ ?_
        refine va_castS (own := RX5) hx hb hown (hts _ (List.mem_of_getElem? (i := 4) rfl)) (hK.1.1 3 _ rfl).2 (wk_recv hK (hA.pass e_33) rfl) dX5_take_52 ?_
        refine lv_iconst (v := 1) hx hb dX5_take_55 (by decide) ?_
        refine wk_put (own := RX5) (C := RX2) (T := TX2) (N := 7) (ci := 3) (v := .int 1) hx hb hts i_X2 tyX2 tyX2_ok nmX2 hown hK (hA.pass e_33) (Or.inl (hA.tag (i := 7) (k := k) (if_pos e_33))) hS rfl 5 (by decide) (hts _ (List.mem_of_getElem? (i := 5) rfl)) (fun _ h9 => h9) rfl (tyX2_ok 5 (by decide)) rfl rfl (Nat.le_of_ble_eq_true rfl) dX5_take_56 (fun H locs hP9 hz9 hk9 hS => ?_)
        have hA := hA.setTk e_33 (b := true) (mm := z_mk σ ||| 2 ^ k) (f_or_bit _ _) (fun j hj => f_or_other hj) hP9 hk9
        have hI := hI.setMk (f_or_lt hI e_33)
        refine lv_iinc (v := nI (k + 1)) (lv' := [(2, .int (nI (k + 1))), (0, .ref (X.1 0 0)), (1, .int (nI w))]) hx hb dX5_take_59 hl (k := 2) rfl (nI_1 _) (by decide) rfl (fun ls hl => ?_)
        refine lv_goto (tgt := 25) hx hb dX5_take_62 (by decide) ?_
        exact ih_25 (k + 1) (s2 σ 1 0 (z_mk σ ||| 2 ^ k)) H locs (by omega) (by omega) (by rw [heq]; exact f_take_step e_41) hA hI hS ls (lv_sub hl [1, 2, 0] rfl)
    exact L_25 _ 0 σ0 s.heap ([]) (Nat.lt_succ_self _) (Nat.zero_le _) (f_take_0 σ0 w) hA hI hS ls (lv_sub hl [1, 2, 0] rfl)
  have e_10 : (f_tog σ0 w) = false := wk_b0 c_10
  exact absurd (hok.symm.trans e_10) (by decide)
