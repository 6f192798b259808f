abbrev rme_X3_gather : Room := { frames := 1, cells := 0, slots := 0, locals := 21 }
set_option maxHeartbeats 4000000 in
set_option maxRecDepth 100000 in
theorem e_X3_gather (l : Launch) (E : wk_E) {T : Nat → Nat × Nat} {X : z_X} {σ : z_S} {H : Heap} (hA : DA E T X σ H) (hI : z_Ok σ) {k : Nat} (hk : k < z_n σ 1) : we_Met l yX3_gather wsX3_gather rme_X3_gather E H [.ref (X.1 6 k)] (z_FD T) 0 0 (fun v H1 => v = none ∧ DA E T X (f_gather1 σ k) H1) := by
  refine Met.ofW (cc := cX3_gather) (maxL := 2) (ret := none) (by decide) rfl ?_
  intro p e s m args below meth c s₁ B hml hv
  obtain ⟨rfl, hH, hV⟩ := hv
  subst hH
  have hK := hV.k
  have hx := B.exec
  have hb := B.bytes
  have hr := B.returns
  have hts := atoms_spec (ws := wsX3_gather) B.pre
  have hown : s.vm.findClass RX3 = some m.cls := findClass_of_methodNamed B.named
  have hlocks := B.notSynchronized
  have hS : va_S (fun q => (z_FD T) q ∨ s.heap.size ≤ q) s.heap s.heap [] := va_S.rf
  have hA9 : ∀ q : Nat, s.heap.size ≤ q → ((z_FD T) q ∨ s.heap.size ≤ q) := fun _ h => Or.inr h
  have hbA : ∀ q : Nat, q < E.2.2.1 → ¬ ((z_FD T) q ∨ s.heap.size ≤ q) := fun q hq z => z.elim (z_FDb hA.2.1 hq) (fun z => absurd (Nat.lt_of_lt_of_le hq hV.2.2.2.2.2.2) (Nat.not_lt.mpr z))
  have i_X3 : ∀ w ∈ u_ws RX3 TX3 8, w ∈ wsX3_gather := fun w h => (List.mem_cons_of_mem _ (List.mem_append_right _ h))
  have hl := lv_entry [.ref (X.1 6 k)] (n := 2) (Nat.le_of_ble_eq_true rfl)
  rw [lg_entry_eq]
  generalize (lg_sl [.ref (X.1 6 k)] ++ List.replicate (2 - (lg_sl [.ref (X.1 6 k)]).length) Slot.unset).toArray = ls at hl ⊢
  have hl : lv_has ls 2 [(0, .ref (X.1 6 k))] := hl
  have b0 := hI.n0
  have b1 := hI.n1
  have b2 := hI.n2
  have b3 := hI.n3
  refine lv_aload_n hx hb dX3_gather_0 rfl (lv_at hl 0 rfl) ?_
  refine wk_get (own := RX3) (C := RX3) (T := TX3) (N := 8) (ci := 4) (v := .int (z_sg σ k)) hx hb hts i_X3 hown hK (hA.sat hk) rfl 3 (by decide) (hts _ (List.mem_of_getElem? (i := 1) rfl)) (fun _ h9 => h9) rfl dX3_gather_1 ?_
  refine lv_aload_n hx hb dX3_gather_4 rfl (lv_at hl 0 rfl) ?_
  refine wk_get (own := RX3) (C := RX3) (T := TX3) (N := 8) (ci := 4) (v := .int (z_sm σ k)) hx hb hts i_X3 hown hK (hA.sat hk) rfl 4 (by decide) (hts _ (List.mem_of_getElem? (i := 2) rfl)) (fun _ h9 => h9) rfl dX3_gather_5 ?_
  refine lv_aload_n hx hb dX3_gather_8 rfl (lv_at hl 0 rfl) ?_
  refine wk_get (own := RX3) (C := RX3) (T := TX3) (N := 8) (ci := 4) (v := .int (z_su σ k)) hx hb hts i_X3 hown hK (hA.sat hk) rfl 5 (by decide) (hts _ (List.mem_of_getElem? (i := 3) rfl)) (fun _ h9 => h9) rfl dX3_gather_9 ?_
  refine lv_isub hx hb dX3_gather_12 ?_
  refine va_mmin (own := RX3) hx hb (hml.trans hl.1.symm) hown (hts _ (List.mem_of_getElem? (i := 4) rfl)) (hts _ (List.mem_of_getElem? (i := 5) rfl)) (hts _ (List.mem_of_getElem? (i := 6) rfl)) (hts _ (List.mem_of_getElem? (i := 7) rfl)) (Nat.le_of_ble_eq_true rfl) (Nat.le_trans (Nat.le_of_ble_eq_true rfl : _ ≤ 21) (Nat.le_of_ble_eq_true rfl)) (Nat.zero_le _) (Nat.zero_le _) dX3_gather_13 ?_
  refine lv_istore_n (lv' := [(1, .int (if ((z_sm σ k) - (z_su σ k)) < (z_sg σ k) then ((z_sm σ k) - (z_su σ k)) else (z_sg σ k))), (0, .ref (X.1 6 k))]) hx hb dX3_gather_16 rfl hl (by decide) rfl (fun ls hl => ?_)
  refine lv_aload_n hx hb dX3_gather_17 rfl (lv_at hl 1 rfl) ?_
  refine lv_dup hx hb dX3_gather_18 rfl ?_
  refine wk_get (own := RX3) (C := RX3) (T := TX3) (N := 8) (ci := 4) (v := .int (z_su σ k)) hx hb hts i_X3 hown hK (hA.sat hk) rfl 5 (by decide) (hts _ (List.mem_of_getElem? (i := 3) rfl)) (fun _ h9 => h9) rfl dX3_gather_19 ?_
  refine lv_iload_n hx hb dX3_gather_22 rfl (lv_at hl 0 rfl) ?_
  refine lv_iadd hx hb dX3_gather_23 ?_
  refine wk_put (own := RX3) (C := RX3) (T := TX3) (N := 8) (ci := 4) (v := .int ((z_su σ k) + (if ((z_sm σ k) - (z_su σ k)) < (z_sg σ k) then ((z_sm σ k) - (z_su σ k)) else (z_sg σ k)))) hx hb hts i_X3 tyX3 tyX3_ok nmX3 hown hK (hA.sat hk) (Or.inl (hA.tag (i := 6) (k := k) (if_pos hk))) hS rfl 5 (by decide) (hts _ (List.mem_of_getElem? (i := 3) rfl)) (fun _ h9 => h9) rfl (tyX3_ok 5 (by decide)) rfl rfl (Nat.le_of_ble_eq_true rfl) dX3_gather_24 (fun H locs hP9 hz9 hk9 hS => ?_)
  have hA := hA.setSu hk hP9 hk9
  have hI := hI.s24 (k := k) (v := ((z_su σ k) + (if ((z_sm σ k) - (z_su σ k)) < (z_sg σ k) then ((z_sm σ k) - (z_su σ k)) else (z_sg σ k))))
  refine lv_aload_n hx hb dX3_gather_27 rfl (lv_at hl 1 rfl) ?_
  refine lv_dup hx hb dX3_gather_28 rfl ?_
  refine wk_get (own := RX3) (C := RX3) (T := TX3) (N := 8) (ci := 4) (v := .int (z_sl (s1 σ 24 k ((z_su σ k) + (if ((z_sm σ k) - (z_su σ k)) < (z_sg σ k) then ((z_sm σ k) - (z_su σ k)) else (z_sg σ k)))) k)) hx hb hts i_X3 hown hK (hA.sat hk) rfl 6 (by decide) (hts _ (List.mem_of_getElem? (i := 8) rfl)) (fun _ h9 => h9) rfl dX3_gather_29 ?_
  refine lv_aload_n hx hb dX3_gather_32 rfl (lv_at hl 1 rfl) ?_
  refine wk_get (own := RX3) (C := RX3) (T := TX3) (N := 8) (ci := 4) (v := .int (z_sg (s1 σ 24 k ((z_su σ k) + (if ((z_sm σ k) - (z_su σ k)) < (z_sg σ k) then ((z_sm σ k) - (z_su σ k)) else (z_sg σ k)))) k)) hx hb hts i_X3 hown hK (hA.sat hk) rfl 3 (by decide) (hts _ (List.mem_of_getElem? (i := 1) rfl)) (fun _ h9 => h9) rfl dX3_gather_33 ?_
  refine lv_iload_n hx hb dX3_gather_36 rfl (lv_at hl 0 rfl) ?_
  refine lv_isub hx hb dX3_gather_37 ?_
  refine lv_iadd hx hb dX3_gather_38 ?_
  refine wk_put (own := RX3) (C := RX3) (T := TX3) (N := 8) (ci := 4) (v := .int ((z_sl (s1 σ 24 k ((z_su σ k) + (if ((z_sm σ k) - (z_su σ k)) < (z_sg σ k) then ((z_sm σ k) - (z_su σ k)) else (z_sg σ k)))) k) + ((z_sg (s1 σ 24 k ((z_su σ k) + (if ((z_sm σ k) - (z_su σ k)) < (z_sg σ k) then ((z_sm σ k) - (z_su σ k)) else (z_sg σ k)))) k) - (if ((z_sm σ k) - (z_su σ k)) < (z_sg σ k) then ((z_sm σ k) - (z_su σ k)) else (z_sg σ k))))) hx hb hts i_X3 tyX3 tyX3_ok nmX3 hown hK (hA.sat hk) (Or.inl (hA.tag (i := 6) (k := k) (if_pos hk))) hS rfl 6 (by decide) (hts _ (List.mem_of_getElem? (i := 8) rfl)) (fun _ h9 => h9) rfl (tyX3_ok 6 (by decide)) rfl rfl (Nat.le_of_ble_eq_true rfl) dX3_gather_39 (fun H locs hP9 hz9 hk9 hS => ?_)
  have hA := hA.setSl hk hP9 hk9
  have hI := hI.s25 (k := k) (v := ((z_sl (s1 σ 24 k ((z_su σ k) + (if ((z_sm σ k) - (z_su σ k)) < (z_sg σ k) then ((z_sm σ k) - (z_su σ k)) else (z_sg σ k)))) k) + ((z_sg (s1 σ 24 k ((z_su σ k) + (if ((z_sm σ k) - (z_su σ k)) < (z_sg σ k) then ((z_sm σ k) - (z_su σ k)) else (z_sg σ k)))) k) - (if ((z_sm σ k) - (z_su σ k)) < (z_sg σ k) then ((z_sm σ k) - (z_su σ k)) else (z_sg σ k)))))
  exact W.vret hx hb hr (we_end (Rt := fun v H1 => v = none ∧ DA E T X (f_gather1 σ k) H1) (F := z_FD T) (⟨rfl, hA⟩) hS) hS.2.2 dX3_gather_42

abbrev rme_X2_bringDown : Room := { frames := 1, cells := 0, slots := 0, locals := 21 }
set_option maxHeartbeats 4000000 in
set_option maxRecDepth 100000 in
theorem e_X2_bringDown (l : Launch) (E : wk_E) {T : Nat → Nat × Nat} {X : z_X} {σ : z_S} {H : Heap} (hA : DA E T X σ H) (hI : z_Ok σ) {i : Nat} (hi : i < z_n σ 2) : we_Met l yX2_bringDown wsX2_bringDown rme_X2_bringDown E H [.ref (X.1 7 i)] (z_FD T) 0 0 (fun v H1 => v = some (.int (f_come σ i)) ∧ DA E T X (f_bring1 σ i) H1) := by
  refine Met.ofW (cc := cX2_bringDown) (maxL := 2) (ret := (some .int)) (by decide) rfl ?_
  intro p e s m args below meth c s₁ B hml hv
  obtain ⟨rfl, hH, hV⟩ := hv
  subst hH
  have hK := hV.k
  have hx := B.exec
  have hb := B.bytes
  have hr := B.returns
  have hts := atoms_spec (ws := wsX2_bringDown) B.pre
  have hown : s.vm.findClass RX2 = some m.cls := findClass_of_methodNamed B.named
  have hlocks := B.notSynchronized
  have hS : va_S (fun q => (z_FD T) q ∨ s.heap.size ≤ q) s.heap s.heap [] := va_S.rf
  have hA9 : ∀ q : Nat, s.heap.size ≤ q → ((z_FD T) q ∨ s.heap.size ≤ q) := fun _ h => Or.inr h
  have hbA : ∀ q : Nat, q < E.2.2.1 → ¬ ((z_FD T) q ∨ s.heap.size ≤ q) := fun q hq z => z.elim (z_FDb hA.2.1 hq) (fun z => absurd (Nat.lt_of_lt_of_le hq hV.2.2.2.2.2.2) (Nat.not_lt.mpr z))
  have i_X2 : ∀ w ∈ u_ws RX2 TX2 7, w ∈ wsX2_bringDown := fun w h => (List.mem_cons_of_mem _ (List.mem_append_left _ (List.mem_append_left _ (List.mem_append_right _ h))))
  have i_X0 : ∀ w ∈ u_ws RX0 TX0 5, w ∈ wsX2_bringDown := fun w h => (List.mem_cons_of_mem _ (List.mem_append_left _ (List.mem_append_right _ h)))
  have i_X3 : ∀ w ∈ u_ws RX3 TX3 8, w ∈ wsX2_bringDown := fun w h => (List.mem_cons_of_mem _ (List.mem_append_right _ h))
  have hl := lv_entry [.ref (X.1 7 i)] (n := 2) (Nat.le_of_ble_eq_true rfl)
  rw [lg_entry_eq]
  generalize (lg_sl [.ref (X.1 7 i)] ++ List.replicate (2 - (lg_sl [.ref (X.1 7 i)]).length) Slot.unset).toArray = ls at hl ⊢
  have hl : lv_has ls 2 [(0, .ref (X.1 7 i))] := hl
  have b0 := hI.n0
  have b1 := hI.n1
  have b2 := hI.n2
  have b3 := hI.n3
  refine lv_aload_n hx hb dX2_bringDown_0 rfl (lv_at hl 0 rfl) ?_
  refine wk_get (own := RX2) (C := RX2) (T := TX2) (N := 7) (ci := 3) (v := .ref (X.1 5 (z_pA σ i))) hx hb hts i_X2 hown hK (hA.pass hi) rfl 2 (by decide) (hts _ (List.mem_of_getElem? (i := 1) rfl)) (fun _ h9 => h9) rfl dX2_bringDown_1 ?_
  refine wk_get (own := RX2) (C := RX0) (T := TX0) (N := 5) (ci := 1) (v := .int (z_ar σ (z_pA σ i))) hx hb hts i_X0 hown hK (hA.ant (hI.pA hi)) rfl 3 (by decide) (hts _ (List.mem_of_getElem? (i := 2) rfl)) (fun _ h9 => h9) rfl dX2_bringDown_4 ?_
  refine lv_aload_n hx hb dX2_bringDown_7 rfl (lv_at hl 0 rfl) ?_
  refine wk_get (own := RX2) (C := RX2) (T := TX2) (N := 7) (ci := 3) (v := .ref (X.1 6 (z_pS σ i))) hx hb hts i_X2 hown hK (hA.pass hi) rfl 1 (by decide) (hts _ (List.mem_of_getElem? (i := 3) rfl)) (fun _ h9 => h9) rfl dX2_bringDown_8 ?_
  refine wk_get (own := RX2) (C := RX3) (T := TX3) (N := 8) (ci := 4) (v := .int (z_su σ (z_pS σ i))) hx hb hts i_X3 hown hK (hA.sat (hI.pS hi)) rfl 5 (by decide) (hts _ (List.mem_of_getElem? (i := 4) rfl)) (fun _ h9 => h9) rfl dX2_bringDown_11 ?_
  refine va_mmin (own := RX2) hx hb (hml.trans hl.1.symm) hown (hts _ (List.mem_of_getElem? (i := 5) rfl)) (hts _ (List.mem_of_getElem? (i := 6) rfl)) (hts _ (List.mem_of_getElem? (i := 7) rfl)) (hts _ (List.mem_of_getElem? (i := 8) rfl)) (Nat.le_of_ble_eq_true rfl) (Nat.le_trans (Nat.le_of_ble_eq_true rfl : _ ≤ 21) (Nat.le_of_ble_eq_true rfl)) (Nat.zero_le _) (Nat.zero_le _) dX2_bringDown_14 ?_
  refine lv_istore_n (lv' := [(1, .int (if (z_su σ (z_pS σ i)) < (z_ar σ (z_pA σ i)) then (z_su σ (z_pS σ i)) else (z_ar σ (z_pA σ i)))), (0, .ref (X.1 7 i))]) hx hb dX2_bringDown_17 rfl hl (by decide) rfl (fun ls hl => ?_)
  refine lv_aload_n hx hb dX2_bringDown_18 rfl (lv_at hl 1 rfl) ?_
  refine wk_get (own := RX2) (C := RX2) (T := TX2) (N := 7) (ci := 3) (v := .ref (X.1 6 (z_pS σ i))) hx hb hts i_X2 hown hK (hA.pass hi) rfl 1 (by decide) (hts _ (List.mem_of_getElem? (i := 3) rfl)) (fun _ h9 => h9) rfl dX2_bringDown_19 ?_
  refine lv_dup hx hb dX2_bringDown_22 rfl ?_
  refine wk_get (own := RX2) (C := RX3) (T := TX3) (N := 8) (ci := 4) (v := .int (z_su σ (z_pS σ i))) hx hb hts i_X3 hown hK (hA.sat (hI.pS hi)) rfl 5 (by decide) (hts _ (List.mem_of_getElem? (i := 4) rfl)) (fun _ h9 => h9) rfl dX2_bringDown_23 ?_
  refine lv_iload_n hx hb dX2_bringDown_26 rfl (lv_at hl 0 rfl) ?_
  refine lv_isub hx hb dX2_bringDown_27 ?_
  refine wk_put (own := RX2) (C := RX3) (T := TX3) (N := 8) (ci := 4) (v := .int ((z_su σ (z_pS σ i)) - (if (z_su σ (z_pS σ i)) < (z_ar σ (z_pA σ i)) then (z_su σ (z_pS σ i)) else (z_ar σ (z_pA σ i))))) hx hb hts i_X3 tyX3 tyX3_ok nmX3 hown hK (hA.sat (hI.pS hi)) (Or.inl (hA.tag (i := 6) (k := (z_pS σ i)) (if_pos (hI.pS hi)))) hS rfl 5 (by decide) (hts _ (List.mem_of_getElem? (i := 4) rfl)) (fun _ h9 => h9) rfl (tyX3_ok 5 (by decide)) rfl rfl (Nat.le_of_ble_eq_true rfl) dX2_bringDown_28 (fun H locs hP9 hz9 hk9 hS => ?_)
  have hA := hA.setSu (hI.pS hi) hP9 hk9
  have hI := hI.s24 (k := (z_pS σ i)) (v := ((z_su σ (z_pS σ i)) - (if (z_su σ (z_pS σ i)) < (z_ar σ (z_pA σ i)) then (z_su σ (z_pS σ i)) else (z_ar σ (z_pA σ i)))))
  refine lv_aload_n hx hb dX2_bringDown_31 rfl (lv_at hl 1 rfl) ?_
  refine wk_get (own := RX2) (C := RX2) (T := TX2) (N := 7) (ci := 3) (v := .ref (X.1 6 (z_pS σ i))) hx hb hts i_X2 hown hK (hA.pass hi) rfl 1 (by decide) (hts _ (List.mem_of_getElem? (i := 3) rfl)) (fun _ h9 => h9) rfl dX2_bringDown_32 ?_
  refine lv_dup hx hb dX2_bringDown_35 rfl ?_
  refine wk_get (own := RX2) (C := RX3) (T := TX3) (N := 8) (ci := 4) (v := .int (z_sd (s1 σ 24 (z_pS σ i) ((z_su σ (z_pS σ i)) - (if (z_su σ (z_pS σ i)) < (z_ar σ (z_pA σ i)) then (z_su σ (z_pS σ i)) else (z_ar σ (z_pA σ i))))) (z_pS (s1 σ 24 (z_pS σ i) ((z_su σ (z_pS σ i)) - (if (z_su σ (z_pS σ i)) < (z_ar σ (z_pA σ i)) then (z_su σ (z_pS σ i)) else (z_ar σ (z_pA σ i))))) i))) hx hb hts i_X3 hown hK (hA.sat (hI.pS hi)) rfl 7 (by decide) (hts _ (List.mem_of_getElem? (i := 9) rfl)) (fun _ h9 => h9) rfl dX2_bringDown_36 ?_
  refine lv_iload_n hx hb dX2_bringDown_39 rfl (lv_at hl 0 rfl) ?_
  refine lv_iadd hx hb dX2_bringDown_40 ?_
  refine wk_put (own := RX2) (C := RX3) (T := TX3) (N := 8) (ci := 4) (v := .int ((z_sd (s1 σ 24 (z_pS σ i) ((z_su σ (z_pS σ i)) - (if (z_su σ (z_pS σ i)) < (z_ar σ (z_pA σ i)) then (z_su σ (z_pS σ i)) else (z_ar σ (z_pA σ i))))) (z_pS (s1 σ 24 (z_pS σ i) ((z_su σ (z_pS σ i)) - (if (z_su σ (z_pS σ i)) < (z_ar σ (z_pA σ i)) then (z_su σ (z_pS σ i)) else (z_ar σ (z_pA σ i))))) i)) + (if (z_su σ (z_pS σ i)) < (z_ar σ (z_pA σ i)) then (z_su σ (z_pS σ i)) else (z_ar σ (z_pA σ i))))) hx hb hts i_X3 tyX3 tyX3_ok nmX3 hown hK (hA.sat (hI.pS hi)) (Or.inl (hA.tag (i := 6) (k := (z_pS σ i)) (if_pos (hI.pS hi)))) hS rfl 7 (by decide) (hts _ (List.mem_of_getElem? (i := 9) rfl)) (fun _ h9 => h9) rfl (tyX3_ok 7 (by decide)) rfl rfl (Nat.le_of_ble_eq_true rfl) dX2_bringDown_41 (fun H locs hP9 hz9 hk9 hS => ?_)
  have hA := hA.setSd (hI.pS hi) hP9 hk9
  have hI := hI.s26 (k := (z_pS σ i)) (v := ((z_sd (s1 σ 24 (z_pS σ i) ((z_su σ (z_pS σ i)) - (if (z_su σ (z_pS σ i)) < (z_ar σ (z_pA σ i)) then (z_su σ (z_pS σ i)) else (z_ar σ (z_pA σ i))))) (z_pS (s1 σ 24 (z_pS σ i) ((z_su σ (z_pS σ i)) - (if (z_su σ (z_pS σ i)) < (z_ar σ (z_pA σ i)) then (z_su σ (z_pS σ i)) else (z_ar σ (z_pA σ i))))) i)) + (if (z_su σ (z_pS σ i)) < (z_ar σ (z_pA σ i)) then (z_su σ (z_pS σ i)) else (z_ar σ (z_pA σ i)))))
  refine lv_aload_n hx hb dX2_bringDown_44 rfl (lv_at hl 1 rfl) ?_
  refine wk_get (own := RX2) (C := RX2) (T := TX2) (N := 7) (ci := 3) (v := .ref (X.1 5 (z_pA σ i))) hx hb hts i_X2 hown hK (hA.pass hi) rfl 2 (by decide) (hts _ (List.mem_of_getElem? (i := 1) rfl)) (fun _ h9 => h9) rfl dX2_bringDown_45 ?_
  refine lv_dup hx hb dX2_bringDown_48 rfl ?_
  refine wk_get (own := RX2) (C := RX0) (T := TX0) (N := 5) (ci := 1) (v := .int (z_ad (s1 (s1 σ 24 (z_pS σ i) ((z_su σ (z_pS σ i)) - (if (z_su σ (z_pS σ i)) < (z_ar σ (z_pA σ i)) then (z_su σ (z_pS σ i)) else (z_ar σ (z_pA σ i))))) 26 (z_pS σ i) ((z_sd (s1 σ 24 (z_pS σ i) ((z_su σ (z_pS σ i)) - (if (z_su σ (z_pS σ i)) < (z_ar σ (z_pA σ i)) then (z_su σ (z_pS σ i)) else (z_ar σ (z_pA σ i))))) (z_pS (s1 σ 24 (z_pS σ i) ((z_su σ (z_pS σ i)) - (if (z_su σ (z_pS σ i)) < (z_ar σ (z_pA σ i)) then (z_su σ (z_pS σ i)) else (z_ar σ (z_pA σ i))))) i)) + (if (z_su σ (z_pS σ i)) < (z_ar σ (z_pA σ i)) then (z_su σ (z_pS σ i)) else (z_ar σ (z_pA σ i))))) (z_pA (s1 (s1 σ 24 (z_pS σ i) ((z_su σ (z_pS σ i)) - (if (z_su σ (z_pS σ i)) < (z_ar σ (z_pA σ i)) then (z_su σ (z_pS σ i)) else (z_ar σ (z_pA σ i))))) 26 (z_pS σ i) ((z_sd (s1 σ 24 (z_pS σ i) ((z_su σ (z_pS σ i)) - (if (z_su σ (z_pS σ i)) < (z_ar σ (z_pA σ i)) then (z_su σ (z_pS σ i)) else (z_ar σ (z_pA σ i))))) (z_pS (s1 σ 24 (z_pS σ i) ((z_su σ (z_pS σ i)) - (if (z_su σ (z_pS σ i)) < (z_ar σ (z_pA σ i)) then (z_su σ (z_pS σ i)) else (z_ar σ (z_pA σ i))))) i)) + (if (z_su σ (z_pS σ i)) < (z_ar σ (z_pA σ i)) then (z_su σ (z_pS σ i)) else (z_ar σ (z_pA σ i))))) i))) hx hb hts i_X0 hown hK (hA.ant (hI.pA hi)) rfl 4 (by decide) (hts _ (List.mem_of_getElem? (i := 10) rfl)) (fun _ h9 => h9) rfl dX2_bringDown_49 ?_
  refine lv_iload_n hx hb dX2_bringDown_52 rfl (lv_at hl 0 rfl) ?_
  refine lv_iadd hx hb dX2_bringDown_53 ?_
  refine wk_put (own := RX2) (C := RX0) (T := TX0) (N := 5) (ci := 1) (v := .int ((z_ad (s1 (s1 σ 24 (z_pS σ i) ((z_su σ (z_pS σ i)) - (if (z_su σ (z_pS σ i)) < (z_ar σ (z_pA σ i)) then (z_su σ (z_pS σ i)) else (z_ar σ (z_pA σ i))))) 26 (z_pS σ i) ((z_sd (s1 σ 24 (z_pS σ i) ((z_su σ (z_pS σ i)) - (if (z_su σ (z_pS σ i)) < (z_ar σ (z_pA σ i)) then (z_su σ (z_pS σ i)) else (z_ar σ (z_pA σ i))))) (z_pS (s1 σ 24 (z_pS σ i) ((z_su σ (z_pS σ i)) - (if (z_su σ (z_pS σ i)) < (z_ar σ (z_pA σ i)) then (z_su σ (z_pS σ i)) else (z_ar σ (z_pA σ i))))) i)) + (if (z_su σ (z_pS σ i)) < (z_ar σ (z_pA σ i)) then (z_su σ (z_pS σ i)) else (z_ar σ (z_pA σ i))))) (z_pA (s1 (s1 σ 24 (z_pS σ i) ((z_su σ (z_pS σ i)) - (if (z_su σ (z_pS σ i)) < (z_ar σ (z_pA σ i)) then (z_su σ (z_pS σ i)) else (z_ar σ (z_pA σ i))))) 26 (z_pS σ i) ((z_sd (s1 σ 24 (z_pS σ i) ((z_su σ (z_pS σ i)) - (if (z_su σ (z_pS σ i)) < (z_ar σ (z_pA σ i)) then (z_su σ (z_pS σ i)) else (z_ar σ (z_pA σ i))))) (z_pS (s1 σ 24 (z_pS σ i) ((z_su σ (z_pS σ i)) - (if (z_su σ (z_pS σ i)) < (z_ar σ (z_pA σ i)) then (z_su σ (z_pS σ i)) else (z_ar σ (z_pA σ i))))) i)) + (if (z_su σ (z_pS σ i)) < (z_ar σ (z_pA σ i)) then (z_su σ (z_pS σ i)) else (z_ar σ (z_pA σ i))))) i)) + (if (z_su σ (z_pS σ i)) < (z_ar σ (z_pA σ i)) then (z_su σ (z_pS σ i)) else (z_ar σ (z_pA σ i))))) hx hb hts i_X0 tyX0 tyX0_ok nmX0 hown hK (hA.ant (hI.pA hi)) (Or.inl (hA.tag (i := 5) (k := (z_pA σ i)) (if_pos (hI.pA hi)))) hS rfl 4 (by decide) (hts _ (List.mem_of_getElem? (i := 10) rfl)) (fun _ h9 => h9) rfl (tyX0_ok 4 (by decide)) rfl rfl (Nat.le_of_ble_eq_true rfl) dX2_bringDown_54 (fun H locs hP9 hz9 hk9 hS => ?_)
  have hA := hA.setAd (hI.pA hi) hP9 hk9
  have hI := hI.s13 (k := (z_pA σ i)) (v := ((z_ad (s1 (s1 σ 24 (z_pS σ i) ((z_su σ (z_pS σ i)) - (if (z_su σ (z_pS σ i)) < (z_ar σ (z_pA σ i)) then (z_su σ (z_pS σ i)) else (z_ar σ (z_pA σ i))))) 26 (z_pS σ i) ((z_sd (s1 σ 24 (z_pS σ i) ((z_su σ (z_pS σ i)) - (if (z_su σ (z_pS σ i)) < (z_ar σ (z_pA σ i)) then (z_su σ (z_pS σ i)) else (z_ar σ (z_pA σ i))))) (z_pS (s1 σ 24 (z_pS σ i) ((z_su σ (z_pS σ i)) - (if (z_su σ (z_pS σ i)) < (z_ar σ (z_pA σ i)) then (z_su σ (z_pS σ i)) else (z_ar σ (z_pA σ i))))) i)) + (if (z_su σ (z_pS σ i)) < (z_ar σ (z_pA σ i)) then (z_su σ (z_pS σ i)) else (z_ar σ (z_pA σ i))))) (z_pA (s1 (s1 σ 24 (z_pS σ i) ((z_su σ (z_pS σ i)) - (if (z_su σ (z_pS σ i)) < (z_ar σ (z_pA σ i)) then (z_su σ (z_pS σ i)) else (z_ar σ (z_pA σ i))))) 26 (z_pS σ i) ((z_sd (s1 σ 24 (z_pS σ i) ((z_su σ (z_pS σ i)) - (if (z_su σ (z_pS σ i)) < (z_ar σ (z_pA σ i)) then (z_su σ (z_pS σ i)) else (z_ar σ (z_pA σ i))))) (z_pS (s1 σ 24 (z_pS σ i) ((z_su σ (z_pS σ i)) - (if (z_su σ (z_pS σ i)) < (z_ar σ (z_pA σ i)) then (z_su σ (z_pS σ i)) else (z_ar σ (z_pA σ i))))) i)) + (if (z_su σ (z_pS σ i)) < (z_ar σ (z_pA σ i)) then (z_su σ (z_pS σ i)) else (z_ar σ (z_pA σ i))))) i)) + (if (z_su σ (z_pS σ i)) < (z_ar σ (z_pA σ i)) then (z_su σ (z_pS σ i)) else (z_ar σ (z_pA σ i)))))
  refine lv_aload_n hx hb dX2_bringDown_57 rfl (lv_at hl 1 rfl) ?_
  refine lv_dup hx hb dX2_bringDown_58 rfl ?_
  refine wk_get (own := RX2) (C := RX2) (T := TX2) (N := 7) (ci := 3) (v := .int (z_pd (s1 (s1 (s1 σ 24 (z_pS σ i) ((z_su σ (z_pS σ i)) - (if (z_su σ (z_pS σ i)) < (z_ar σ (z_pA σ i)) then (z_su σ (z_pS σ i)) else (z_ar σ (z_pA σ i))))) 26 (z_pS σ i) ((z_sd (s1 σ 24 (z_pS σ i) ((z_su σ (z_pS σ i)) - (if (z_su σ (z_pS σ i)) < (z_ar σ (z_pA σ i)) then (z_su σ (z_pS σ i)) else (z_ar σ (z_pA σ i))))) (z_pS (s1 σ 24 (z_pS σ i) ((z_su σ (z_pS σ i)) - (if (z_su σ (z_pS σ i)) < (z_ar σ (z_pA σ i)) then (z_su σ (z_pS σ i)) else (z_ar σ (z_pA σ i))))) i)) + (if (z_su σ (z_pS σ i)) < (z_ar σ (z_pA σ i)) then (z_su σ (z_pS σ i)) else (z_ar σ (z_pA σ i))))) 13 (z_pA σ i) ((z_ad (s1 (s1 σ 24 (z_pS σ i) ((z_su σ (z_pS σ i)) - (if (z_su σ (z_pS σ i)) < (z_ar σ (z_pA σ i)) then (z_su σ (z_pS σ i)) else (z_ar σ (z_pA σ i))))) 26 (z_pS σ i) ((z_sd (s1 σ 24 (z_pS σ i) ((z_su σ (z_pS σ i)) - (if (z_su σ (z_pS σ i)) < (z_ar σ (z_pA σ i)) then (z_su σ (z_pS σ i)) else (z_ar σ (z_pA σ i))))) (z_pS (s1 σ 24 (z_pS σ i) ((z_su σ (z_pS σ i)) - (if (z_su σ (z_pS σ i)) < (z_ar σ (z_pA σ i)) then (z_su σ (z_pS σ i)) else (z_ar σ (z_pA σ i))))) i)) + (if (z_su σ (z_pS σ i)) < (z_ar σ (z_pA σ i)) then (z_su σ (z_pS σ i)) else (z_ar σ (z_pA σ i))))) (z_pA (s1 (s1 σ 24 (z_pS σ i) ((z_su σ (z_pS σ i)) - (if (z_su σ (z_pS σ i)) < (z_ar σ (z_pA σ i)) then (z_su σ (z_pS σ i)) else (z_ar σ (z_pA σ i))))) 26 (z_pS σ i) ((z_sd (s1 σ 24 (z_pS σ i) ((z_su σ (z_pS σ i)) - (if (z_su σ (z_pS σ i)) < (z_ar σ (z_pA σ i)) then (z_su σ (z_pS σ i)) else (z_ar σ (z_pA σ i))))) (z_pS (s1 σ 24 (z_pS σ i) ((z_su σ (z_pS σ i)) - (if (z_su σ (z_pS σ i)) < (z_ar σ (z_pA σ i)) then (z_su σ (z_pS σ i)) else (z_ar σ (z_pA σ i))))) i)) + (if (z_su σ (z_pS σ i)) < (z_ar σ (z_pA σ i)) then (z_su σ (z_pS σ i)) else (z_ar σ (z_pA σ i))))) i)) + (if (z_su σ (z_pS σ i)) < (z_ar σ (z_pA σ i)) then (z_su σ (z_pS σ i)) else (z_ar σ (z_pA σ i))))) i)) hx hb hts i_X2 hown hK (hA.pass hi) rfl 6 (by decide) (hts _ (List.mem_of_getElem? (i := 11) rfl)) (fun _ h9 => h9) rfl dX2_bringDown_59 ?_
  refine lv_iload_n hx hb dX2_bringDown_62 rfl (lv_at hl 0 rfl) ?_
  refine lv_iadd hx hb dX2_bringDown_63 ?_
  refine wk_put (own := RX2) (C := RX2) (T := TX2) (N := 7) (ci := 3) (v := .int ((z_pd (s1 (s1 (s1 σ 24 (z_pS σ i) ((z_su σ (z_pS σ i)) - (if (z_su σ (z_pS σ i)) < (z_ar σ (z_pA σ i)) then (z_su σ (z_pS σ i)) else (z_ar σ (z_pA σ i))))) 26 (z_pS σ i) ((z_sd (s1 σ 24 (z_pS σ i) ((z_su σ (z_pS σ i)) - (if (z_su σ (z_pS σ i)) < (z_ar σ (z_pA σ i)) then (z_su σ (z_pS σ i)) else (z_ar σ (z_pA σ i))))) (z_pS (s1 σ 24 (z_pS σ i) ((z_su σ (z_pS σ i)) - (if (z_su σ (z_pS σ i)) < (z_ar σ (z_pA σ i)) then (z_su σ (z_pS σ i)) else (z_ar σ (z_pA σ i))))) i)) + (if (z_su σ (z_pS σ i)) < (z_ar σ (z_pA σ i)) then (z_su σ (z_pS σ i)) else (z_ar σ (z_pA σ i))))) 13 (z_pA σ i) ((z_ad (s1 (s1 σ 24 (z_pS σ i) ((z_su σ (z_pS σ i)) - (if (z_su σ (z_pS σ i)) < (z_ar σ (z_pA σ i)) then (z_su σ (z_pS σ i)) else (z_ar σ (z_pA σ i))))) 26 (z_pS σ i) ((z_sd (s1 σ 24 (z_pS σ i) ((z_su σ (z_pS σ i)) - (if (z_su σ (z_pS σ i)) < (z_ar σ (z_pA σ i)) then (z_su σ (z_pS σ i)) else (z_ar σ (z_pA σ i))))) (z_pS (s1 σ 24 (z_pS σ i) ((z_su σ (z_pS σ i)) - (if (z_su σ (z_pS σ i)) < (z_ar σ (z_pA σ i)) then (z_su σ (z_pS σ i)) else (z_ar σ (z_pA σ i))))) i)) + (if (z_su σ (z_pS σ i)) < (z_ar σ (z_pA σ i)) then (z_su σ (z_pS σ i)) else (z_ar σ (z_pA σ i))))) (z_pA (s1 (s1 σ 24 (z_pS σ i) ((z_su σ (z_pS σ i)) - (if (z_su σ (z_pS σ i)) < (z_ar σ (z_pA σ i)) then (z_su σ (z_pS σ i)) else (z_ar σ (z_pA σ i))))) 26 (z_pS σ i) ((z_sd (s1 σ 24 (z_pS σ i) ((z_su σ (z_pS σ i)) - (if (z_su σ (z_pS σ i)) < (z_ar σ (z_pA σ i)) then (z_su σ (z_pS σ i)) else (z_ar σ (z_pA σ i))))) (z_pS (s1 σ 24 (z_pS σ i) ((z_su σ (z_pS σ i)) - (if (z_su σ (z_pS σ i)) < (z_ar σ (z_pA σ i)) then (z_su σ (z_pS σ i)) else (z_ar σ (z_pA σ i))))) i)) + (if (z_su σ (z_pS σ i)) < (z_ar σ (z_pA σ i)) then (z_su σ (z_pS σ i)) else (z_ar σ (z_pA σ i))))) i)) + (if (z_su σ (z_pS σ i)) < (z_ar σ (z_pA σ i)) then (z_su σ (z_pS σ i)) else (z_ar σ (z_pA σ i))))) i) + (if (z_su σ (z_pS σ i)) < (z_ar σ (z_pA σ i)) then (z_su σ (z_pS σ i)) else (z_ar σ (z_pA σ i))))) hx hb hts i_X2 tyX2 tyX2_ok nmX2 hown hK (hA.pass hi) (Or.inl (hA.tag (i := 7) (k := i) (if_pos hi))) hS rfl 6 (by decide) (hts _ (List.mem_of_getElem? (i := 11) rfl)) (fun _ h9 => h9) rfl (tyX2_ok 6 (by decide)) rfl rfl (Nat.le_of_ble_eq_true rfl) dX2_bringDown_64 (fun H locs hP9 hz9 hk9 hS => ?_)
  have hA := hA.setPd hi hP9 hk9
  have hI := hI.s32 (k := i) (v := ((z_pd (s1 (s1 (s1 σ 24 (z_pS σ i) ((z_su σ (z_pS σ i)) - (if (z_su σ (z_pS σ i)) < (z_ar σ (z_pA σ i)) then (z_su σ (z_pS σ i)) else (z_ar σ (z_pA σ i))))) 26 (z_pS σ i) ((z_sd (s1 σ 24 (z_pS σ i) ((z_su σ (z_pS σ i)) - (if (z_su σ (z_pS σ i)) < (z_ar σ (z_pA σ i)) then (z_su σ (z_pS σ i)) else (z_ar σ (z_pA σ i))))) (z_pS (s1 σ 24 (z_pS σ i) ((z_su σ (z_pS σ i)) - (if (z_su σ (z_pS σ i)) < (z_ar σ (z_pA σ i)) then (z_su σ (z_pS σ i)) else (z_ar σ (z_pA σ i))))) i)) + (if (z_su σ (z_pS σ i)) < (z_ar σ (z_pA σ i)) then (z_su σ (z_pS σ i)) else (z_ar σ (z_pA σ i))))) 13 (z_pA σ i) ((z_ad (s1 (s1 σ 24 (z_pS σ i) ((z_su σ (z_pS σ i)) - (if (z_su σ (z_pS σ i)) < (z_ar σ (z_pA σ i)) then (z_su σ (z_pS σ i)) else (z_ar σ (z_pA σ i))))) 26 (z_pS σ i) ((z_sd (s1 σ 24 (z_pS σ i) ((z_su σ (z_pS σ i)) - (if (z_su σ (z_pS σ i)) < (z_ar σ (z_pA σ i)) then (z_su σ (z_pS σ i)) else (z_ar σ (z_pA σ i))))) (z_pS (s1 σ 24 (z_pS σ i) ((z_su σ (z_pS σ i)) - (if (z_su σ (z_pS σ i)) < (z_ar σ (z_pA σ i)) then (z_su σ (z_pS σ i)) else (z_ar σ (z_pA σ i))))) i)) + (if (z_su σ (z_pS σ i)) < (z_ar σ (z_pA σ i)) then (z_su σ (z_pS σ i)) else (z_ar σ (z_pA σ i))))) (z_pA (s1 (s1 σ 24 (z_pS σ i) ((z_su σ (z_pS σ i)) - (if (z_su σ (z_pS σ i)) < (z_ar σ (z_pA σ i)) then (z_su σ (z_pS σ i)) else (z_ar σ (z_pA σ i))))) 26 (z_pS σ i) ((z_sd (s1 σ 24 (z_pS σ i) ((z_su σ (z_pS σ i)) - (if (z_su σ (z_pS σ i)) < (z_ar σ (z_pA σ i)) then (z_su σ (z_pS σ i)) else (z_ar σ (z_pA σ i))))) (z_pS (s1 σ 24 (z_pS σ i) ((z_su σ (z_pS σ i)) - (if (z_su σ (z_pS σ i)) < (z_ar σ (z_pA σ i)) then (z_su σ (z_pS σ i)) else (z_ar σ (z_pA σ i))))) i)) + (if (z_su σ (z_pS σ i)) < (z_ar σ (z_pA σ i)) then (z_su σ (z_pS σ i)) else (z_ar σ (z_pA σ i))))) i)) + (if (z_su σ (z_pS σ i)) < (z_ar σ (z_pA σ i)) then (z_su σ (z_pS σ i)) else (z_ar σ (z_pA σ i))))) i) + (if (z_su σ (z_pS σ i)) < (z_ar σ (z_pA σ i)) then (z_su σ (z_pS σ i)) else (z_ar σ (z_pA σ i)))))
  refine lv_iload_n hx hb dX2_bringDown_67 rfl (lv_at hl 0 rfl) ?_
  exact W.iret hx hb hr (we_end (Rt := fun v H1 => v = some (.int (f_come σ i)) ∧ DA E T X (f_bring1 σ i) H1) (F := z_FD T) (⟨rfl, hA⟩) hS) hS.2.2 dX2_bringDown_68

abbrev rme_X5_gatherEverywhere : Room := { frames := 3, cells := 0, slots := 0, locals := 64 }
set_option maxHeartbeats 4000000 in
set_option maxRecDepth 100000 in
theorem e_X5_gatherEverywhere (l : Launch) (E : wk_E) {T : Nat → Nat × Nat} {X : z_X} {σ0 : z_S} {H : Heap} (hA : DA E T X σ0 H) (hI : z_Ok σ0)  : we_Met l yX5_gatherEverywhere wsX5_gatherEverywhere rme_X5_gatherEverywhere E H [.ref (X.1 0 0)] (z_FD T) 0 0 (fun v H1 => v = none ∧ DA E T X (f_gath σ0) H1) := by
  refine Met.ofW (cc := cX5_gatherEverywhere) (maxL := 2) (ret := none) (by decide) rfl ?_
  intro p e s m args below meth c s₁ B hml hv
  obtain ⟨rfl, hH, hV⟩ := hv
  subst hH
  have hK := hV.k
  have hx := B.exec
  have hb := B.bytes
  have hr := B.returns
  have hts := atoms_spec (ws := wsX5_gatherEverywhere) B.pre
  have hown : s.vm.findClass RX5 = some m.cls := findClass_of_methodNamed B.named
  have hlocks := B.notSynchronized
  have hS : va_S (fun q => (z_FD T) q ∨ s.heap.size ≤ q) s.heap s.heap [] := va_S.rf
  have hA9 : ∀ q : Nat, s.heap.size ≤ q → ((z_FD T) q ∨ s.heap.size ≤ q) := fun _ h => Or.inr h
  have hbA : ∀ q : Nat, q < E.2.2.1 → ¬ ((z_FD T) q ∨ s.heap.size ≤ q) := fun q hq z => z.elim (z_FDb hA.2.1 hq) (fun z => absurd (Nat.lt_of_lt_of_le hq hV.2.2.2.2.2.2) (Nat.not_lt.mpr z))
  have i_X5 : ∀ w ∈ u_ws RX5 TX5 7, w ∈ wsX5_gatherEverywhere := fun w h => (List.mem_cons_of_mem _ (List.mem_append_left _ (List.mem_append_left _ (List.mem_append_right _ h))))
  have hl := lv_entry [.ref (X.1 0 0)] (n := 2) (Nat.le_of_ble_eq_true rfl)
  rw [lg_entry_eq]
  generalize (lg_sl [.ref (X.1 0 0)] ++ List.replicate (2 - (lg_sl [.ref (X.1 0 0)]).length) Slot.unset).toArray = ls at hl ⊢
  have hl : lv_has ls 2 [(0, .ref (X.1 0 0))] := hl
  have b0 := hI.n0
  have b1 := hI.n1
  have b2 := hI.n2
  have b3 := hI.n3
  refine lv_iconst (v := 0) hx hb dX5_gatherEverywhere_0 (by decide) ?_
  refine lv_istore_n (lv' := [(1, .int 0), (0, .ref (X.1 0 0))]) hx hb dX5_gatherEverywhere_1 rfl hl (by decide) rfl (fun ls hl => ?_)
  have L_2 : ∀ (n_2 : Nat) (k : Nat) (σ : z_S) (H : Heap) (locs : List Loc), z_n σ0 1 - k < n_2 → (k ≤ z_n σ0 1) → (σ = f_gatherTo σ0 k) → (DA E T X σ H) → (z_Ok σ) → (va_S (fun q => (z_FD T) q ∨ s.heap.size ≤ q) s.heap H locs) → ∀ ls : Array Slot, lv_has ls 2 [(0, .ref (X.1 0 0)), (1, .int (nI k))] → W p l e (headSpec wsX5_gatherEverywhere rme_X5_gatherEverywhere).room s m ([.ref (X.1 0 0)] : List Value).toArray below meth c H locs 0 0 (MQ below (fun _ _ oc t => (∃ v, oc = .returned v ∧ (fun v H1 => v = none ∧ DA E T X (f_gath σ0) H1) v t.heap) ∧ s.heap.size ≤ t.heap.size ∧ ∀ q : Nat, q < s.heap.size → ¬ (z_FD T) q → t.heap[q]? = s.heap[q]?) ([.ref (X.1 0 0)] : List Value).toArray s 0 0 (fun q => (z_FD T) q ∨ s.heap.size ≤ q)) (F0 m 2 ls []) := by
    intro n_2
    induction n_2 with
    | zero => intro k σ H locs hm; exact absurd hm (Nat.not_lt_zero _)
    | succ n_2 ih_2 =>
      intro k σ H locs hm_2 hk_k heq hA hI hS ls hl
      have hn9 : z_n σ 1 = z_n σ0 1 := by rw [heq]; exact congrFun (congrFun (f_gatherTo_2 σ0 k) 0) 1
      have b0 := hI.n0
      have b1 := hI.n1
      have b2 := hI.n2
      have b3 := hI.n3
      refine lv_iload_n hx hb dX5_gatherEverywhere_2 rfl (lv_at hl 1 rfl) ?_
      refine lv_aload_n hx hb dX5_gatherEverywhere_3 rfl (lv_at hl 0 rfl) ?_
      refine wk_get (own := RX5) (C := RX5) (T := TX5) (N := 7) (ci := 6) (v := .ref (X.1 1 1)) hx hb hts i_X5 hown hK hA.desk rfl 1 (by decide) (hts _ (List.mem_of_getElem? (i := 1) rfl)) (fun _ h9 => h9) rfl dX5_gatherEverywhere_4 ?_
      refine wk_V (As := []) (rest := [.int (nI k)]) ⟨hx, hb, hml, hown, hts⟩ (c_size1 l E hA) (cwV 0 hts gX5_gatherEverywhere_Jx4a65c_size_8abf5 rfl rfl rfl (by decide +kernel) ⟨(Nat.le_of_ble_eq_true rfl), (Nat.le_of_ble_eq_true rfl)⟩) (wk_recv hK (hA.list (j := 1) (by decide)) rfl) hK rfl hl.1 rfl (Nat.le_of_ble_eq_true rfl) dX5_gatherEverywhere_7 ⟨Nat.zero_le _, Nat.zero_le _⟩ ?_
      refine lv_icmp_ge (tgt := 33) hx hb dX5_gatherEverywhere_10 (by decide) (fun c_10 => ?_) (fun c_10 => ?_)
      · skip
        have e_10 : (z_n σ 1) ≤ k := wk_cget (by omega) (by omega) c_10
        have hkN : k = z_n σ0 1 := by omega
        exact W.vret hx hb hr (we_end (Rt := fun v H1 => v = none ∧ DA E T X (f_gath σ0) H1) (F := z_FD T) (⟨rfl, by rw [heq, hkN] at hA; exact hA⟩) hS) hS.2.2 dX5_gatherEverywhere_33
      have e_10 : k < (z_n σ 1) := wk_cgef (by omega) (by omega) c_10
      refine lv_aload_n hx hb dX5_gatherEverywhere_13 rfl (lv_at hl 0 rfl) ?_
      refine wk_get (own := RX5) (C := RX5) (T := TX5) (N := 7) (ci := 6) (v := .ref (X.1 1 1)) hx hb hts i_X5 hown hK hA.desk rfl 1 (by decide) (hts _ (List.mem_of_getElem? (i := 1) rfl)) (fun _ h9 => h9) rfl dX5_gatherEverywhere_14 ?_
      refine lv_iload_n hx hb dX5_gatherEverywhere_17 rfl (lv_at hl 1 rfl) ?_
      refine wk_V (As := [.int (nI k)]) (rest := []) ⟨hx, hb, hml, hown, hts⟩ (c_get1 l E hA hI e_10) (cwV 1 hts gX5_gatherEverywhere_Jx4a65c_get_915e3 rfl rfl rfl (by decide +kernel) ⟨(Nat.le_of_ble_eq_true rfl), (Nat.le_of_ble_eq_true rfl)⟩) (wk_recv hK (hA.list (j := 1) (by decide)) rfl) hK rfl hl.1 rfl (Nat.le_of_ble_eq_true rfl) dX5_gatherEverywhere_18 ⟨Nat.zero_le _, Nat.zero_le _⟩ ?_
      refine va_castS (own := RX5) hx hb hown (hts _ (List.mem_of_getElem? (i := 2) rfl)) (hK.1.1 4 _ rfl).2 (wk_recv hK (hA.sat e_10) rfl) dX5_gatherEverywhere_21 ?_
      refine we_V (As := []) (rest := []) ⟨hx, hb, hml, hown, hts⟩ (e_X3_gather l E hA hI e_10) (cwV 0 hts gX5_gatherEverywhere_X3_gather rfl rfl rfl (by decide +kernel) ⟨(Nat.le_of_ble_eq_true rfl), (Nat.le_of_ble_eq_true rfl)⟩) (wk_recv hK (hA.sat e_10) rfl) (hV.heap hS.1 (fun q hq => hS.2.1 q (Nat.lt_of_lt_of_le hq hV.2.2.2.2.2.2) (hbA q hq))) hS (fun _ h => Or.inl h) hA9 rfl hl.1 rfl (Nat.le_of_ble_eq_true rfl) dX5_gatherEverywhere_24 ⟨Nat.zero_le _, Nat.zero_le _⟩ (fun v9 H locs hR9 hz9 hk9 hS => ?_)
      obtain ⟨rfl, hA⟩ := hR9
      have hI := hI.gather1 (k := k)
      refine lv_iinc (v := nI (k + 1)) (lv' := [(1, .int (nI (k + 1))), (0, .ref (X.1 0 0))]) hx hb dX5_gatherEverywhere_27 hl (k := 1) rfl (nI_1 _) (by decide) rfl (fun ls hl => ?_)
      refine lv_goto (tgt := 2) hx hb dX5_gatherEverywhere_30 (by decide) ?_
      exact ih_2 (k + 1) (f_gather1 σ k) H locs (by omega) (by omega) (by rw [heq]; rfl) hA hI hS ls (lv_sub hl [1, 0] rfl)
  exact L_2 _ 0 σ0 s.heap ([]) (Nat.lt_succ_self _) (Nat.zero_le _) rfl hA hI hS ls (lv_sub hl [1, 0] rfl)

abbrev rme_X5_bringDownEverywhere : Room := { frames := 5, cells := 0, slots := 0, locals := 109 }
set_option maxHeartbeats 4000000 in
set_option maxRecDepth 100000 in
theorem e_X5_bringDownEverywhere (l : Launch) (E : wk_E) {T : Nat → Nat × Nat} {X : z_X} {σ0 : z_S} {H : Heap} (hA : DA E T X σ0 H) (hI : z_Ok σ0)  : we_Met l yX5_bringDownEverywhere wsX5_bringDownEverywhere rme_X5_bringDownEverywhere E H [.ref (X.1 0 0)] (z_FD T) 0 0 (fun v H1 => v = some (.int (f_down σ0).2) ∧ DA E T X (f_down σ0).1 H1) := by
  refine Met.ofW (cc := cX5_bringDownEverywhere) (maxL := 4) (ret := (some .int)) (by decide) rfl ?_
  intro p e s m args below meth c s₁ B hml hv
  obtain ⟨rfl, hH, hV⟩ := hv
  subst hH
  have hK := hV.k
  have hx := B.exec
  have hb := B.bytes
  have hr := B.returns
  have hts := atoms_spec (ws := wsX5_bringDownEverywhere) B.pre
  have hown : s.vm.findClass RX5 = some m.cls := findClass_of_methodNamed B.named
  have hlocks := B.notSynchronized
  have hS : va_S (fun q => (z_FD T) q ∨ s.heap.size ≤ q) s.heap s.heap [] := va_S.rf
  have hA9 : ∀ q : Nat, s.heap.size ≤ q → ((z_FD T) q ∨ s.heap.size ≤ q) := fun _ h => Or.inr h
  have hbA : ∀ q : Nat, q < E.2.2.1 → ¬ ((z_FD T) q ∨ s.heap.size ≤ q) := fun q hq z => z.elim (z_FDb hA.2.1 hq) (fun z => absurd (Nat.lt_of_lt_of_le hq hV.2.2.2.2.2.2) (Nat.not_lt.mpr z))
  have i_X5 : ∀ w ∈ u_ws RX5 TX5 7, w ∈ wsX5_bringDownEverywhere := fun w h => (List.mem_cons_of_mem _ (List.mem_append_left _ (List.mem_append_left _ (List.mem_append_left _ (List.mem_append_left _ (List.mem_append_right _ h))))))
  have i_X2 : ∀ w ∈ u_ws RX2 TX2 7, w ∈ wsX5_bringDownEverywhere := fun w h => (List.mem_cons_of_mem _ (List.mem_append_left _ (List.mem_append_left _ (List.mem_append_left _ (List.mem_append_right _ h)))))
  have hl := lv_entry [.ref (X.1 0 0)] (n := 4) (Nat.le_of_ble_eq_true rfl)
  rw [lg_entry_eq]
  generalize (lg_sl [.ref (X.1 0 0)] ++ List.replicate (4 - (lg_sl [.ref (X.1 0 0)]).length) Slot.unset).toArray = ls at hl ⊢
  have hl : lv_has ls 4 [(0, .ref (X.1 0 0))] := hl
  have b0 := hI.n0
  have b1 := hI.n1
  have b2 := hI.n2
  have b3 := hI.n3
  refine lv_iconst (v := 0) hx hb dX5_bringDownEverywhere_0 (by decide) ?_
  refine lv_istore_n (lv' := [(1, .int 0), (0, .ref (X.1 0 0))]) hx hb dX5_bringDownEverywhere_1 rfl hl (by decide) rfl (fun ls hl => ?_)
  refine lv_iconst (v := 0) hx hb dX5_bringDownEverywhere_2 (by decide) ?_
  refine lv_istore_n (lv' := [(2, .int 0), (1, .int 0), (0, .ref (X.1 0 0))]) hx hb dX5_bringDownEverywhere_3 rfl hl (by decide) rfl (fun ls hl => ?_)
  have L_4 : ∀ (n_4 : Nat) (k : Nat) (σ : z_S) (H : Heap) (locs : List Loc), z_n σ0 2 - k < n_4 → (k ≤ z_n σ0 2) → (σ = (f_bringTo σ0 k).1) → (DA E T X σ H) → (z_Ok σ) → (va_S (fun q => (z_FD T) q ∨ s.heap.size ≤ q) s.heap H locs) → ∀ ls : Array Slot, lv_has ls 4 [(0, .ref (X.1 0 0)), (1, .int ((f_bringTo σ0 k).2)), (2, .int (nI k))] → W p l e (headSpec wsX5_bringDownEverywhere rme_X5_bringDownEverywhere).room s m ([.ref (X.1 0 0)] : List Value).toArray below meth c H locs 0 0 (MQ below (fun _ _ oc t => (∃ v, oc = .returned v ∧ (fun v H1 => v = some (.int (f_down σ0).2) ∧ DA E T X (f_down σ0).1 H1) v t.heap) ∧ s.heap.size ≤ t.heap.size ∧ ∀ q : Nat, q < s.heap.size → ¬ (z_FD T) q → t.heap[q]? = s.heap[q]?) ([.ref (X.1 0 0)] : List Value).toArray s 0 0 (fun q => (z_FD T) q ∨ s.heap.size ≤ q)) (F0 m 4 ls []) := by
    intro n_4
    induction n_4 with
    | zero => intro k σ H locs hm; exact absurd hm (Nat.not_lt_zero _)
    | succ n_4 ih_4 =>
      intro k σ H locs hm_4 hk_k heq hA hI hS ls hl
      have hn9 : z_n σ 2 = z_n σ0 2 := by rw [heq]; exact congrFun (congrFun (f_bringTo_2 σ0 k) 0) 2
      have b0 := hI.n0
      have b1 := hI.n1
      have b2 := hI.n2
      have b3 := hI.n3
      refine lv_iload_n hx hb dX5_bringDownEverywhere_4 rfl (lv_at hl 2 rfl) ?_
      refine lv_aload_n hx hb dX5_bringDownEverywhere_5 rfl (lv_at hl 0 rfl) ?_
      refine wk_get (own := RX5) (C := RX5) (T := TX5) (N := 7) (ci := 6) (v := .ref (X.1 1 2)) hx hb hts i_X5 hown hK hA.desk rfl 2 (by decide) (hts _ (List.mem_of_getElem? (i := 1) rfl)) (fun _ h9 => h9) rfl dX5_bringDownEverywhere_6 ?_
      refine wk_V (As := []) (rest := [.int (nI k)]) ⟨hx, hb, hml, hown, hts⟩ (c_size2 l E hA) (cwV 0 hts gX5_bringDownEverywhere_Jx4a65c_size_8abf5 rfl rfl rfl (by decide +kernel) ⟨(Nat.le_of_ble_eq_true rfl), (Nat.le_of_ble_eq_true rfl)⟩) (wk_recv hK (hA.list (j := 2) (by decide)) rfl) hK rfl hl.1 rfl (Nat.le_of_ble_eq_true rfl) dX5_bringDownEverywhere_9 ⟨Nat.zero_le _, Nat.zero_le _⟩ ?_
      refine lv_icmp_ge (tgt := 69) hx hb dX5_bringDownEverywhere_12 (by decide) (fun c_12 => ?_) (fun c_12 => ?_)
      · skip
        have e_12 : (z_n σ 2) ≤ k := wk_cget (by omega) (by omega) c_12
        have hkN : k = z_n σ0 2 := by omega
        refine lv_iload_n hx hb dX5_bringDownEverywhere_69 rfl (lv_at hl 1 rfl) ?_
        exact W.iret hx hb hr (we_end (Rt := fun v H1 => v = some (.int (f_down σ0).2) ∧ DA E T X (f_down σ0).1 H1) (F := z_FD T) (⟨by rw [hkN]; rfl, by rw [heq, hkN] at hA; exact hA⟩) hS) hS.2.2 dX5_bringDownEverywhere_70
      have e_12 : k < (z_n σ 2) := wk_cgef (by omega) (by omega) c_12
      refine lv_aload_n hx hb dX5_bringDownEverywhere_15 rfl (lv_at hl 0 rfl) ?_
      refine wk_get (own := RX5) (C := RX5) (T := TX5) (N := 7) (ci := 6) (v := .ref (X.1 1 2)) hx hb hts i_X5 hown hK hA.desk rfl 2 (by decide) (hts _ (List.mem_of_getElem? (i := 1) rfl)) (fun _ h9 => h9) rfl dX5_bringDownEverywhere_16 ?_
      refine lv_iload_n hx hb dX5_bringDownEverywhere_19 rfl (lv_at hl 2 rfl) ?_
      refine wk_V (As := [.int (nI k)]) (rest := []) ⟨hx, hb, hml, hown, hts⟩ (c_get2 l E hA hI e_12) (cwV 1 hts gX5_bringDownEverywhere_Jx4a65c_get_915e3 rfl rfl rfl (by decide +kernel) ⟨(Nat.le_of_ble_eq_true rfl), (Nat.le_of_ble_eq_true rfl)⟩) (wk_recv hK (hA.list (j := 2) (by decide)) rfl) hK rfl hl.1 rfl (Nat.le_of_ble_eq_true rfl) dX5_bringDownEverywhere_20 ⟨Nat.zero_le _, Nat.zero_le _⟩ ?_
      refine va_castS (own := RX5) hx hb hown (hts _ (List.mem_of_getElem? (i := 2) rfl)) (hK.1.1 3 _ rfl).2 (wk_recv hK (hA.pass e_12) rfl) dX5_bringDownEverywhere_23 ?_
      refine lv_astore_n (lv' := [(3, .ref (X.1 7 k)), (0, .ref (X.1 0 0)), (1, .int ((f_bringTo σ0 k).2)), (2, .int (nI k))]) hx hb dX5_bringDownEverywhere_26 rfl hl (by decide) rfl (fun ls hl => ?_)
      refine lv_aload_n hx hb dX5_bringDownEverywhere_27 rfl (lv_at hl 1 rfl) ?_
      refine lv_aload_n hx hb dX5_bringDownEverywhere_28 rfl (lv_at hl 0 rfl) ?_
      refine wk_V (As := [.ref (X.1 7 k)]) (rest := []) ⟨hx, hb, hml, hown, hts⟩ (c_X5_isHeard l E hA hI e_12) (cwV 1 hts gX5_bringDownEverywhere_X5_isHeard rfl rfl rfl (by decide +kernel) ⟨(Nat.le_of_ble_eq_true rfl), (Nat.le_of_ble_eq_true rfl)⟩) (wk_recv hK hA.desk rfl) hK rfl hl.1 rfl (Nat.le_of_ble_eq_true rfl) dX5_bringDownEverywhere_29 ⟨Nat.zero_le _, Nat.zero_le _⟩ ?_
      refine lv_if_eq (tgt := 63) hx hb dX5_bringDownEverywhere_32 (by decide) (fun c_32 => ?_) (fun c_32 => ?_)
      · skip
        have e_32 : (f_heard σ k) = false := wk_b0 c_32
        refine lv_iinc (v := nI (k + 1)) (lv' := [(2, .int (nI (k + 1))), (3, .ref (X.1 7 k)), (0, .ref (X.1 0 0)), (1, .int ((f_bringTo σ0 k).2))]) hx hb dX5_bringDownEverywhere_63 hl (k := 3) rfl (nI_1 _) (by decide) rfl (fun ls hl => ?_)
        refine lv_goto (tgt := 4) hx hb dX5_bringDownEverywhere_66 (by decide) ?_
        have hl : lv_has ls 4 [(2, .int (nI (k + 1))), (3, .ref (X.1 7 k)), (0, .ref (X.1 0 0)), (1, .int ((f_bringTo σ0 (k + 1)).2))] := by rw [show (f_bringTo σ0 (k + 1)).2 = (f_bringTo σ0 k).2 from (by simp [f_bringTo, ← heq, f_brings, e_32])]; exact hl
        exact ih_4 (k + 1) σ H locs (by omega) (by omega) (by simp [f_bringTo, ← heq, f_brings, e_32]) hA hI hS ls (lv_sub hl [2, 3, 0] rfl)
      have e_32 : (f_heard σ k) = true := wk_b1 c_32
      refine lv_aload_n hx hb dX5_bringDownEverywhere_35 rfl (lv_at hl 1 rfl) ?_
      refine lv_aload_n hx hb dX5_bringDownEverywhere_36 rfl (lv_at hl 0 rfl) ?_
      refine wk_get (own := RX5) (C := RX2) (T := TX2) (N := 7) (ci := 3) (v := .ref (X.1 5 (z_pA σ k))) hx hb hts i_X2 hown hK (hA.pass e_12) rfl 2 (by decide) (hts _ (List.mem_of_getElem? (i := 3) rfl)) (fun _ h9 => h9) rfl dX5_bringDownEverywhere_37 ?_
      refine lv_aload_n hx hb dX5_bringDownEverywhere_40 rfl (lv_at hl 1 rfl) ?_
      refine wk_get (own := RX5) (C := RX5) (T := TX5) (N := 7) (ci := 6) (v := .int (z_now σ)) hx hb hts i_X5 hown hK hA.desk rfl 5 (by decide) (hts _ (List.mem_of_getElem? (i := 4) rfl)) (fun _ h9 => h9) rfl dX5_bringDownEverywhere_41 ?_
      refine lv_aload_n hx hb dX5_bringDownEverywhere_44 rfl (lv_at hl 1 rfl) ?_
      refine wk_get (own := RX5) (C := RX5) (T := TX5) (N := 7) (ci := 6) (v := .int (z_now σ)) hx hb hts i_X5 hown hK hA.desk rfl 5 (by decide) (hts _ (List.mem_of_getElem? (i := 4) rfl)) (fun _ h9 => h9) rfl dX5_bringDownEverywhere_45 ?_
      refine lv_iconst (v := 1) hx hb dX5_bringDownEverywhere_48 (by decide) ?_
      refine lv_iadd hx hb dX5_bringDownEverywhere_49 ?_
      refine wk_V (As := [.ref (X.1 5 (z_pA σ k)), .int (z_now σ), .int ((z_now σ) + 1)]) (rest := []) ⟨hx, hb, hml, hown, hts⟩ (c_X5_isOut l E hA hI (hI.pA e_12) (x := z_now σ) (y := (z_now σ) + 1)) (cwV 3 hts gX5_bringDownEverywhere_X5_isOut rfl rfl rfl (by decide +kernel) ⟨(Nat.le_of_ble_eq_true rfl), (Nat.le_of_ble_eq_true rfl)⟩) (wk_recv hK hA.desk rfl) hK rfl hl.1 rfl (Nat.le_of_ble_eq_true rfl) dX5_bringDownEverywhere_50 ⟨Nat.zero_le _, Nat.zero_le _⟩ ?_
      refine lv_if_ne (tgt := 63) hx hb dX5_bringDownEverywhere_53 (by decide) (fun c_53 => ?_) (fun c_53 => ?_)
      · skip
        have e_53 : (f_out σ (z_pA σ k) (z_now σ) ((z_now σ) + 1)) = true := wk_b1 c_53
        refine lv_iinc (v := nI (k + 1)) (lv' := [(2, .int (nI (k + 1))), (3, .ref (X.1 7 k)), (0, .ref (X.1 0 0)), (1, .int ((f_bringTo σ0 k).2))]) hx hb dX5_bringDownEverywhere_63 hl (k := 3) rfl (nI_1 _) (by decide) rfl (fun ls hl => ?_)
        refine lv_goto (tgt := 4) hx hb dX5_bringDownEverywhere_66 (by decide) ?_
        have hl : lv_has ls 4 [(2, .int (nI (k + 1))), (3, .ref (X.1 7 k)), (0, .ref (X.1 0 0)), (1, .int ((f_bringTo σ0 (k + 1)).2))] := by rw [show (f_bringTo σ0 (k + 1)).2 = (f_bringTo σ0 k).2 from (by simp [f_bringTo, ← heq, f_brings, e_32, e_53])]; exact hl
        exact ih_4 (k + 1) σ H locs (by omega) (by omega) (by simp [f_bringTo, ← heq, f_brings, e_32, e_53]) hA hI hS ls (lv_sub hl [2, 3, 0] rfl)
      have e_53 : (f_out σ (z_pA σ k) (z_now σ) ((z_now σ) + 1)) = false := wk_b0 c_53
      refine lv_iload_n hx hb dX5_bringDownEverywhere_56 rfl (lv_at hl 2 rfl) ?_
      refine lv_aload_n hx hb dX5_bringDownEverywhere_57 rfl (lv_at hl 0 rfl) ?_
      refine we_V (As := []) (rest := [.int ((f_bringTo σ0 k).2)]) ⟨hx, hb, hml, hown, hts⟩ (e_X2_bringDown l E hA hI e_12) (cwV 0 hts gX5_bringDownEverywhere_X2_bringDown rfl rfl rfl (by decide +kernel) ⟨(Nat.le_of_ble_eq_true rfl), (Nat.le_of_ble_eq_true rfl)⟩) (wk_recv hK (hA.pass e_12) rfl) (hV.heap hS.1 (fun q hq => hS.2.1 q (Nat.lt_of_lt_of_le hq hV.2.2.2.2.2.2) (hbA q hq))) hS (fun _ h => Or.inl h) hA9 rfl hl.1 rfl (Nat.le_of_ble_eq_true rfl) dX5_bringDownEverywhere_58 ⟨Nat.zero_le _, Nat.zero_le _⟩ (fun v9 H locs hR9 hz9 hk9 hS => ?_)
      obtain ⟨rfl, hA⟩ := hR9
      have hI := hI.bring1 (k := k)
      refine wk_eqls (st' := [.int (f_come σ k), .int ((f_bringTo σ0 k).2)]) rfl ?_
      refine lv_iadd hx hb dX5_bringDownEverywhere_61 ?_
      refine lv_istore_n (lv' := [(1, .int (((f_bringTo σ0 k).2) + (f_come σ k))), (3, .ref (X.1 7 k)), (0, .ref (X.1 0 0)), (2, .int (nI k))]) hx hb dX5_bringDownEverywhere_62 rfl hl (by decide) rfl (fun ls hl => ?_)
      refine lv_iinc (v := nI (k + 1)) (lv' := [(2, .int (nI (k + 1))), (1, .int (((f_bringTo σ0 k).2) + (f_come σ k))), (3, .ref (X.1 7 k)), (0, .ref (X.1 0 0))]) hx hb dX5_bringDownEverywhere_63 hl (k := 3) rfl (nI_1 _) (by decide) rfl (fun ls hl => ?_)
      refine lv_goto (tgt := 4) hx hb dX5_bringDownEverywhere_66 (by decide) ?_
      have hl : lv_has ls 4 [(2, .int (nI (k + 1))), (1, .int ((f_bringTo σ0 (k + 1)).2)), (3, .ref (X.1 7 k)), (0, .ref (X.1 0 0))] := by rw [show (f_bringTo σ0 (k + 1)).2 = ((f_bringTo σ0 k).2) + (f_come σ k) from (by simp [f_bringTo, ← heq, f_brings, e_32, e_53])]; exact hl
      exact ih_4 (k + 1) (f_bring1 σ k) H locs (by omega) (by omega) (by simp [f_bringTo, ← heq, f_brings, e_32, e_53]) hA hI hS ls (lv_sub hl [3, 1, 0] rfl)
  exact L_4 _ 0 σ0 s.heap ([]) (Nat.lt_succ_self _) (Nat.zero_le _) rfl hA hI hS ls (lv_sub hl [2, 1, 0] rfl)

abbrev rme_X5_run : Room := { frames := 6, cells := 0, slots := 0, locals := 132 }
set_option maxHeartbeats 4000000 in
set_option maxRecDepth 100000 in
theorem e_X5_run (l : Launch) (E : wk_E) {T : Nat → Nat × Nat} {X : z_X} {σ0 : z_S} {H : Heap} (hA : DA E T X σ0 H) (hI : z_Ok σ0) {mn : Nat} (hok : v_in (nI mn) 1 500 = true) (hmn : mn ≤ 500) (hle : (z_now σ0).toInt + mn ≤ 9999) : we_Met l yX5_run wsX5_run rme_X5_run E H [.ref (X.1 0 0), .int (nI mn)] (z_FD T) 0 0 (fun v H1 => v = some (.int (f_run σ0 mn).2) ∧ DA E T X (f_run σ0 mn).1 H1) := by
  refine Met.ofW (cc := cX5_run) (maxL := 4) (ret := (some .int)) (by decide) rfl ?_
  intro p e s m args below meth c s₁ B hml hv
  obtain ⟨rfl, hH, hV⟩ := hv
  subst hH
  have hK := hV.k
  have hx := B.exec
  have hb := B.bytes
  have hr := B.returns
  have hts := atoms_spec (ws := wsX5_run) B.pre
  have hown : s.vm.findClass RX5 = some m.cls := findClass_of_methodNamed B.named
  have hlocks := B.notSynchronized
  have hS : va_S (fun q => (z_FD T) q ∨ s.heap.size ≤ q) s.heap s.heap [] := va_S.rf
  have hA9 : ∀ q : Nat, s.heap.size ≤ q → ((z_FD T) q ∨ s.heap.size ≤ q) := fun _ h => Or.inr h
  have hbA : ∀ q : Nat, q < E.2.2.1 → ¬ ((z_FD T) q ∨ s.heap.size ≤ q) := fun q hq z => z.elim (z_FDb hA.2.1 hq) (fun z => absurd (Nat.lt_of_lt_of_le hq hV.2.2.2.2.2.2) (Nat.not_lt.mpr z))
  have i_X5 : ∀ w ∈ u_ws RX5 TX5 7, w ∈ wsX5_run := fun w h => (List.mem_cons_of_mem _ (List.mem_append_left _ (List.mem_append_left _ (List.mem_append_left _ (List.mem_append_left _ (List.mem_append_left _ (List.mem_append_left _ (List.mem_append_right _ h))))))))
  have hl := lv_entry [.ref (X.1 0 0), .int (nI mn)] (n := 4) (Nat.le_of_ble_eq_true rfl)
  rw [lg_entry_eq]
  generalize (lg_sl [.ref (X.1 0 0), .int (nI mn)] ++ List.replicate (4 - (lg_sl [.ref (X.1 0 0), .int (nI mn)]).length) Slot.unset).toArray = ls at hl ⊢
  have hl : lv_has ls 4 [(0, .ref (X.1 0 0)), (1, .int (nI mn))] := hl
  have b0 := hI.n0
  have b1 := hI.n1
  have b2 := hI.n2
  have b3 := hI.n3
  have hI0 := hI
  refine lv_iload_n hx hb dX5_run_0 rfl (lv_at hl 1 rfl) ?_
  refine lv_iconst (v := 1) hx hb dX5_run_1 (by decide) ?_
  refine lv_sipush (v := 500) hx hb dX5_run_2 (by decide) ?_
  refine wk_S (As := [.int (nI mn), .int 1, .int 500]) (rest := []) ⟨hx, hb, hml, hown, hts⟩ (c_X5_isWithin l E (x := nI mn) (y := 1) (z := 500)) (va_cwS 3 hts gX5_run_X5_isWithin rfl rfl rfl (by decide +kernel) ⟨(Nat.le_of_ble_eq_true rfl), (Nat.le_of_ble_eq_true rfl)⟩) hK rfl hl.1 rfl (Nat.le_of_ble_eq_true rfl) dX5_run_5 ⟨Nat.zero_le _, Nat.zero_le _⟩ ?_
  refine lv_if_ne (tgt := 21) hx hb dX5_run_8 (by decide) (fun c_8 => ?_) (fun c_8 => ?_)
  · skip
    have e_8 : (v_in (nI mn) 1 500) = true := wk_b1 c_8
    refine lv_aload_n hx hb dX5_run_21 rfl (lv_at hl 0 rfl) ?_
    refine wk_get (own := RX5) (C := RX5) (T := TX5) (N := 7) (ci := 6) (v := .int (z_now σ0)) hx hb hts i_X5 hown hK hA.desk rfl 5 (by decide) (hts _ (List.mem_of_getElem? (i := 5) rfl)) (fun _ h9 => h9) rfl dX5_run_22 ?_
    refine lv_iload_n hx hb dX5_run_25 rfl (lv_at hl 1 rfl) ?_
    refine lv_iadd hx hb dX5_run_26 ?_
    refine lv_sipush (v := 9999) hx hb dX5_run_27 (by decide) ?_
    refine lv_icmp_le (tgt := 43) hx hb dX5_run_30 (by decide) (fun c_30 => ?_) (fun c_30 => ?_)
    · skip
      have d_30 := Int32.not_lt.mpr c_30
      refine lv_iconst (v := 0) hx hb dX5_run_43 (by decide) ?_
      refine lv_istore_n (lv' := [(2, .int 0), (0, .ref (X.1 0 0)), (1, .int (nI mn))]) hx hb dX5_run_44 rfl hl (by decide) rfl (fun ls hl => ?_)
      refine lv_iconst (v := 0) hx hb dX5_run_45 (by decide) ?_
      refine lv_istore_n (lv' := [(3, .int 0), (2, .int 0), (0, .ref (X.1 0 0)), (1, .int (nI mn))]) hx hb dX5_run_46 rfl hl (by decide) rfl (fun ls hl => ?_)
      have L_47 : ∀ (n_47 : Nat) (k : Nat) (σ : z_S) (H : Heap) (locs : List Loc), mn - k < n_47 → (k ≤ mn) → (σ = (f_run σ0 k).1) → (DA E T X σ H) → (z_Ok σ) → (va_S (fun q => (z_FD T) q ∨ s.heap.size ≤ q) s.heap H locs) → ∀ ls : Array Slot, lv_has ls 4 [(0, .ref (X.1 0 0)), (1, .int (nI mn)), (2, .int ((f_run σ0 k).2)), (3, .int (nI k))] → W p l e (headSpec wsX5_run rme_X5_run).room s m ([.ref (X.1 0 0), .int (nI mn)] : List Value).toArray below meth c H locs 0 0 (MQ below (fun _ _ oc t => (∃ v, oc = .returned v ∧ (fun v H1 => v = some (.int (f_run σ0 mn).2) ∧ DA E T X (f_run σ0 mn).1 H1) v t.heap) ∧ s.heap.size ≤ t.heap.size ∧ ∀ q : Nat, q < s.heap.size → ¬ (z_FD T) q → t.heap[q]? = s.heap[q]?) ([.ref (X.1 0 0), .int (nI mn)] : List Value).toArray s 0 0 (fun q => (z_FD T) q ∨ s.heap.size ≤ q)) (F0 m 47 ls []) := by
        intro n_47
        induction n_47 with
        | zero => intro k σ H locs hm; exact absurd hm (Nat.not_lt_zero _)
        | succ n_47 ih_47 =>
          intro k σ H locs hm_47 hk_k heq hA hI hS ls hl
          have b0 := hI.n0
          have b1 := hI.n1
          have b2 := hI.n2
          have b3 := hI.n3
          refine lv_iload_n hx hb dX5_run_47 rfl (lv_at hl 3 rfl) ?_
          refine lv_iload_n hx hb dX5_run_48 rfl (lv_at hl 1 rfl) ?_
          refine lv_icmp_ge (tgt := 79) hx hb dX5_run_49 (by decide) (fun c_49 => ?_) (fun c_49 => ?_)
          · skip
            have e_49 : mn ≤ k := wk_cget (by omega) (by omega) c_49
            have hkN : k = mn := by omega
            refine lv_iload_n hx hb dX5_run_79 rfl (lv_at hl 2 rfl) ?_
            exact W.iret hx hb hr (we_end (Rt := fun v H1 => v = some (.int (f_run σ0 mn).2) ∧ DA E T X (f_run σ0 mn).1 H1) (F := z_FD T) (⟨by rw [hkN], by rw [heq, hkN] at hA; exact hA⟩) hS) hS.2.2 dX5_run_80
          have e_49 : k < mn := wk_cgef (by omega) (by omega) c_49
          refine lv_aload_n hx hb dX5_run_52 rfl (lv_at hl 0 rfl) ?_
          refine we_V (As := []) (rest := []) ⟨hx, hb, hml, hown, hts⟩ (e_X5_gatherEverywhere l E hA hI) (cwV 0 hts gX5_run_X5_gatherEverywhere rfl rfl rfl (by decide +kernel) ⟨(Nat.le_of_ble_eq_true rfl), (Nat.le_of_ble_eq_true rfl)⟩) (wk_recv hK hA.desk rfl) (hV.heap hS.1 (fun q hq => hS.2.1 q (Nat.lt_of_lt_of_le hq hV.2.2.2.2.2.2) (hbA q hq))) hS (fun _ h => Or.inl h) hA9 rfl hl.1 rfl (Nat.le_of_ble_eq_true rfl) dX5_run_53 ⟨Nat.zero_le _, Nat.zero_le _⟩ (fun v9 H locs hR9 hz9 hk9 hS => ?_)
          obtain ⟨rfl, hA⟩ := hR9
          have hI : z_Ok (f_gath σ) := hI.gatherTo _
          refine lv_iload_n hx hb dX5_run_56 rfl (lv_at hl 2 rfl) ?_
          refine lv_aload_n hx hb dX5_run_57 rfl (lv_at hl 0 rfl) ?_
          refine we_V (As := []) (rest := [.int ((f_run σ0 k).2)]) ⟨hx, hb, hml, hown, hts⟩ (e_X5_bringDownEverywhere l E hA hI) (cwV 0 hts gX5_run_X5_bringDownEverywhere rfl rfl rfl (by decide +kernel) ⟨(Nat.le_of_ble_eq_true rfl), (Nat.le_of_ble_eq_true rfl)⟩) (wk_recv hK hA.desk rfl) (hV.heap hS.1 (fun q hq => hS.2.1 q (Nat.lt_of_lt_of_le hq hV.2.2.2.2.2.2) (hbA q hq))) hS (fun _ h => Or.inl h) hA9 rfl hl.1 rfl (Nat.le_of_ble_eq_true rfl) dX5_run_58 ⟨Nat.zero_le _, Nat.zero_le _⟩ (fun v9 H locs hR9 hz9 hk9 hS => ?_)
          obtain ⟨rfl, hA⟩ := hR9
          have hI : z_Ok (f_down (f_gath σ)).1 := hI.bringTo _
          refine wk_eqls (st' := [.int ((f_down (f_gath σ)).2), .int ((f_run σ0 k).2)]) rfl ?_
          refine lv_iadd hx hb dX5_run_61 ?_
          refine lv_istore_n (lv' := [(2, .int (((f_run σ0 k).2) + ((f_down (f_gath σ)).2))), (0, .ref (X.1 0 0)), (1, .int (nI mn)), (3, .int (nI k))]) hx hb dX5_run_62 rfl hl (by decide) rfl (fun ls hl => ?_)
          refine lv_aload_n hx hb dX5_run_63 rfl (lv_at hl 1 rfl) ?_
          refine lv_dup hx hb dX5_run_64 rfl ?_
          refine wk_get (own := RX5) (C := RX5) (T := TX5) (N := 7) (ci := 6) (v := .int (z_now ((f_down (f_gath σ)).1))) hx hb hts i_X5 hown hK hA.desk rfl 5 (by decide) (hts _ (List.mem_of_getElem? (i := 5) rfl)) (fun _ h9 => h9) rfl dX5_run_65 ?_
          refine lv_iconst (v := 1) hx hb dX5_run_68 (by decide) ?_
          refine lv_iadd hx hb dX5_run_69 ?_
          refine wk_put (own := RX5) (C := RX5) (T := TX5) (N := 7) (ci := 6) (v := .int ((z_now ((f_down (f_gath σ)).1)) + 1)) hx hb hts i_X5 tyX5 tyX5_ok nmX5 hown hK hA.desk (Or.inl (hA.tag (i := 0) (k := 0) rfl)) hS rfl 5 (by decide) (hts _ (List.mem_of_getElem? (i := 5) rfl)) (fun _ h9 => h9) rfl (tyX5_ok 5 (by decide)) rfl rfl (Nat.le_of_ble_eq_true rfl) dX5_run_70 (fun H locs hP9 hz9 hk9 hS => ?_)
          have hA := hA.setNow hP9 hk9
          have hI0 : z_Ok σ0 := hI0
          have hI : z_Ok (f_run σ0 (k + 1)).1 := hI0.run (by omega)
          rw [show (f_run σ0 (k + 1)).1 = s1 ((f_down (f_gath σ)).1) 0 0 ((z_now ((f_down (f_gath σ)).1)) + 1) from (by rw [heq]; exact (f_run_step σ0 k).symm)] at hI
          refine lv_iinc (v := nI (k + 1)) (lv' := [(3, .int (nI (k + 1))), (2, .int (((f_run σ0 k).2) + ((f_down (f_gath σ)).2))), (0, .ref (X.1 0 0)), (1, .int (nI mn))]) hx hb dX5_run_73 hl (k := 3) rfl (nI_1 _) (by decide) rfl (fun ls hl => ?_)
          refine lv_goto (tgt := 47) hx hb dX5_run_76 (by decide) ?_
          have hl : lv_has ls 4 [(3, .int (nI (k + 1))), (2, .int ((f_run σ0 (k + 1)).2)), (0, .ref (X.1 0 0)), (1, .int (nI mn))] := by rw [show (f_run σ0 (k + 1)).2 = ((f_run σ0 k).2) + ((f_down (f_gath σ)).2) from (by rw [heq]; rfl)]; exact hl
          exact ih_47 (k + 1) (s1 ((f_down (f_gath σ)).1) 0 0 ((z_now ((f_down (f_gath σ)).1)) + 1)) H locs (by omega) (by omega) (by rw [heq]; exact f_run_step σ0 k) hA hI hS ls (lv_sub hl [2, 3, 1, 0] rfl)
      exact L_47 _ 0 σ0 s.heap ([]) (Nat.lt_succ_self _) (Nat.zero_le _) rfl hA hI hS ls (lv_sub hl [2, 3, 1, 0] rfl)
    have d_30 := Int32.not_le.mp c_30
    exact absurd (wk_runle hI hmn hle) c_30
  have e_8 : (v_in (nI mn) 1 500) = false := wk_b0 c_8
  exact absurd (hok.symm.trans e_8) (by decide)
