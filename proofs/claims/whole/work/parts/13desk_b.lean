abbrev rmt_X5_run : Room := { frames := 6, cells := 1, slots := 6, locals := 90 }
set_option maxHeartbeats 4000000 in
set_option maxRecDepth 100000 in
theorem t_X5_run (l : Launch) (hlf : l.stackTraces = false) (E : wk_E) {T : Nat → Nat × Nat} {X : z_X} {σ : z_S} {H : Heap} (hA : DA E T X σ H) (hI : z_Ok σ) {x : Int32} (hbad : v_in x 1 500 = false) : wx_Met l yX5_run wsX5_run rmt_X5_run E H [.ref (X.1 0 0), .int x] "java/lang/IllegalArgumentException" := by
  refine vx_ofW (cc := cX5_run) (maxL := 4) (ret := (some .int)) (by decide) rfl ?_
  intro p e s m args below meth c s₁ B hml htab hv
  obtain ⟨rfl, hH, hV⟩ := hv
  subst hH
  have hK := hV.k
  have hx := B.exec
  have hb := B.bytes
  have hr := B.returns
  have hts := atoms_spec (ws := wsX5_run) B.pre
  have hown : s.vm.findClass RX5 = some m.cls := findClass_of_methodNamed B.named
  have hlocks := B.notSynchronized
  have hl := lv_entry [.ref (X.1 0 0), .int x] (n := 4) (Nat.le_of_ble_eq_true rfl)
  rw [lg_entry_eq]
  generalize (lg_sl [.ref (X.1 0 0), .int x] ++ List.replicate (4 - (lg_sl [.ref (X.1 0 0), .int x]).length) Slot.unset).toArray = ls at hl ⊢
  have hl : lv_has ls 4 [(0, .ref (X.1 0 0)), (1, .int x)] := hl
  have b0 := hI.n0
  have b1 := hI.n1
  have b2 := hI.n2
  have b3 := hI.n3
  refine lv_iload_n hx hb dX5_run_0 rfl (lv_at hl 1 rfl) ?_
  refine lv_iconst (v := 1) hx hb dX5_run_1 (by decide) ?_
  refine lv_sipush (v := 500) hx hb dX5_run_2 (by decide) ?_
  refine wk_S (As := [.int x, .int 1, .int 500]) (rest := []) ⟨hx, hb, hml, hown, hts⟩ (c_X5_isWithin l E (x := x) (y := 1) (z := 500)) (va_cwS 3 hts gX5_run_X5_isWithin rfl rfl rfl (by decide +kernel) ⟨(Nat.le_of_ble_eq_true rfl), (Nat.le_of_ble_eq_true rfl)⟩) hK rfl hl.1 rfl (Nat.le_of_ble_eq_true rfl) dX5_run_5 ⟨Nat.zero_le _, Nat.zero_le _⟩ ?_
  refine lv_if_ne (tgt := 21) hx hb dX5_run_8 (by decide) (fun c_8 => ?_) (fun c_8 => ?_)
  · skip
    have e_8 : (v_in x 1 500) = true := wk_b1 c_8
    exact absurd (hbad.symm.trans e_8) (by decide)
  have e_8 : (v_in x 1 500) = false := wk_b0 c_8
  exact wx_throw (nL := 4) hx hb hlf hown hml hl.1 (by decide) (by decide) (hts _ (List.mem_of_getElem? (i := 1) rfl)) (hts _ (List.mem_of_getElem? (i := 2) rfl)) (List.mem_of_getElem? (i := 20) rfl) (fun w h => hts w (List.mem_cons_of_mem _ (List.mem_append_left _ (List.mem_append_right _ h)))) wx_bad_IAE wx_good_IAE hV htab hlocks dX5_run_11 dX5_run_14 dX5_run_15 dX5_run_17 dX5_run_20 ⟨(Nat.le_of_ble_eq_true rfl), (Nat.le_of_ble_eq_true rfl), (Nat.le_of_ble_eq_true rfl), (Nat.le_of_ble_eq_true rfl)⟩

abbrev rmt2_X5_run : Room := { frames := 6, cells := 1, slots := 6, locals := 90 }
set_option maxHeartbeats 4000000 in
set_option maxRecDepth 100000 in
theorem t2_X5_run (l : Launch) (hlf : l.stackTraces = false) (E : wk_E) {T : Nat → Nat × Nat} {X : z_X} {σ : z_S} {H : Heap} (hA : DA E T X σ H) (hI : z_Ok σ) {x : Int32} (hok : v_in x 1 500 = true) (hbad : ¬ z_now σ + x ≤ 9999) : wx_Met l yX5_run wsX5_run rmt2_X5_run E H [.ref (X.1 0 0), .int x] "java/lang/IllegalStateException" := by
  refine vx_ofW (cc := cX5_run) (maxL := 4) (ret := (some .int)) (by decide) rfl ?_
  intro p e s m args below meth c s₁ B hml htab hv
  obtain ⟨rfl, hH, hV⟩ := hv
  subst hH
  have hK := hV.k
  have hx := B.exec
  have hb := B.bytes
  have hr := B.returns
  have hts := atoms_spec (ws := wsX5_run) B.pre
  have hown : s.vm.findClass RX5 = some m.cls := findClass_of_methodNamed B.named
  have hlocks := B.notSynchronized
  have i_X5 : ∀ w ∈ u_ws RX5 TX5 7, w ∈ wsX5_run := fun w h => (List.mem_cons_of_mem _ (List.mem_append_left _ (List.mem_append_left _ (List.mem_append_left _ (List.mem_append_left _ (List.mem_append_left _ (List.mem_append_left _ (List.mem_append_left _ (List.mem_append_right _ h)))))))))
  have hl := lv_entry [.ref (X.1 0 0), .int x] (n := 4) (Nat.le_of_ble_eq_true rfl)
  rw [lg_entry_eq]
  generalize (lg_sl [.ref (X.1 0 0), .int x] ++ List.replicate (4 - (lg_sl [.ref (X.1 0 0), .int x]).length) Slot.unset).toArray = ls at hl ⊢
  have hl : lv_has ls 4 [(0, .ref (X.1 0 0)), (1, .int x)] := hl
  have b0 := hI.n0
  have b1 := hI.n1
  have b2 := hI.n2
  have b3 := hI.n3
  refine lv_iload_n hx hb dX5_run_0 rfl (lv_at hl 1 rfl) ?_
  refine lv_iconst (v := 1) hx hb dX5_run_1 (by decide) ?_
  refine lv_sipush (v := 500) hx hb dX5_run_2 (by decide) ?_
  refine wk_S (As := [.int x, .int 1, .int 500]) (rest := []) ⟨hx, hb, hml, hown, hts⟩ (c_X5_isWithin l E (x := x) (y := 1) (z := 500)) (va_cwS 3 hts gX5_run_X5_isWithin rfl rfl rfl (by decide +kernel) ⟨(Nat.le_of_ble_eq_true rfl), (Nat.le_of_ble_eq_true rfl)⟩) hK rfl hl.1 rfl (Nat.le_of_ble_eq_true rfl) dX5_run_5 ⟨Nat.zero_le _, Nat.zero_le _⟩ ?_
  refine lv_if_ne (tgt := 21) hx hb dX5_run_8 (by decide) (fun c_8 => ?_) (fun c_8 => ?_)
  · skip
    have e_8 : (v_in x 1 500) = true := wk_b1 c_8
    refine lv_aload_n hx hb dX5_run_21 rfl (lv_at hl 0 rfl) ?_
    refine wk_get (own := RX5) (C := RX5) (T := TX5) (N := 7) (ci := 6) (v := .int (z_now σ)) hx hb hts i_X5 hown hK hA.desk rfl 5 (by decide) (hts _ (List.mem_of_getElem? (i := 5) rfl)) (fun _ h9 => h9) rfl dX5_run_22 ?_
    refine lv_iload_n hx hb dX5_run_25 rfl (lv_at hl 1 rfl) ?_
    refine lv_iadd hx hb dX5_run_26 ?_
    refine lv_sipush (v := 9999) hx hb dX5_run_27 (by decide) ?_
    refine lv_icmp_le (tgt := 43) hx hb dX5_run_30 (by decide) (fun c_30 => ?_) (fun c_30 => ?_)
    · skip
      have d_30 := Int32.not_lt.mpr c_30
      exact absurd c_30 hbad
    have d_30 := Int32.not_le.mp c_30
    exact wx_throw (nL := 4) hx hb hlf hown hml hl.1 (by decide) (by decide) (hts _ (List.mem_of_getElem? (i := 3) rfl)) (hts _ (List.mem_of_getElem? (i := 4) rfl)) (List.mem_of_getElem? (i := 21) rfl) (fun w h => hts w (List.mem_cons_of_mem _ (List.mem_append_right _ h))) wx_bad_ISE wx_good_ISE hV htab hlocks dX5_run_33 dX5_run_36 dX5_run_37 dX5_run_39 dX5_run_42 ⟨(Nat.le_of_ble_eq_true rfl), (Nat.le_of_ble_eq_true rfl), (Nat.le_of_ble_eq_true rfl), (Nat.le_of_ble_eq_true rfl)⟩
  have e_8 : (v_in x 1 500) = false := wk_b0 c_8
  exact absurd (hok.symm.trans e_8) (by decide)

abbrev rme_X5_setHandover : Room := { frames := 1, cells := 0, slots := 0, locals := 22 }
set_option maxHeartbeats 4000000 in
set_option maxRecDepth 100000 in
theorem e_X5_setHandover (l : Launch) (E : wk_E) {T : Nat → Nat × Nat} {X : z_X} {σ : z_S} {H : Heap} (hA : DA E T X σ H) (hI : z_Ok σ) {x : Int32} (hok : v_in x 0 60 = true) : we_Met l yX5_setHandover wsX5_setHandover rme_X5_setHandover E H [.ref (X.1 0 0), .int x] (z_FD T) 0 0 (fun v H1 => v = some (.int (z_ho σ)) ∧ DA E T X (s1 σ 1 0 x) H1) := by
  refine Met.ofW (cc := cX5_setHandover) (maxL := 3) (ret := (some .int)) (by decide) rfl ?_
  intro p e s m args below meth c s₁ B hml hv
  obtain ⟨rfl, hH, hV⟩ := hv
  subst hH
  have hK := hV.k
  have hx := B.exec
  have hb := B.bytes
  have hr := B.returns
  have hts := atoms_spec (ws := wsX5_setHandover) B.pre
  have hown : s.vm.findClass RX5 = some m.cls := findClass_of_methodNamed B.named
  have hlocks := B.notSynchronized
  have hS : va_S (fun q => (z_FD T) q ∨ s.heap.size ≤ q) s.heap s.heap [] := va_S.rf
  have hA9 : ∀ q : Nat, s.heap.size ≤ q → ((z_FD T) q ∨ s.heap.size ≤ q) := fun _ h => Or.inr h
  have hbA : ∀ q : Nat, q < E.2.2.1 → ¬ ((z_FD T) q ∨ s.heap.size ≤ q) := fun q hq z => z.elim (z_FDb hA.2.1 hq) (fun z => absurd (Nat.lt_of_lt_of_le hq hV.2.2.2.2.2.2) (Nat.not_lt.mpr z))
  have i_X5 : ∀ w ∈ u_ws RX5 TX5 7, w ∈ wsX5_setHandover := fun w h => (List.mem_cons_of_mem _ (List.mem_append_left _ (List.mem_append_right _ h)))
  have hl := lv_entry [.ref (X.1 0 0), .int x] (n := 3) (Nat.le_of_ble_eq_true rfl)
  rw [lg_entry_eq]
  generalize (lg_sl [.ref (X.1 0 0), .int x] ++ List.replicate (3 - (lg_sl [.ref (X.1 0 0), .int x]).length) Slot.unset).toArray = ls at hl ⊢
  have hl : lv_has ls 3 [(0, .ref (X.1 0 0)), (1, .int x)] := hl
  have b0 := hI.n0
  have b1 := hI.n1
  have b2 := hI.n2
  have b3 := hI.n3
  refine lv_iload_n hx hb dX5_setHandover_0 rfl (lv_at hl 1 rfl) ?_
  refine lv_iconst (v := 0) hx hb dX5_setHandover_1 (by decide) ?_
  refine lv_bipush (v := 60) hx hb dX5_setHandover_2 (by decide) ?_
  refine wk_S (As := [.int x, .int 0, .int 60]) (rest := []) ⟨hx, hb, hml, hown, hts⟩ (c_X5_isWithin l E (x := x) (y := 0) (z := 60)) (va_cwS 3 hts gX5_setHandover_X5_isWithin rfl rfl rfl (by decide +kernel) ⟨(Nat.le_of_ble_eq_true rfl), (Nat.le_of_ble_eq_true rfl)⟩) hK rfl hl.1 rfl (Nat.le_of_ble_eq_true rfl) dX5_setHandover_4 ⟨Nat.zero_le _, Nat.zero_le _⟩ ?_
  refine lv_if_ne (tgt := 20) hx hb dX5_setHandover_7 (by decide) (fun c_7 => ?_) (fun c_7 => ?_)
  · skip
    have e_7 : (v_in x 0 60) = true := wk_b1 c_7
    refine lv_aload_n hx hb dX5_setHandover_20 rfl (lv_at hl 0 rfl) ?_
    refine wk_get (own := RX5) (C := RX5) (T := TX5) (N := 7) (ci := 6) (v := .int (z_ho σ)) hx hb hts i_X5 hown hK hA.desk rfl 6 (by decide) (hts _ (List.mem_of_getElem? (i := 3) rfl)) (fun _ h9 => h9) rfl dX5_setHandover_21 ?_
    refine lv_istore_n (lv' := [(2, .int (z_ho σ)), (0, .ref (X.1 0 0)), (1, .int x)]) hx hb dX5_setHandover_24 rfl hl (by decide) rfl (fun ls hl => ?_)
    refine lv_aload_n hx hb dX5_setHandover_25 rfl (lv_at hl 1 rfl) ?_
    refine lv_iload_n hx hb dX5_setHandover_26 rfl (lv_at hl 2 rfl) ?_
    refine wk_put (own := RX5) (C := RX5) (T := TX5) (N := 7) (ci := 6) (v := .int x) hx hb hts i_X5 tyX5 tyX5_ok nmX5 hown hK hA.desk (Or.inl (hA.tag (i := 0) (k := 0) rfl)) hS rfl 6 (by decide) (hts _ (List.mem_of_getElem? (i := 3) rfl)) (fun _ h9 => h9) rfl (tyX5_ok 6 (by decide)) rfl rfl (Nat.le_of_ble_eq_true rfl) dX5_setHandover_27 (fun H locs hP9 hz9 hk9 hS => ?_)
    have hA := hA.setHo hP9 hk9
    refine lv_iload_n hx hb dX5_setHandover_30 rfl (lv_at hl 0 rfl) ?_
    exact W.iret hx hb hr (we_end (Rt := fun v H1 => v = some (.int (z_ho σ)) ∧ DA E T X (s1 σ 1 0 x) H1) (F := z_FD T) (⟨rfl, hA⟩) hS) hS.2.2 dX5_setHandover_31
  have e_7 : (v_in x 0 60) = false := wk_b0 c_7
  exact absurd (hok.symm.trans e_7) (by decide)

abbrev rmt_X5_setHandover : Room := { frames := 6, cells := 1, slots := 6, locals := 90 }
set_option maxHeartbeats 4000000 in
set_option maxRecDepth 100000 in
theorem t_X5_setHandover (l : Launch) (hlf : l.stackTraces = false) (E : wk_E) {T : Nat → Nat × Nat} {X : z_X} {σ : z_S} {H : Heap} (hA : DA E T X σ H) (hI : z_Ok σ) {x : Int32} (hbad : v_in x 0 60 = false) : wx_Met l yX5_setHandover wsX5_setHandover rmt_X5_setHandover E H [.ref (X.1 0 0), .int x] "java/lang/IllegalArgumentException" := by
  refine vx_ofW (cc := cX5_setHandover) (maxL := 3) (ret := (some .int)) (by decide) rfl ?_
  intro p e s m args below meth c s₁ B hml htab hv
  obtain ⟨rfl, hH, hV⟩ := hv
  subst hH
  have hK := hV.k
  have hx := B.exec
  have hb := B.bytes
  have hr := B.returns
  have hts := atoms_spec (ws := wsX5_setHandover) B.pre
  have hown : s.vm.findClass RX5 = some m.cls := findClass_of_methodNamed B.named
  have hlocks := B.notSynchronized
  have hl := lv_entry [.ref (X.1 0 0), .int x] (n := 3) (Nat.le_of_ble_eq_true rfl)
  rw [lg_entry_eq]
  generalize (lg_sl [.ref (X.1 0 0), .int x] ++ List.replicate (3 - (lg_sl [.ref (X.1 0 0), .int x]).length) Slot.unset).toArray = ls at hl ⊢
  have hl : lv_has ls 3 [(0, .ref (X.1 0 0)), (1, .int x)] := hl
  have b0 := hI.n0
  have b1 := hI.n1
  have b2 := hI.n2
  have b3 := hI.n3
  refine lv_iload_n hx hb dX5_setHandover_0 rfl (lv_at hl 1 rfl) ?_
  refine lv_iconst (v := 0) hx hb dX5_setHandover_1 (by decide) ?_
  refine lv_bipush (v := 60) hx hb dX5_setHandover_2 (by decide) ?_
  refine wk_S (As := [.int x, .int 0, .int 60]) (rest := []) ⟨hx, hb, hml, hown, hts⟩ (c_X5_isWithin l E (x := x) (y := 0) (z := 60)) (va_cwS 3 hts gX5_setHandover_X5_isWithin rfl rfl rfl (by decide +kernel) ⟨(Nat.le_of_ble_eq_true rfl), (Nat.le_of_ble_eq_true rfl)⟩) hK rfl hl.1 rfl (Nat.le_of_ble_eq_true rfl) dX5_setHandover_4 ⟨Nat.zero_le _, Nat.zero_le _⟩ ?_
  refine lv_if_ne (tgt := 20) hx hb dX5_setHandover_7 (by decide) (fun c_7 => ?_) (fun c_7 => ?_)
  · skip
    have e_7 : (v_in x 0 60) = true := wk_b1 c_7
    exact absurd (hbad.symm.trans e_7) (by decide)
  have e_7 : (v_in x 0 60) = false := wk_b0 c_7
  exact wx_throw (nL := 3) hx hb hlf hown hml hl.1 (by decide) (by decide) (hts _ (List.mem_of_getElem? (i := 1) rfl)) (hts _ (List.mem_of_getElem? (i := 2) rfl)) (List.mem_of_getElem? (i := 14) rfl) (fun w h => hts w (List.mem_cons_of_mem _ (List.mem_append_right _ h))) wx_bad_IAE wx_good_IAE hV htab hlocks dX5_setHandover_10 dX5_setHandover_13 dX5_setHandover_14 dX5_setHandover_16 dX5_setHandover_19 ⟨(Nat.le_of_ble_eq_true rfl), (Nat.le_of_ble_eq_true rfl), (Nat.le_of_ble_eq_true rfl), (Nat.le_of_ble_eq_true rfl)⟩

abbrev rme_X5_giveUp : Room := { frames := 4, cells := 0, slots := 0, locals := 86 }
set_option maxHeartbeats 4000000 in
set_option maxRecDepth 100000 in
theorem e_X5_giveUp (l : Launch) (E : wk_E) {T : Nat → Nat × Nat} {X : z_X} {σ : z_S} {H : Heap} (hA : DA E T X σ H) (hI : z_Ok σ) {i : Nat} (hi : i < z_n σ 2) (htk : z_tk σ i = true) (hnb : z_now σ ≤ z_pb σ i) : we_Met l yX5_giveUp wsX5_giveUp rme_X5_giveUp E H [.ref (X.1 0 0), .int (nI i)] (z_FD T) 0 0 (fun v H1 => v = some (.int (nI (z_mk (f_give σ i)))) ∧ DA E T X (f_give σ i) H1) := by
  refine Met.ofW (cc := cX5_giveUp) (maxL := 3) (ret := (some .int)) (by decide) rfl ?_
  intro p e s m args below meth c s₁ B hml hv
  obtain ⟨rfl, hH, hV⟩ := hv
  subst hH
  have hK := hV.k
  have hx := B.exec
  have hb := B.bytes
  have hr := B.returns
  have hts := atoms_spec (ws := wsX5_giveUp) B.pre
  have hown : s.vm.findClass RX5 = some m.cls := findClass_of_methodNamed B.named
  have hlocks := B.notSynchronized
  have hS : va_S (fun q => (z_FD T) q ∨ s.heap.size ≤ q) s.heap s.heap [] := va_S.rf
  have hA9 : ∀ q : Nat, s.heap.size ≤ q → ((z_FD T) q ∨ s.heap.size ≤ q) := fun _ h => Or.inr h
  have hbA : ∀ q : Nat, q < E.2.2.1 → ¬ ((z_FD T) q ∨ s.heap.size ≤ q) := fun q hq z => z.elim (z_FDb hA.2.1 hq) (fun z => absurd (Nat.lt_of_lt_of_le hq hV.2.2.2.2.2.2) (Nat.not_lt.mpr z))
  have i_X2 : ∀ w ∈ u_ws RX2 TX2 7, w ∈ wsX5_giveUp := fun w h => (List.mem_cons_of_mem _ (List.mem_append_left _ (List.mem_append_left _ (List.mem_append_left _ (List.mem_append_left _ (List.mem_append_right _ h))))))
  have i_X5 : ∀ w ∈ u_ws RX5 TX5 7, w ∈ wsX5_giveUp := fun w h => (List.mem_cons_of_mem _ (List.mem_append_left _ (List.mem_append_left _ (List.mem_append_left _ (List.mem_append_right _ h)))))
  have hl := lv_entry [.ref (X.1 0 0), .int (nI i)] (n := 3) (Nat.le_of_ble_eq_true rfl)
  rw [lg_entry_eq]
  generalize (lg_sl [.ref (X.1 0 0), .int (nI i)] ++ List.replicate (3 - (lg_sl [.ref (X.1 0 0), .int (nI i)]).length) Slot.unset).toArray = ls at hl ⊢
  have hl : lv_has ls 3 [(0, .ref (X.1 0 0)), (1, .int (nI i))] := hl
  have b0 := hI.n0
  have b1 := hI.n1
  have b2 := hI.n2
  have b3 := hI.n3
  refine lv_aload_n hx hb dX5_giveUp_0 rfl (lv_at hl 0 rfl) ?_
  refine lv_iload_n hx hb dX5_giveUp_1 rfl (lv_at hl 1 rfl) ?_
  refine wk_V (As := [.int (nI i)]) (rest := []) ⟨hx, hb, hml, hown, hts⟩ (c_X5_passAt l E hA hI hi) (cwV 1 hts gX5_giveUp_X5_passAt rfl rfl rfl (by decide +kernel) ⟨(Nat.le_of_ble_eq_true rfl), (Nat.le_of_ble_eq_true rfl)⟩) (wk_recv hK hA.desk rfl) hK rfl hl.1 rfl (Nat.le_of_ble_eq_true rfl) dX5_giveUp_2 ⟨Nat.zero_le _, Nat.zero_le _⟩ ?_
  refine lv_astore_n (lv' := [(2, .ref (X.1 7 i)), (0, .ref (X.1 0 0)), (1, .int (nI i))]) hx hb dX5_giveUp_5 rfl hl (by decide) rfl (fun ls hl => ?_)
  refine lv_aload_n hx hb dX5_giveUp_6 rfl (lv_at hl 0 rfl) ?_
  refine wk_get (own := RX5) (C := RX2) (T := TX2) (N := 7) (ci := 3) (v := .int (wk_b (z_tk σ i))) hx hb hts i_X2 hown hK (hA.pass hi) rfl 5 (by decide) (hts _ (List.mem_of_getElem? (i := 3) rfl)) (fun _ h9 => h9) rfl dX5_giveUp_7 ?_
  refine lv_if_eq (tgt := 24) hx hb dX5_giveUp_10 (by decide) (fun c_10 => ?_) (fun c_10 => ?_)
  · skip
    have e_10 : (z_tk σ i) = false := wk_b0 c_10
    exact absurd (htk.symm.trans e_10) (by decide)
  have e_10 : (z_tk σ i) = true := wk_b1 c_10
  refine lv_aload_n hx hb dX5_giveUp_13 rfl (lv_at hl 0 rfl) ?_
  refine wk_get (own := RX5) (C := RX2) (T := TX2) (N := 7) (ci := 3) (v := .int (z_pb σ i)) hx hb hts i_X2 hown hK (hA.pass hi) rfl 3 (by decide) (hts _ (List.mem_of_getElem? (i := 4) rfl)) (fun _ h9 => h9) rfl dX5_giveUp_14 ?_
  refine lv_aload_n hx hb dX5_giveUp_17 rfl (lv_at hl 1 rfl) ?_
  refine wk_get (own := RX5) (C := RX5) (T := TX5) (N := 7) (ci := 6) (v := .int (z_now σ)) hx hb hts i_X5 hown hK hA.desk rfl 5 (by decide) (hts _ (List.mem_of_getElem? (i := 5) rfl)) (fun _ h9 => h9) rfl dX5_giveUp_18 ?_
  refine lv_icmp_ge (tgt := 34) hx hb dX5_giveUp_21 (by decide) (fun c_21 => ?_) (fun c_21 => ?_)
  · skip
    have d_21 := Int32.not_lt.mpr c_21
    refine lv_aload_n hx hb dX5_giveUp_34 rfl (lv_at hl 0 rfl) ?_
    refine lv_iconst (v := 0) hx hb dX5_giveUp_35 (by decide) ?_
    refine wk_put (own := RX5) (C := RX2) (T := TX2) (N := 7) (ci := 3) (v := .int 0) hx hb hts i_X2 tyX2 tyX2_ok nmX2 hown hK (hA.pass hi) (Or.inl (hA.tag (i := 7) (k := i) (if_pos hi))) hS rfl 5 (by decide) (hts _ (List.mem_of_getElem? (i := 3) rfl)) (fun _ h9 => h9) rfl (tyX2_ok 5 (by decide)) rfl rfl (Nat.le_of_ble_eq_true rfl) dX5_giveUp_36 (fun H locs hP9 hz9 hk9 hS => ?_)
    have hA : DA E T X (f_give σ i) H := hA.setTk hi (b := false) (f_give_bit htk) (fun j hj => f_give_other hj) hP9 hk9
    have hI := hI.setMk (f_give_lt hI hi)
    have hI : z_Ok (f_give σ i) := hI
    refine lv_aload_n hx hb dX5_giveUp_39 rfl (lv_at hl 1 rfl) ?_
    refine wk_V (As := []) (rest := []) ⟨hx, hb, hml, hown, hts⟩ (c_X5_takenSet l E hA hI) (cwV 0 hts gX5_giveUp_X5_takenSet rfl rfl rfl (by decide +kernel) ⟨(Nat.le_of_ble_eq_true rfl), (Nat.le_of_ble_eq_true rfl)⟩) (wk_recv hK hA.desk rfl) hK rfl hl.1 rfl (Nat.le_of_ble_eq_true rfl) dX5_giveUp_40 ⟨Nat.zero_le _, Nat.zero_le _⟩ ?_
    exact W.iret hx hb hr (we_end (Rt := fun v H1 => v = some (.int (nI (z_mk (f_give σ i)))) ∧ DA E T X (f_give σ i) H1) (F := z_FD T) (⟨rfl, hA⟩) hS) hS.2.2 dX5_giveUp_43
  have d_21 := Int32.not_le.mp c_21
  exact absurd hnb c_21
