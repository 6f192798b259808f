abbrev rmf_X6_setHandover : Room := { frames := 1, cells := 0, slots := 0, locals := 22 }
set_option maxHeartbeats 4000000 in
set_option maxRecDepth 100000 in
theorem f_X6_setHandover (l : Launch) (E : wk_E) {T : Nat → Nat × Nat} {Y : Nat → Nat → Nat} {σ : z_S} {th : Int32} {gt : Int64} {H : Heap} (hA : MA E T Y σ th gt H) (hI : z_Ok σ) {x : Int32} (hbad : v_in x 0 60 = false) : we_Met l yX6_setHandover wsX6_setHandover rmf_X6_setHandover E H [.ref (Y 10 0), .int x] (z_FM T) 0 0 (fun v H1 => v = some (.int (0)) ∧ MA E T Y σ 1 gt H1) := by
  refine Met.ofW (cc := cX6_setHandover) (maxL := 3) (ret := (some .int)) (by decide) rfl ?_
  intro p e s m args below meth c s₁ B hml hv
  obtain ⟨rfl, hH, hV⟩ := hv
  subst hH
  have hK := hV.k
  have hx := B.exec
  have hb := B.bytes
  have hr := B.returns
  have hts := atoms_spec (ws := wsX6_setHandover) B.pre
  have hown : s.vm.findClass RX6 = some m.cls := findClass_of_methodNamed B.named
  have hlocks := B.notSynchronized
  have hS : va_S (fun q => (z_FM T) q ∨ s.heap.size ≤ q) s.heap s.heap [] := va_S.rf
  have hA9 : ∀ q : Nat, s.heap.size ≤ q → ((z_FM T) q ∨ s.heap.size ≤ q) := fun _ h => Or.inr h
  have hbA : ∀ q : Nat, q < E.2.2.1 → ¬ ((z_FM T) q ∨ s.heap.size ≤ q) := fun q hq z => z.elim (z_FMb hA.2 hq) (fun z => absurd (Nat.lt_of_lt_of_le hq hV.2.2.2.2.2.2) (Nat.not_lt.mpr z))
  have i_X6 : ∀ w ∈ u_ws RX6 TX6 26, w ∈ wsX6_setHandover := fun w h => (List.mem_cons_of_mem _ (List.mem_append_right _ h))
  have hl := lv_entry [.ref (Y 10 0), .int x] (n := 3) (Nat.le_of_ble_eq_true rfl)
  rw [lg_entry_eq]
  generalize (lg_sl [.ref (Y 10 0), .int x] ++ List.replicate (3 - (lg_sl [.ref (Y 10 0), .int x]).length) Slot.unset).toArray = ls at hl ⊢
  have hl : lv_has ls 3 [(0, .ref (Y 10 0)), (1, .int x)] := hl
  have b0 := hI.n0
  have b1 := hI.n1
  have b2 := hI.n2
  have b3 := hI.n3
  refine lv_aload_n hx hb dX6_setHandover_0 rfl (lv_at hl 0 rfl) ?_
  refine lv_iconst (v := 0) hx hb dX6_setHandover_1 (by decide) ?_
  refine wk_put (own := RX6) (C := RX6) (T := TX6) (N := 26) (ci := 7) (v := .int 0) hx hb hts i_X6 tyX6 tyX6_ok nmX6 hown hK hA.obj (Or.inl hA.tagO) hS rfl 0 (by decide) (hts _ (List.mem_of_getElem? (i := 1) rfl)) (fun _ h9 => h9) rfl (tyX6_ok 0 (by decide)) rfl rfl (Nat.le_of_ble_eq_true rfl) dX6_setHandover_2 (fun H locs hP9 hz9 hk9 hS => ?_)
  have hA := hA.setTh hP9 hk9
  refine lv_iload_n hx hb dX6_setHandover_5 rfl (lv_at hl 1 rfl) ?_
  refine lv_iconst (v := 0) hx hb dX6_setHandover_6 (by decide) ?_
  refine lv_bipush (v := 60) hx hb dX6_setHandover_7 (by decide) ?_
  refine wk_S (As := [.int x, .int 0, .int 60]) (rest := []) ⟨hx, hb, hml, hown, hts⟩ (c_X6_isIn l E (x := x) (y := 0) (z := 60)) (va_cwS 3 hts gX6_setHandover_X6_isIn rfl rfl rfl (by decide +kernel) ⟨(Nat.le_of_ble_eq_true rfl), (Nat.le_of_ble_eq_true rfl)⟩) hK rfl hl.1 rfl (Nat.le_of_ble_eq_true rfl) dX6_setHandover_9 ⟨Nat.zero_le _, Nat.zero_le _⟩ ?_
  refine lv_if_ne (tgt := 21) hx hb dX6_setHandover_12 (by decide) (fun c_12 => ?_) (fun c_12 => ?_)
  · skip
    have e_12 : (v_in x 0 60) = true := wk_b1 c_12
    exact absurd (hbad.symm.trans e_12) (by decide)
  have e_12 : (v_in x 0 60) = false := wk_b0 c_12
  refine lv_aload_n hx hb dX6_setHandover_15 rfl (lv_at hl 0 rfl) ?_
  refine lv_iconst (v := 1) hx hb dX6_setHandover_16 (by decide) ?_
  refine we_V (As := [.int 1]) (rest := []) ⟨hx, hb, hml, hown, hts⟩ (e_X6_fail l E hA hI) (cwV 1 hts gX6_setHandover_X6_fail rfl rfl rfl (by decide +kernel) ⟨(Nat.le_of_ble_eq_true rfl), (Nat.le_of_ble_eq_true rfl)⟩) (wk_recv hK hA.obj rfl) (hV.heap hS.1 (fun q hq => hS.2.1 q (Nat.lt_of_lt_of_le hq hV.2.2.2.2.2.2) (hbA q hq))) hS (fun _ h => Or.inl h) hA9 rfl hl.1 rfl (Nat.le_of_ble_eq_true rfl) dX6_setHandover_17 ⟨Nat.zero_le _, Nat.zero_le _⟩ (fun v9 H locs hR9 hz9 hk9 hS => ?_)
  obtain ⟨rfl, hA⟩ := hR9
  refine wk_eqls (st' := [.int 0]) rfl ?_
  exact W.iret hx hb hr (we_end (Rt := fun v H1 => v = some (.int (0)) ∧ MA E T Y σ 1 gt H1) (F := z_FM T) (⟨rfl, hA⟩) hS) hS.2.2 dX6_setHandover_20

abbrev rme_X6_canTake : Room := { frames := 4, cells := 0, slots := 0, locals := 92 }
set_option maxHeartbeats 4000000 in
set_option maxRecDepth 100000 in
theorem e_X6_canTake (l : Launch) (E : wk_E) {T : Nat → Nat × Nat} {Y : Nat → Nat → Nat} {σ : z_S} {th : Int32} {gt : Int64} {H : Heap} (hA : MA E T Y σ th gt H) (hI : z_Ok σ) {i : Nat} (hi : i < z_n σ 2) : we_Met l yX6_canTake wsX6_canTake rme_X6_canTake E H [.ref (Y 10 0), .int (nI i)] (z_FM T) 0 0 (fun v H1 => v = some (.int (wk_b (f_free σ i))) ∧ MA E T Y σ 0 gt H1) := by
  refine Met.ofW (cc := cX6_canTake) (maxL := 2) (ret := (some .boolean)) (by decide) rfl ?_
  intro p e s m args below meth c s₁ B hml hv
  obtain ⟨rfl, hH, hV⟩ := hv
  subst hH
  have hK := hV.k
  have hx := B.exec
  have hb := B.bytes
  have hr := B.returns
  have hts := atoms_spec (ws := wsX6_canTake) B.pre
  have hown : s.vm.findClass RX6 = some m.cls := findClass_of_methodNamed B.named
  have hlocks := B.notSynchronized
  have hS : va_S (fun q => (z_FM T) q ∨ s.heap.size ≤ q) s.heap s.heap [] := va_S.rf
  have hA9 : ∀ q : Nat, s.heap.size ≤ q → ((z_FM T) q ∨ s.heap.size ≤ q) := fun _ h => Or.inr h
  have hbA : ∀ q : Nat, q < E.2.2.1 → ¬ ((z_FM T) q ∨ s.heap.size ≤ q) := fun q hq z => z.elim (z_FMb hA.2 hq) (fun z => absurd (Nat.lt_of_lt_of_le hq hV.2.2.2.2.2.2) (Nat.not_lt.mpr z))
  have i_X6 : ∀ w ∈ u_ws RX6 TX6 26, w ∈ wsX6_canTake := fun w h => (List.mem_cons_of_mem _ (List.mem_append_right _ h))
  have hl := lv_entry [.ref (Y 10 0), .int (nI i)] (n := 2) (Nat.le_of_ble_eq_true rfl)
  rw [lg_entry_eq]
  generalize (lg_sl [.ref (Y 10 0), .int (nI i)] ++ List.replicate (2 - (lg_sl [.ref (Y 10 0), .int (nI i)]).length) Slot.unset).toArray = ls at hl ⊢
  have hl : lv_has ls 2 [(0, .ref (Y 10 0)), (1, .int (nI i))] := hl
  have b0 := hI.n0
  have b1 := hI.n1
  have b2 := hI.n2
  have b3 := hI.n3
  refine lv_aload_n hx hb dX6_canTake_0 rfl (lv_at hl 0 rfl) ?_
  refine lv_aload_n hx hb dX6_canTake_1 rfl (lv_at hl 0 rfl) ?_
  refine lv_iload_n hx hb dX6_canTake_2 rfl (lv_at hl 1 rfl) ?_
  refine wk_V (As := [.int (nI i)]) (rest := [.ref (Y 10 0)]) ⟨hx, hb, hml, hown, hts⟩ (c_X6_isPass l E hA hI (x := nI i)) (cwV 1 hts gX6_canTake_X6_isPass rfl rfl rfl (by decide +kernel) ⟨(Nat.le_of_ble_eq_true rfl), (Nat.le_of_ble_eq_true rfl)⟩) (wk_recv hK hA.obj rfl) hK rfl hl.1 rfl (Nat.le_of_ble_eq_true rfl) dX6_canTake_3 ⟨Nat.zero_le _, Nat.zero_le _⟩ ?_
  refine lv_if_eq (tgt := 13) hx hb dX6_canTake_6 (by decide) (fun c_6 => ?_) (fun c_6 => ?_)
  · skip
    have e_6 : (v_ix (nI i) (z_n σ 2)) = false := wk_b0 c_6
    exact absurd (e_6.symm.trans (v_ix_nI hi (by omega))) (by decide)
  have e_6 : (v_ix (nI i) (z_n σ 2)) = true := wk_b1 c_6
  refine lv_iconst (v := 0) hx hb dX6_canTake_9 (by decide) ?_
  refine lv_goto (tgt := 14) hx hb dX6_canTake_10 (by decide) ?_
  refine wk_put (own := RX6) (C := RX6) (T := TX6) (N := 26) (ci := 7) (v := .int 0) hx hb hts i_X6 tyX6 tyX6_ok nmX6 hown hK hA.obj (Or.inl hA.tagO) hS rfl 0 (by decide) (hts _ (List.mem_of_getElem? (i := 1) rfl)) (fun _ h9 => h9) rfl (tyX6_ok 0 (by decide)) rfl rfl (Nat.le_of_ble_eq_true rfl) dX6_canTake_14 (fun H locs hP9 hz9 hk9 hS => ?_)
  have hA := hA.setTh hP9 hk9
  refine lv_aload_n hx hb dX6_canTake_17 rfl (lv_at hl 0 rfl) ?_
  refine wk_get (own := RX6) (C := RX6) (T := TX6) (N := 26) (ci := 7) (v := .int 0) hx hb hts i_X6 hown hK hA.obj rfl 0 (by decide) (hts _ (List.mem_of_getElem? (i := 1) rfl)) (fun _ h9 => h9) rfl dX6_canTake_18 ?_
  refine lv_if_ne (tgt := 36) hx hb dX6_canTake_21 (by decide) (fun c_21 => ?_) (fun c_21 => ?_)
  · skip
    exact absurd c_21 (by decide)
  refine lv_aload_n hx hb dX6_canTake_24 rfl (lv_at hl 0 rfl) ?_
  refine lv_iload_n hx hb dX6_canTake_25 rfl (lv_at hl 1 rfl) ?_
  refine wk_V (As := [.int (nI i)]) (rest := []) ⟨hx, hb, hml, hown, hts⟩ (c_X6_canBeTaken l E hA hI hi) (cwV 1 hts gX6_canTake_X6_canBeTaken rfl rfl rfl (by decide +kernel) ⟨(Nat.le_of_ble_eq_true rfl), (Nat.le_of_ble_eq_true rfl)⟩) (wk_recv hK hA.obj rfl) hK rfl hl.1 rfl (Nat.le_of_ble_eq_true rfl) dX6_canTake_26 ⟨Nat.zero_le _, Nat.zero_le _⟩ ?_
  refine lv_if_eq (tgt := 36) hx hb dX6_canTake_29 (by decide) (fun c_29 => ?_) (fun c_29 => ?_)
  · skip
    have e_29 : (f_free σ i) = false := wk_b0 c_29
    refine lv_iconst (v := 0) hx hb dX6_canTake_36 (by decide) ?_
    exact W.zret hx hb hr rfl (we_end (Rt := fun v H1 => v = some (.int (wk_b (f_free σ i))) ∧ MA E T Y σ 0 gt H1) (F := z_FM T) (⟨by rw [e_29]; rfl, hA⟩) hS) hS.2.2 dX6_canTake_37
  have e_29 : (f_free σ i) = true := wk_b1 c_29
  refine lv_iconst (v := 1) hx hb dX6_canTake_32 (by decide) ?_
  refine lv_goto (tgt := 37) hx hb dX6_canTake_33 (by decide) ?_
  exact W.zret hx hb hr rfl (we_end (Rt := fun v H1 => v = some (.int (wk_b (f_free σ i))) ∧ MA E T Y σ 0 gt H1) (F := z_FM T) (⟨by rw [e_29]; rfl, hA⟩) hS) hS.2.2 dX6_canTake_37

abbrev rmf_X6_canTake : Room := { frames := 2, cells := 0, slots := 0, locals := 43 }
set_option maxHeartbeats 4000000 in
set_option maxRecDepth 100000 in
theorem f_X6_canTake (l : Launch) (E : wk_E) {T : Nat → Nat × Nat} {Y : Nat → Nat → Nat} {σ : z_S} {th : Int32} {gt : Int64} {H : Heap} (hA : MA E T Y σ th gt H) (hI : z_Ok σ) {x : Int32} (hbad : v_ix x (z_n σ 2) = false) : we_Met l yX6_canTake wsX6_canTake rmf_X6_canTake E H [.ref (Y 10 0), .int x] (z_FM T) 0 0 (fun v H1 => v = some (.int (0)) ∧ MA E T Y σ 1 gt H1) := by
  refine Met.ofW (cc := cX6_canTake) (maxL := 2) (ret := (some .boolean)) (by decide) rfl ?_
  intro p e s m args below meth c s₁ B hml hv
  obtain ⟨rfl, hH, hV⟩ := hv
  subst hH
  have hK := hV.k
  have hx := B.exec
  have hb := B.bytes
  have hr := B.returns
  have hts := atoms_spec (ws := wsX6_canTake) B.pre
  have hown : s.vm.findClass RX6 = some m.cls := findClass_of_methodNamed B.named
  have hlocks := B.notSynchronized
  have hS : va_S (fun q => (z_FM T) q ∨ s.heap.size ≤ q) s.heap s.heap [] := va_S.rf
  have hA9 : ∀ q : Nat, s.heap.size ≤ q → ((z_FM T) q ∨ s.heap.size ≤ q) := fun _ h => Or.inr h
  have hbA : ∀ q : Nat, q < E.2.2.1 → ¬ ((z_FM T) q ∨ s.heap.size ≤ q) := fun q hq z => z.elim (z_FMb hA.2 hq) (fun z => absurd (Nat.lt_of_lt_of_le hq hV.2.2.2.2.2.2) (Nat.not_lt.mpr z))
  have i_X6 : ∀ w ∈ u_ws RX6 TX6 26, w ∈ wsX6_canTake := fun w h => (List.mem_cons_of_mem _ (List.mem_append_right _ h))
  have hl := lv_entry [.ref (Y 10 0), .int x] (n := 2) (Nat.le_of_ble_eq_true rfl)
  rw [lg_entry_eq]
  generalize (lg_sl [.ref (Y 10 0), .int x] ++ List.replicate (2 - (lg_sl [.ref (Y 10 0), .int x]).length) Slot.unset).toArray = ls at hl ⊢
  have hl : lv_has ls 2 [(0, .ref (Y 10 0)), (1, .int x)] := hl
  have b0 := hI.n0
  have b1 := hI.n1
  have b2 := hI.n2
  have b3 := hI.n3
  refine lv_aload_n hx hb dX6_canTake_0 rfl (lv_at hl 0 rfl) ?_
  refine lv_aload_n hx hb dX6_canTake_1 rfl (lv_at hl 0 rfl) ?_
  refine lv_iload_n hx hb dX6_canTake_2 rfl (lv_at hl 1 rfl) ?_
  refine wk_V (As := [.int x]) (rest := [.ref (Y 10 0)]) ⟨hx, hb, hml, hown, hts⟩ (c_X6_isPass l E hA hI (x := x)) (cwV 1 hts gX6_canTake_X6_isPass rfl rfl rfl (by decide +kernel) ⟨(Nat.le_of_ble_eq_true rfl), (Nat.le_of_ble_eq_true rfl)⟩) (wk_recv hK hA.obj rfl) hK rfl hl.1 rfl (Nat.le_of_ble_eq_true rfl) dX6_canTake_3 ⟨Nat.zero_le _, Nat.zero_le _⟩ ?_
  refine lv_if_eq (tgt := 13) hx hb dX6_canTake_6 (by decide) (fun c_6 => ?_) (fun c_6 => ?_)
  · skip
    have e_6 : (v_ix x (z_n σ 2)) = false := wk_b0 c_6
    refine lv_iconst (v := 1) hx hb dX6_canTake_13 (by decide) ?_
    refine wk_put (own := RX6) (C := RX6) (T := TX6) (N := 26) (ci := 7) (v := .int 1) hx hb hts i_X6 tyX6 tyX6_ok nmX6 hown hK hA.obj (Or.inl hA.tagO) hS rfl 0 (by decide) (hts _ (List.mem_of_getElem? (i := 1) rfl)) (fun _ h9 => h9) rfl (tyX6_ok 0 (by decide)) rfl rfl (Nat.le_of_ble_eq_true rfl) dX6_canTake_14 (fun H locs hP9 hz9 hk9 hS => ?_)
    have hA := hA.setTh hP9 hk9
    refine lv_aload_n hx hb dX6_canTake_17 rfl (lv_at hl 0 rfl) ?_
    refine wk_get (own := RX6) (C := RX6) (T := TX6) (N := 26) (ci := 7) (v := .int 1) hx hb hts i_X6 hown hK hA.obj rfl 0 (by decide) (hts _ (List.mem_of_getElem? (i := 1) rfl)) (fun _ h9 => h9) rfl dX6_canTake_18 ?_
    refine lv_if_ne (tgt := 36) hx hb dX6_canTake_21 (by decide) (fun c_21 => ?_) (fun c_21 => ?_)
    · skip
      refine lv_iconst (v := 0) hx hb dX6_canTake_36 (by decide) ?_
      exact W.zret hx hb hr rfl (we_end (Rt := fun v H1 => v = some (.int (0)) ∧ MA E T Y σ 1 gt H1) (F := z_FM T) (⟨rfl, hA⟩) hS) hS.2.2 dX6_canTake_37
    exact absurd c_21 (by decide)
  have e_6 : (v_ix x (z_n σ 2)) = true := wk_b1 c_6
  exact absurd (hbad.symm.trans e_6) (by decide)

abbrev rme_X6_isConflict : Room := { frames := 2, cells := 0, slots := 0, locals := 46 }
set_option maxHeartbeats 4000000 in
set_option maxRecDepth 100000 in
theorem e_X6_isConflict (l : Launch) (E : wk_E) {T : Nat → Nat × Nat} {Y : Nat → Nat → Nat} {σ : z_S} {th : Int32} {gt : Int64} {H : Heap} (hA : MA E T Y σ th gt H) (hI : z_Ok σ) {i : Nat} (hi : i < z_n σ 2) {j : Nat} (hj : j < z_n σ 2) (hij : ¬ i = j) : we_Met l yX6_isConflict wsX6_isConflict rme_X6_isConflict E H [.ref (Y 10 0), .int (nI i), .int (nI j)] (z_FM T) 0 0 (fun v H1 => v = some (.int (wk_b (f_conf σ i j))) ∧ MA E T Y σ 0 gt H1) := by
  refine Met.ofW (cc := cX6_isConflict) (maxL := 3) (ret := (some .boolean)) (by decide) rfl ?_
  intro p e s m args below meth c s₁ B hml hv
  obtain ⟨rfl, hH, hV⟩ := hv
  subst hH
  have hK := hV.k
  have hx := B.exec
  have hb := B.bytes
  have hr := B.returns
  have hts := atoms_spec (ws := wsX6_isConflict) B.pre
  have hown : s.vm.findClass RX6 = some m.cls := findClass_of_methodNamed B.named
  have hlocks := B.notSynchronized
  have hS : va_S (fun q => (z_FM T) q ∨ s.heap.size ≤ q) s.heap s.heap [] := va_S.rf
  have hA9 : ∀ q : Nat, s.heap.size ≤ q → ((z_FM T) q ∨ s.heap.size ≤ q) := fun _ h => Or.inr h
  have hbA : ∀ q : Nat, q < E.2.2.1 → ¬ ((z_FM T) q ∨ s.heap.size ≤ q) := fun q hq z => z.elim (z_FMb hA.2 hq) (fun z => absurd (Nat.lt_of_lt_of_le hq hV.2.2.2.2.2.2) (Nat.not_lt.mpr z))
  have i_X6 : ∀ w ∈ u_ws RX6 TX6 26, w ∈ wsX6_isConflict := fun w h => (List.mem_cons_of_mem _ (List.mem_append_right _ h))
  have hl := lv_entry [.ref (Y 10 0), .int (nI i), .int (nI j)] (n := 3) (Nat.le_of_ble_eq_true rfl)
  rw [lg_entry_eq]
  generalize (lg_sl [.ref (Y 10 0), .int (nI i), .int (nI j)] ++ List.replicate (3 - (lg_sl [.ref (Y 10 0), .int (nI i), .int (nI j)]).length) Slot.unset).toArray = ls at hl ⊢
  have hl : lv_has ls 3 [(0, .ref (Y 10 0)), (1, .int (nI i)), (2, .int (nI j))] := hl
  have b0 := hI.n0
  have b1 := hI.n1
  have b2 := hI.n2
  have b3 := hI.n3
  refine lv_aload_n hx hb dX6_isConflict_0 rfl (lv_at hl 0 rfl) ?_
  refine lv_aload_n hx hb dX6_isConflict_1 rfl (lv_at hl 0 rfl) ?_
  refine lv_iload_n hx hb dX6_isConflict_2 rfl (lv_at hl 1 rfl) ?_
  refine wk_V (As := [.int (nI i)]) (rest := [.ref (Y 10 0)]) ⟨hx, hb, hml, hown, hts⟩ (c_X6_isPass l E hA hI (x := nI i)) (cwV 1 hts gX6_isConflict_X6_isPass rfl rfl rfl (by decide +kernel) ⟨(Nat.le_of_ble_eq_true rfl), (Nat.le_of_ble_eq_true rfl)⟩) (wk_recv hK hA.obj rfl) hK rfl hl.1 rfl (Nat.le_of_ble_eq_true rfl) dX6_isConflict_3 ⟨Nat.zero_le _, Nat.zero_le _⟩ ?_
  refine lv_if_eq (tgt := 17) hx hb dX6_isConflict_6 (by decide) (fun c_6 => ?_) (fun c_6 => ?_)
  · skip
    have e_6 : (v_ix (nI i) (z_n σ 2)) = false := wk_b0 c_6
    exact absurd (e_6.symm.trans (v_ix_nI hi (by omega))) (by decide)
  have e_6 : (v_ix (nI i) (z_n σ 2)) = true := wk_b1 c_6
  refine lv_aload_n hx hb dX6_isConflict_9 rfl (lv_at hl 0 rfl) ?_
  refine lv_iload_n hx hb dX6_isConflict_10 rfl (lv_at hl 2 rfl) ?_
  refine wk_V (As := [.int (nI j)]) (rest := [.ref (Y 10 0)]) ⟨hx, hb, hml, hown, hts⟩ (c_X6_isPass l E hA hI (x := nI j)) (cwV 1 hts gX6_isConflict_X6_isPass rfl rfl rfl (by decide +kernel) ⟨(Nat.le_of_ble_eq_true rfl), (Nat.le_of_ble_eq_true rfl)⟩) (wk_recv hK hA.obj rfl) hK rfl hl.1 rfl (Nat.le_of_ble_eq_true rfl) dX6_isConflict_11 ⟨Nat.zero_le _, Nat.zero_le _⟩ ?_
  refine lv_if_ne (tgt := 21) hx hb dX6_isConflict_14 (by decide) (fun c_14 => ?_) (fun c_14 => ?_)
  · skip
    have e_14 : (v_ix (nI j) (z_n σ 2)) = true := wk_b1 c_14
    refine lv_iload_n hx hb dX6_isConflict_21 rfl (lv_at hl 1 rfl) ?_
    refine lv_iload_n hx hb dX6_isConflict_22 rfl (lv_at hl 2 rfl) ?_
    refine lv_icmp_ne (tgt := 30) hx hb dX6_isConflict_23 (by decide) (fun c_23 => ?_) (fun c_23 => ?_)
    · skip
      have e_23 : ¬ i = j := wk_cnet (by omega) (by omega) c_23
      refine lv_iconst (v := 0) hx hb dX6_isConflict_30 (by decide) ?_
      refine wk_put (own := RX6) (C := RX6) (T := TX6) (N := 26) (ci := 7) (v := .int 0) hx hb hts i_X6 tyX6 tyX6_ok nmX6 hown hK hA.obj (Or.inl hA.tagO) hS rfl 0 (by decide) (hts _ (List.mem_of_getElem? (i := 1) rfl)) (fun _ h9 => h9) rfl (tyX6_ok 0 (by decide)) rfl rfl (Nat.le_of_ble_eq_true rfl) dX6_isConflict_31 (fun H locs hP9 hz9 hk9 hS => ?_)
      have hA := hA.setTh hP9 hk9
      refine lv_aload_n hx hb dX6_isConflict_34 rfl (lv_at hl 0 rfl) ?_
      refine wk_get (own := RX6) (C := RX6) (T := TX6) (N := 26) (ci := 7) (v := .int 0) hx hb hts i_X6 hown hK hA.obj rfl 0 (by decide) (hts _ (List.mem_of_getElem? (i := 1) rfl)) (fun _ h9 => h9) rfl dX6_isConflict_35 ?_
      refine lv_if_ne (tgt := 54) hx hb dX6_isConflict_38 (by decide) (fun c_38 => ?_) (fun c_38 => ?_)
      · skip
        exact absurd c_38 (by decide)
      refine lv_aload_n hx hb dX6_isConflict_41 rfl (lv_at hl 0 rfl) ?_
      refine lv_iload_n hx hb dX6_isConflict_42 rfl (lv_at hl 1 rfl) ?_
      refine lv_iload_n hx hb dX6_isConflict_43 rfl (lv_at hl 2 rfl) ?_
      refine wk_V (As := [.int (nI i), .int (nI j)]) (rest := []) ⟨hx, hb, hml, hown, hts⟩ (c_X6_areInConflict l E hA hI hi hj hij) (cwV 2 hts gX6_isConflict_X6_areInConflict rfl rfl rfl (by decide +kernel) ⟨(Nat.le_of_ble_eq_true rfl), (Nat.le_of_ble_eq_true rfl)⟩) (wk_recv hK hA.obj rfl) hK rfl hl.1 rfl (Nat.le_of_ble_eq_true rfl) dX6_isConflict_44 ⟨Nat.zero_le _, Nat.zero_le _⟩ ?_
      refine lv_if_eq (tgt := 54) hx hb dX6_isConflict_47 (by decide) (fun c_47 => ?_) (fun c_47 => ?_)
      · skip
        have e_47 : (f_conf σ i j) = false := wk_b0 c_47
        refine lv_iconst (v := 0) hx hb dX6_isConflict_54 (by decide) ?_
        exact W.zret hx hb hr rfl (we_end (Rt := fun v H1 => v = some (.int (wk_b (f_conf σ i j))) ∧ MA E T Y σ 0 gt H1) (F := z_FM T) (⟨by rw [e_47]; rfl, hA⟩) hS) hS.2.2 dX6_isConflict_55
      have e_47 : (f_conf σ i j) = true := wk_b1 c_47
      refine lv_iconst (v := 1) hx hb dX6_isConflict_50 (by decide) ?_
      refine lv_goto (tgt := 55) hx hb dX6_isConflict_51 (by decide) ?_
      exact W.zret hx hb hr rfl (we_end (Rt := fun v H1 => v = some (.int (wk_b (f_conf σ i j))) ∧ MA E T Y σ 0 gt H1) (F := z_FM T) (⟨by rw [e_47]; rfl, hA⟩) hS) hS.2.2 dX6_isConflict_55
    have e_23 : i = j := wk_cnef (by omega) (by omega) c_23
    omega
  have e_14 : (v_ix (nI j) (z_n σ 2)) = false := wk_b0 c_14
  exact absurd (e_14.symm.trans (v_ix_nI hj (by omega))) (by decide)

abbrev rmf_X6_isConflict : Room := { frames := 2, cells := 0, slots := 0, locals := 43 }
set_option maxHeartbeats 4000000 in
set_option maxRecDepth 100000 in
theorem f_X6_isConflict (l : Launch) (E : wk_E) {T : Nat → Nat × Nat} {Y : Nat → Nat → Nat} {σ : z_S} {th : Int32} {gt : Int64} {H : Heap} (hA : MA E T Y σ th gt H) (hI : z_Ok σ) {x y : Int32} (hbad : v_ix x (z_n σ 2) = false) : we_Met l yX6_isConflict wsX6_isConflict rmf_X6_isConflict E H [.ref (Y 10 0), .int x, .int y] (z_FM T) 0 0 (fun v H1 => v = some (.int (0)) ∧ MA E T Y σ 1 gt H1) := by
  refine Met.ofW (cc := cX6_isConflict) (maxL := 3) (ret := (some .boolean)) (by decide) rfl ?_
  intro p e s m args below meth c s₁ B hml hv
  obtain ⟨rfl, hH, hV⟩ := hv
  subst hH
  have hK := hV.k
  have hx := B.exec
  have hb := B.bytes
  have hr := B.returns
  have hts := atoms_spec (ws := wsX6_isConflict) B.pre
  have hown : s.vm.findClass RX6 = some m.cls := findClass_of_methodNamed B.named
  have hlocks := B.notSynchronized
  have hS : va_S (fun q => (z_FM T) q ∨ s.heap.size ≤ q) s.heap s.heap [] := va_S.rf
  have hA9 : ∀ q : Nat, s.heap.size ≤ q → ((z_FM T) q ∨ s.heap.size ≤ q) := fun _ h => Or.inr h
  have hbA : ∀ q : Nat, q < E.2.2.1 → ¬ ((z_FM T) q ∨ s.heap.size ≤ q) := fun q hq z => z.elim (z_FMb hA.2 hq) (fun z => absurd (Nat.lt_of_lt_of_le hq hV.2.2.2.2.2.2) (Nat.not_lt.mpr z))
  have i_X6 : ∀ w ∈ u_ws RX6 TX6 26, w ∈ wsX6_isConflict := fun w h => (List.mem_cons_of_mem _ (List.mem_append_right _ h))
  have hl := lv_entry [.ref (Y 10 0), .int x, .int y] (n := 3) (Nat.le_of_ble_eq_true rfl)
  rw [lg_entry_eq]
  generalize (lg_sl [.ref (Y 10 0), .int x, .int y] ++ List.replicate (3 - (lg_sl [.ref (Y 10 0), .int x, .int y]).length) Slot.unset).toArray = ls at hl ⊢
  have hl : lv_has ls 3 [(0, .ref (Y 10 0)), (1, .int x), (2, .int y)] := hl
  have b0 := hI.n0
  have b1 := hI.n1
  have b2 := hI.n2
  have b3 := hI.n3
  refine lv_aload_n hx hb dX6_isConflict_0 rfl (lv_at hl 0 rfl) ?_
  refine lv_aload_n hx hb dX6_isConflict_1 rfl (lv_at hl 0 rfl) ?_
  refine lv_iload_n hx hb dX6_isConflict_2 rfl (lv_at hl 1 rfl) ?_
  refine wk_V (As := [.int x]) (rest := [.ref (Y 10 0)]) ⟨hx, hb, hml, hown, hts⟩ (c_X6_isPass l E hA hI (x := x)) (cwV 1 hts gX6_isConflict_X6_isPass rfl rfl rfl (by decide +kernel) ⟨(Nat.le_of_ble_eq_true rfl), (Nat.le_of_ble_eq_true rfl)⟩) (wk_recv hK hA.obj rfl) hK rfl hl.1 rfl (Nat.le_of_ble_eq_true rfl) dX6_isConflict_3 ⟨Nat.zero_le _, Nat.zero_le _⟩ ?_
  refine lv_if_eq (tgt := 17) hx hb dX6_isConflict_6 (by decide) (fun c_6 => ?_) (fun c_6 => ?_)
  · skip
    have e_6 : (v_ix x (z_n σ 2)) = false := wk_b0 c_6
    refine lv_iconst (v := 1) hx hb dX6_isConflict_17 (by decide) ?_
    refine lv_goto (tgt := 31) hx hb dX6_isConflict_18 (by decide) ?_
    refine wk_put (own := RX6) (C := RX6) (T := TX6) (N := 26) (ci := 7) (v := .int 1) hx hb hts i_X6 tyX6 tyX6_ok nmX6 hown hK hA.obj (Or.inl hA.tagO) hS rfl 0 (by decide) (hts _ (List.mem_of_getElem? (i := 1) rfl)) (fun _ h9 => h9) rfl (tyX6_ok 0 (by decide)) rfl rfl (Nat.le_of_ble_eq_true rfl) dX6_isConflict_31 (fun H locs hP9 hz9 hk9 hS => ?_)
    have hA := hA.setTh hP9 hk9
    refine lv_aload_n hx hb dX6_isConflict_34 rfl (lv_at hl 0 rfl) ?_
    refine wk_get (own := RX6) (C := RX6) (T := TX6) (N := 26) (ci := 7) (v := .int 1) hx hb hts i_X6 hown hK hA.obj rfl 0 (by decide) (hts _ (List.mem_of_getElem? (i := 1) rfl)) (fun _ h9 => h9) rfl dX6_isConflict_35 ?_
    refine lv_if_ne (tgt := 54) hx hb dX6_isConflict_38 (by decide) (fun c_38 => ?_) (fun c_38 => ?_)
    · skip
      refine lv_iconst (v := 0) hx hb dX6_isConflict_54 (by decide) ?_
      exact W.zret hx hb hr rfl (we_end (Rt := fun v H1 => v = some (.int (0)) ∧ MA E T Y σ 1 gt H1) (F := z_FM T) (⟨rfl, hA⟩) hS) hS.2.2 dX6_isConflict_55
    exact absurd c_38 (by decide)
  have e_6 : (v_ix x (z_n σ 2)) = true := wk_b1 c_6
  exact absurd (hbad.symm.trans e_6) (by decide)

abbrev rmf2_X6_isConflict : Room := { frames := 2, cells := 0, slots := 0, locals := 43 }
set_option maxHeartbeats 4000000 in
set_option maxRecDepth 100000 in
theorem f2_X6_isConflict (l : Launch) (E : wk_E) {T : Nat → Nat × Nat} {Y : Nat → Nat → Nat} {σ : z_S} {th : Int32} {gt : Int64} {H : Heap} (hA : MA E T Y σ th gt H) (hI : z_Ok σ) {i : Nat} (hi : i < z_n σ 2) {y : Int32} (hbad : v_ix y (z_n σ 2) = false) : we_Met l yX6_isConflict wsX6_isConflict rmf2_X6_isConflict E H [.ref (Y 10 0), .int (nI i), .int y] (z_FM T) 0 0 (fun v H1 => v = some (.int (0)) ∧ MA E T Y σ 1 gt H1) := by
  refine Met.ofW (cc := cX6_isConflict) (maxL := 3) (ret := (some .boolean)) (by decide) rfl ?_
  intro p e s m args below meth c s₁ B hml hv
  obtain ⟨rfl, hH, hV⟩ := hv
  subst hH
  have hK := hV.k
  have hx := B.exec
  have hb := B.bytes
  have hr := B.returns
  have hts := atoms_spec (ws := wsX6_isConflict) B.pre
  have hown : s.vm.findClass RX6 = some m.cls := findClass_of_methodNamed B.named
  have hlocks := B.notSynchronized
  have hS : va_S (fun q => (z_FM T) q ∨ s.heap.size ≤ q) s.heap s.heap [] := va_S.rf
  have hA9 : ∀ q : Nat, s.heap.size ≤ q → ((z_FM T) q ∨ s.heap.size ≤ q) := fun _ h => Or.inr h
  have hbA : ∀ q : Nat, q < E.2.2.1 → ¬ ((z_FM T) q ∨ s.heap.size ≤ q) := fun q hq z => z.elim (z_FMb hA.2 hq) (fun z => absurd (Nat.lt_of_lt_of_le hq hV.2.2.2.2.2.2) (Nat.not_lt.mpr z))
  have i_X6 : ∀ w ∈ u_ws RX6 TX6 26, w ∈ wsX6_isConflict := fun w h => (List.mem_cons_of_mem _ (List.mem_append_right _ h))
  have hl := lv_entry [.ref (Y 10 0), .int (nI i), .int y] (n := 3) (Nat.le_of_ble_eq_true rfl)
  rw [lg_entry_eq]
  generalize (lg_sl [.ref (Y 10 0), .int (nI i), .int y] ++ List.replicate (3 - (lg_sl [.ref (Y 10 0), .int (nI i), .int y]).length) Slot.unset).toArray = ls at hl ⊢
  have hl : lv_has ls 3 [(0, .ref (Y 10 0)), (1, .int (nI i)), (2, .int y)] := hl
  have b0 := hI.n0
  have b1 := hI.n1
  have b2 := hI.n2
  have b3 := hI.n3
  refine lv_aload_n hx hb dX6_isConflict_0 rfl (lv_at hl 0 rfl) ?_
  refine lv_aload_n hx hb dX6_isConflict_1 rfl (lv_at hl 0 rfl) ?_
  refine lv_iload_n hx hb dX6_isConflict_2 rfl (lv_at hl 1 rfl) ?_
  refine wk_V (As := [.int (nI i)]) (rest := [.ref (Y 10 0)]) ⟨hx, hb, hml, hown, hts⟩ (c_X6_isPass l E hA hI (x := nI i)) (cwV 1 hts gX6_isConflict_X6_isPass rfl rfl rfl (by decide +kernel) ⟨(Nat.le_of_ble_eq_true rfl), (Nat.le_of_ble_eq_true rfl)⟩) (wk_recv hK hA.obj rfl) hK rfl hl.1 rfl (Nat.le_of_ble_eq_true rfl) dX6_isConflict_3 ⟨Nat.zero_le _, Nat.zero_le _⟩ ?_
  refine lv_if_eq (tgt := 17) hx hb dX6_isConflict_6 (by decide) (fun c_6 => ?_) (fun c_6 => ?_)
  · skip
    have e_6 : (v_ix (nI i) (z_n σ 2)) = false := wk_b0 c_6
    exact absurd (e_6.symm.trans (v_ix_nI hi (by omega))) (by decide)
  have e_6 : (v_ix (nI i) (z_n σ 2)) = true := wk_b1 c_6
  refine lv_aload_n hx hb dX6_isConflict_9 rfl (lv_at hl 0 rfl) ?_
  refine lv_iload_n hx hb dX6_isConflict_10 rfl (lv_at hl 2 rfl) ?_
  refine wk_V (As := [.int y]) (rest := [.ref (Y 10 0)]) ⟨hx, hb, hml, hown, hts⟩ (c_X6_isPass l E hA hI (x := y)) (cwV 1 hts gX6_isConflict_X6_isPass rfl rfl rfl (by decide +kernel) ⟨(Nat.le_of_ble_eq_true rfl), (Nat.le_of_ble_eq_true rfl)⟩) (wk_recv hK hA.obj rfl) hK rfl hl.1 rfl (Nat.le_of_ble_eq_true rfl) dX6_isConflict_11 ⟨Nat.zero_le _, Nat.zero_le _⟩ ?_
  refine lv_if_ne (tgt := 21) hx hb dX6_isConflict_14 (by decide) (fun c_14 => ?_) (fun c_14 => ?_)
  · skip
    have e_14 : (v_ix y (z_n σ 2)) = true := wk_b1 c_14
    exact absurd (hbad.symm.trans e_14) (by decide)
  have e_14 : (v_ix y (z_n σ 2)) = false := wk_b0 c_14
  refine lv_iconst (v := 1) hx hb dX6_isConflict_17 (by decide) ?_
  refine lv_goto (tgt := 31) hx hb dX6_isConflict_18 (by decide) ?_
  refine wk_put (own := RX6) (C := RX6) (T := TX6) (N := 26) (ci := 7) (v := .int 1) hx hb hts i_X6 tyX6 tyX6_ok nmX6 hown hK hA.obj (Or.inl hA.tagO) hS rfl 0 (by decide) (hts _ (List.mem_of_getElem? (i := 1) rfl)) (fun _ h9 => h9) rfl (tyX6_ok 0 (by decide)) rfl rfl (Nat.le_of_ble_eq_true rfl) dX6_isConflict_31 (fun H locs hP9 hz9 hk9 hS => ?_)
  have hA := hA.setTh hP9 hk9
  refine lv_aload_n hx hb dX6_isConflict_34 rfl (lv_at hl 0 rfl) ?_
  refine wk_get (own := RX6) (C := RX6) (T := TX6) (N := 26) (ci := 7) (v := .int 1) hx hb hts i_X6 hown hK hA.obj rfl 0 (by decide) (hts _ (List.mem_of_getElem? (i := 1) rfl)) (fun _ h9 => h9) rfl dX6_isConflict_35 ?_
  refine lv_if_ne (tgt := 54) hx hb dX6_isConflict_38 (by decide) (fun c_38 => ?_) (fun c_38 => ?_)
  · skip
    refine lv_iconst (v := 0) hx hb dX6_isConflict_54 (by decide) ?_
    exact W.zret hx hb hr rfl (we_end (Rt := fun v H1 => v = some (.int (0)) ∧ MA E T Y σ 1 gt H1) (F := z_FM T) (⟨rfl, hA⟩) hS) hS.2.2 dX6_isConflict_55
  exact absurd c_38 (by decide)
