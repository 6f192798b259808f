abbrev rme_Jxa1e45_init_da8c8 : Room := { frames := 1, cells := 0, slots := 0, locals := 12 }
set_option maxHeartbeats 4000000 in
set_option maxRecDepth 100000 in
theorem e_Jxa1e45_init_da8c8 (l : Launch) (E : wk_E) {H : Heap} {o : Nat} (hO : va_at E.1 vwCl (o, .inr (0, [.int 0, .null, .int 0])) H) (hob : E.2.2.1 ≤ o) : we_Met l yJxa1e45_init_da8c8 wsJxa1e45_init_da8c8 rme_Jxa1e45_init_da8c8 E H [.ref o] (fun q => q = o) 0 0 (fun v H1 => v = none ∧ va_at E.1 vwCl (o, .inr (0, [.int 0, .null, .int 0])) H1) := by
  refine Met.ofW (cc := cJxa1e45_init_da8c8) (maxL := 1) (ret := none) (by decide) rfl ?_
  intro p e s m args below meth c s₁ B hml hv
  obtain ⟨rfl, hH, hV⟩ := hv
  subst hH
  have hK := hV.k
  have hx := B.exec
  have hb := B.bytes
  have hr := B.returns
  have hts := atoms_spec (ws := wsJxa1e45_init_da8c8) B.pre
  have hown : s.vm.findClass RJxa1e45 = some m.cls := findClass_of_methodNamed B.named
  have hlocks := B.notSynchronized
  have hS : va_S (fun q => (fun q => q = o) q ∨ s.heap.size ≤ q) s.heap s.heap [] := va_S.rf
  have hA9 : ∀ q : Nat, s.heap.size ≤ q → ((fun q => q = o) q ∨ s.heap.size ≤ q) := fun _ h => Or.inr h
  have hbA : ∀ q : Nat, q < E.2.2.1 → ¬ ((fun q => q = o) q ∨ s.heap.size ≤ q) := fun q hq z => z.elim (fun z => absurd (z ▸ hq) (Nat.not_lt.mpr hob)) (fun z => absurd (Nat.lt_of_lt_of_le hq hV.2.2.2.2.2.2) (Nat.not_lt.mpr z))
  have hin : meth.name = "<init>" := (name_of_methodNamed B.named B.method).1
  have hl := lv_entry [.ref o] (n := 1) (Nat.le_of_ble_eq_true rfl)
  rw [lg_entry_eq]
  generalize (lg_sl [.ref o] ++ List.replicate (1 - (lg_sl [.ref o]).length) Slot.unset).toArray = ls at hl ⊢
  have hl : lv_has ls 1 [(0, .ref o)] := hl
  refine lv_aload_n hx hb dJxa1e45_init_da8c8_0 rfl (lv_at hl 0 rfl) ?_
  refine W.objInit hx hb hown (hts _ (List.mem_of_getElem? (i := 1) rfl)) (hts _ (List.mem_of_getElem? (i := 2) rfl)) (hts _ (List.mem_of_getElem? (i := 3) rfl)) rfl (by rw [hml]; exact hl.1) rfl dJxa1e45_init_da8c8_1 (Nat.le_of_ble_eq_true rfl) (Nat.le_of_ble_eq_true rfl) ?_
  refine W.eq (g2 := F0 m 4 ls []) rfl ?_
  exact W.vret hx hb hr (we_end (Rt := fun v H1 => v = none ∧ va_at E.1 vwCl (o, .inr (0, [.int 0, .null, .int 0])) H1) (F := fun q => q = o) (⟨rfl, hO⟩) hS) hS.2.2 dJxa1e45_init_da8c8_4

abbrev rme_Jxc12de_init_da8c8 : Room := { frames := 2, cells := 0, slots := 0, locals := 32 }
set_option maxHeartbeats 4000000 in
set_option maxRecDepth 100000 in
theorem e_Jxc12de_init_da8c8 (l : Launch) (E : wk_E) {H : Heap} {o : Nat} (hO : va_at E.1 vwCl (o, .inr (0, [.int 0, .null, .int 0])) H) (hob : E.2.2.1 ≤ o) : we_Met l yJxc12de_init_da8c8 wsJxc12de_init_da8c8 rme_Jxc12de_init_da8c8 E H [.ref o] (fun q => q = o) 0 0 (fun v H1 => v = none ∧ va_at E.1 vwCl (o, .inr (0, [.int 0, .null, .int 0])) H1) := by
  refine Met.ofW (cc := cJxc12de_init_da8c8) (maxL := 1) (ret := none) (by decide) rfl ?_
  intro p e s m args below meth c s₁ B hml hv
  obtain ⟨rfl, hH, hV⟩ := hv
  subst hH
  have hK := hV.k
  have hx := B.exec
  have hb := B.bytes
  have hr := B.returns
  have hts := atoms_spec (ws := wsJxc12de_init_da8c8) B.pre
  have hown : s.vm.findClass RJxc12de = some m.cls := findClass_of_methodNamed B.named
  have hlocks := B.notSynchronized
  have hS : va_S (fun q => (fun q => q = o) q ∨ s.heap.size ≤ q) s.heap s.heap [] := va_S.rf
  have hA9 : ∀ q : Nat, s.heap.size ≤ q → ((fun q => q = o) q ∨ s.heap.size ≤ q) := fun _ h => Or.inr h
  have hbA : ∀ q : Nat, q < E.2.2.1 → ¬ ((fun q => q = o) q ∨ s.heap.size ≤ q) := fun q hq z => z.elim (fun z => absurd (z ▸ hq) (Nat.not_lt.mpr hob)) (fun z => absurd (Nat.lt_of_lt_of_le hq hV.2.2.2.2.2.2) (Nat.not_lt.mpr z))
  have hin : meth.name = "<init>" := (name_of_methodNamed B.named B.method).1
  have i_Jx4a65c : ∀ w ∈ u_ws RJx4a65c TJx4a65c 3, w ∈ wsJxc12de_init_da8c8 := fun w h => (List.mem_cons_of_mem _ (List.mem_append_right _ h))
  have hl := lv_entry [.ref o] (n := 1) (Nat.le_of_ble_eq_true rfl)
  rw [lg_entry_eq]
  generalize (lg_sl [.ref o] ++ List.replicate (1 - (lg_sl [.ref o]).length) Slot.unset).toArray = ls at hl ⊢
  have hl : lv_has ls 1 [(0, .ref o)] := hl
  refine lv_aload_n hx hb dJxc12de_init_da8c8_0 rfl (lv_at hl 0 rfl) ?_
  refine we_I (As := []) (rest := []) ⟨hx, hb, hml, hown, hts⟩ (e_Jxa1e45_init_da8c8 l E hO hob) (cwI 0 hts gJxc12de_init_da8c8_Jxa1e45_init_da8c8 rfl rfl rfl (hts _ (List.mem_of_getElem? (i := 4) rfl)) (hts _ (List.mem_of_getElem? (i := 2) rfl)) (hts _ (List.mem_of_getElem? (i := 3) rfl)) rfl (by decide +kernel) ⟨(Nat.le_of_ble_eq_true rfl), (Nat.le_of_ble_eq_true rfl)⟩) hV hS (fun _ h => Or.inl h) hA9 rfl hl.1 rfl (Nat.le_of_ble_eq_true rfl) dJxc12de_init_da8c8_1 ⟨(Nat.le_of_ble_eq_true rfl), (Nat.le_of_ble_eq_true rfl)⟩ (fun v9 H locs hR9 hz9 hk9 hS => ?_)
  obtain ⟨rfl, hO⟩ := hR9
  refine wk_eqls (st' := []) rfl ?_
  refine lv_aload_n hx hb dJxc12de_init_da8c8_4 rfl (lv_at hl 0 rfl) ?_
  refine lv_iconst (v := 0) hx hb dJxc12de_init_da8c8_5 (by decide) ?_
  refine wk_put (own := RJxc12de) (C := RJx4a65c) (T := TJx4a65c) (N := 3) (ci := 0) (v := .int 0) hx hb hts i_Jx4a65c tyJx4a65c tyJx4a65c_ok nmJx4a65c hown hK hO (Or.inl rfl) hS rfl 0 (by decide) (hts _ (List.mem_of_getElem? (i := 1) rfl)) (fun _ h9 => h9) rfl (tyJx4a65c_ok 0 (by decide)) rfl rfl (Nat.le_of_ble_eq_true rfl) dJxc12de_init_da8c8_6 (fun H locs hP9 hz9 hk9 hS => ?_)
  have hO := hP9
  exact W.vret hx hb hr (we_end (Rt := fun v H1 => v = none ∧ va_at E.1 vwCl (o, .inr (0, [.int 0, .null, .int 0])) H1) (F := fun q => q = o) (⟨rfl, hO⟩) hS) hS.2.2 dJxc12de_init_da8c8_9

abbrev rme_Jx4a65c_init_da8c8 : Room := { frames := 3, cells := 0, slots := 0, locals := 52 }
set_option maxHeartbeats 4000000 in
set_option maxRecDepth 100000 in
theorem e_Jx4a65c_init_da8c8 (l : Launch) (E : wk_E) {H : Heap} {o : Nat} (hO : va_at E.1 vwCl (o, .inr (0, [.int 0, .null, .int 0])) H) (hob : E.2.2.1 ≤ o) : we_Met l yJx4a65c_init_da8c8 wsJx4a65c_init_da8c8 rme_Jx4a65c_init_da8c8 E H [.ref o] (fun q => q = o) 0 0 (fun v H1 => v = none ∧ va_at E.1 vwCl (o, .inr (0, [.int 0, .ref E.2.2.2, .int 0])) H1) := by
  refine Met.ofW (cc := cJx4a65c_init_da8c8) (maxL := 1) (ret := none) (by decide) rfl ?_
  intro p e s m args below meth c s₁ B hml hv
  obtain ⟨rfl, hH, hV⟩ := hv
  subst hH
  have hK := hV.k
  have hx := B.exec
  have hb := B.bytes
  have hr := B.returns
  have hts := atoms_spec (ws := wsJx4a65c_init_da8c8) B.pre
  have hown : s.vm.findClass RJx4a65c = some m.cls := findClass_of_methodNamed B.named
  have hlocks := B.notSynchronized
  have hS : va_S (fun q => (fun q => q = o) q ∨ s.heap.size ≤ q) s.heap s.heap [] := va_S.rf
  have hA9 : ∀ q : Nat, s.heap.size ≤ q → ((fun q => q = o) q ∨ s.heap.size ≤ q) := fun _ h => Or.inr h
  have hbA : ∀ q : Nat, q < E.2.2.1 → ¬ ((fun q => q = o) q ∨ s.heap.size ≤ q) := fun q hq z => z.elim (fun z => absurd (z ▸ hq) (Nat.not_lt.mpr hob)) (fun z => absurd (Nat.lt_of_lt_of_le hq hV.2.2.2.2.2.2) (Nat.not_lt.mpr z))
  have hin : meth.name = "<init>" := (name_of_methodNamed B.named B.method).1
  have i_Jx4a65c : ∀ w ∈ u_ws RJx4a65c TJx4a65c 3, w ∈ wsJx4a65c_init_da8c8 := fun w h => (List.mem_cons_of_mem _ (List.mem_append_right _ h))
  have hl := lv_entry [.ref o] (n := 1) (Nat.le_of_ble_eq_true rfl)
  rw [lg_entry_eq]
  generalize (lg_sl [.ref o] ++ List.replicate (1 - (lg_sl [.ref o]).length) Slot.unset).toArray = ls at hl ⊢
  have hl : lv_has ls 1 [(0, .ref o)] := hl
  refine lv_aload_n hx hb dJx4a65c_init_da8c8_0 rfl (lv_at hl 0 rfl) ?_
  refine we_I (As := []) (rest := []) ⟨hx, hb, hml, hown, hts⟩ (e_Jxc12de_init_da8c8 l E hO hob) (cwI 0 hts gJx4a65c_init_da8c8_Jxc12de_init_da8c8 rfl rfl rfl (hts _ (List.mem_of_getElem? (i := 5) rfl)) (hts _ (List.mem_of_getElem? (i := 3) rfl)) (hts _ (List.mem_of_getElem? (i := 4) rfl)) rfl (by decide +kernel) ⟨(Nat.le_of_ble_eq_true rfl), (Nat.le_of_ble_eq_true rfl)⟩) hV hS (fun _ h => Or.inl h) hA9 rfl hl.1 rfl (Nat.le_of_ble_eq_true rfl) dJx4a65c_init_da8c8_1 ⟨(Nat.le_of_ble_eq_true rfl), (Nat.le_of_ble_eq_true rfl)⟩ (fun v9 H locs hR9 hz9 hk9 hS => ?_)
  obtain ⟨rfl, hO⟩ := hR9
  refine wk_eqls (st' := []) rfl ?_
  refine lv_aload_n hx hb dJx4a65c_init_da8c8_4 rfl (lv_at hl 0 rfl) ?_
  refine va_gets (C := "java/util/ArrayList") (n := "DEFAULTCAPACITY_EMPTY_ELEMENTDATA") (d := "[Ljava/lang/Object;") (own := RJx4a65c) hx hb (hV.2.1.2.2.narrow (fun q hq => Nat.le_of_not_lt (fun z => hbA q z hq))) hS hown (hts _ (List.mem_of_getElem? (i := 1) rfl)) (fun _ h9 => h9) dJx4a65c_init_da8c8_5 ?_
  refine wk_put (own := RJx4a65c) (C := RJx4a65c) (T := TJx4a65c) (N := 3) (ci := 0) (v := .ref E.2.2.2) hx hb hts i_Jx4a65c tyJx4a65c tyJx4a65c_ok nmJx4a65c hown hK hO (Or.inl rfl) hS rfl 1 (by decide) (hts _ (List.mem_of_getElem? (i := 2) rfl)) (fun _ h9 => h9) rfl (tyJx4a65c_ok 1 (by decide)) rfl rfl (Nat.le_of_ble_eq_true rfl) dJx4a65c_init_da8c8_8 (fun H locs hP9 hz9 hk9 hS => ?_)
  have hO := hP9
  exact W.vret hx hb hr (we_end (Rt := fun v H1 => v = none ∧ va_at E.1 vwCl (o, .inr (0, [.int 0, .ref E.2.2.2, .int 0])) H1) (F := fun q => q = o) (⟨rfl, hO⟩) hS) hS.2.2 dJx4a65c_init_da8c8_11

abbrev rme_X4_init : Room := { frames := 1, cells := 2, slots := 32, locals := 12 }
set_option maxHeartbeats 4000000 in
set_option maxRecDepth 100000 in
theorem e_X4_init (l : Launch) (E : wk_E) {H : Heap} {o : Nat} (hO : va_at E.1 vwCl (o, .inr (5, [.null, .null, .int 0, .int 0])) H) (hob : E.2.2.1 ≤ o) : we_Met l yX4_init wsX4_init rme_X4_init E H [.ref o] (fun q => q = o) 2 32 (fun v H1 => v = none ∧ ∃ a1 a2 : Nat, H.size ≤ a1 ∧ a1 < a2 ∧ va_at E.1 vwCl (o, .inr (5, [.ref a1, .ref a2, .int 0, .int 0])) H1 ∧ va_at E.1 vwCl (a1, .inl (E.2.1.1, 16, .inl (fun _ => 0))) H1 ∧ va_at E.1 vwCl (a2, .inl (E.2.1.1, 16, .inl (fun _ => 0))) H1) := by
  refine Met.ofW (cc := cX4_init) (maxL := 1) (ret := none) (by decide) rfl ?_
  intro p e s m args below meth c s₁ B hml hv
  obtain ⟨rfl, hH, hV⟩ := hv
  subst hH
  have hK := hV.k
  have hx := B.exec
  have hb := B.bytes
  have hr := B.returns
  have hts := atoms_spec (ws := wsX4_init) B.pre
  have hown : s.vm.findClass RX4 = some m.cls := findClass_of_methodNamed B.named
  have hlocks := B.notSynchronized
  have hS : va_S (fun q => (fun q => q = o) q ∨ s.heap.size ≤ q) s.heap s.heap [] := va_S.rf
  have hA9 : ∀ q : Nat, s.heap.size ≤ q → ((fun q => q = o) q ∨ s.heap.size ≤ q) := fun _ h => Or.inr h
  have hbA : ∀ q : Nat, q < E.2.2.1 → ¬ ((fun q => q = o) q ∨ s.heap.size ≤ q) := fun q hq z => z.elim (fun z => absurd (z ▸ hq) (Nat.not_lt.mpr hob)) (fun z => absurd (Nat.lt_of_lt_of_le hq hV.2.2.2.2.2.2) (Nat.not_lt.mpr z))
  have hin : meth.name = "<init>" := (name_of_methodNamed B.named B.method).1
  have i_X4 : ∀ w ∈ u_ws RX4 TX4 4, w ∈ wsX4_init := fun w h => (List.mem_cons_of_mem _ (List.mem_append_right _ h))
  have hl := lv_entry [.ref o] (n := 1) (Nat.le_of_ble_eq_true rfl)
  rw [lg_entry_eq]
  generalize (lg_sl [.ref o] ++ List.replicate (1 - (lg_sl [.ref o]).length) Slot.unset).toArray = ls at hl ⊢
  have hl : lv_has ls 1 [(0, .ref o)] := hl
  have hz0 : s.heap.size ≤ s.heap.size := Nat.le_refl _
  refine lv_aload_n hx hb dX4_init_0 rfl (lv_at hl 0 rfl) ?_
  refine W.objInit hx hb hown (hts _ (List.mem_of_getElem? (i := 1) rfl)) (hts _ (List.mem_of_getElem? (i := 2) rfl)) (hts _ (List.mem_of_getElem? (i := 3) rfl)) rfl (by rw [hml]; exact hl.1) rfl dX4_init_1 (Nat.le_of_ble_eq_true rfl) (Nat.le_of_ble_eq_true rfl) ?_
  refine W.eq (g2 := F0 m 4 ls []) rfl ?_
  refine lv_aload_n hx hb dX4_init_4 rfl (lv_at hl 0 rfl) ?_
  refine lv_bipush (v := 16) hx hb dX4_init_5 (by decide) ?_
  refine wk_newiv hx hb (hts _ (List.mem_of_getElem? (i := 4) rfl)) hK hS 16 rfl (by omega) (Nat.le_of_ble_eq_true rfl) (Nat.le_of_ble_eq_true rfl) dX4_init_7 (fun a1 H ho9 hN9 hz9 hk9 hS => ?_)
  have q_o_a1 : o < a1 := by rw [ho9]; exact hO.lt
  have hO := va_at.kept hO (hk9 _ hO.lt)
  have h_a1 := hN9
  have b_a1 : E.2.2.1 ≤ a1 := by have := q_o_a1; omega
  have ha1 : s.heap.size ≤ a1 := Nat.le_of_eq ho9.symm
  refine wk_putF (own := RX4) (C := RX4) (T := TX4) (N := 4) (ci := 5) (v := .ref a1) hx hb hts i_X4 tyX4 tyX4_ok nmX4 hown hK hO (Or.inl rfl) hS rfl 0 (by decide) (hts _ (List.mem_of_getElem? (i := 5) rfl)) (fun _ h9 => h9) rfl hin rfl (tyX4_ok 0 (by decide)) rfl rfl (Nat.le_of_ble_eq_true rfl) dX4_init_9 (fun H locs hP9 hz9 hk9 hS => ?_)
  have hO := hP9
  have h_a1 := va_at.kept h_a1 (hk9 _ (Nat.ne_of_gt q_o_a1))
  refine lv_aload_n hx hb dX4_init_12 rfl (lv_at hl 0 rfl) ?_
  refine lv_bipush (v := 16) hx hb dX4_init_13 (by decide) ?_
  refine wk_newiv hx hb (hts _ (List.mem_of_getElem? (i := 4) rfl)) hK hS 16 rfl (by omega) (Nat.le_of_ble_eq_true rfl) (Nat.le_of_ble_eq_true rfl) dX4_init_15 (fun a2 H ho9 hN9 hz9 hk9 hS => ?_)
  have q_o_a2 : o < a2 := by rw [ho9]; exact hO.lt
  have q_a1_a2 : a1 < a2 := by rw [ho9]; exact h_a1.lt
  have hO := va_at.kept hO (hk9 _ hO.lt)
  have h_a1 := va_at.kept h_a1 (hk9 _ h_a1.lt)
  have h_a2 := hN9
  have b_a2 : E.2.2.1 ≤ a2 := by have := q_o_a2; omega
  refine wk_putF (own := RX4) (C := RX4) (T := TX4) (N := 4) (ci := 5) (v := .ref a2) hx hb hts i_X4 tyX4 tyX4_ok nmX4 hown hK hO (Or.inl rfl) hS rfl 1 (by decide) (hts _ (List.mem_of_getElem? (i := 6) rfl)) (fun _ h9 => h9) rfl hin rfl (tyX4_ok 1 (by decide)) rfl rfl (Nat.le_of_ble_eq_true rfl) dX4_init_17 (fun H locs hP9 hz9 hk9 hS => ?_)
  have hO := hP9
  have h_a1 := va_at.kept h_a1 (hk9 _ (Nat.ne_of_gt q_o_a1))
  have h_a2 := va_at.kept h_a2 (hk9 _ (Nat.ne_of_gt q_o_a2))
  refine W.widen (k := 2) (n := 32) (Nat.le_of_ble_eq_true rfl) (Nat.le_of_ble_eq_true rfl) ?_
  exact W.vret hx hb hr (we_end (Rt := fun v H1 => v = none ∧ ∃ a1 a2 : Nat, s.heap.size ≤ a1 ∧ a1 < a2 ∧ va_at E.1 vwCl (o, .inr (5, [.ref a1, .ref a2, .int 0, .int 0])) H1 ∧ va_at E.1 vwCl (a1, .inl (E.2.1.1, 16, .inl (fun _ => 0))) H1 ∧ va_at E.1 vwCl (a2, .inl (E.2.1.1, 16, .inl (fun _ => 0))) H1) (F := fun q => q = o) (⟨rfl, a1, a2, ha1, q_a1_a2, hO, h_a1, h_a2⟩) hS) hS.2.2 dX4_init_20

abbrev rme_X5_init : Room := { frames := 4, cells := 7, slots := 48, locals := 72 }
set_option maxHeartbeats 4000000 in
set_option maxRecDepth 100000 in
theorem e_X5_init (l : Launch) (E : wk_E) {H : Heap} {o : Nat} (hO : va_at E.1 vwCl (o, .inr (6, [.null, .null, .null, .null, .null, .int 0, .int 0])) H) (hob : E.2.2.1 ≤ o) : we_Met l yX5_init wsX5_init rme_X5_init E H [.ref o] (fun q => q = o) 7 48 (fun v H1 => v = none ∧ ∃ l0 l1 l2 l3 sc a1 a2 : Nat, (H.size ≤ l0 ∧ o < l0 ∧ l0 < l1 ∧ l1 < l2 ∧ l2 < l3 ∧ l3 < sc ∧ sc < a1 ∧ a1 < a2) ∧ va_at E.1 vwCl (o, .inr (6, [.ref l0, .ref l1, .ref l2, .ref l3, .ref sc, .int 0, .int 5])) H1 ∧ (va_at E.1 vwCl (l0, .inr (0, [.int 0, .ref E.2.2.2, .int 0])) H1 ∧ va_at E.1 vwCl (l1, .inr (0, [.int 0, .ref E.2.2.2, .int 0])) H1 ∧ va_at E.1 vwCl (l2, .inr (0, [.int 0, .ref E.2.2.2, .int 0])) H1 ∧ va_at E.1 vwCl (l3, .inr (0, [.int 0, .ref E.2.2.2, .int 0])) H1) ∧ va_at E.1 vwCl (sc, .inr (5, [.ref a1, .ref a2, .int 0, .int 0])) H1 ∧ va_at E.1 vwCl (a1, .inl (E.2.1.1, 16, .inl (fun _ => 0))) H1 ∧ va_at E.1 vwCl (a2, .inl (E.2.1.1, 16, .inl (fun _ => 0))) H1) := by
  refine Met.ofW (cc := cX5_init) (maxL := 1) (ret := none) (by decide) rfl ?_
  intro p e s m args below meth c s₁ B hml hv
  obtain ⟨rfl, hH, hV⟩ := hv
  subst hH
  have hK := hV.k
  have hx := B.exec
  have hb := B.bytes
  have hr := B.returns
  have hts := atoms_spec (ws := wsX5_init) B.pre
  have hown : s.vm.findClass RX5 = some m.cls := findClass_of_methodNamed B.named
  have hlocks := B.notSynchronized
  have hS : va_S (fun q => (fun q => q = o) q ∨ s.heap.size ≤ q) s.heap s.heap [] := va_S.rf
  have hA9 : ∀ q : Nat, s.heap.size ≤ q → ((fun q => q = o) q ∨ s.heap.size ≤ q) := fun _ h => Or.inr h
  have hbA : ∀ q : Nat, q < E.2.2.1 → ¬ ((fun q => q = o) q ∨ s.heap.size ≤ q) := fun q hq z => z.elim (fun z => absurd (z ▸ hq) (Nat.not_lt.mpr hob)) (fun z => absurd (Nat.lt_of_lt_of_le hq hV.2.2.2.2.2.2) (Nat.not_lt.mpr z))
  have hin : meth.name = "<init>" := (name_of_methodNamed B.named B.method).1
  have i_Jx4a65c : ∀ w ∈ u_ws RJx4a65c TJx4a65c 3, w ∈ wsX5_init := fun w h => (List.mem_cons_of_mem _ (List.mem_append_left _ (List.mem_append_left _ (List.mem_append_right _ h))))
  have i_X5 : ∀ w ∈ u_ws RX5 TX5 7, w ∈ wsX5_init := fun w h => (List.mem_cons_of_mem _ (List.mem_append_left _ (List.mem_append_right _ h)))
  have i_X4 : ∀ w ∈ u_ws RX4 TX4 4, w ∈ wsX5_init := fun w h => (List.mem_cons_of_mem _ (List.mem_append_right _ h))
  have hl := lv_entry [.ref o] (n := 1) (Nat.le_of_ble_eq_true rfl)
  rw [lg_entry_eq]
  generalize (lg_sl [.ref o] ++ List.replicate (1 - (lg_sl [.ref o]).length) Slot.unset).toArray = ls at hl ⊢
  have hl : lv_has ls 1 [(0, .ref o)] := hl
  refine lv_aload_n hx hb dX5_init_0 rfl (lv_at hl 0 rfl) ?_
  refine W.objInit hx hb hown (hts _ (List.mem_of_getElem? (i := 1) rfl)) (hts _ (List.mem_of_getElem? (i := 2) rfl)) (hts _ (List.mem_of_getElem? (i := 3) rfl)) rfl (by rw [hml]; exact hl.1) rfl dX5_init_1 (Nat.le_of_ble_eq_true rfl) (Nat.le_of_ble_eq_true rfl) ?_
  refine W.eq (g2 := F0 m 4 ls []) rfl ?_
  refine lv_aload_n hx hb dX5_init_4 rfl (lv_at hl 0 rfl) ?_
  have hSo := hS
  refine wk_newv (own := RX5) (C := RJx4a65c) (T := TJx4a65c) (N := 3) (ci := 0) (fs := [.int 0, .null, .int 0]) hx hb hts i_Jx4a65c tyJx4a65c tyJx4a65c_ok hown (hts _ (List.mem_of_getElem? (i := 4) rfl)) (hts _ (List.mem_of_getElem? (i := 5) rfl)) (hts _ (List.mem_of_getElem? (i := 6) rfl)) hK hS rfl (fun j hj => by rcases (show j = 0 ∨ j = 1 ∨ j = 2 by omega) with rfl | rfl | rfl <;> rfl) (Nat.le_of_ble_eq_true rfl) (Nat.le_of_ble_eq_true rfl) dX5_init_5 (fun l0 H ho9 hN9 hz9 hk9 hS => ?_)
  have p_l0 : s.heap.size ≤ l0 := by rw [ho9]; exact Nat.le_refl _
  have q_o_l0 : o < l0 := by rw [ho9]; exact hO.lt
  have hO := va_at.kept hO (hk9 _ hO.lt)
  have h_l0 := hN9
  have b_l0 : E.2.2.1 ≤ l0 := by have := q_o_l0; omega
  refine lv_dup hx hb dX5_init_8 rfl ?_
  refine we_I (As := []) (rest := [.ref l0, .ref o]) ⟨hx, hb, hml, hown, hts⟩ (e_Jx4a65c_init_da8c8 l E h_l0 b_l0) (cwI 0 hts gX5_init_Jx4a65c_init_da8c8 rfl rfl rfl (hts _ (List.mem_of_getElem? (i := 6) rfl)) (hts _ (List.mem_of_getElem? (i := 17) rfl)) (hts _ (List.mem_of_getElem? (i := 18) rfl)) rfl (by decide +kernel) ⟨(Nat.le_of_ble_eq_true rfl), (Nat.le_of_ble_eq_true rfl)⟩) (hV.heap hS.1 (fun q hq => hS.2.1 q (Nat.lt_of_lt_of_le hq hV.2.2.2.2.2.2) (hbA q hq))) hS (fun q h => Or.inr (by rw [h]; exact p_l0)) hA9 rfl hl.1 rfl (Nat.le_of_ble_eq_true rfl) dX5_init_9 ⟨(Nat.le_of_ble_eq_true rfl), (Nat.le_of_ble_eq_true rfl)⟩ (fun v9 H locs hR9 hz9 hk9 hS => ?_)
  obtain ⟨rfl, h_l0⟩ := hR9
  have hO := va_at.kept hO (hk9 _ hO.lt (Nat.ne_of_lt q_o_l0))
  refine wk_eqls (st' := [.ref l0, .ref o]) rfl ?_
  refine wk_putF (own := RX5) (C := RX5) (T := TX5) (N := 7) (ci := 6) (v := .ref l0) hx hb hts i_X5 tyX5 tyX5_ok nmX5 hown hK hO (Or.inl rfl) hS rfl 0 (by decide) (hts _ (List.mem_of_getElem? (i := 7) rfl)) (fun _ h9 => h9) rfl hin rfl (tyX5_ok 0 (by decide)) rfl rfl (Nat.le_of_ble_eq_true rfl) dX5_init_12 (fun H locs hP9 hz9 hk9 hS => ?_)
  have hO := hP9
  have h_l0 := va_at.kept h_l0 (hk9 _ (Nat.ne_of_gt q_o_l0))
  refine lv_aload_n hx hb dX5_init_15 rfl (lv_at hl 0 rfl) ?_
  have hSo := hS
  refine wk_newv (own := RX5) (C := RJx4a65c) (T := TJx4a65c) (N := 3) (ci := 0) (fs := [.int 0, .null, .int 0]) hx hb hts i_Jx4a65c tyJx4a65c tyJx4a65c_ok hown (hts _ (List.mem_of_getElem? (i := 4) rfl)) (hts _ (List.mem_of_getElem? (i := 5) rfl)) (hts _ (List.mem_of_getElem? (i := 6) rfl)) hK hS rfl (fun j hj => by rcases (show j = 0 ∨ j = 1 ∨ j = 2 by omega) with rfl | rfl | rfl <;> rfl) (Nat.le_of_ble_eq_true rfl) (Nat.le_of_ble_eq_true rfl) dX5_init_16 (fun l1 H ho9 hN9 hz9 hk9 hS => ?_)
  have p_l1 : s.heap.size ≤ l1 := by rw [ho9]; exact hSo.1
  have q_o_l1 : o < l1 := by rw [ho9]; exact hO.lt
  have q_l0_l1 : l0 < l1 := by rw [ho9]; exact h_l0.lt
  have hO := va_at.kept hO (hk9 _ hO.lt)
  have h_l0 := va_at.kept h_l0 (hk9 _ h_l0.lt)
  have h_l1 := hN9
  have b_l1 : E.2.2.1 ≤ l1 := by have := q_o_l1; omega
  refine lv_dup hx hb dX5_init_19 rfl ?_
  refine we_I (As := []) (rest := [.ref l1, .ref o]) ⟨hx, hb, hml, hown, hts⟩ (e_Jx4a65c_init_da8c8 l E h_l1 b_l1) (cwI 0 hts gX5_init_Jx4a65c_init_da8c8 rfl rfl rfl (hts _ (List.mem_of_getElem? (i := 6) rfl)) (hts _ (List.mem_of_getElem? (i := 17) rfl)) (hts _ (List.mem_of_getElem? (i := 18) rfl)) rfl (by decide +kernel) ⟨(Nat.le_of_ble_eq_true rfl), (Nat.le_of_ble_eq_true rfl)⟩) (hV.heap hS.1 (fun q hq => hS.2.1 q (Nat.lt_of_lt_of_le hq hV.2.2.2.2.2.2) (hbA q hq))) hS (fun q h => Or.inr (by rw [h]; exact p_l1)) hA9 rfl hl.1 rfl (Nat.le_of_ble_eq_true rfl) dX5_init_20 ⟨(Nat.le_of_ble_eq_true rfl), (Nat.le_of_ble_eq_true rfl)⟩ (fun v9 H locs hR9 hz9 hk9 hS => ?_)
  obtain ⟨rfl, h_l1⟩ := hR9
  have hO := va_at.kept hO (hk9 _ hO.lt (Nat.ne_of_lt q_o_l1))
  have h_l0 := va_at.kept h_l0 (hk9 _ h_l0.lt (Nat.ne_of_lt q_l0_l1))
  refine wk_eqls (st' := [.ref l1, .ref o]) rfl ?_
  refine wk_putF (own := RX5) (C := RX5) (T := TX5) (N := 7) (ci := 6) (v := .ref l1) hx hb hts i_X5 tyX5 tyX5_ok nmX5 hown hK hO (Or.inl rfl) hS rfl 1 (by decide) (hts _ (List.mem_of_getElem? (i := 8) rfl)) (fun _ h9 => h9) rfl hin rfl (tyX5_ok 1 (by decide)) rfl rfl (Nat.le_of_ble_eq_true rfl) dX5_init_23 (fun H locs hP9 hz9 hk9 hS => ?_)
  have hO := hP9
  have h_l0 := va_at.kept h_l0 (hk9 _ (Nat.ne_of_gt q_o_l0))
  have h_l1 := va_at.kept h_l1 (hk9 _ (Nat.ne_of_gt q_o_l1))
  refine lv_aload_n hx hb dX5_init_26 rfl (lv_at hl 0 rfl) ?_
  have hSo := hS
  refine wk_newv (own := RX5) (C := RJx4a65c) (T := TJx4a65c) (N := 3) (ci := 0) (fs := [.int 0, .null, .int 0]) hx hb hts i_Jx4a65c tyJx4a65c tyJx4a65c_ok hown (hts _ (List.mem_of_getElem? (i := 4) rfl)) (hts _ (List.mem_of_getElem? (i := 5) rfl)) (hts _ (List.mem_of_getElem? (i := 6) rfl)) hK hS rfl (fun j hj => by rcases (show j = 0 ∨ j = 1 ∨ j = 2 by omega) with rfl | rfl | rfl <;> rfl) (Nat.le_of_ble_eq_true rfl) (Nat.le_of_ble_eq_true rfl) dX5_init_27 (fun l2 H ho9 hN9 hz9 hk9 hS => ?_)
  have p_l2 : s.heap.size ≤ l2 := by rw [ho9]; exact hSo.1
  have q_o_l2 : o < l2 := by rw [ho9]; exact hO.lt
  have q_l0_l2 : l0 < l2 := by rw [ho9]; exact h_l0.lt
  have q_l1_l2 : l1 < l2 := by rw [ho9]; exact h_l1.lt
  have hO := va_at.kept hO (hk9 _ hO.lt)
  have h_l0 := va_at.kept h_l0 (hk9 _ h_l0.lt)
  have h_l1 := va_at.kept h_l1 (hk9 _ h_l1.lt)
  have h_l2 := hN9
  have b_l2 : E.2.2.1 ≤ l2 := by have := q_o_l2; omega
  refine lv_dup hx hb dX5_init_30 rfl ?_
  refine we_I (As := []) (rest := [.ref l2, .ref o]) ⟨hx, hb, hml, hown, hts⟩ (e_Jx4a65c_init_da8c8 l E h_l2 b_l2) (cwI 0 hts gX5_init_Jx4a65c_init_da8c8 rfl rfl rfl (hts _ (List.mem_of_getElem? (i := 6) rfl)) (hts _ (List.mem_of_getElem? (i := 17) rfl)) (hts _ (List.mem_of_getElem? (i := 18) rfl)) rfl (by decide +kernel) ⟨(Nat.le_of_ble_eq_true rfl), (Nat.le_of_ble_eq_true rfl)⟩) (hV.heap hS.1 (fun q hq => hS.2.1 q (Nat.lt_of_lt_of_le hq hV.2.2.2.2.2.2) (hbA q hq))) hS (fun q h => Or.inr (by rw [h]; exact p_l2)) hA9 rfl hl.1 rfl (Nat.le_of_ble_eq_true rfl) dX5_init_31 ⟨(Nat.le_of_ble_eq_true rfl), (Nat.le_of_ble_eq_true rfl)⟩ (fun v9 H locs hR9 hz9 hk9 hS => ?_)
  obtain ⟨rfl, h_l2⟩ := hR9
  have hO := va_at.kept hO (hk9 _ hO.lt (Nat.ne_of_lt q_o_l2))
  have h_l0 := va_at.kept h_l0 (hk9 _ h_l0.lt (Nat.ne_of_lt q_l0_l2))
  have h_l1 := va_at.kept h_l1 (hk9 _ h_l1.lt (Nat.ne_of_lt q_l1_l2))
  refine wk_eqls (st' := [.ref l2, .ref o]) rfl ?_
  refine wk_putF (own := RX5) (C := RX5) (T := TX5) (N := 7) (ci := 6) (v := .ref l2) hx hb hts i_X5 tyX5 tyX5_ok nmX5 hown hK hO (Or.inl rfl) hS rfl 2 (by decide) (hts _ (List.mem_of_getElem? (i := 9) rfl)) (fun _ h9 => h9) rfl hin rfl (tyX5_ok 2 (by decide)) rfl rfl (Nat.le_of_ble_eq_true rfl) dX5_init_34 (fun H locs hP9 hz9 hk9 hS => ?_)
  have hO := hP9
  have h_l0 := va_at.kept h_l0 (hk9 _ (Nat.ne_of_gt q_o_l0))
  have h_l1 := va_at.kept h_l1 (hk9 _ (Nat.ne_of_gt q_o_l1))
  have h_l2 := va_at.kept h_l2 (hk9 _ (Nat.ne_of_gt q_o_l2))
  refine lv_aload_n hx hb dX5_init_37 rfl (lv_at hl 0 rfl) ?_
  have hSo := hS
  refine wk_newv (own := RX5) (C := RJx4a65c) (T := TJx4a65c) (N := 3) (ci := 0) (fs := [.int 0, .null, .int 0]) hx hb hts i_Jx4a65c tyJx4a65c tyJx4a65c_ok hown (hts _ (List.mem_of_getElem? (i := 4) rfl)) (hts _ (List.mem_of_getElem? (i := 5) rfl)) (hts _ (List.mem_of_getElem? (i := 6) rfl)) hK hS rfl (fun j hj => by rcases (show j = 0 ∨ j = 1 ∨ j = 2 by omega) with rfl | rfl | rfl <;> rfl) (Nat.le_of_ble_eq_true rfl) (Nat.le_of_ble_eq_true rfl) dX5_init_38 (fun l3 H ho9 hN9 hz9 hk9 hS => ?_)
  have p_l3 : s.heap.size ≤ l3 := by rw [ho9]; exact hSo.1
  have q_o_l3 : o < l3 := by rw [ho9]; exact hO.lt
  have q_l0_l3 : l0 < l3 := by rw [ho9]; exact h_l0.lt
  have q_l1_l3 : l1 < l3 := by rw [ho9]; exact h_l1.lt
  have q_l2_l3 : l2 < l3 := by rw [ho9]; exact h_l2.lt
  have hO := va_at.kept hO (hk9 _ hO.lt)
  have h_l0 := va_at.kept h_l0 (hk9 _ h_l0.lt)
  have h_l1 := va_at.kept h_l1 (hk9 _ h_l1.lt)
  have h_l2 := va_at.kept h_l2 (hk9 _ h_l2.lt)
  have h_l3 := hN9
  have b_l3 : E.2.2.1 ≤ l3 := by have := q_o_l3; omega
  refine lv_dup hx hb dX5_init_41 rfl ?_
  refine we_I (As := []) (rest := [.ref l3, .ref o]) ⟨hx, hb, hml, hown, hts⟩ (e_Jx4a65c_init_da8c8 l E h_l3 b_l3) (cwI 0 hts gX5_init_Jx4a65c_init_da8c8 rfl rfl rfl (hts _ (List.mem_of_getElem? (i := 6) rfl)) (hts _ (List.mem_of_getElem? (i := 17) rfl)) (hts _ (List.mem_of_getElem? (i := 18) rfl)) rfl (by decide +kernel) ⟨(Nat.le_of_ble_eq_true rfl), (Nat.le_of_ble_eq_true rfl)⟩) (hV.heap hS.1 (fun q hq => hS.2.1 q (Nat.lt_of_lt_of_le hq hV.2.2.2.2.2.2) (hbA q hq))) hS (fun q h => Or.inr (by rw [h]; exact p_l3)) hA9 rfl hl.1 rfl (Nat.le_of_ble_eq_true rfl) dX5_init_42 ⟨(Nat.le_of_ble_eq_true rfl), (Nat.le_of_ble_eq_true rfl)⟩ (fun v9 H locs hR9 hz9 hk9 hS => ?_)
  obtain ⟨rfl, h_l3⟩ := hR9
  have hO := va_at.kept hO (hk9 _ hO.lt (Nat.ne_of_lt q_o_l3))
  have h_l0 := va_at.kept h_l0 (hk9 _ h_l0.lt (Nat.ne_of_lt q_l0_l3))
  have h_l1 := va_at.kept h_l1 (hk9 _ h_l1.lt (Nat.ne_of_lt q_l1_l3))
  have h_l2 := va_at.kept h_l2 (hk9 _ h_l2.lt (Nat.ne_of_lt q_l2_l3))
  refine wk_eqls (st' := [.ref l3, .ref o]) rfl ?_
  refine wk_putF (own := RX5) (C := RX5) (T := TX5) (N := 7) (ci := 6) (v := .ref l3) hx hb hts i_X5 tyX5 tyX5_ok nmX5 hown hK hO (Or.inl rfl) hS rfl 3 (by decide) (hts _ (List.mem_of_getElem? (i := 10) rfl)) (fun _ h9 => h9) rfl hin rfl (tyX5_ok 3 (by decide)) rfl rfl (Nat.le_of_ble_eq_true rfl) dX5_init_45 (fun H locs hP9 hz9 hk9 hS => ?_)
  have hO := hP9
  have h_l0 := va_at.kept h_l0 (hk9 _ (Nat.ne_of_gt q_o_l0))
  have h_l1 := va_at.kept h_l1 (hk9 _ (Nat.ne_of_gt q_o_l1))
  have h_l2 := va_at.kept h_l2 (hk9 _ (Nat.ne_of_gt q_o_l2))
  have h_l3 := va_at.kept h_l3 (hk9 _ (Nat.ne_of_gt q_o_l3))
  refine lv_aload_n hx hb dX5_init_48 rfl (lv_at hl 0 rfl) ?_
  have hSo := hS
  refine wk_newv (own := RX5) (C := RX4) (T := TX4) (N := 4) (ci := 5) (fs := [.null, .null, .int 0, .int 0]) hx hb hts i_X4 tyX4 tyX4_ok hown (hts _ (List.mem_of_getElem? (i := 11) rfl)) (hts _ (List.mem_of_getElem? (i := 12) rfl)) (hts _ (List.mem_of_getElem? (i := 13) rfl)) hK hS rfl (fun j hj => by rcases (show j = 0 ∨ j = 1 ∨ j = 2 ∨ j = 3 by omega) with rfl | rfl | rfl | rfl <;> rfl) (Nat.le_of_ble_eq_true rfl) (Nat.le_of_ble_eq_true rfl) dX5_init_49 (fun sc H ho9 hN9 hz9 hk9 hS => ?_)
  have p_sc : s.heap.size ≤ sc := by rw [ho9]; exact hSo.1
  have q_o_sc : o < sc := by rw [ho9]; exact hO.lt
  have q_l0_sc : l0 < sc := by rw [ho9]; exact h_l0.lt
  have q_l1_sc : l1 < sc := by rw [ho9]; exact h_l1.lt
  have q_l2_sc : l2 < sc := by rw [ho9]; exact h_l2.lt
  have q_l3_sc : l3 < sc := by rw [ho9]; exact h_l3.lt
  have hO := va_at.kept hO (hk9 _ hO.lt)
  have h_l0 := va_at.kept h_l0 (hk9 _ h_l0.lt)
  have h_l1 := va_at.kept h_l1 (hk9 _ h_l1.lt)
  have h_l2 := va_at.kept h_l2 (hk9 _ h_l2.lt)
  have h_l3 := va_at.kept h_l3 (hk9 _ h_l3.lt)
  have h_sc := hN9
  have b_sc : E.2.2.1 ≤ sc := by have := q_o_sc; omega
  refine lv_dup hx hb dX5_init_52 rfl ?_
  have hscl := h_sc.lt
  refine we_IN (As := []) (rest := [.ref sc, .ref o]) ⟨hx, hb, hml, hown, hts⟩ (e_X4_init l E h_sc b_sc) ⟨va_cnB 0 hts gX5_init_X4_init_n27 rfl rfl rfl hK.2.2 (hts _ (List.mem_of_getElem? (i := 13) rfl)) (by decide +kernel) ⟨(Nat.le_of_ble_eq_true rfl), (Nat.le_of_ble_eq_true rfl)⟩, rfl, (hts _ (List.mem_of_getElem? (i := 32) rfl))⟩ (hV.heap hS.1 (fun q hq => hS.2.1 q (Nat.lt_of_lt_of_le hq hV.2.2.2.2.2.2) (hbA q hq))) hS (fun q h => Or.inr (by rw [h]; exact p_sc)) hA9 rfl hl.1 rfl (Nat.le_of_ble_eq_true rfl) dX5_init_53 ⟨(Nat.le_of_ble_eq_true rfl), (Nat.le_of_ble_eq_true rfl)⟩ (fun v9 H locs hR9 hz9 hk9 hS => ?_)
  obtain ⟨rfl, a1, a2, g1, g2, h_sc, h_a1, h_a2⟩ := hR9
  have q_o_a1 : o < a1 := by have := hO.lt; omega
  have q_o_a2 : o < a2 := by have := hO.lt; omega
  have q_l0_a1 : l0 < a1 := by have := h_l0.lt; omega
  have q_l0_a2 : l0 < a2 := by have := h_l0.lt; omega
  have q_l1_a1 : l1 < a1 := by have := h_l1.lt; omega
  have q_l1_a2 : l1 < a2 := by have := h_l1.lt; omega
  have q_l2_a1 : l2 < a1 := by have := h_l2.lt; omega
  have q_l2_a2 : l2 < a2 := by have := h_l2.lt; omega
  have q_l3_a1 : l3 < a1 := by have := h_l3.lt; omega
  have q_l3_a2 : l3 < a2 := by have := h_l3.lt; omega
  have q_sc_a1 : sc < a1 := by have := hscl; omega
  have q_sc_a2 : sc < a2 := by have := hscl; omega
  have hO := va_at.kept hO (hk9 _ hO.lt (Nat.ne_of_lt q_o_sc))
  have h_l0 := va_at.kept h_l0 (hk9 _ h_l0.lt (Nat.ne_of_lt q_l0_sc))
  have h_l1 := va_at.kept h_l1 (hk9 _ h_l1.lt (Nat.ne_of_lt q_l1_sc))
  have h_l2 := va_at.kept h_l2 (hk9 _ h_l2.lt (Nat.ne_of_lt q_l2_sc))
  have h_l3 := va_at.kept h_l3 (hk9 _ h_l3.lt (Nat.ne_of_lt q_l3_sc))
  have q_a1_a2 := g2
  refine wk_eqls (st' := [.ref sc, .ref o]) rfl ?_
  refine wk_putF (own := RX5) (C := RX5) (T := TX5) (N := 7) (ci := 6) (v := .ref sc) hx hb hts i_X5 tyX5 tyX5_ok nmX5 hown hK hO (Or.inl rfl) hS rfl 4 (by decide) (hts _ (List.mem_of_getElem? (i := 14) rfl)) (fun _ h9 => h9) rfl hin rfl (tyX5_ok 4 (by decide)) rfl rfl (Nat.le_of_ble_eq_true rfl) dX5_init_56 (fun H locs hP9 hz9 hk9 hS => ?_)
  have hO := hP9
  have h_l0 := va_at.kept h_l0 (hk9 _ (Nat.ne_of_gt q_o_l0))
  have h_l1 := va_at.kept h_l1 (hk9 _ (Nat.ne_of_gt q_o_l1))
  have h_l2 := va_at.kept h_l2 (hk9 _ (Nat.ne_of_gt q_o_l2))
  have h_l3 := va_at.kept h_l3 (hk9 _ (Nat.ne_of_gt q_o_l3))
  have h_sc := va_at.kept h_sc (hk9 _ (Nat.ne_of_gt q_o_sc))
  have h_a1 := va_at.kept h_a1 (hk9 _ (Nat.ne_of_gt q_o_a1))
  have h_a2 := va_at.kept h_a2 (hk9 _ (Nat.ne_of_gt q_o_a2))
  refine lv_aload_n hx hb dX5_init_59 rfl (lv_at hl 0 rfl) ?_
  refine lv_iconst (v := 0) hx hb dX5_init_60 (by decide) ?_
  refine wk_put (own := RX5) (C := RX5) (T := TX5) (N := 7) (ci := 6) (v := .int 0) hx hb hts i_X5 tyX5 tyX5_ok nmX5 hown hK hO (Or.inl rfl) hS rfl 5 (by decide) (hts _ (List.mem_of_getElem? (i := 15) rfl)) (fun _ h9 => h9) rfl (tyX5_ok 5 (by decide)) rfl rfl (Nat.le_of_ble_eq_true rfl) dX5_init_61 (fun H locs hP9 hz9 hk9 hS => ?_)
  have hO := hP9
  have h_l0 := va_at.kept h_l0 (hk9 _ (Nat.ne_of_gt q_o_l0))
  have h_l1 := va_at.kept h_l1 (hk9 _ (Nat.ne_of_gt q_o_l1))
  have h_l2 := va_at.kept h_l2 (hk9 _ (Nat.ne_of_gt q_o_l2))
  have h_l3 := va_at.kept h_l3 (hk9 _ (Nat.ne_of_gt q_o_l3))
  have h_sc := va_at.kept h_sc (hk9 _ (Nat.ne_of_gt q_o_sc))
  have h_a1 := va_at.kept h_a1 (hk9 _ (Nat.ne_of_gt q_o_a1))
  have h_a2 := va_at.kept h_a2 (hk9 _ (Nat.ne_of_gt q_o_a2))
  refine lv_aload_n hx hb dX5_init_64 rfl (lv_at hl 0 rfl) ?_
  refine lv_iconst (v := 5) hx hb dX5_init_65 (by decide) ?_
  refine wk_put (own := RX5) (C := RX5) (T := TX5) (N := 7) (ci := 6) (v := .int 5) hx hb hts i_X5 tyX5 tyX5_ok nmX5 hown hK hO (Or.inl rfl) hS rfl 6 (by decide) (hts _ (List.mem_of_getElem? (i := 16) rfl)) (fun _ h9 => h9) rfl (tyX5_ok 6 (by decide)) rfl rfl (Nat.le_of_ble_eq_true rfl) dX5_init_66 (fun H locs hP9 hz9 hk9 hS => ?_)
  have hO := hP9
  have h_l0 := va_at.kept h_l0 (hk9 _ (Nat.ne_of_gt q_o_l0))
  have h_l1 := va_at.kept h_l1 (hk9 _ (Nat.ne_of_gt q_o_l1))
  have h_l2 := va_at.kept h_l2 (hk9 _ (Nat.ne_of_gt q_o_l2))
  have h_l3 := va_at.kept h_l3 (hk9 _ (Nat.ne_of_gt q_o_l3))
  have h_sc := va_at.kept h_sc (hk9 _ (Nat.ne_of_gt q_o_sc))
  have h_a1 := va_at.kept h_a1 (hk9 _ (Nat.ne_of_gt q_o_a1))
  have h_a2 := va_at.kept h_a2 (hk9 _ (Nat.ne_of_gt q_o_a2))
  refine W.widen (k := 7) (n := 48) (Nat.le_of_ble_eq_true rfl) (Nat.le_of_ble_eq_true rfl) ?_
  exact W.vret hx hb hr (we_end (Rt := fun v H1 => v = none ∧ ∃ l0 l1 l2 l3 sc a1 a2 : Nat, (s.heap.size ≤ l0 ∧ o < l0 ∧ l0 < l1 ∧ l1 < l2 ∧ l2 < l3 ∧ l3 < sc ∧ sc < a1 ∧ a1 < a2) ∧ va_at E.1 vwCl (o, .inr (6, [.ref l0, .ref l1, .ref l2, .ref l3, .ref sc, .int 0, .int 5])) H1 ∧ (va_at E.1 vwCl (l0, .inr (0, [.int 0, .ref E.2.2.2, .int 0])) H1 ∧ va_at E.1 vwCl (l1, .inr (0, [.int 0, .ref E.2.2.2, .int 0])) H1 ∧ va_at E.1 vwCl (l2, .inr (0, [.int 0, .ref E.2.2.2, .int 0])) H1 ∧ va_at E.1 vwCl (l3, .inr (0, [.int 0, .ref E.2.2.2, .int 0])) H1) ∧ va_at E.1 vwCl (sc, .inr (5, [.ref a1, .ref a2, .int 0, .int 0])) H1 ∧ va_at E.1 vwCl (a1, .inl (E.2.1.1, 16, .inl (fun _ => 0))) H1 ∧ va_at E.1 vwCl (a2, .inl (E.2.1.1, 16, .inl (fun _ => 0))) H1) (F := fun q => q = o) (⟨rfl, l0, l1, l2, l3, sc, a1, a2, ⟨p_l0, q_o_l0, q_l0_l1, q_l1_l2, q_l2_l3, q_l3_sc, q_sc_a1, q_a1_a2⟩, hO, ⟨h_l0, h_l1, h_l2, h_l3⟩, h_sc, h_a1, h_a2⟩) hS) hS.2.2 dX5_init_69
