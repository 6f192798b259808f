abbrev rme_X6_init : Room := { frames := 1, cells := 17, slots := 174, locals := 12 }
set_option maxHeartbeats 4000000 in
set_option maxRecDepth 100000 in
theorem e_X6_init (l : Launch) (E : wk_E) {H : Heap} {o : Nat} (hO : va_at E.1 vwCl (o, .inr (7, [.int 0, .int 0, .int 0, .int 0, .null, .null, .null, .null, .int 0, .null, .int 0, .null, .null, .null, .null, .null, .null, .null, .int 0, .null, .null, .null, .null, .null, .int 0, .long 0])) H) (hob : E.2.2.1 ≤ o) : we_Met l yX6_init wsX6_init rme_X6_init E H [.ref o] (fun q => q = o) 17 174 (fun v H1 => v = none ∧ ∃ y0 y1 y2 y3 y4 y5 y6 y7 y8 y9 y10 y11 y12 y13 y14 y15 y16 : Nat, (H.size ≤ y0 ∧ o < y0 ∧ y0 < y1 ∧ y1 < y2 ∧ y2 < y3 ∧ y3 < y4 ∧ y4 < y5 ∧ y5 < y6 ∧ y6 < y7 ∧ y7 < y8 ∧ y8 < y9 ∧ y9 < y10 ∧ y10 < y11 ∧ y11 < y12 ∧ y12 < y13 ∧ y13 < y14 ∧ y14 < y15 ∧ y15 < y16) ∧ va_at E.1 vwCl (o, .inr (7, [.int 0, .int 0, .int 5, .int 0, .ref y0, .ref y1, .ref y2, .ref y3, .int 0, .ref y4, .int 0, .ref y5, .ref y6, .ref y7, .ref y8, .ref y9, .ref y10, .ref y11, .int 0, .ref y12, .ref y13, .ref y14, .ref y15, .ref y16, .int 0, .long 0])) H1 ∧ va_at E.1 vwCl (y0, .inl (E.2.1.1, 5, .inl (fun _ => 0))) H1 ∧ va_at E.1 vwCl (y1, .inl (E.2.1.1, 5, .inl (fun _ => 0))) H1 ∧ va_at E.1 vwCl (y2, .inl (E.2.1.1, 5, .inl (fun _ => 0))) H1 ∧ va_at E.1 vwCl (y3, .inl (E.2.1.1, 5, .inl (fun _ => 0))) H1 ∧ va_at E.1 vwCl (y4, .inl (E.2.1.1, 18, .inl (fun _ => 0))) H1 ∧ va_at E.1 vwCl (y5, .inl (E.2.1.1, 8, .inl (fun _ => 0))) H1 ∧ va_at E.1 vwCl (y6, .inl (E.2.1.1, 8, .inl (fun _ => 0))) H1 ∧ va_at E.1 vwCl (y7, .inl (E.2.1.1, 8, .inl (fun _ => 0))) H1 ∧ va_at E.1 vwCl (y8, .inl (E.2.1.1, 8, .inl (fun _ => 0))) H1 ∧ va_at E.1 vwCl (y9, .inl (E.2.1.1, 8, .inl (fun _ => 0))) H1 ∧ va_at E.1 vwCl (y10, .inl (E.2.1.1, 8, .inl (fun _ => 0))) H1 ∧ va_at E.1 vwCl (y11, .inl (E.2.1.1, 8, .inl (fun _ => 0))) H1 ∧ va_at E.1 vwCl (y12, .inl (E.2.1.1, 16, .inl (fun _ => 0))) H1 ∧ va_at E.1 vwCl (y13, .inl (E.2.1.1, 16, .inl (fun _ => 0))) H1 ∧ va_at E.1 vwCl (y14, .inl (E.2.1.1, 16, .inl (fun _ => 0))) H1 ∧ va_at E.1 vwCl (y15, .inl (E.2.1.1, 16, .inl (fun _ => 0))) H1 ∧ va_at E.1 vwCl (y16, .inl (E.2.1.1, 16, .inl (fun _ => 0))) H1) := by
  refine Met.ofW (cc := cX6_init) (maxL := 1) (ret := none) (by decide) rfl ?_
  intro p e s m args below meth c s₁ B hml hv
  obtain ⟨rfl, hH, hV⟩ := hv
  subst hH
  have hK := hV.k
  have hx := B.exec
  have hb := B.bytes
  have hr := B.returns
  have hts := atoms_spec (ws := wsX6_init) B.pre
  have hown : s.vm.findClass RX6 = some m.cls := findClass_of_methodNamed B.named
  have hlocks := B.notSynchronized
  have hS : va_S (fun q => (fun q => q = o) q ∨ s.heap.size ≤ q) s.heap s.heap [] := va_S.rf
  have hA9 : ∀ q : Nat, s.heap.size ≤ q → ((fun q => q = o) q ∨ s.heap.size ≤ q) := fun _ h => Or.inr h
  have hbA : ∀ q : Nat, q < E.2.2.1 → ¬ ((fun q => q = o) q ∨ s.heap.size ≤ q) := fun q hq z => z.elim (fun z => absurd (z ▸ hq) (Nat.not_lt.mpr hob)) (fun z => absurd (Nat.lt_of_lt_of_le hq hV.2.2.2.2.2.2) (Nat.not_lt.mpr z))
  have hin : meth.name = "<init>" := (name_of_methodNamed B.named B.method).1
  have i_X6 : ∀ w ∈ u_ws RX6 TX6 26, w ∈ wsX6_init := fun w h => (List.mem_cons_of_mem _ (List.mem_append_right _ h))
  have hl := lv_entry [.ref o] (n := 1) (Nat.le_of_ble_eq_true rfl)
  rw [lg_entry_eq]
  generalize (lg_sl [.ref o] ++ List.replicate (1 - (lg_sl [.ref o]).length) Slot.unset).toArray = ls at hl ⊢
  have hl : lv_has ls 1 [(0, .ref o)] := hl
  refine lv_aload_n hx hb dX6_init_0 rfl (lv_at hl 0 rfl) ?_
  refine W.objInit hx hb hown (hts _ (List.mem_of_getElem? (i := 1) rfl)) (hts _ (List.mem_of_getElem? (i := 2) rfl)) (hts _ (List.mem_of_getElem? (i := 3) rfl)) rfl (by rw [hml]; exact hl.1) rfl dX6_init_1 (Nat.le_of_ble_eq_true rfl) (Nat.le_of_ble_eq_true rfl) ?_
  refine W.eq (g2 := F0 m 4 ls []) rfl ?_
  refine lv_aload_n hx hb dX6_init_4 rfl (lv_at hl 0 rfl) ?_
  refine lv_iconst (v := 5) hx hb dX6_init_5 (by decide) ?_
  refine wk_put (own := RX6) (C := RX6) (T := TX6) (N := 26) (ci := 7) (v := .int 5) hx hb hts i_X6 tyX6 tyX6_ok nmX6 hown hK hO (Or.inl rfl) hS rfl 2 (by decide) (hts _ (List.mem_of_getElem? (i := 4) rfl)) (fun _ h9 => h9) rfl (tyX6_ok 2 (by decide)) rfl rfl (Nat.le_of_ble_eq_true rfl) dX6_init_6 (fun H locs hP9 hz9 hk9 hS => ?_)
  have hO := hP9
  refine lv_aload_n hx hb dX6_init_9 rfl (lv_at hl 0 rfl) ?_
  refine lv_iconst (v := 5) hx hb dX6_init_10 (by decide) ?_
  have hSo := hS
  refine wk_newiv hx hb (hts _ (List.mem_of_getElem? (i := 5) rfl)) hK hS 5 rfl (by omega) (Nat.le_of_ble_eq_true rfl) (Nat.le_of_ble_eq_true rfl) dX6_init_11 (fun y0 H ho9 hN9 hz9 hk9 hS => ?_)
  have p_y0 : s.heap.size ≤ y0 := by rw [ho9]; exact hSo.1
  have q_o_y0 : o < y0 := by rw [ho9]; exact hO.lt
  have hO := va_at.kept hO (hk9 _ hO.lt)
  have h_y0 := hN9
  refine wk_putF (own := RX6) (C := RX6) (T := TX6) (N := 26) (ci := 7) (v := .ref y0) hx hb hts i_X6 tyX6 tyX6_ok nmX6 hown hK hO (Or.inl rfl) hS rfl 4 (by decide) (hts _ (List.mem_of_getElem? (i := 6) rfl)) (fun _ h9 => h9) rfl hin rfl (tyX6_ok 4 (by decide)) rfl rfl (Nat.le_of_ble_eq_true rfl) dX6_init_13 (fun H locs hP9 hz9 hk9 hS => ?_)
  have hO := hP9
  have h_y0 := va_at.kept h_y0 (hk9 _ (Nat.ne_of_gt q_o_y0))
  refine lv_aload_n hx hb dX6_init_16 rfl (lv_at hl 0 rfl) ?_
  refine lv_iconst (v := 5) hx hb dX6_init_17 (by decide) ?_
  have hSo := hS
  refine wk_newiv hx hb (hts _ (List.mem_of_getElem? (i := 5) rfl)) hK hS 5 rfl (by omega) (Nat.le_of_ble_eq_true rfl) (Nat.le_of_ble_eq_true rfl) dX6_init_18 (fun y1 H ho9 hN9 hz9 hk9 hS => ?_)
  have q_o_y1 : o < y1 := by rw [ho9]; exact hO.lt
  have q_y0_y1 : y0 < y1 := by rw [ho9]; exact h_y0.lt
  have hO := va_at.kept hO (hk9 _ hO.lt)
  have h_y0 := va_at.kept h_y0 (hk9 _ h_y0.lt)
  have h_y1 := hN9
  refine wk_putF (own := RX6) (C := RX6) (T := TX6) (N := 26) (ci := 7) (v := .ref y1) hx hb hts i_X6 tyX6 tyX6_ok nmX6 hown hK hO (Or.inl rfl) hS rfl 5 (by decide) (hts _ (List.mem_of_getElem? (i := 7) rfl)) (fun _ h9 => h9) rfl hin rfl (tyX6_ok 5 (by decide)) rfl rfl (Nat.le_of_ble_eq_true rfl) dX6_init_20 (fun H locs hP9 hz9 hk9 hS => ?_)
  have hO := hP9
  have h_y0 := va_at.kept h_y0 (hk9 _ (Nat.ne_of_gt q_o_y0))
  have h_y1 := va_at.kept h_y1 (hk9 _ (Nat.ne_of_gt q_o_y1))
  refine lv_aload_n hx hb dX6_init_23 rfl (lv_at hl 0 rfl) ?_
  refine lv_iconst (v := 5) hx hb dX6_init_24 (by decide) ?_
  have hSo := hS
  refine wk_newiv hx hb (hts _ (List.mem_of_getElem? (i := 5) rfl)) hK hS 5 rfl (by omega) (Nat.le_of_ble_eq_true rfl) (Nat.le_of_ble_eq_true rfl) dX6_init_25 (fun y2 H ho9 hN9 hz9 hk9 hS => ?_)
  have q_o_y2 : o < y2 := by rw [ho9]; exact hO.lt
  have q_y0_y2 : y0 < y2 := by rw [ho9]; exact h_y0.lt
  have q_y1_y2 : y1 < y2 := by rw [ho9]; exact h_y1.lt
  have hO := va_at.kept hO (hk9 _ hO.lt)
  have h_y0 := va_at.kept h_y0 (hk9 _ h_y0.lt)
  have h_y1 := va_at.kept h_y1 (hk9 _ h_y1.lt)
  have h_y2 := hN9
  refine wk_putF (own := RX6) (C := RX6) (T := TX6) (N := 26) (ci := 7) (v := .ref y2) hx hb hts i_X6 tyX6 tyX6_ok nmX6 hown hK hO (Or.inl rfl) hS rfl 6 (by decide) (hts _ (List.mem_of_getElem? (i := 8) rfl)) (fun _ h9 => h9) rfl hin rfl (tyX6_ok 6 (by decide)) rfl rfl (Nat.le_of_ble_eq_true rfl) dX6_init_27 (fun H locs hP9 hz9 hk9 hS => ?_)
  have hO := hP9
  have h_y0 := va_at.kept h_y0 (hk9 _ (Nat.ne_of_gt q_o_y0))
  have h_y1 := va_at.kept h_y1 (hk9 _ (Nat.ne_of_gt q_o_y1))
  have h_y2 := va_at.kept h_y2 (hk9 _ (Nat.ne_of_gt q_o_y2))
  refine lv_aload_n hx hb dX6_init_30 rfl (lv_at hl 0 rfl) ?_
  refine lv_iconst (v := 5) hx hb dX6_init_31 (by decide) ?_
  have hSo := hS
  refine wk_newiv hx hb (hts _ (List.mem_of_getElem? (i := 5) rfl)) hK hS 5 rfl (by omega) (Nat.le_of_ble_eq_true rfl) (Nat.le_of_ble_eq_true rfl) dX6_init_32 (fun y3 H ho9 hN9 hz9 hk9 hS => ?_)
  have q_o_y3 : o < y3 := by rw [ho9]; exact hO.lt
  have q_y0_y3 : y0 < y3 := by rw [ho9]; exact h_y0.lt
  have q_y1_y3 : y1 < y3 := by rw [ho9]; exact h_y1.lt
  have q_y2_y3 : y2 < y3 := by rw [ho9]; exact h_y2.lt
  have hO := va_at.kept hO (hk9 _ hO.lt)
  have h_y0 := va_at.kept h_y0 (hk9 _ h_y0.lt)
  have h_y1 := va_at.kept h_y1 (hk9 _ h_y1.lt)
  have h_y2 := va_at.kept h_y2 (hk9 _ h_y2.lt)
  have h_y3 := hN9
  refine wk_putF (own := RX6) (C := RX6) (T := TX6) (N := 26) (ci := 7) (v := .ref y3) hx hb hts i_X6 tyX6 tyX6_ok nmX6 hown hK hO (Or.inl rfl) hS rfl 7 (by decide) (hts _ (List.mem_of_getElem? (i := 9) rfl)) (fun _ h9 => h9) rfl hin rfl (tyX6_ok 7 (by decide)) rfl rfl (Nat.le_of_ble_eq_true rfl) dX6_init_34 (fun H locs hP9 hz9 hk9 hS => ?_)
  have hO := hP9
  have h_y0 := va_at.kept h_y0 (hk9 _ (Nat.ne_of_gt q_o_y0))
  have h_y1 := va_at.kept h_y1 (hk9 _ (Nat.ne_of_gt q_o_y1))
  have h_y2 := va_at.kept h_y2 (hk9 _ (Nat.ne_of_gt q_o_y2))
  have h_y3 := va_at.kept h_y3 (hk9 _ (Nat.ne_of_gt q_o_y3))
  refine lv_aload_n hx hb dX6_init_37 rfl (lv_at hl 0 rfl) ?_
  refine lv_bipush (v := 18) hx hb dX6_init_38 (by decide) ?_
  have hSo := hS
  refine wk_newiv hx hb (hts _ (List.mem_of_getElem? (i := 5) rfl)) hK hS 18 rfl (by omega) (Nat.le_of_ble_eq_true rfl) (Nat.le_of_ble_eq_true rfl) dX6_init_40 (fun y4 H ho9 hN9 hz9 hk9 hS => ?_)
  have q_o_y4 : o < y4 := by rw [ho9]; exact hO.lt
  have q_y0_y4 : y0 < y4 := by rw [ho9]; exact h_y0.lt
  have q_y1_y4 : y1 < y4 := by rw [ho9]; exact h_y1.lt
  have q_y2_y4 : y2 < y4 := by rw [ho9]; exact h_y2.lt
  have q_y3_y4 : y3 < y4 := by rw [ho9]; exact h_y3.lt
  have hO := va_at.kept hO (hk9 _ hO.lt)
  have h_y0 := va_at.kept h_y0 (hk9 _ h_y0.lt)
  have h_y1 := va_at.kept h_y1 (hk9 _ h_y1.lt)
  have h_y2 := va_at.kept h_y2 (hk9 _ h_y2.lt)
  have h_y3 := va_at.kept h_y3 (hk9 _ h_y3.lt)
  have h_y4 := hN9
  refine wk_putF (own := RX6) (C := RX6) (T := TX6) (N := 26) (ci := 7) (v := .ref y4) hx hb hts i_X6 tyX6 tyX6_ok nmX6 hown hK hO (Or.inl rfl) hS rfl 9 (by decide) (hts _ (List.mem_of_getElem? (i := 10) rfl)) (fun _ h9 => h9) rfl hin rfl (tyX6_ok 9 (by decide)) rfl rfl (Nat.le_of_ble_eq_true rfl) dX6_init_42 (fun H locs hP9 hz9 hk9 hS => ?_)
  have hO := hP9
  have h_y0 := va_at.kept h_y0 (hk9 _ (Nat.ne_of_gt q_o_y0))
  have h_y1 := va_at.kept h_y1 (hk9 _ (Nat.ne_of_gt q_o_y1))
  have h_y2 := va_at.kept h_y2 (hk9 _ (Nat.ne_of_gt q_o_y2))
  have h_y3 := va_at.kept h_y3 (hk9 _ (Nat.ne_of_gt q_o_y3))
  have h_y4 := va_at.kept h_y4 (hk9 _ (Nat.ne_of_gt q_o_y4))
  refine lv_aload_n hx hb dX6_init_45 rfl (lv_at hl 0 rfl) ?_
  refine lv_bipush (v := 8) hx hb dX6_init_46 (by decide) ?_
  have hSo := hS
  refine wk_newiv hx hb (hts _ (List.mem_of_getElem? (i := 5) rfl)) hK hS 8 rfl (by omega) (Nat.le_of_ble_eq_true rfl) (Nat.le_of_ble_eq_true rfl) dX6_init_48 (fun y5 H ho9 hN9 hz9 hk9 hS => ?_)
  have q_o_y5 : o < y5 := by rw [ho9]; exact hO.lt
  have q_y0_y5 : y0 < y5 := by rw [ho9]; exact h_y0.lt
  have q_y1_y5 : y1 < y5 := by rw [ho9]; exact h_y1.lt
  have q_y2_y5 : y2 < y5 := by rw [ho9]; exact h_y2.lt
  have q_y3_y5 : y3 < y5 := by rw [ho9]; exact h_y3.lt
  have q_y4_y5 : y4 < y5 := by rw [ho9]; exact h_y4.lt
  have hO := va_at.kept hO (hk9 _ hO.lt)
  have h_y0 := va_at.kept h_y0 (hk9 _ h_y0.lt)
  have h_y1 := va_at.kept h_y1 (hk9 _ h_y1.lt)
  have h_y2 := va_at.kept h_y2 (hk9 _ h_y2.lt)
  have h_y3 := va_at.kept h_y3 (hk9 _ h_y3.lt)
  have h_y4 := va_at.kept h_y4 (hk9 _ h_y4.lt)
  have h_y5 := hN9
  refine wk_putF (own := RX6) (C := RX6) (T := TX6) (N := 26) (ci := 7) (v := .ref y5) hx hb hts i_X6 tyX6 tyX6_ok nmX6 hown hK hO (Or.inl rfl) hS rfl 11 (by decide) (hts _ (List.mem_of_getElem? (i := 11) rfl)) (fun _ h9 => h9) rfl hin rfl (tyX6_ok 11 (by decide)) rfl rfl (Nat.le_of_ble_eq_true rfl) dX6_init_50 (fun H locs hP9 hz9 hk9 hS => ?_)
  have hO := hP9
  have h_y0 := va_at.kept h_y0 (hk9 _ (Nat.ne_of_gt q_o_y0))
  have h_y1 := va_at.kept h_y1 (hk9 _ (Nat.ne_of_gt q_o_y1))
  have h_y2 := va_at.kept h_y2 (hk9 _ (Nat.ne_of_gt q_o_y2))
  have h_y3 := va_at.kept h_y3 (hk9 _ (Nat.ne_of_gt q_o_y3))
  have h_y4 := va_at.kept h_y4 (hk9 _ (Nat.ne_of_gt q_o_y4))
  have h_y5 := va_at.kept h_y5 (hk9 _ (Nat.ne_of_gt q_o_y5))
  refine lv_aload_n hx hb dX6_init_53 rfl (lv_at hl 0 rfl) ?_
  refine lv_bipush (v := 8) hx hb dX6_init_54 (by decide) ?_
  have hSo := hS
  refine wk_newiv hx hb (hts _ (List.mem_of_getElem? (i := 5) rfl)) hK hS 8 rfl (by omega) (Nat.le_of_ble_eq_true rfl) (Nat.le_of_ble_eq_true rfl) dX6_init_56 (fun y6 H ho9 hN9 hz9 hk9 hS => ?_)
  have q_o_y6 : o < y6 := by rw [ho9]; exact hO.lt
  have q_y0_y6 : y0 < y6 := by rw [ho9]; exact h_y0.lt
  have q_y1_y6 : y1 < y6 := by rw [ho9]; exact h_y1.lt
  have q_y2_y6 : y2 < y6 := by rw [ho9]; exact h_y2.lt
  have q_y3_y6 : y3 < y6 := by rw [ho9]; exact h_y3.lt
  have q_y4_y6 : y4 < y6 := by rw [ho9]; exact h_y4.lt
  have q_y5_y6 : y5 < y6 := by rw [ho9]; exact h_y5.lt
  have hO := va_at.kept hO (hk9 _ hO.lt)
  have h_y0 := va_at.kept h_y0 (hk9 _ h_y0.lt)
  have h_y1 := va_at.kept h_y1 (hk9 _ h_y1.lt)
  have h_y2 := va_at.kept h_y2 (hk9 _ h_y2.lt)
  have h_y3 := va_at.kept h_y3 (hk9 _ h_y3.lt)
  have h_y4 := va_at.kept h_y4 (hk9 _ h_y4.lt)
  have h_y5 := va_at.kept h_y5 (hk9 _ h_y5.lt)
  have h_y6 := hN9
  refine wk_putF (own := RX6) (C := RX6) (T := TX6) (N := 26) (ci := 7) (v := .ref y6) hx hb hts i_X6 tyX6 tyX6_ok nmX6 hown hK hO (Or.inl rfl) hS rfl 12 (by decide) (hts _ (List.mem_of_getElem? (i := 12) rfl)) (fun _ h9 => h9) rfl hin rfl (tyX6_ok 12 (by decide)) rfl rfl (Nat.le_of_ble_eq_true rfl) dX6_init_58 (fun H locs hP9 hz9 hk9 hS => ?_)
  have hO := hP9
  have h_y0 := va_at.kept h_y0 (hk9 _ (Nat.ne_of_gt q_o_y0))
  have h_y1 := va_at.kept h_y1 (hk9 _ (Nat.ne_of_gt q_o_y1))
  have h_y2 := va_at.kept h_y2 (hk9 _ (Nat.ne_of_gt q_o_y2))
  have h_y3 := va_at.kept h_y3 (hk9 _ (Nat.ne_of_gt q_o_y3))
  have h_y4 := va_at.kept h_y4 (hk9 _ (Nat.ne_of_gt q_o_y4))
  have h_y5 := va_at.kept h_y5 (hk9 _ (Nat.ne_of_gt q_o_y5))
  have h_y6 := va_at.kept h_y6 (hk9 _ (Nat.ne_of_gt q_o_y6))
  refine lv_aload_n hx hb dX6_init_61 rfl (lv_at hl 0 rfl) ?_
  refine lv_bipush (v := 8) hx hb dX6_init_62 (by decide) ?_
  have hSo := hS
  refine wk_newiv hx hb (hts _ (List.mem_of_getElem? (i := 5) rfl)) hK hS 8 rfl (by omega) (Nat.le_of_ble_eq_true rfl) (Nat.le_of_ble_eq_true rfl) dX6_init_64 (fun y7 H ho9 hN9 hz9 hk9 hS => ?_)
  have q_o_y7 : o < y7 := by rw [ho9]; exact hO.lt
  have q_y0_y7 : y0 < y7 := by rw [ho9]; exact h_y0.lt
  have q_y1_y7 : y1 < y7 := by rw [ho9]; exact h_y1.lt
  have q_y2_y7 : y2 < y7 := by rw [ho9]; exact h_y2.lt
  have q_y3_y7 : y3 < y7 := by rw [ho9]; exact h_y3.lt
  have q_y4_y7 : y4 < y7 := by rw [ho9]; exact h_y4.lt
  have q_y5_y7 : y5 < y7 := by rw [ho9]; exact h_y5.lt
  have q_y6_y7 : y6 < y7 := by rw [ho9]; exact h_y6.lt
  have hO := va_at.kept hO (hk9 _ hO.lt)
  have h_y0 := va_at.kept h_y0 (hk9 _ h_y0.lt)
  have h_y1 := va_at.kept h_y1 (hk9 _ h_y1.lt)
  have h_y2 := va_at.kept h_y2 (hk9 _ h_y2.lt)
  have h_y3 := va_at.kept h_y3 (hk9 _ h_y3.lt)
  have h_y4 := va_at.kept h_y4 (hk9 _ h_y4.lt)
  have h_y5 := va_at.kept h_y5 (hk9 _ h_y5.lt)
  have h_y6 := va_at.kept h_y6 (hk9 _ h_y6.lt)
  have h_y7 := hN9
  refine wk_putF (own := RX6) (C := RX6) (T := TX6) (N := 26) (ci := 7) (v := .ref y7) hx hb hts i_X6 tyX6 tyX6_ok nmX6 hown hK hO (Or.inl rfl) hS rfl 13 (by decide) (hts _ (List.mem_of_getElem? (i := 13) rfl)) (fun _ h9 => h9) rfl hin rfl (tyX6_ok 13 (by decide)) rfl rfl (Nat.le_of_ble_eq_true rfl) dX6_init_66 (fun H locs hP9 hz9 hk9 hS => ?_)
  have hO := hP9
  have h_y0 := va_at.kept h_y0 (hk9 _ (Nat.ne_of_gt q_o_y0))
  have h_y1 := va_at.kept h_y1 (hk9 _ (Nat.ne_of_gt q_o_y1))
  have h_y2 := va_at.kept h_y2 (hk9 _ (Nat.ne_of_gt q_o_y2))
  have h_y3 := va_at.kept h_y3 (hk9 _ (Nat.ne_of_gt q_o_y3))
  have h_y4 := va_at.kept h_y4 (hk9 _ (Nat.ne_of_gt q_o_y4))
  have h_y5 := va_at.kept h_y5 (hk9 _ (Nat.ne_of_gt q_o_y5))
  have h_y6 := va_at.kept h_y6 (hk9 _ (Nat.ne_of_gt q_o_y6))
  have h_y7 := va_at.kept h_y7 (hk9 _ (Nat.ne_of_gt q_o_y7))
  refine lv_aload_n hx hb dX6_init_69 rfl (lv_at hl 0 rfl) ?_
  refine lv_bipush (v := 8) hx hb dX6_init_70 (by decide) ?_
  have hSo := hS
  refine wk_newiv hx hb (hts _ (List.mem_of_getElem? (i := 5) rfl)) hK hS 8 rfl (by omega) (Nat.le_of_ble_eq_true rfl) (Nat.le_of_ble_eq_true rfl) dX6_init_72 (fun y8 H ho9 hN9 hz9 hk9 hS => ?_)
  have q_o_y8 : o < y8 := by rw [ho9]; exact hO.lt
  have q_y0_y8 : y0 < y8 := by rw [ho9]; exact h_y0.lt
  have q_y1_y8 : y1 < y8 := by rw [ho9]; exact h_y1.lt
  have q_y2_y8 : y2 < y8 := by rw [ho9]; exact h_y2.lt
  have q_y3_y8 : y3 < y8 := by rw [ho9]; exact h_y3.lt
  have q_y4_y8 : y4 < y8 := by rw [ho9]; exact h_y4.lt
  have q_y5_y8 : y5 < y8 := by rw [ho9]; exact h_y5.lt
  have q_y6_y8 : y6 < y8 := by rw [ho9]; exact h_y6.lt
  have q_y7_y8 : y7 < y8 := by rw [ho9]; exact h_y7.lt
  have hO := va_at.kept hO (hk9 _ hO.lt)
  have h_y0 := va_at.kept h_y0 (hk9 _ h_y0.lt)
  have h_y1 := va_at.kept h_y1 (hk9 _ h_y1.lt)
  have h_y2 := va_at.kept h_y2 (hk9 _ h_y2.lt)
  have h_y3 := va_at.kept h_y3 (hk9 _ h_y3.lt)
  have h_y4 := va_at.kept h_y4 (hk9 _ h_y4.lt)
  have h_y5 := va_at.kept h_y5 (hk9 _ h_y5.lt)
  have h_y6 := va_at.kept h_y6 (hk9 _ h_y6.lt)
  have h_y7 := va_at.kept h_y7 (hk9 _ h_y7.lt)
  have h_y8 := hN9
  refine wk_putF (own := RX6) (C := RX6) (T := TX6) (N := 26) (ci := 7) (v := .ref y8) hx hb hts i_X6 tyX6 tyX6_ok nmX6 hown hK hO (Or.inl rfl) hS rfl 14 (by decide) (hts _ (List.mem_of_getElem? (i := 14) rfl)) (fun _ h9 => h9) rfl hin rfl (tyX6_ok 14 (by decide)) rfl rfl (Nat.le_of_ble_eq_true rfl) dX6_init_74 (fun H locs hP9 hz9 hk9 hS => ?_)
  have hO := hP9
  have h_y0 := va_at.kept h_y0 (hk9 _ (Nat.ne_of_gt q_o_y0))
  have h_y1 := va_at.kept h_y1 (hk9 _ (Nat.ne_of_gt q_o_y1))
  have h_y2 := va_at.kept h_y2 (hk9 _ (Nat.ne_of_gt q_o_y2))
  have h_y3 := va_at.kept h_y3 (hk9 _ (Nat.ne_of_gt q_o_y3))
  have h_y4 := va_at.kept h_y4 (hk9 _ (Nat.ne_of_gt q_o_y4))
  have h_y5 := va_at.kept h_y5 (hk9 _ (Nat.ne_of_gt q_o_y5))
  have h_y6 := va_at.kept h_y6 (hk9 _ (Nat.ne_of_gt q_o_y6))
  have h_y7 := va_at.kept h_y7 (hk9 _ (Nat.ne_of_gt q_o_y7))
  have h_y8 := va_at.kept h_y8 (hk9 _ (Nat.ne_of_gt q_o_y8))
  refine lv_aload_n hx hb dX6_init_77 rfl (lv_at hl 0 rfl) ?_
  refine lv_bipush (v := 8) hx hb dX6_init_78 (by decide) ?_
  have hSo := hS
  refine wk_newiv hx hb (hts _ (List.mem_of_getElem? (i := 5) rfl)) hK hS 8 rfl (by omega) (Nat.le_of_ble_eq_true rfl) (Nat.le_of_ble_eq_true rfl) dX6_init_80 (fun y9 H ho9 hN9 hz9 hk9 hS => ?_)
  have q_o_y9 : o < y9 := by rw [ho9]; exact hO.lt
  have q_y0_y9 : y0 < y9 := by rw [ho9]; exact h_y0.lt
  have q_y1_y9 : y1 < y9 := by rw [ho9]; exact h_y1.lt
  have q_y2_y9 : y2 < y9 := by rw [ho9]; exact h_y2.lt
  have q_y3_y9 : y3 < y9 := by rw [ho9]; exact h_y3.lt
  have q_y4_y9 : y4 < y9 := by rw [ho9]; exact h_y4.lt
  have q_y5_y9 : y5 < y9 := by rw [ho9]; exact h_y5.lt
  have q_y6_y9 : y6 < y9 := by rw [ho9]; exact h_y6.lt
  have q_y7_y9 : y7 < y9 := by rw [ho9]; exact h_y7.lt
  have q_y8_y9 : y8 < y9 := by rw [ho9]; exact h_y8.lt
  have hO := va_at.kept hO (hk9 _ hO.lt)
  have h_y0 := va_at.kept h_y0 (hk9 _ h_y0.lt)
  have h_y1 := va_at.kept h_y1 (hk9 _ h_y1.lt)
  have h_y2 := va_at.kept h_y2 (hk9 _ h_y2.lt)
  have h_y3 := va_at.kept h_y3 (hk9 _ h_y3.lt)
  have h_y4 := va_at.kept h_y4 (hk9 _ h_y4.lt)
  have h_y5 := va_at.kept h_y5 (hk9 _ h_y5.lt)
  have h_y6 := va_at.kept h_y6 (hk9 _ h_y6.lt)
  have h_y7 := va_at.kept h_y7 (hk9 _ h_y7.lt)
  have h_y8 := va_at.kept h_y8 (hk9 _ h_y8.lt)
  have h_y9 := hN9
  refine wk_putF (own := RX6) (C := RX6) (T := TX6) (N := 26) (ci := 7) (v := .ref y9) hx hb hts i_X6 tyX6 tyX6_ok nmX6 hown hK hO (Or.inl rfl) hS rfl 15 (by decide) (hts _ (List.mem_of_getElem? (i := 15) rfl)) (fun _ h9 => h9) rfl hin rfl (tyX6_ok 15 (by decide)) rfl rfl (Nat.le_of_ble_eq_true rfl) dX6_init_82 (fun H locs hP9 hz9 hk9 hS => ?_)
  have hO := hP9
  have h_y0 := va_at.kept h_y0 (hk9 _ (Nat.ne_of_gt q_o_y0))
  have h_y1 := va_at.kept h_y1 (hk9 _ (Nat.ne_of_gt q_o_y1))
  have h_y2 := va_at.kept h_y2 (hk9 _ (Nat.ne_of_gt q_o_y2))
  have h_y3 := va_at.kept h_y3 (hk9 _ (Nat.ne_of_gt q_o_y3))
  have h_y4 := va_at.kept h_y4 (hk9 _ (Nat.ne_of_gt q_o_y4))
  have h_y5 := va_at.kept h_y5 (hk9 _ (Nat.ne_of_gt q_o_y5))
  have h_y6 := va_at.kept h_y6 (hk9 _ (Nat.ne_of_gt q_o_y6))
  have h_y7 := va_at.kept h_y7 (hk9 _ (Nat.ne_of_gt q_o_y7))
  have h_y8 := va_at.kept h_y8 (hk9 _ (Nat.ne_of_gt q_o_y8))
  have h_y9 := va_at.kept h_y9 (hk9 _ (Nat.ne_of_gt q_o_y9))
  refine lv_aload_n hx hb dX6_init_85 rfl (lv_at hl 0 rfl) ?_
  refine lv_bipush (v := 8) hx hb dX6_init_86 (by decide) ?_
  have hSo := hS
  refine wk_newiv hx hb (hts _ (List.mem_of_getElem? (i := 5) rfl)) hK hS 8 rfl (by omega) (Nat.le_of_ble_eq_true rfl) (Nat.le_of_ble_eq_true rfl) dX6_init_88 (fun y10 H ho9 hN9 hz9 hk9 hS => ?_)
  have q_o_y10 : o < y10 := by rw [ho9]; exact hO.lt
  have q_y0_y10 : y0 < y10 := by rw [ho9]; exact h_y0.lt
  have q_y1_y10 : y1 < y10 := by rw [ho9]; exact h_y1.lt
  have q_y2_y10 : y2 < y10 := by rw [ho9]; exact h_y2.lt
  have q_y3_y10 : y3 < y10 := by rw [ho9]; exact h_y3.lt
  have q_y4_y10 : y4 < y10 := by rw [ho9]; exact h_y4.lt
  have q_y5_y10 : y5 < y10 := by rw [ho9]; exact h_y5.lt
  have q_y6_y10 : y6 < y10 := by rw [ho9]; exact h_y6.lt
  have q_y7_y10 : y7 < y10 := by rw [ho9]; exact h_y7.lt
  have q_y8_y10 : y8 < y10 := by rw [ho9]; exact h_y8.lt
  have q_y9_y10 : y9 < y10 := by rw [ho9]; exact h_y9.lt
  have hO := va_at.kept hO (hk9 _ hO.lt)
  have h_y0 := va_at.kept h_y0 (hk9 _ h_y0.lt)
  have h_y1 := va_at.kept h_y1 (hk9 _ h_y1.lt)
  have h_y2 := va_at.kept h_y2 (hk9 _ h_y2.lt)
  have h_y3 := va_at.kept h_y3 (hk9 _ h_y3.lt)
  have h_y4 := va_at.kept h_y4 (hk9 _ h_y4.lt)
  have h_y5 := va_at.kept h_y5 (hk9 _ h_y5.lt)
  have h_y6 := va_at.kept h_y6 (hk9 _ h_y6.lt)
  have h_y7 := va_at.kept h_y7 (hk9 _ h_y7.lt)
  have h_y8 := va_at.kept h_y8 (hk9 _ h_y8.lt)
  have h_y9 := va_at.kept h_y9 (hk9 _ h_y9.lt)
  have h_y10 := hN9
  refine wk_putF (own := RX6) (C := RX6) (T := TX6) (N := 26) (ci := 7) (v := .ref y10) hx hb hts i_X6 tyX6 tyX6_ok nmX6 hown hK hO (Or.inl rfl) hS rfl 16 (by decide) (hts _ (List.mem_of_getElem? (i := 16) rfl)) (fun _ h9 => h9) rfl hin rfl (tyX6_ok 16 (by decide)) rfl rfl (Nat.le_of_ble_eq_true rfl) dX6_init_90 (fun H locs hP9 hz9 hk9 hS => ?_)
  have hO := hP9
  have h_y0 := va_at.kept h_y0 (hk9 _ (Nat.ne_of_gt q_o_y0))
  have h_y1 := va_at.kept h_y1 (hk9 _ (Nat.ne_of_gt q_o_y1))
  have h_y2 := va_at.kept h_y2 (hk9 _ (Nat.ne_of_gt q_o_y2))
  have h_y3 := va_at.kept h_y3 (hk9 _ (Nat.ne_of_gt q_o_y3))
  have h_y4 := va_at.kept h_y4 (hk9 _ (Nat.ne_of_gt q_o_y4))
  have h_y5 := va_at.kept h_y5 (hk9 _ (Nat.ne_of_gt q_o_y5))
  have h_y6 := va_at.kept h_y6 (hk9 _ (Nat.ne_of_gt q_o_y6))
  have h_y7 := va_at.kept h_y7 (hk9 _ (Nat.ne_of_gt q_o_y7))
  have h_y8 := va_at.kept h_y8 (hk9 _ (Nat.ne_of_gt q_o_y8))
  have h_y9 := va_at.kept h_y9 (hk9 _ (Nat.ne_of_gt q_o_y9))
  have h_y10 := va_at.kept h_y10 (hk9 _ (Nat.ne_of_gt q_o_y10))
  refine lv_aload_n hx hb dX6_init_93 rfl (lv_at hl 0 rfl) ?_
  refine lv_bipush (v := 8) hx hb dX6_init_94 (by decide) ?_
  have hSo := hS
  refine wk_newiv hx hb (hts _ (List.mem_of_getElem? (i := 5) rfl)) hK hS 8 rfl (by omega) (Nat.le_of_ble_eq_true rfl) (Nat.le_of_ble_eq_true rfl) dX6_init_96 (fun y11 H ho9 hN9 hz9 hk9 hS => ?_)
  have q_o_y11 : o < y11 := by rw [ho9]; exact hO.lt
  have q_y0_y11 : y0 < y11 := by rw [ho9]; exact h_y0.lt
  have q_y1_y11 : y1 < y11 := by rw [ho9]; exact h_y1.lt
  have q_y2_y11 : y2 < y11 := by rw [ho9]; exact h_y2.lt
  have q_y3_y11 : y3 < y11 := by rw [ho9]; exact h_y3.lt
  have q_y4_y11 : y4 < y11 := by rw [ho9]; exact h_y4.lt
  have q_y5_y11 : y5 < y11 := by rw [ho9]; exact h_y5.lt
  have q_y6_y11 : y6 < y11 := by rw [ho9]; exact h_y6.lt
  have q_y7_y11 : y7 < y11 := by rw [ho9]; exact h_y7.lt
  have q_y8_y11 : y8 < y11 := by rw [ho9]; exact h_y8.lt
  have q_y9_y11 : y9 < y11 := by rw [ho9]; exact h_y9.lt
  have q_y10_y11 : y10 < y11 := by rw [ho9]; exact h_y10.lt
  have hO := va_at.kept hO (hk9 _ hO.lt)
  have h_y0 := va_at.kept h_y0 (hk9 _ h_y0.lt)
  have h_y1 := va_at.kept h_y1 (hk9 _ h_y1.lt)
  have h_y2 := va_at.kept h_y2 (hk9 _ h_y2.lt)
  have h_y3 := va_at.kept h_y3 (hk9 _ h_y3.lt)
  have h_y4 := va_at.kept h_y4 (hk9 _ h_y4.lt)
  have h_y5 := va_at.kept h_y5 (hk9 _ h_y5.lt)
  have h_y6 := va_at.kept h_y6 (hk9 _ h_y6.lt)
  have h_y7 := va_at.kept h_y7 (hk9 _ h_y7.lt)
  have h_y8 := va_at.kept h_y8 (hk9 _ h_y8.lt)
  have h_y9 := va_at.kept h_y9 (hk9 _ h_y9.lt)
  have h_y10 := va_at.kept h_y10 (hk9 _ h_y10.lt)
  have h_y11 := hN9
  refine wk_putF (own := RX6) (C := RX6) (T := TX6) (N := 26) (ci := 7) (v := .ref y11) hx hb hts i_X6 tyX6 tyX6_ok nmX6 hown hK hO (Or.inl rfl) hS rfl 17 (by decide) (hts _ (List.mem_of_getElem? (i := 17) rfl)) (fun _ h9 => h9) rfl hin rfl (tyX6_ok 17 (by decide)) rfl rfl (Nat.le_of_ble_eq_true rfl) dX6_init_98 (fun H locs hP9 hz9 hk9 hS => ?_)
  have hO := hP9
  have h_y0 := va_at.kept h_y0 (hk9 _ (Nat.ne_of_gt q_o_y0))
  have h_y1 := va_at.kept h_y1 (hk9 _ (Nat.ne_of_gt q_o_y1))
  have h_y2 := va_at.kept h_y2 (hk9 _ (Nat.ne_of_gt q_o_y2))
  have h_y3 := va_at.kept h_y3 (hk9 _ (Nat.ne_of_gt q_o_y3))
  have h_y4 := va_at.kept h_y4 (hk9 _ (Nat.ne_of_gt q_o_y4))
  have h_y5 := va_at.kept h_y5 (hk9 _ (Nat.ne_of_gt q_o_y5))
  have h_y6 := va_at.kept h_y6 (hk9 _ (Nat.ne_of_gt q_o_y6))
  have h_y7 := va_at.kept h_y7 (hk9 _ (Nat.ne_of_gt q_o_y7))
  have h_y8 := va_at.kept h_y8 (hk9 _ (Nat.ne_of_gt q_o_y8))
  have h_y9 := va_at.kept h_y9 (hk9 _ (Nat.ne_of_gt q_o_y9))
  have h_y10 := va_at.kept h_y10 (hk9 _ (Nat.ne_of_gt q_o_y10))
  have h_y11 := va_at.kept h_y11 (hk9 _ (Nat.ne_of_gt q_o_y11))
  refine lv_aload_n hx hb dX6_init_101 rfl (lv_at hl 0 rfl) ?_
  refine lv_bipush (v := 16) hx hb dX6_init_102 (by decide) ?_
  have hSo := hS
  refine wk_newiv hx hb (hts _ (List.mem_of_getElem? (i := 5) rfl)) hK hS 16 rfl (by omega) (Nat.le_of_ble_eq_true rfl) (Nat.le_of_ble_eq_true rfl) dX6_init_104 (fun y12 H ho9 hN9 hz9 hk9 hS => ?_)
  have q_o_y12 : o < y12 := by rw [ho9]; exact hO.lt
  have q_y0_y12 : y0 < y12 := by rw [ho9]; exact h_y0.lt
  have q_y1_y12 : y1 < y12 := by rw [ho9]; exact h_y1.lt
  have q_y2_y12 : y2 < y12 := by rw [ho9]; exact h_y2.lt
  have q_y3_y12 : y3 < y12 := by rw [ho9]; exact h_y3.lt
  have q_y4_y12 : y4 < y12 := by rw [ho9]; exact h_y4.lt
  have q_y5_y12 : y5 < y12 := by rw [ho9]; exact h_y5.lt
  have q_y6_y12 : y6 < y12 := by rw [ho9]; exact h_y6.lt
  have q_y7_y12 : y7 < y12 := by rw [ho9]; exact h_y7.lt
  have q_y8_y12 : y8 < y12 := by rw [ho9]; exact h_y8.lt
  have q_y9_y12 : y9 < y12 := by rw [ho9]; exact h_y9.lt
  have q_y10_y12 : y10 < y12 := by rw [ho9]; exact h_y10.lt
  have q_y11_y12 : y11 < y12 := by rw [ho9]; exact h_y11.lt
  have hO := va_at.kept hO (hk9 _ hO.lt)
  have h_y0 := va_at.kept h_y0 (hk9 _ h_y0.lt)
  have h_y1 := va_at.kept h_y1 (hk9 _ h_y1.lt)
  have h_y2 := va_at.kept h_y2 (hk9 _ h_y2.lt)
  have h_y3 := va_at.kept h_y3 (hk9 _ h_y3.lt)
  have h_y4 := va_at.kept h_y4 (hk9 _ h_y4.lt)
  have h_y5 := va_at.kept h_y5 (hk9 _ h_y5.lt)
  have h_y6 := va_at.kept h_y6 (hk9 _ h_y6.lt)
  have h_y7 := va_at.kept h_y7 (hk9 _ h_y7.lt)
  have h_y8 := va_at.kept h_y8 (hk9 _ h_y8.lt)
  have h_y9 := va_at.kept h_y9 (hk9 _ h_y9.lt)
  have h_y10 := va_at.kept h_y10 (hk9 _ h_y10.lt)
  have h_y11 := va_at.kept h_y11 (hk9 _ h_y11.lt)
  have h_y12 := hN9
  refine wk_putF (own := RX6) (C := RX6) (T := TX6) (N := 26) (ci := 7) (v := .ref y12) hx hb hts i_X6 tyX6 tyX6_ok nmX6 hown hK hO (Or.inl rfl) hS rfl 19 (by decide) (hts _ (List.mem_of_getElem? (i := 18) rfl)) (fun _ h9 => h9) rfl hin rfl (tyX6_ok 19 (by decide)) rfl rfl (Nat.le_of_ble_eq_true rfl) dX6_init_106 (fun H locs hP9 hz9 hk9 hS => ?_)
  have hO := hP9
  have h_y0 := va_at.kept h_y0 (hk9 _ (Nat.ne_of_gt q_o_y0))
  have h_y1 := va_at.kept h_y1 (hk9 _ (Nat.ne_of_gt q_o_y1))
  have h_y2 := va_at.kept h_y2 (hk9 _ (Nat.ne_of_gt q_o_y2))
  have h_y3 := va_at.kept h_y3 (hk9 _ (Nat.ne_of_gt q_o_y3))
  have h_y4 := va_at.kept h_y4 (hk9 _ (Nat.ne_of_gt q_o_y4))
  have h_y5 := va_at.kept h_y5 (hk9 _ (Nat.ne_of_gt q_o_y5))
  have h_y6 := va_at.kept h_y6 (hk9 _ (Nat.ne_of_gt q_o_y6))
  have h_y7 := va_at.kept h_y7 (hk9 _ (Nat.ne_of_gt q_o_y7))
  have h_y8 := va_at.kept h_y8 (hk9 _ (Nat.ne_of_gt q_o_y8))
  have h_y9 := va_at.kept h_y9 (hk9 _ (Nat.ne_of_gt q_o_y9))
  have h_y10 := va_at.kept h_y10 (hk9 _ (Nat.ne_of_gt q_o_y10))
  have h_y11 := va_at.kept h_y11 (hk9 _ (Nat.ne_of_gt q_o_y11))
  have h_y12 := va_at.kept h_y12 (hk9 _ (Nat.ne_of_gt q_o_y12))
  refine lv_aload_n hx hb dX6_init_109 rfl (lv_at hl 0 rfl) ?_
  refine lv_bipush (v := 16) hx hb dX6_init_110 (by decide) ?_
  have hSo := hS
  refine wk_newiv hx hb (hts _ (List.mem_of_getElem? (i := 5) rfl)) hK hS 16 rfl (by omega) (Nat.le_of_ble_eq_true rfl) (Nat.le_of_ble_eq_true rfl) dX6_init_112 (fun y13 H ho9 hN9 hz9 hk9 hS => ?_)
  have q_o_y13 : o < y13 := by rw [ho9]; exact hO.lt
  have q_y0_y13 : y0 < y13 := by rw [ho9]; exact h_y0.lt
  have q_y1_y13 : y1 < y13 := by rw [ho9]; exact h_y1.lt
  have q_y2_y13 : y2 < y13 := by rw [ho9]; exact h_y2.lt
  have q_y3_y13 : y3 < y13 := by rw [ho9]; exact h_y3.lt
  have q_y4_y13 : y4 < y13 := by rw [ho9]; exact h_y4.lt
  have q_y5_y13 : y5 < y13 := by rw [ho9]; exact h_y5.lt
  have q_y6_y13 : y6 < y13 := by rw [ho9]; exact h_y6.lt
  have q_y7_y13 : y7 < y13 := by rw [ho9]; exact h_y7.lt
  have q_y8_y13 : y8 < y13 := by rw [ho9]; exact h_y8.lt
  have q_y9_y13 : y9 < y13 := by rw [ho9]; exact h_y9.lt
  have q_y10_y13 : y10 < y13 := by rw [ho9]; exact h_y10.lt
  have q_y11_y13 : y11 < y13 := by rw [ho9]; exact h_y11.lt
  have q_y12_y13 : y12 < y13 := by rw [ho9]; exact h_y12.lt
  have hO := va_at.kept hO (hk9 _ hO.lt)
  have h_y0 := va_at.kept h_y0 (hk9 _ h_y0.lt)
  have h_y1 := va_at.kept h_y1 (hk9 _ h_y1.lt)
  have h_y2 := va_at.kept h_y2 (hk9 _ h_y2.lt)
  have h_y3 := va_at.kept h_y3 (hk9 _ h_y3.lt)
  have h_y4 := va_at.kept h_y4 (hk9 _ h_y4.lt)
  have h_y5 := va_at.kept h_y5 (hk9 _ h_y5.lt)
  have h_y6 := va_at.kept h_y6 (hk9 _ h_y6.lt)
  have h_y7 := va_at.kept h_y7 (hk9 _ h_y7.lt)
  have h_y8 := va_at.kept h_y8 (hk9 _ h_y8.lt)
  have h_y9 := va_at.kept h_y9 (hk9 _ h_y9.lt)
  have h_y10 := va_at.kept h_y10 (hk9 _ h_y10.lt)
  have h_y11 := va_at.kept h_y11 (hk9 _ h_y11.lt)
  have h_y12 := va_at.kept h_y12 (hk9 _ h_y12.lt)
  have h_y13 := hN9
  refine wk_putF (own := RX6) (C := RX6) (T := TX6) (N := 26) (ci := 7) (v := .ref y13) hx hb hts i_X6 tyX6 tyX6_ok nmX6 hown hK hO (Or.inl rfl) hS rfl 20 (by decide) (hts _ (List.mem_of_getElem? (i := 19) rfl)) (fun _ h9 => h9) rfl hin rfl (tyX6_ok 20 (by decide)) rfl rfl (Nat.le_of_ble_eq_true rfl) dX6_init_114 (fun H locs hP9 hz9 hk9 hS => ?_)
  have hO := hP9
  have h_y0 := va_at.kept h_y0 (hk9 _ (Nat.ne_of_gt q_o_y0))
  have h_y1 := va_at.kept h_y1 (hk9 _ (Nat.ne_of_gt q_o_y1))
  have h_y2 := va_at.kept h_y2 (hk9 _ (Nat.ne_of_gt q_o_y2))
  have h_y3 := va_at.kept h_y3 (hk9 _ (Nat.ne_of_gt q_o_y3))
  have h_y4 := va_at.kept h_y4 (hk9 _ (Nat.ne_of_gt q_o_y4))
  have h_y5 := va_at.kept h_y5 (hk9 _ (Nat.ne_of_gt q_o_y5))
  have h_y6 := va_at.kept h_y6 (hk9 _ (Nat.ne_of_gt q_o_y6))
  have h_y7 := va_at.kept h_y7 (hk9 _ (Nat.ne_of_gt q_o_y7))
  have h_y8 := va_at.kept h_y8 (hk9 _ (Nat.ne_of_gt q_o_y8))
  have h_y9 := va_at.kept h_y9 (hk9 _ (Nat.ne_of_gt q_o_y9))
  have h_y10 := va_at.kept h_y10 (hk9 _ (Nat.ne_of_gt q_o_y10))
  have h_y11 := va_at.kept h_y11 (hk9 _ (Nat.ne_of_gt q_o_y11))
  have h_y12 := va_at.kept h_y12 (hk9 _ (Nat.ne_of_gt q_o_y12))
  have h_y13 := va_at.kept h_y13 (hk9 _ (Nat.ne_of_gt q_o_y13))
  refine lv_aload_n hx hb dX6_init_117 rfl (lv_at hl 0 rfl) ?_
  refine lv_bipush (v := 16) hx hb dX6_init_118 (by decide) ?_
  have hSo := hS
  refine wk_newiv hx hb (hts _ (List.mem_of_getElem? (i := 5) rfl)) hK hS 16 rfl (by omega) (Nat.le_of_ble_eq_true rfl) (Nat.le_of_ble_eq_true rfl) dX6_init_120 (fun y14 H ho9 hN9 hz9 hk9 hS => ?_)
  have q_o_y14 : o < y14 := by rw [ho9]; exact hO.lt
  have q_y0_y14 : y0 < y14 := by rw [ho9]; exact h_y0.lt
  have q_y1_y14 : y1 < y14 := by rw [ho9]; exact h_y1.lt
  have q_y2_y14 : y2 < y14 := by rw [ho9]; exact h_y2.lt
  have q_y3_y14 : y3 < y14 := by rw [ho9]; exact h_y3.lt
  have q_y4_y14 : y4 < y14 := by rw [ho9]; exact h_y4.lt
  have q_y5_y14 : y5 < y14 := by rw [ho9]; exact h_y5.lt
  have q_y6_y14 : y6 < y14 := by rw [ho9]; exact h_y6.lt
  have q_y7_y14 : y7 < y14 := by rw [ho9]; exact h_y7.lt
  have q_y8_y14 : y8 < y14 := by rw [ho9]; exact h_y8.lt
  have q_y9_y14 : y9 < y14 := by rw [ho9]; exact h_y9.lt
  have q_y10_y14 : y10 < y14 := by rw [ho9]; exact h_y10.lt
  have q_y11_y14 : y11 < y14 := by rw [ho9]; exact h_y11.lt
  have q_y12_y14 : y12 < y14 := by rw [ho9]; exact h_y12.lt
  have q_y13_y14 : y13 < y14 := by rw [ho9]; exact h_y13.lt
  have hO := va_at.kept hO (hk9 _ hO.lt)
  have h_y0 := va_at.kept h_y0 (hk9 _ h_y0.lt)
  have h_y1 := va_at.kept h_y1 (hk9 _ h_y1.lt)
  have h_y2 := va_at.kept h_y2 (hk9 _ h_y2.lt)
  have h_y3 := va_at.kept h_y3 (hk9 _ h_y3.lt)
  have h_y4 := va_at.kept h_y4 (hk9 _ h_y4.lt)
  have h_y5 := va_at.kept h_y5 (hk9 _ h_y5.lt)
  have h_y6 := va_at.kept h_y6 (hk9 _ h_y6.lt)
  have h_y7 := va_at.kept h_y7 (hk9 _ h_y7.lt)
  have h_y8 := va_at.kept h_y8 (hk9 _ h_y8.lt)
  have h_y9 := va_at.kept h_y9 (hk9 _ h_y9.lt)
  have h_y10 := va_at.kept h_y10 (hk9 _ h_y10.lt)
  have h_y11 := va_at.kept h_y11 (hk9 _ h_y11.lt)
  have h_y12 := va_at.kept h_y12 (hk9 _ h_y12.lt)
  have h_y13 := va_at.kept h_y13 (hk9 _ h_y13.lt)
  have h_y14 := hN9
  refine wk_putF (own := RX6) (C := RX6) (T := TX6) (N := 26) (ci := 7) (v := .ref y14) hx hb hts i_X6 tyX6 tyX6_ok nmX6 hown hK hO (Or.inl rfl) hS rfl 21 (by decide) (hts _ (List.mem_of_getElem? (i := 20) rfl)) (fun _ h9 => h9) rfl hin rfl (tyX6_ok 21 (by decide)) rfl rfl (Nat.le_of_ble_eq_true rfl) dX6_init_122 (fun H locs hP9 hz9 hk9 hS => ?_)
  have hO := hP9
  have h_y0 := va_at.kept h_y0 (hk9 _ (Nat.ne_of_gt q_o_y0))
  have h_y1 := va_at.kept h_y1 (hk9 _ (Nat.ne_of_gt q_o_y1))
  have h_y2 := va_at.kept h_y2 (hk9 _ (Nat.ne_of_gt q_o_y2))
  have h_y3 := va_at.kept h_y3 (hk9 _ (Nat.ne_of_gt q_o_y3))
  have h_y4 := va_at.kept h_y4 (hk9 _ (Nat.ne_of_gt q_o_y4))
  have h_y5 := va_at.kept h_y5 (hk9 _ (Nat.ne_of_gt q_o_y5))
  have h_y6 := va_at.kept h_y6 (hk9 _ (Nat.ne_of_gt q_o_y6))
  have h_y7 := va_at.kept h_y7 (hk9 _ (Nat.ne_of_gt q_o_y7))
  have h_y8 := va_at.kept h_y8 (hk9 _ (Nat.ne_of_gt q_o_y8))
  have h_y9 := va_at.kept h_y9 (hk9 _ (Nat.ne_of_gt q_o_y9))
  have h_y10 := va_at.kept h_y10 (hk9 _ (Nat.ne_of_gt q_o_y10))
  have h_y11 := va_at.kept h_y11 (hk9 _ (Nat.ne_of_gt q_o_y11))
  have h_y12 := va_at.kept h_y12 (hk9 _ (Nat.ne_of_gt q_o_y12))
  have h_y13 := va_at.kept h_y13 (hk9 _ (Nat.ne_of_gt q_o_y13))
  have h_y14 := va_at.kept h_y14 (hk9 _ (Nat.ne_of_gt q_o_y14))
  refine lv_aload_n hx hb dX6_init_125 rfl (lv_at hl 0 rfl) ?_
  refine lv_bipush (v := 16) hx hb dX6_init_126 (by decide) ?_
  have hSo := hS
  refine wk_newiv hx hb (hts _ (List.mem_of_getElem? (i := 5) rfl)) hK hS 16 rfl (by omega) (Nat.le_of_ble_eq_true rfl) (Nat.le_of_ble_eq_true rfl) dX6_init_128 (fun y15 H ho9 hN9 hz9 hk9 hS => ?_)
  have q_o_y15 : o < y15 := by rw [ho9]; exact hO.lt
  have q_y0_y15 : y0 < y15 := by rw [ho9]; exact h_y0.lt
  have q_y1_y15 : y1 < y15 := by rw [ho9]; exact h_y1.lt
  have q_y2_y15 : y2 < y15 := by rw [ho9]; exact h_y2.lt
  have q_y3_y15 : y3 < y15 := by rw [ho9]; exact h_y3.lt
  have q_y4_y15 : y4 < y15 := by rw [ho9]; exact h_y4.lt
  have q_y5_y15 : y5 < y15 := by rw [ho9]; exact h_y5.lt
  have q_y6_y15 : y6 < y15 := by rw [ho9]; exact h_y6.lt
  have q_y7_y15 : y7 < y15 := by rw [ho9]; exact h_y7.lt
  have q_y8_y15 : y8 < y15 := by rw [ho9]; exact h_y8.lt
  have q_y9_y15 : y9 < y15 := by rw [ho9]; exact h_y9.lt
  have q_y10_y15 : y10 < y15 := by rw [ho9]; exact h_y10.lt
  have q_y11_y15 : y11 < y15 := by rw [ho9]; exact h_y11.lt
  have q_y12_y15 : y12 < y15 := by rw [ho9]; exact h_y12.lt
  have q_y13_y15 : y13 < y15 := by rw [ho9]; exact h_y13.lt
  have q_y14_y15 : y14 < y15 := by rw [ho9]; exact h_y14.lt
  have hO := va_at.kept hO (hk9 _ hO.lt)
  have h_y0 := va_at.kept h_y0 (hk9 _ h_y0.lt)
  have h_y1 := va_at.kept h_y1 (hk9 _ h_y1.lt)
  have h_y2 := va_at.kept h_y2 (hk9 _ h_y2.lt)
  have h_y3 := va_at.kept h_y3 (hk9 _ h_y3.lt)
  have h_y4 := va_at.kept h_y4 (hk9 _ h_y4.lt)
  have h_y5 := va_at.kept h_y5 (hk9 _ h_y5.lt)
  have h_y6 := va_at.kept h_y6 (hk9 _ h_y6.lt)
  have h_y7 := va_at.kept h_y7 (hk9 _ h_y7.lt)
  have h_y8 := va_at.kept h_y8 (hk9 _ h_y8.lt)
  have h_y9 := va_at.kept h_y9 (hk9 _ h_y9.lt)
  have h_y10 := va_at.kept h_y10 (hk9 _ h_y10.lt)
  have h_y11 := va_at.kept h_y11 (hk9 _ h_y11.lt)
  have h_y12 := va_at.kept h_y12 (hk9 _ h_y12.lt)
  have h_y13 := va_at.kept h_y13 (hk9 _ h_y13.lt)
  have h_y14 := va_at.kept h_y14 (hk9 _ h_y14.lt)
  have h_y15 := hN9
  refine wk_putF (own := RX6) (C := RX6) (T := TX6) (N := 26) (ci := 7) (v := .ref y15) hx hb hts i_X6 tyX6 tyX6_ok nmX6 hown hK hO (Or.inl rfl) hS rfl 22 (by decide) (hts _ (List.mem_of_getElem? (i := 21) rfl)) (fun _ h9 => h9) rfl hin rfl (tyX6_ok 22 (by decide)) rfl rfl (Nat.le_of_ble_eq_true rfl) dX6_init_130 (fun H locs hP9 hz9 hk9 hS => ?_)
  have hO := hP9
  have h_y0 := va_at.kept h_y0 (hk9 _ (Nat.ne_of_gt q_o_y0))
  have h_y1 := va_at.kept h_y1 (hk9 _ (Nat.ne_of_gt q_o_y1))
  have h_y2 := va_at.kept h_y2 (hk9 _ (Nat.ne_of_gt q_o_y2))
  have h_y3 := va_at.kept h_y3 (hk9 _ (Nat.ne_of_gt q_o_y3))
  have h_y4 := va_at.kept h_y4 (hk9 _ (Nat.ne_of_gt q_o_y4))
  have h_y5 := va_at.kept h_y5 (hk9 _ (Nat.ne_of_gt q_o_y5))
  have h_y6 := va_at.kept h_y6 (hk9 _ (Nat.ne_of_gt q_o_y6))
  have h_y7 := va_at.kept h_y7 (hk9 _ (Nat.ne_of_gt q_o_y7))
  have h_y8 := va_at.kept h_y8 (hk9 _ (Nat.ne_of_gt q_o_y8))
  have h_y9 := va_at.kept h_y9 (hk9 _ (Nat.ne_of_gt q_o_y9))
  have h_y10 := va_at.kept h_y10 (hk9 _ (Nat.ne_of_gt q_o_y10))
  have h_y11 := va_at.kept h_y11 (hk9 _ (Nat.ne_of_gt q_o_y11))
  have h_y12 := va_at.kept h_y12 (hk9 _ (Nat.ne_of_gt q_o_y12))
  have h_y13 := va_at.kept h_y13 (hk9 _ (Nat.ne_of_gt q_o_y13))
  have h_y14 := va_at.kept h_y14 (hk9 _ (Nat.ne_of_gt q_o_y14))
  have h_y15 := va_at.kept h_y15 (hk9 _ (Nat.ne_of_gt q_o_y15))
  refine lv_aload_n hx hb dX6_init_133 rfl (lv_at hl 0 rfl) ?_
  refine lv_bipush (v := 16) hx hb dX6_init_134 (by decide) ?_
  have hSo := hS
  refine wk_newiv hx hb (hts _ (List.mem_of_getElem? (i := 5) rfl)) hK hS 16 rfl (by omega) (Nat.le_of_ble_eq_true rfl) (Nat.le_of_ble_eq_true rfl) dX6_init_136 (fun y16 H ho9 hN9 hz9 hk9 hS => ?_)
  have q_o_y16 : o < y16 := by rw [ho9]; exact hO.lt
  have q_y0_y16 : y0 < y16 := by rw [ho9]; exact h_y0.lt
  have q_y1_y16 : y1 < y16 := by rw [ho9]; exact h_y1.lt
  have q_y2_y16 : y2 < y16 := by rw [ho9]; exact h_y2.lt
  have q_y3_y16 : y3 < y16 := by rw [ho9]; exact h_y3.lt
  have q_y4_y16 : y4 < y16 := by rw [ho9]; exact h_y4.lt
  have q_y5_y16 : y5 < y16 := by rw [ho9]; exact h_y5.lt
  have q_y6_y16 : y6 < y16 := by rw [ho9]; exact h_y6.lt
  have q_y7_y16 : y7 < y16 := by rw [ho9]; exact h_y7.lt
  have q_y8_y16 : y8 < y16 := by rw [ho9]; exact h_y8.lt
  have q_y9_y16 : y9 < y16 := by rw [ho9]; exact h_y9.lt
  have q_y10_y16 : y10 < y16 := by rw [ho9]; exact h_y10.lt
  have q_y11_y16 : y11 < y16 := by rw [ho9]; exact h_y11.lt
  have q_y12_y16 : y12 < y16 := by rw [ho9]; exact h_y12.lt
  have q_y13_y16 : y13 < y16 := by rw [ho9]; exact h_y13.lt
  have q_y14_y16 : y14 < y16 := by rw [ho9]; exact h_y14.lt
  have q_y15_y16 : y15 < y16 := by rw [ho9]; exact h_y15.lt
  have hO := va_at.kept hO (hk9 _ hO.lt)
  have h_y0 := va_at.kept h_y0 (hk9 _ h_y0.lt)
  have h_y1 := va_at.kept h_y1 (hk9 _ h_y1.lt)
  have h_y2 := va_at.kept h_y2 (hk9 _ h_y2.lt)
  have h_y3 := va_at.kept h_y3 (hk9 _ h_y3.lt)
  have h_y4 := va_at.kept h_y4 (hk9 _ h_y4.lt)
  have h_y5 := va_at.kept h_y5 (hk9 _ h_y5.lt)
  have h_y6 := va_at.kept h_y6 (hk9 _ h_y6.lt)
  have h_y7 := va_at.kept h_y7 (hk9 _ h_y7.lt)
  have h_y8 := va_at.kept h_y8 (hk9 _ h_y8.lt)
  have h_y9 := va_at.kept h_y9 (hk9 _ h_y9.lt)
  have h_y10 := va_at.kept h_y10 (hk9 _ h_y10.lt)
  have h_y11 := va_at.kept h_y11 (hk9 _ h_y11.lt)
  have h_y12 := va_at.kept h_y12 (hk9 _ h_y12.lt)
  have h_y13 := va_at.kept h_y13 (hk9 _ h_y13.lt)
  have h_y14 := va_at.kept h_y14 (hk9 _ h_y14.lt)
  have h_y15 := va_at.kept h_y15 (hk9 _ h_y15.lt)
  have h_y16 := hN9
  refine wk_putF (own := RX6) (C := RX6) (T := TX6) (N := 26) (ci := 7) (v := .ref y16) hx hb hts i_X6 tyX6 tyX6_ok nmX6 hown hK hO (Or.inl rfl) hS rfl 23 (by decide) (hts _ (List.mem_of_getElem? (i := 22) rfl)) (fun _ h9 => h9) rfl hin rfl (tyX6_ok 23 (by decide)) rfl rfl (Nat.le_of_ble_eq_true rfl) dX6_init_138 (fun H locs hP9 hz9 hk9 hS => ?_)
  have hO := hP9
  have h_y0 := va_at.kept h_y0 (hk9 _ (Nat.ne_of_gt q_o_y0))
  have h_y1 := va_at.kept h_y1 (hk9 _ (Nat.ne_of_gt q_o_y1))
  have h_y2 := va_at.kept h_y2 (hk9 _ (Nat.ne_of_gt q_o_y2))
  have h_y3 := va_at.kept h_y3 (hk9 _ (Nat.ne_of_gt q_o_y3))
  have h_y4 := va_at.kept h_y4 (hk9 _ (Nat.ne_of_gt q_o_y4))
  have h_y5 := va_at.kept h_y5 (hk9 _ (Nat.ne_of_gt q_o_y5))
  have h_y6 := va_at.kept h_y6 (hk9 _ (Nat.ne_of_gt q_o_y6))
  have h_y7 := va_at.kept h_y7 (hk9 _ (Nat.ne_of_gt q_o_y7))
  have h_y8 := va_at.kept h_y8 (hk9 _ (Nat.ne_of_gt q_o_y8))
  have h_y9 := va_at.kept h_y9 (hk9 _ (Nat.ne_of_gt q_o_y9))
  have h_y10 := va_at.kept h_y10 (hk9 _ (Nat.ne_of_gt q_o_y10))
  have h_y11 := va_at.kept h_y11 (hk9 _ (Nat.ne_of_gt q_o_y11))
  have h_y12 := va_at.kept h_y12 (hk9 _ (Nat.ne_of_gt q_o_y12))
  have h_y13 := va_at.kept h_y13 (hk9 _ (Nat.ne_of_gt q_o_y13))
  have h_y14 := va_at.kept h_y14 (hk9 _ (Nat.ne_of_gt q_o_y14))
  have h_y15 := va_at.kept h_y15 (hk9 _ (Nat.ne_of_gt q_o_y15))
  have h_y16 := va_at.kept h_y16 (hk9 _ (Nat.ne_of_gt q_o_y16))
  refine W.widen (k := 17) (n := 174) (Nat.le_of_ble_eq_true rfl) (Nat.le_of_ble_eq_true rfl) ?_
  exact W.vret hx hb hr (we_end (Rt := fun v H1 => v = none ∧ ∃ y0 y1 y2 y3 y4 y5 y6 y7 y8 y9 y10 y11 y12 y13 y14 y15 y16 : Nat, (s.heap.size ≤ y0 ∧ o < y0 ∧ y0 < y1 ∧ y1 < y2 ∧ y2 < y3 ∧ y3 < y4 ∧ y4 < y5 ∧ y5 < y6 ∧ y6 < y7 ∧ y7 < y8 ∧ y8 < y9 ∧ y9 < y10 ∧ y10 < y11 ∧ y11 < y12 ∧ y12 < y13 ∧ y13 < y14 ∧ y14 < y15 ∧ y15 < y16) ∧ va_at E.1 vwCl (o, .inr (7, [.int 0, .int 0, .int 5, .int 0, .ref y0, .ref y1, .ref y2, .ref y3, .int 0, .ref y4, .int 0, .ref y5, .ref y6, .ref y7, .ref y8, .ref y9, .ref y10, .ref y11, .int 0, .ref y12, .ref y13, .ref y14, .ref y15, .ref y16, .int 0, .long 0])) H1 ∧ va_at E.1 vwCl (y0, .inl (E.2.1.1, 5, .inl (fun _ => 0))) H1 ∧ va_at E.1 vwCl (y1, .inl (E.2.1.1, 5, .inl (fun _ => 0))) H1 ∧ va_at E.1 vwCl (y2, .inl (E.2.1.1, 5, .inl (fun _ => 0))) H1 ∧ va_at E.1 vwCl (y3, .inl (E.2.1.1, 5, .inl (fun _ => 0))) H1 ∧ va_at E.1 vwCl (y4, .inl (E.2.1.1, 18, .inl (fun _ => 0))) H1 ∧ va_at E.1 vwCl (y5, .inl (E.2.1.1, 8, .inl (fun _ => 0))) H1 ∧ va_at E.1 vwCl (y6, .inl (E.2.1.1, 8, .inl (fun _ => 0))) H1 ∧ va_at E.1 vwCl (y7, .inl (E.2.1.1, 8, .inl (fun _ => 0))) H1 ∧ va_at E.1 vwCl (y8, .inl (E.2.1.1, 8, .inl (fun _ => 0))) H1 ∧ va_at E.1 vwCl (y9, .inl (E.2.1.1, 8, .inl (fun _ => 0))) H1 ∧ va_at E.1 vwCl (y10, .inl (E.2.1.1, 8, .inl (fun _ => 0))) H1 ∧ va_at E.1 vwCl (y11, .inl (E.2.1.1, 8, .inl (fun _ => 0))) H1 ∧ va_at E.1 vwCl (y12, .inl (E.2.1.1, 16, .inl (fun _ => 0))) H1 ∧ va_at E.1 vwCl (y13, .inl (E.2.1.1, 16, .inl (fun _ => 0))) H1 ∧ va_at E.1 vwCl (y14, .inl (E.2.1.1, 16, .inl (fun _ => 0))) H1 ∧ va_at E.1 vwCl (y15, .inl (E.2.1.1, 16, .inl (fun _ => 0))) H1 ∧ va_at E.1 vwCl (y16, .inl (E.2.1.1, 16, .inl (fun _ => 0))) H1) (F := fun q => q = o) (⟨rfl, y0, y1, y2, y3, y4, y5, y6, y7, y8, y9, y10, y11, y12, y13, y14, y15, y16, ⟨p_y0, q_o_y0, q_y0_y1, q_y1_y2, q_y2_y3, q_y3_y4, q_y4_y5, q_y5_y6, q_y6_y7, q_y7_y8, q_y8_y9, q_y9_y10, q_y10_y11, q_y11_y12, q_y12_y13, q_y13_y14, q_y14_y15, q_y15_y16⟩, hO, h_y0, h_y1, h_y2, h_y3, h_y4, h_y5, h_y6, h_y7, h_y8, h_y9, h_y10, h_y11, h_y12, h_y13, h_y14, h_y15, h_y16⟩) hS) hS.2.2 dX6_init_141
