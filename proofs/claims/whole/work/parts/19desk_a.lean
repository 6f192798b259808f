abbrev rme_X0_init : Room := { frames := 1, cells := 0, slots := 0, locals := 12 }
set_option maxHeartbeats 4000000 in
set_option maxRecDepth 100000 in
theorem e_X0_init (l : Launch) (E : wk_E) {H : Heap} {o : Nat} {a b c9 d : Int32} (hO : va_at E.1 vwCl (o, .inr (1, [.int 0, .int 0, .int 0, .int 0, .int 0])) H) (hob : E.2.2.1 ≤ o) : we_Met l yX0_init wsX0_init rme_X0_init E H [.ref o, .int a, .int b, .int c9, .int d] (fun q => q = o) 0 0 (fun v H1 => v = none ∧ va_at E.1 vwCl (o, .inr (1, [.int a, .int b, .int c9, .int d, .int 0])) H1) := by
  refine Met.ofW (cc := cX0_init) (maxL := 5) (ret := none) (by decide) rfl ?_
  intro p e s m args below meth c s₁ B hml hv
  obtain ⟨rfl, hH, hV⟩ := hv
  subst hH
  have hK := hV.k
  have hx := B.exec
  have hb := B.bytes
  have hr := B.returns
  have hts := atoms_spec (ws := wsX0_init) B.pre
  have hown : s.vm.findClass RX0 = some m.cls := findClass_of_methodNamed B.named
  have hlocks := B.notSynchronized
  have hS : va_S (fun q => (fun q => q = o) q ∨ s.heap.size ≤ q) s.heap s.heap [] := va_S.rf
  have hA9 : ∀ q : Nat, s.heap.size ≤ q → ((fun q => q = o) q ∨ s.heap.size ≤ q) := fun _ h => Or.inr h
  have hbA : ∀ q : Nat, q < E.2.2.1 → ¬ ((fun q => q = o) q ∨ s.heap.size ≤ q) := fun q hq z => z.elim (fun z => absurd (z ▸ hq) (Nat.not_lt.mpr hob)) (fun z => absurd (Nat.lt_of_lt_of_le hq hV.2.2.2.2.2.2) (Nat.not_lt.mpr z))
  have hin : meth.name = "<init>" := (name_of_methodNamed B.named B.method).1
  have i_X0 : ∀ w ∈ u_ws RX0 TX0 5, w ∈ wsX0_init := fun w h => (List.mem_cons_of_mem _ (List.mem_append_right _ h))
  have hl := lv_entry [.ref o, .int a, .int b, .int c9, .int d] (n := 5) (Nat.le_of_ble_eq_true rfl)
  rw [lg_entry_eq]
  generalize (lg_sl [.ref o, .int a, .int b, .int c9, .int d] ++ List.replicate (5 - (lg_sl [.ref o, .int a, .int b, .int c9, .int d]).length) Slot.unset).toArray = ls at hl ⊢
  have hl : lv_has ls 5 [(0, .ref o), (1, .int a), (2, .int b), (3, .int c9), (4, .int d)] := hl
  refine lv_aload_n hx hb dX0_init_0 rfl (lv_at hl 0 rfl) ?_
  refine W.objInit hx hb hown (hts _ (List.mem_of_getElem? (i := 1) rfl)) (hts _ (List.mem_of_getElem? (i := 2) rfl)) (hts _ (List.mem_of_getElem? (i := 3) rfl)) rfl (by rw [hml]; exact hl.1) rfl dX0_init_1 (Nat.le_of_ble_eq_true rfl) (Nat.le_of_ble_eq_true rfl) ?_
  refine W.eq (g2 := F0 m 4 ls []) rfl ?_
  refine lv_aload_n hx hb dX0_init_4 rfl (lv_at hl 0 rfl) ?_
  refine lv_iconst (v := 0) hx hb dX0_init_5 (by decide) ?_
  refine wk_put (own := RX0) (C := RX0) (T := TX0) (N := 5) (ci := 1) (v := .int 0) hx hb hts i_X0 tyX0 tyX0_ok nmX0 hown hK hO (Or.inl rfl) hS rfl 4 (by decide) (hts _ (List.mem_of_getElem? (i := 4) rfl)) (fun _ h9 => h9) rfl (tyX0_ok 4 (by decide)) rfl rfl (Nat.le_of_ble_eq_true rfl) dX0_init_6 (fun H locs hP9 hz9 hk9 hS => ?_)
  have hO := hP9
  refine lv_aload_n hx hb dX0_init_9 rfl (lv_at hl 0 rfl) ?_
  refine lv_iload_n hx hb dX0_init_10 rfl (lv_at hl 1 rfl) ?_
  refine wk_putF (own := RX0) (C := RX0) (T := TX0) (N := 5) (ci := 1) (v := .int a) hx hb hts i_X0 tyX0 tyX0_ok nmX0 hown hK hO (Or.inl rfl) hS rfl 0 (by decide) (hts _ (List.mem_of_getElem? (i := 5) rfl)) (fun _ h9 => h9) rfl hin rfl (tyX0_ok 0 (by decide)) rfl rfl (Nat.le_of_ble_eq_true rfl) dX0_init_11 (fun H locs hP9 hz9 hk9 hS => ?_)
  have hO := hP9
  refine lv_aload_n hx hb dX0_init_14 rfl (lv_at hl 0 rfl) ?_
  refine lv_iload_n hx hb dX0_init_15 rfl (lv_at hl 2 rfl) ?_
  refine wk_putF (own := RX0) (C := RX0) (T := TX0) (N := 5) (ci := 1) (v := .int b) hx hb hts i_X0 tyX0 tyX0_ok nmX0 hown hK hO (Or.inl rfl) hS rfl 1 (by decide) (hts _ (List.mem_of_getElem? (i := 6) rfl)) (fun _ h9 => h9) rfl hin rfl (tyX0_ok 1 (by decide)) rfl rfl (Nat.le_of_ble_eq_true rfl) dX0_init_16 (fun H locs hP9 hz9 hk9 hS => ?_)
  have hO := hP9
  refine lv_aload_n hx hb dX0_init_19 rfl (lv_at hl 0 rfl) ?_
  refine lv_iload_n hx hb dX0_init_20 rfl (lv_at hl 3 rfl) ?_
  refine wk_putF (own := RX0) (C := RX0) (T := TX0) (N := 5) (ci := 1) (v := .int c9) hx hb hts i_X0 tyX0 tyX0_ok nmX0 hown hK hO (Or.inl rfl) hS rfl 2 (by decide) (hts _ (List.mem_of_getElem? (i := 7) rfl)) (fun _ h9 => h9) rfl hin rfl (tyX0_ok 2 (by decide)) rfl rfl (Nat.le_of_ble_eq_true rfl) dX0_init_21 (fun H locs hP9 hz9 hk9 hS => ?_)
  have hO := hP9
  refine lv_aload_n hx hb dX0_init_24 rfl (lv_at hl 0 rfl) ?_
  refine lv_iload hx hb dX0_init_25 (lv_at hl 4 rfl) ?_
  refine wk_putF (own := RX0) (C := RX0) (T := TX0) (N := 5) (ci := 1) (v := .int d) hx hb hts i_X0 tyX0 tyX0_ok nmX0 hown hK hO (Or.inl rfl) hS rfl 3 (by decide) (hts _ (List.mem_of_getElem? (i := 8) rfl)) (fun _ h9 => h9) rfl hin rfl (tyX0_ok 3 (by decide)) rfl rfl (Nat.le_of_ble_eq_true rfl) dX0_init_27 (fun H locs hP9 hz9 hk9 hS => ?_)
  have hO := hP9
  exact W.vret hx hb hr (we_end (Rt := fun v H1 => v = none ∧ va_at E.1 vwCl (o, .inr (1, [.int a, .int b, .int c9, .int d, .int 0])) H1) (F := fun q => q = o) (⟨rfl, hO⟩) hS) hS.2.2 dX0_init_30

abbrev rme_X1_init : Room := { frames := 1, cells := 0, slots := 0, locals := 12 }
set_option maxHeartbeats 4000000 in
set_option maxRecDepth 100000 in
theorem e_X1_init (l : Launch) (E : wk_E) {H : Heap} {o : Nat} {a : Nat} {b c9 : Int32} (hO : va_at E.1 vwCl (o, .inr (2, [.null, .int 0, .int 0])) H) (hob : E.2.2.1 ≤ o) : we_Met l yX1_init wsX1_init rme_X1_init E H [.ref o, .ref a, .int b, .int c9] (fun q => q = o) 0 0 (fun v H1 => v = none ∧ va_at E.1 vwCl (o, .inr (2, [.ref a, .int b, .int c9])) H1) := by
  refine Met.ofW (cc := cX1_init) (maxL := 4) (ret := none) (by decide) rfl ?_
  intro p e s m args below meth c s₁ B hml hv
  obtain ⟨rfl, hH, hV⟩ := hv
  subst hH
  have hK := hV.k
  have hx := B.exec
  have hb := B.bytes
  have hr := B.returns
  have hts := atoms_spec (ws := wsX1_init) B.pre
  have hown : s.vm.findClass RX1 = some m.cls := findClass_of_methodNamed B.named
  have hlocks := B.notSynchronized
  have hS : va_S (fun q => (fun q => q = o) q ∨ s.heap.size ≤ q) s.heap s.heap [] := va_S.rf
  have hA9 : ∀ q : Nat, s.heap.size ≤ q → ((fun q => q = o) q ∨ s.heap.size ≤ q) := fun _ h => Or.inr h
  have hbA : ∀ q : Nat, q < E.2.2.1 → ¬ ((fun q => q = o) q ∨ s.heap.size ≤ q) := fun q hq z => z.elim (fun z => absurd (z ▸ hq) (Nat.not_lt.mpr hob)) (fun z => absurd (Nat.lt_of_lt_of_le hq hV.2.2.2.2.2.2) (Nat.not_lt.mpr z))
  have hin : meth.name = "<init>" := (name_of_methodNamed B.named B.method).1
  have i_X1 : ∀ w ∈ u_ws RX1 TX1 3, w ∈ wsX1_init := fun w h => (List.mem_cons_of_mem _ (List.mem_append_right _ h))
  have hl := lv_entry [.ref o, .ref a, .int b, .int c9] (n := 4) (Nat.le_of_ble_eq_true rfl)
  rw [lg_entry_eq]
  generalize (lg_sl [.ref o, .ref a, .int b, .int c9] ++ List.replicate (4 - (lg_sl [.ref o, .ref a, .int b, .int c9]).length) Slot.unset).toArray = ls at hl ⊢
  have hl : lv_has ls 4 [(0, .ref o), (1, .ref a), (2, .int b), (3, .int c9)] := hl
  refine lv_aload_n hx hb dX1_init_0 rfl (lv_at hl 0 rfl) ?_
  refine W.objInit hx hb hown (hts _ (List.mem_of_getElem? (i := 1) rfl)) (hts _ (List.mem_of_getElem? (i := 2) rfl)) (hts _ (List.mem_of_getElem? (i := 3) rfl)) rfl (by rw [hml]; exact hl.1) rfl dX1_init_1 (Nat.le_of_ble_eq_true rfl) (Nat.le_of_ble_eq_true rfl) ?_
  refine W.eq (g2 := F0 m 4 ls []) rfl ?_
  refine lv_aload_n hx hb dX1_init_4 rfl (lv_at hl 0 rfl) ?_
  refine lv_aload_n hx hb dX1_init_5 rfl (lv_at hl 1 rfl) ?_
  refine wk_putF (own := RX1) (C := RX1) (T := TX1) (N := 3) (ci := 2) (v := .ref a) hx hb hts i_X1 tyX1 tyX1_ok nmX1 hown hK hO (Or.inl rfl) hS rfl 0 (by decide) (hts _ (List.mem_of_getElem? (i := 4) rfl)) (fun _ h9 => h9) rfl hin rfl (tyX1_ok 0 (by decide)) rfl rfl (Nat.le_of_ble_eq_true rfl) dX1_init_6 (fun H locs hP9 hz9 hk9 hS => ?_)
  have hO := hP9
  refine lv_aload_n hx hb dX1_init_9 rfl (lv_at hl 0 rfl) ?_
  refine lv_iload_n hx hb dX1_init_10 rfl (lv_at hl 2 rfl) ?_
  refine wk_putF (own := RX1) (C := RX1) (T := TX1) (N := 3) (ci := 2) (v := .int b) hx hb hts i_X1 tyX1 tyX1_ok nmX1 hown hK hO (Or.inl rfl) hS rfl 1 (by decide) (hts _ (List.mem_of_getElem? (i := 5) rfl)) (fun _ h9 => h9) rfl hin rfl (tyX1_ok 1 (by decide)) rfl rfl (Nat.le_of_ble_eq_true rfl) dX1_init_11 (fun H locs hP9 hz9 hk9 hS => ?_)
  have hO := hP9
  refine lv_aload_n hx hb dX1_init_14 rfl (lv_at hl 0 rfl) ?_
  refine lv_iload_n hx hb dX1_init_15 rfl (lv_at hl 3 rfl) ?_
  refine wk_putF (own := RX1) (C := RX1) (T := TX1) (N := 3) (ci := 2) (v := .int c9) hx hb hts i_X1 tyX1 tyX1_ok nmX1 hown hK hO (Or.inl rfl) hS rfl 2 (by decide) (hts _ (List.mem_of_getElem? (i := 6) rfl)) (fun _ h9 => h9) rfl hin rfl (tyX1_ok 2 (by decide)) rfl rfl (Nat.le_of_ble_eq_true rfl) dX1_init_16 (fun H locs hP9 hz9 hk9 hS => ?_)
  have hO := hP9
  exact W.vret hx hb hr (we_end (Rt := fun v H1 => v = none ∧ va_at E.1 vwCl (o, .inr (2, [.ref a, .int b, .int c9])) H1) (F := fun q => q = o) (⟨rfl, hO⟩) hS) hS.2.2 dX1_init_19

abbrev rme_X2_init : Room := { frames := 1, cells := 0, slots := 0, locals := 12 }
set_option maxHeartbeats 4000000 in
set_option maxRecDepth 100000 in
theorem e_X2_init (l : Launch) (E : wk_E) {H : Heap} {o : Nat} {a f g : Int32} {b c9 : Nat} (hO : va_at E.1 vwCl (o, .inr (3, [.int 0, .null, .null, .int 0, .int 0, .int 0, .int 0])) H) (hob : E.2.2.1 ≤ o) : we_Met l yX2_init wsX2_init rme_X2_init E H [.ref o, .int a, .ref b, .ref c9, .int f, .int g] (fun q => q = o) 0 0 (fun v H1 => v = none ∧ va_at E.1 vwCl (o, .inr (3, [.int a, .ref b, .ref c9, .int f, .int g, .int 0, .int 0])) H1) := by
  refine Met.ofW (cc := cX2_init) (maxL := 6) (ret := none) (by decide) rfl ?_
  intro p e s m args below meth c s₁ B hml hv
  obtain ⟨rfl, hH, hV⟩ := hv
  subst hH
  have hK := hV.k
  have hx := B.exec
  have hb := B.bytes
  have hr := B.returns
  have hts := atoms_spec (ws := wsX2_init) B.pre
  have hown : s.vm.findClass RX2 = some m.cls := findClass_of_methodNamed B.named
  have hlocks := B.notSynchronized
  have hS : va_S (fun q => (fun q => q = o) q ∨ s.heap.size ≤ q) s.heap s.heap [] := va_S.rf
  have hA9 : ∀ q : Nat, s.heap.size ≤ q → ((fun q => q = o) q ∨ s.heap.size ≤ q) := fun _ h => Or.inr h
  have hbA : ∀ q : Nat, q < E.2.2.1 → ¬ ((fun q => q = o) q ∨ s.heap.size ≤ q) := fun q hq z => z.elim (fun z => absurd (z ▸ hq) (Nat.not_lt.mpr hob)) (fun z => absurd (Nat.lt_of_lt_of_le hq hV.2.2.2.2.2.2) (Nat.not_lt.mpr z))
  have hin : meth.name = "<init>" := (name_of_methodNamed B.named B.method).1
  have i_X2 : ∀ w ∈ u_ws RX2 TX2 7, w ∈ wsX2_init := fun w h => (List.mem_cons_of_mem _ (List.mem_append_right _ h))
  have hl := lv_entry [.ref o, .int a, .ref b, .ref c9, .int f, .int g] (n := 6) (Nat.le_of_ble_eq_true rfl)
  rw [lg_entry_eq]
  generalize (lg_sl [.ref o, .int a, .ref b, .ref c9, .int f, .int g] ++ List.replicate (6 - (lg_sl [.ref o, .int a, .ref b, .ref c9, .int f, .int g]).length) Slot.unset).toArray = ls at hl ⊢
  have hl : lv_has ls 6 [(0, .ref o), (1, .int a), (2, .ref b), (3, .ref c9), (4, .int f), (5, .int g)] := hl
  refine lv_aload_n hx hb dX2_init_0 rfl (lv_at hl 0 rfl) ?_
  refine W.objInit hx hb hown (hts _ (List.mem_of_getElem? (i := 1) rfl)) (hts _ (List.mem_of_getElem? (i := 2) rfl)) (hts _ (List.mem_of_getElem? (i := 3) rfl)) rfl (by rw [hml]; exact hl.1) rfl dX2_init_1 (Nat.le_of_ble_eq_true rfl) (Nat.le_of_ble_eq_true rfl) ?_
  refine W.eq (g2 := F0 m 4 ls []) rfl ?_
  refine lv_aload_n hx hb dX2_init_4 rfl (lv_at hl 0 rfl) ?_
  refine lv_iconst (v := 0) hx hb dX2_init_5 (by decide) ?_
  refine wk_put (own := RX2) (C := RX2) (T := TX2) (N := 7) (ci := 3) (v := .int 0) hx hb hts i_X2 tyX2 tyX2_ok nmX2 hown hK hO (Or.inl rfl) hS rfl 5 (by decide) (hts _ (List.mem_of_getElem? (i := 4) rfl)) (fun _ h9 => h9) rfl (tyX2_ok 5 (by decide)) rfl rfl (Nat.le_of_ble_eq_true rfl) dX2_init_6 (fun H locs hP9 hz9 hk9 hS => ?_)
  have hO := hP9
  refine lv_aload_n hx hb dX2_init_9 rfl (lv_at hl 0 rfl) ?_
  refine lv_iconst (v := 0) hx hb dX2_init_10 (by decide) ?_
  refine wk_put (own := RX2) (C := RX2) (T := TX2) (N := 7) (ci := 3) (v := .int 0) hx hb hts i_X2 tyX2 tyX2_ok nmX2 hown hK hO (Or.inl rfl) hS rfl 6 (by decide) (hts _ (List.mem_of_getElem? (i := 5) rfl)) (fun _ h9 => h9) rfl (tyX2_ok 6 (by decide)) rfl rfl (Nat.le_of_ble_eq_true rfl) dX2_init_11 (fun H locs hP9 hz9 hk9 hS => ?_)
  have hO := hP9
  refine lv_aload_n hx hb dX2_init_14 rfl (lv_at hl 0 rfl) ?_
  refine lv_iload_n hx hb dX2_init_15 rfl (lv_at hl 1 rfl) ?_
  refine wk_putF (own := RX2) (C := RX2) (T := TX2) (N := 7) (ci := 3) (v := .int a) hx hb hts i_X2 tyX2 tyX2_ok nmX2 hown hK hO (Or.inl rfl) hS rfl 0 (by decide) (hts _ (List.mem_of_getElem? (i := 6) rfl)) (fun _ h9 => h9) rfl hin rfl (tyX2_ok 0 (by decide)) rfl rfl (Nat.le_of_ble_eq_true rfl) dX2_init_16 (fun H locs hP9 hz9 hk9 hS => ?_)
  have hO := hP9
  refine lv_aload_n hx hb dX2_init_19 rfl (lv_at hl 0 rfl) ?_
  refine lv_aload_n hx hb dX2_init_20 rfl (lv_at hl 2 rfl) ?_
  refine wk_putF (own := RX2) (C := RX2) (T := TX2) (N := 7) (ci := 3) (v := .ref b) hx hb hts i_X2 tyX2 tyX2_ok nmX2 hown hK hO (Or.inl rfl) hS rfl 1 (by decide) (hts _ (List.mem_of_getElem? (i := 7) rfl)) (fun _ h9 => h9) rfl hin rfl (tyX2_ok 1 (by decide)) rfl rfl (Nat.le_of_ble_eq_true rfl) dX2_init_21 (fun H locs hP9 hz9 hk9 hS => ?_)
  have hO := hP9
  refine lv_aload_n hx hb dX2_init_24 rfl (lv_at hl 0 rfl) ?_
  refine lv_aload_n hx hb dX2_init_25 rfl (lv_at hl 3 rfl) ?_
  refine wk_putF (own := RX2) (C := RX2) (T := TX2) (N := 7) (ci := 3) (v := .ref c9) hx hb hts i_X2 tyX2 tyX2_ok nmX2 hown hK hO (Or.inl rfl) hS rfl 2 (by decide) (hts _ (List.mem_of_getElem? (i := 8) rfl)) (fun _ h9 => h9) rfl hin rfl (tyX2_ok 2 (by decide)) rfl rfl (Nat.le_of_ble_eq_true rfl) dX2_init_26 (fun H locs hP9 hz9 hk9 hS => ?_)
  have hO := hP9
  refine lv_aload_n hx hb dX2_init_29 rfl (lv_at hl 0 rfl) ?_
  refine lv_iload hx hb dX2_init_30 (lv_at hl 4 rfl) ?_
  refine wk_putF (own := RX2) (C := RX2) (T := TX2) (N := 7) (ci := 3) (v := .int f) hx hb hts i_X2 tyX2 tyX2_ok nmX2 hown hK hO (Or.inl rfl) hS rfl 3 (by decide) (hts _ (List.mem_of_getElem? (i := 9) rfl)) (fun _ h9 => h9) rfl hin rfl (tyX2_ok 3 (by decide)) rfl rfl (Nat.le_of_ble_eq_true rfl) dX2_init_32 (fun H locs hP9 hz9 hk9 hS => ?_)
  have hO := hP9
  refine lv_aload_n hx hb dX2_init_35 rfl (lv_at hl 0 rfl) ?_
  refine lv_iload hx hb dX2_init_36 (lv_at hl 5 rfl) ?_
  refine wk_putF (own := RX2) (C := RX2) (T := TX2) (N := 7) (ci := 3) (v := .int g) hx hb hts i_X2 tyX2 tyX2_ok nmX2 hown hK hO (Or.inl rfl) hS rfl 4 (by decide) (hts _ (List.mem_of_getElem? (i := 10) rfl)) (fun _ h9 => h9) rfl hin rfl (tyX2_ok 4 (by decide)) rfl rfl (Nat.le_of_ble_eq_true rfl) dX2_init_38 (fun H locs hP9 hz9 hk9 hS => ?_)
  have hO := hP9
  exact W.vret hx hb hr (we_end (Rt := fun v H1 => v = none ∧ va_at E.1 vwCl (o, .inr (3, [.int a, .ref b, .ref c9, .int f, .int g, .int 0, .int 0])) H1) (F := fun q => q = o) (⟨rfl, hO⟩) hS) hS.2.2 dX2_init_41

abbrev rme_X3_init : Room := { frames := 1, cells := 0, slots := 0, locals := 12 }
set_option maxHeartbeats 4000000 in
set_option maxRecDepth 100000 in
theorem e_X3_init (l : Launch) (E : wk_E) {H : Heap} {o : Nat} {a b c9 d f : Int32} (hO : va_at E.1 vwCl (o, .inr (4, [.int 0, .int 0, .int 0, .int 0, .int 0, .int 0, .int 0, .int 0])) H) (hob : E.2.2.1 ≤ o) : we_Met l yX3_init wsX3_init rme_X3_init E H [.ref o, .int a, .int b, .int c9, .int d, .int f] (fun q => q = o) 0 0 (fun v H1 => v = none ∧ va_at E.1 vwCl (o, .inr (4, [.int a, .int b, .int c9, .int d, .int f, .int 0, .int 0, .int 0])) H1) := by
  refine Met.ofW (cc := cX3_init) (maxL := 6) (ret := none) (by decide) rfl ?_
  intro p e s m args below meth c s₁ B hml hv
  obtain ⟨rfl, hH, hV⟩ := hv
  subst hH
  have hK := hV.k
  have hx := B.exec
  have hb := B.bytes
  have hr := B.returns
  have hts := atoms_spec (ws := wsX3_init) B.pre
  have hown : s.vm.findClass RX3 = some m.cls := findClass_of_methodNamed B.named
  have hlocks := B.notSynchronized
  have hS : va_S (fun q => (fun q => q = o) q ∨ s.heap.size ≤ q) s.heap s.heap [] := va_S.rf
  have hA9 : ∀ q : Nat, s.heap.size ≤ q → ((fun q => q = o) q ∨ s.heap.size ≤ q) := fun _ h => Or.inr h
  have hbA : ∀ q : Nat, q < E.2.2.1 → ¬ ((fun q => q = o) q ∨ s.heap.size ≤ q) := fun q hq z => z.elim (fun z => absurd (z ▸ hq) (Nat.not_lt.mpr hob)) (fun z => absurd (Nat.lt_of_lt_of_le hq hV.2.2.2.2.2.2) (Nat.not_lt.mpr z))
  have hin : meth.name = "<init>" := (name_of_methodNamed B.named B.method).1
  have i_X3 : ∀ w ∈ u_ws RX3 TX3 8, w ∈ wsX3_init := fun w h => (List.mem_cons_of_mem _ (List.mem_append_right _ h))
  have hl := lv_entry [.ref o, .int a, .int b, .int c9, .int d, .int f] (n := 6) (Nat.le_of_ble_eq_true rfl)
  rw [lg_entry_eq]
  generalize (lg_sl [.ref o, .int a, .int b, .int c9, .int d, .int f] ++ List.replicate (6 - (lg_sl [.ref o, .int a, .int b, .int c9, .int d, .int f]).length) Slot.unset).toArray = ls at hl ⊢
  have hl : lv_has ls 6 [(0, .ref o), (1, .int a), (2, .int b), (3, .int c9), (4, .int d), (5, .int f)] := hl
  refine lv_aload_n hx hb dX3_init_0 rfl (lv_at hl 0 rfl) ?_
  refine W.objInit hx hb hown (hts _ (List.mem_of_getElem? (i := 1) rfl)) (hts _ (List.mem_of_getElem? (i := 2) rfl)) (hts _ (List.mem_of_getElem? (i := 3) rfl)) rfl (by rw [hml]; exact hl.1) rfl dX3_init_1 (Nat.le_of_ble_eq_true rfl) (Nat.le_of_ble_eq_true rfl) ?_
  refine W.eq (g2 := F0 m 4 ls []) rfl ?_
  refine lv_aload_n hx hb dX3_init_4 rfl (lv_at hl 0 rfl) ?_
  refine lv_iconst (v := 0) hx hb dX3_init_5 (by decide) ?_
  refine wk_put (own := RX3) (C := RX3) (T := TX3) (N := 8) (ci := 4) (v := .int 0) hx hb hts i_X3 tyX3 tyX3_ok nmX3 hown hK hO (Or.inl rfl) hS rfl 5 (by decide) (hts _ (List.mem_of_getElem? (i := 4) rfl)) (fun _ h9 => h9) rfl (tyX3_ok 5 (by decide)) rfl rfl (Nat.le_of_ble_eq_true rfl) dX3_init_6 (fun H locs hP9 hz9 hk9 hS => ?_)
  have hO := hP9
  refine lv_aload_n hx hb dX3_init_9 rfl (lv_at hl 0 rfl) ?_
  refine lv_iconst (v := 0) hx hb dX3_init_10 (by decide) ?_
  refine wk_put (own := RX3) (C := RX3) (T := TX3) (N := 8) (ci := 4) (v := .int 0) hx hb hts i_X3 tyX3 tyX3_ok nmX3 hown hK hO (Or.inl rfl) hS rfl 6 (by decide) (hts _ (List.mem_of_getElem? (i := 5) rfl)) (fun _ h9 => h9) rfl (tyX3_ok 6 (by decide)) rfl rfl (Nat.le_of_ble_eq_true rfl) dX3_init_11 (fun H locs hP9 hz9 hk9 hS => ?_)
  have hO := hP9
  refine lv_aload_n hx hb dX3_init_14 rfl (lv_at hl 0 rfl) ?_
  refine lv_iconst (v := 0) hx hb dX3_init_15 (by decide) ?_
  refine wk_put (own := RX3) (C := RX3) (T := TX3) (N := 8) (ci := 4) (v := .int 0) hx hb hts i_X3 tyX3 tyX3_ok nmX3 hown hK hO (Or.inl rfl) hS rfl 7 (by decide) (hts _ (List.mem_of_getElem? (i := 6) rfl)) (fun _ h9 => h9) rfl (tyX3_ok 7 (by decide)) rfl rfl (Nat.le_of_ble_eq_true rfl) dX3_init_16 (fun H locs hP9 hz9 hk9 hS => ?_)
  have hO := hP9
  refine lv_aload_n hx hb dX3_init_19 rfl (lv_at hl 0 rfl) ?_
  refine lv_iload_n hx hb dX3_init_20 rfl (lv_at hl 1 rfl) ?_
  refine wk_putF (own := RX3) (C := RX3) (T := TX3) (N := 8) (ci := 4) (v := .int a) hx hb hts i_X3 tyX3 tyX3_ok nmX3 hown hK hO (Or.inl rfl) hS rfl 0 (by decide) (hts _ (List.mem_of_getElem? (i := 7) rfl)) (fun _ h9 => h9) rfl hin rfl (tyX3_ok 0 (by decide)) rfl rfl (Nat.le_of_ble_eq_true rfl) dX3_init_21 (fun H locs hP9 hz9 hk9 hS => ?_)
  have hO := hP9
  refine lv_aload_n hx hb dX3_init_24 rfl (lv_at hl 0 rfl) ?_
  refine lv_iload_n hx hb dX3_init_25 rfl (lv_at hl 2 rfl) ?_
  refine wk_putF (own := RX3) (C := RX3) (T := TX3) (N := 8) (ci := 4) (v := .int b) hx hb hts i_X3 tyX3 tyX3_ok nmX3 hown hK hO (Or.inl rfl) hS rfl 1 (by decide) (hts _ (List.mem_of_getElem? (i := 8) rfl)) (fun _ h9 => h9) rfl hin rfl (tyX3_ok 1 (by decide)) rfl rfl (Nat.le_of_ble_eq_true rfl) dX3_init_26 (fun H locs hP9 hz9 hk9 hS => ?_)
  have hO := hP9
  refine lv_aload_n hx hb dX3_init_29 rfl (lv_at hl 0 rfl) ?_
  refine lv_iload_n hx hb dX3_init_30 rfl (lv_at hl 3 rfl) ?_
  refine wk_putF (own := RX3) (C := RX3) (T := TX3) (N := 8) (ci := 4) (v := .int c9) hx hb hts i_X3 tyX3 tyX3_ok nmX3 hown hK hO (Or.inl rfl) hS rfl 2 (by decide) (hts _ (List.mem_of_getElem? (i := 9) rfl)) (fun _ h9 => h9) rfl hin rfl (tyX3_ok 2 (by decide)) rfl rfl (Nat.le_of_ble_eq_true rfl) dX3_init_31 (fun H locs hP9 hz9 hk9 hS => ?_)
  have hO := hP9
  refine lv_aload_n hx hb dX3_init_34 rfl (lv_at hl 0 rfl) ?_
  refine lv_iload hx hb dX3_init_35 (lv_at hl 4 rfl) ?_
  refine wk_putF (own := RX3) (C := RX3) (T := TX3) (N := 8) (ci := 4) (v := .int d) hx hb hts i_X3 tyX3 tyX3_ok nmX3 hown hK hO (Or.inl rfl) hS rfl 3 (by decide) (hts _ (List.mem_of_getElem? (i := 10) rfl)) (fun _ h9 => h9) rfl hin rfl (tyX3_ok 3 (by decide)) rfl rfl (Nat.le_of_ble_eq_true rfl) dX3_init_37 (fun H locs hP9 hz9 hk9 hS => ?_)
  have hO := hP9
  refine lv_aload_n hx hb dX3_init_40 rfl (lv_at hl 0 rfl) ?_
  refine lv_iload hx hb dX3_init_41 (lv_at hl 5 rfl) ?_
  refine wk_putF (own := RX3) (C := RX3) (T := TX3) (N := 8) (ci := 4) (v := .int f) hx hb hts i_X3 tyX3 tyX3_ok nmX3 hown hK hO (Or.inl rfl) hS rfl 4 (by decide) (hts _ (List.mem_of_getElem? (i := 11) rfl)) (fun _ h9 => h9) rfl hin rfl (tyX3_ok 4 (by decide)) rfl rfl (Nat.le_of_ble_eq_true rfl) dX3_init_43 (fun H locs hP9 hz9 hk9 hS => ?_)
  have hO := hP9
  exact W.vret hx hb hr (we_end (Rt := fun v H1 => v = none ∧ va_at E.1 vwCl (o, .inr (4, [.int a, .int b, .int c9, .int d, .int f, .int 0, .int 0, .int 0])) H1) (F := fun q => q = o) (⟨rfl, hO⟩) hS) hS.2.2 dX3_init_46
