abbrev rme_X0_init : Room := { frames := 1, cells := 0, slots := 0, locals := 12 }
set_option maxHeartbeats 4000000 in
set_option maxRecDepth 100000 in
theorem e_X0_init (l : Launch) (E : wk_E) {H : Heap} {o : Nat} {a b c9 d : Int32} (hO : va_at E.1 vwCl (o, .inr (1, [.int 0, .int 0, .int 0, .int 0, .int 0])) H) (hob : E.2.2.1 ≤ o) : we_Met l yX0_init wsX0_init rme_X0_init E H [.ref o, .int a, .int b, .int c9, .int d] (fun q => q = o) 0 0 (fun v H1 => v = none ∧ va_at E.1 vwCl (o, .inr (1, [.int a, .int b, .int c9, .int d, .int 0])) H1) := by
  refine Met.ofW (cc := cX0_init) (maxL := 5) (ret := none) (by decide) rfl ?_
  intro p e s m args below meth c s₁ B hml hv
  obtain ⟨rfl, hH, hV⟩ := hv
  subst hH
  have hK := hV.k
  have hx := B.exec
  have hb := B.bytes
  have hr := B.returns
  have hts := atoms_spec (ws := wsX0_init) B.pre
  have hown : s.vm.findClass RX0 = some m.cls := findClass_of_methodNamed B.named
  have hlocks := B.notSynchronized
  have hS : va_S (fun q => (fun q => q = o) q ∨ s.heap.size ≤ q) s.heap s.heap [] := va_S.rf
  have hA9 : ∀ q : Nat, s.heap.size ≤ q → ((fun q => q = o) q ∨ s.heap.size ≤ q) := fun _ h => Or.inr h
  have hbA : ∀ q : Nat, q < E.2.2.1 → ¬ ((fun q => q = o) q ∨ s.heap.size ≤ q) := fun q hq z => z.elim (fun z => absurd (z ▸ hq) (Nat.not_lt.mpr hob)) (fun z => absurd (Nat.lt_of_lt_of_le hq hV.2.2.2.2.2.2) (Nat.not_lt.mpr z))
  have hin : meth.name = "<init>" := (name_of_methodNamed B.named B.method).1
  have i_X0 : ∀ w ∈ u_ws RX0 TX0 5, w ∈ wsX0_init := fun w h => (List.mem_cons_of_mem _ (List.mem_append_right _ h))
  have hl := lv_entry [.ref o, .int a, .int b, .int c9, .int d] (n := 5) (Nat.le_of_ble_eq_true rfl)
  rw [lg_entry_eq]
  generalize (lg_sl [.ref o, .int a, .int b, .int c9, .int d] ++ List.replicate (5 - (lg_sl [.ref o, .int a, .int b, .int c9, .int d]).length) Slot.unset).toArray = ls at hl ⊢
  have hl : lv_has ls 5 [(0, .ref o), (1, .int a), (2, .int b), (3, .int c9), (4, .int d)] := hl
  refine lv_aload_n hx hb dX0_init_0 rfl (lv_at hl 0 rfl) ?_
  refine W.objInit hx hb hown (hts _ (List.mem_of_getElem? (i := 1) rfl)) (hts _ (List.mem_of_getElem? (i := 2) rfl)) (hts _ (List.mem_of_getElem? (i := 3) rfl)) rfl (by rw [hml]; exact hl.1) rfl dX0_init_1 (Nat.le_of_ble_eq_true rfl) (Nat.le_of_ble_eq_true rfl) ?_
  refine W.eq (g2 := F0 m 4 ls []) rfl ?_
  refine lv_aload_n hx hb dX0_init_4 rfl (lv_at hl 0 rfl) ?_
  refine lv_iconst (v := 0) hx hb dX0_init_5 (by decide) ?_
  refine wk_put (own := RX0) (C := RX0) (T := TX0) (N := 5) (ci := 1) (v := .int 0) hx hb hts i_X0 tyX0 tyX0_ok nmX0 hown hK hO (Or.inl rfl) hS rfl 4 (by decide) (hts _ (List.mem_of_getElem? (i := 4) rfl)) (fun _ h9 => h9) rfl (tyX0_ok 4 (by decide)) rfl rfl (Nat.le_of_ble_eq_true rfl) dX0_init_6 (fun H locs hP9 hz9 hk9 hS => ?_)
  have hO := hP9
  refine lv_aload_n hx hb dX0_init_9 rfl (lv_at hl 0 rfl) ?_
  refine lv_iload_n hx hb dX0_init_10 rfl (lv_at hl 1 rfl) ?_
  refine wk_putF (own := RX0) (C := RX0) (T := TX0) (N := 5) (ci := 1) (v := .int a) hx hb hts i_X0 tyX0 tyX0_ok nmX0 hown hK hO (Or.inl rfl) hS rfl 0 (by decide) (hts _ (List.mem_of_getElem? (i := 5) rfl)) (fun _ h9 => h9) rfl hin rfl (tyX0_ok 0 (by decide)) rfl rfl (Nat.le_of_ble_eq_true rfl) dX0_init_11 (fun H locs hP9 hz9 hk9 hS => ?_)
  have hO := hP9
  refine lv_aload_n hx hb dX0_init_14 rfl (lv_at hl 0 rfl) ?_
  refine lv_iload_n hx hb dX0_init_15 rfl (lv_at hl 2 rfl) ?_
  refine wk_putF (own := RX0) (C := RX0) (T := TX0) (N := 5) (ci := 1) (v := .int b) hx hb hts i_X0 tyX0 tyX0_ok nmX0 hown hK hO (Or.inl rfl) hS rfl 1 (by decide) (hts _ (List.mem_of_getElem? (i := 6) rfl)) (fun _ h9 => h9) rfl hin rfl (tyX0_ok 1 (by decide)) rfl rfl (Nat.le_of_ble_eq_true rfl) dX0_init_16 (fun H locs hP9 hz9 hk9 hS => ?_)
  have hO := hP9
  refine lv_aload_n hx hb dX0_init_19 rfl (lv_at hl 0 rfl) ?_
  refine lv_iload_n hx hb dX0_init_20 rfl (lv_at hl 3 rfl) ?_
  refine wk_putF (own := RX0) (C := RX0) (T := TX0) (N := 5) (ci := 1) (v := .int c9) hx hb hts i_X0 tyX0 tyX0_ok nmX0 hown hK hO (Or.inl rfl) hS rfl 2 (by decide) (hts _ (List.mem_of_getElem? (i := 7) rfl)) (fun _ h9 => h9) rfl hin rfl (tyX0_ok 2 (by decide)) rfl rfl (Nat.le_of_ble_eq_true rfl) dX0_init_21 (fun H locs hP9 hz9 hk9 hS => ?_)
  have hO := hP9
  refine lv_aload_n hx hb dX0_init_24 rfl (lv_at hl 0 rfl) ?_
  refine lv_iload hx hb dX0_init_25 (lv_at hl 4 rfl) ?_
  refine wk_putF (own := RX0) (C := RX0) (T := TX0) (N := 5) (ci := 1) (v := .int d) hx hb hts i_X0 tyX0 tyX0_ok nmX0 hown hK hO (Or.inl rfl) hS rfl 3 (by decide) (hts _ (List.mem_of_getElem? (i := 8) rfl)) (fun _ h9 => h9) rfl hin rfl (tyX0_ok 3 (by decide)) rfl rfl (Nat.le_of_ble_eq_true rfl) dX0_init_27 (fun H locs hP9 hz9 hk9 hS => ?_)
  have hO := hP9
  exact W.vret hx hb hr (we_end (Rt := fun v H1 => v = none ∧ va_at E.1 vwCl (o, .inr (1, [.int a, .int b, .int c9, .int d, .int 0])) H1) (F := fun q => q = o) (⟨rfl, hO⟩) hS) hS.2.2 dX0_init_30

abbrev rme_X2_init : Room := { frames := 1, cells := 0, slots := 0, locals := 12 }
set_option maxHeartbeats 4000000 in
set_option maxRecDepth 100000 in
theorem e_X2_init (l : Launch) (E : wk_E) {H : Heap} {o : Nat} {a f g : Int32} {b c9 : Nat} (hO : va_at E.1 vwCl (o, .inr (3, [.int 0, .null, .null, .int 0, .int 0, .int 0, .int 0])) H) (hob : E.2.2.1 ≤ o) : we_Met l yX2_init wsX2_init rme_X2_init E H [.ref o, .int a, .ref b, .ref c9, .int f, .int g] (fun q => q = o) 0 0 (fun v H1 => v = none ∧ va_at E.1 vwCl (o, .inr (3, [.int a, .ref b, .ref c9, .int f, .int g, .int 0, .int 0])) H1) := by
  refine Met.ofW (cc := cX2_init) (maxL := 6) (ret := none) (by decide) rfl ?_
  intro p e s m args below meth c s₁ B hml hv
  obtain ⟨rfl, hH, hV⟩ := hv
  subst hH
  have hK := hV.k
  have hx := B.exec
  have hb := B.bytes
  have hr := B.returns
  have hts := atoms_spec (ws := wsX2_init) B.pre
  have hown : s.vm.findClass RX2 = some m.cls := findClass_of_methodNamed B.named
  have hlocks := B.notSynchronized
  have hS : va_S (fun q => (fun q => q = o) q ∨ s.heap.size ≤ q) s.heap s.heap [] := va_S.rf
  have hA9 : ∀ q : Nat, s.heap.size ≤ q → ((fun q => q = o) q ∨ s.heap.size ≤ q) := fun _ h => Or.inr h
  have hbA : ∀ q : Nat, q < E.2.2.1 → ¬ ((fun q => q = o) q ∨ s.heap.size ≤ q) := fun q hq z => z.elim (fun z => absurd (z ▸ hq) (Nat.not_lt.mpr hob)) (fun z => absurd (Nat.lt_of_lt_of_le hq hV.2.2.2.2.2.2) (Nat.not_lt.mpr z))
  have hin : meth.name = "<init>" := (name_of_methodNamed B.named B.method).1
  have i_X2 : ∀ w ∈ u_ws RX2 TX2 7, w ∈ wsX2_init := fun w h => (List.mem_cons_of_mem _ (List.mem_append_right _ h))
  have hl := lv_entry [.ref o, .int a, .ref b, .ref c9, .int f, .int g] (n := 6) (Nat.le_of_ble_eq_true rfl)
  rw [lg_entry_eq]
  generalize (lg_sl [.ref o, .int a, .ref b, .ref c9, .int f, .int g] ++ List.replicate (6 - (lg_sl [.ref o, .int a, .ref b, .ref c9, .int f, .int g]).length) Slot.unset).toArray = ls at hl ⊢
  have hl : lv_has ls 6 [(0, .ref o), (1, .int a), (2, .ref b), (3, .ref c9), (4, .int f), (5, .int g)] := hl
  refine lv_aload_n hx hb dX2_init_0 rfl (lv_at hl 0 rfl) ?_
  refine W.objInit hx hb hown (hts _ (List.mem_of_getElem? (i := 1) rfl)) (hts _ (List.mem_of_getElem? (i := 2) rfl)) (hts _ (List.mem_of_getElem? (i := 3) rfl)) rfl (by rw [hml]; exact hl.1) rfl dX2_init_1 (Nat.le_of_ble_eq_true rfl) (Nat.le_of_ble_eq_true rfl) ?_
  refine W.eq (g2 := F0 m 4 ls []) rfl ?_
  refine lv_aload_n hx hb dX2_init_4 rfl (lv_at hl 0 rfl) ?_
  refine lv_iconst (v := 0) hx hb dX2_init_5 (by decide) ?_
  refine wk_put (own := RX2) (C := RX2) (T := TX2) (N := 7) (ci := 3) (v := .int 0) hx hb hts i_X2 tyX2 tyX2_ok nmX2 hown hK hO (Or.inl rfl) hS rfl 5 (by decide) (hts _ (List.mem_of_getElem? (i := 4) rfl)) (fun _ h9 => h9) rfl (tyX2_ok 5 (by decide)) rfl rfl (Nat.le_of_ble_eq_true rfl) dX2_init_6 (fun H locs hP9 hz9 hk9 hS => ?_)
  have hO := hP9
  refine lv_aload_n hx hb dX2_init_9 rfl (lv_at hl 0 rfl) ?_
  refine lv_iconst (v := 0) hx hb dX2_init_10 (by decide) ?_
  refine wk_put (own := RX2) (C := RX2) (T := TX2) (N := 7) (ci := 3) (v := .int 0) hx hb hts i_X2 tyX2 tyX2_ok nmX2 hown hK hO (Or.inl rfl) hS rfl 6 (by decide) (hts _ (List.mem_of_getElem? (i := 5) rfl)) (fun _ h9 => h9) rfl (tyX2_ok 6 (by decide)) rfl rfl (Nat.le_of_ble_eq_true rfl) dX2_init_11 (fun H locs hP9 hz9 hk9 hS => ?_)
  have hO := hP9
  refine lv_aload_n hx hb dX2_init_14 rfl (lv_at hl 0 rfl) ?_
  refine lv_iload_n hx hb dX2_init_15 rfl (lv_at hl 1 rfl) ?_
  refine wk_putF (own := RX2) (C := RX2) (T := TX2) (N := 7) (ci := 3) (v := .int a) hx hb hts i_X2 tyX2 tyX2_ok nmX2 hown hK hO (Or.inl rfl) hS rfl 0 (by decide) (hts _ (List.mem_of_getElem? (i := 6) rfl)) (fun _ h9 => h9) rfl hin rfl (tyX2_ok 0 (by decide)) rfl rfl (Nat.le_of_ble_eq_true rfl) dX2_init_16 (fun H locs hP9 hz9 hk9 hS => ?_)
  have hO := hP9
  refine lv_aload_n hx hb dX2_init_19 rfl (lv_at hl 0 rfl) ?_
  refine lv_aload_n hx hb dX2_init_20 rfl (lv_at hl 2 rfl) ?_
  refine wk_putF (own := RX2) (C := RX2) (T := TX2) (N := 7) (ci := 3) (v := .ref b) hx hb hts i_X2 tyX2 tyX2_ok nmX2 hown hK hO (Or.inl rfl) hS rfl 1 (by decide) (hts _ (List.mem_of_getElem? (i := 7) rfl)) (fun _ h9 => h9) rfl hin rfl (tyX2_ok 1 (by decide)) rfl rfl (Nat.le_of_ble_eq_true rfl) dX2_init_21 (fun H locs hP9 hz9 hk9 hS => ?_)
  have hO := hP9
  refine lv_aload_n hx hb dX2_init_24 rfl (lv_at hl 0 rfl) ?_
  refine lv_aload_n hx hb dX2_init_25 rfl (lv_at hl 3 rfl) ?_
  refine wk_putF (own := RX2) (C := RX2) (T := TX2) (N := 7) (ci := 3) (v := .ref c9) hx hb hts i_X2 tyX2 tyX2_ok nmX2 hown hK hO (Or.inl rfl) hS rfl 2 (by decide) (hts _ (List.mem_of_getElem? (i := 8) rfl)) (fun _ h9 => h9) rfl hin rfl (tyX2_ok 2 (by decide)) rfl rfl (Nat.le_of_ble_eq_true rfl) dX2_init_26 (fun H locs hP9 hz9 hk9 hS => ?_)
  have hO := hP9
  refine lv_aload_n hx hb dX2_init_29 rfl (lv_at hl 0 rfl) ?_
  refine lv_iload hx hb dX2_init_30 (lv_at hl 4 rfl) ?_
  refine wk_putF (own := RX2) (C := RX2) (T := TX2) (N := 7) (ci := 3) (v := .int f) hx hb hts i_X2 tyX2 tyX2_ok nmX2 hown hK hO (Or.inl rfl) hS rfl 3 (by decide) (hts _ (List.mem_of_getElem? (i := 9) rfl)) (fun _ h9 => h9) rfl hin rfl (tyX2_ok 3 (by decide)) rfl rfl (Nat.le_of_ble_eq_true rfl) dX2_init_32 (fun H locs hP9 hz9 hk9 hS => ?_)
  have hO := hP9
  refine lv_aload_n hx hb dX2_init_35 rfl (lv_at hl 0 rfl) ?_
  refine lv_iload hx hb dX2_init_36 (lv_at hl 5 rfl) ?_
  refine wk_putF (own := RX2) (C := RX2) (T := TX2) (N := 7) (ci := 3) (v := .int g) hx hb hts i_X2 tyX2 tyX2_ok nmX2 hown hK hO (Or.inl rfl) hS rfl 4 (by decide) (hts _ (List.mem_of_getElem? (i := 10) rfl)) (fun _ h9 => h9) rfl hin rfl (tyX2_ok 4 (by decide)) rfl rfl (Nat.le_of_ble_eq_true rfl) dX2_init_38 (fun H locs hP9 hz9 hk9 hS => ?_)
  have hO := hP9
  exact W.vret hx hb hr (we_end (Rt := fun v H1 => v = none ∧ va_at E.1 vwCl (o, .inr (3, [.int a, .ref b, .ref c9, .int f, .int g, .int 0, .int 0])) H1) (F := fun q => q = o) (⟨rfl, hO⟩) hS) hS.2.2 dX2_init_41

abbrev rme_X3_init : Room := { frames := 1, cells := 0, slots := 0, locals := 12 }
set_option maxHeartbeats 4000000 in
set_option maxRecDepth 100000 in
theorem e_X3_init (l : Launch) (E : wk_E) {H : Heap} {o : Nat} {a b c9 d f : Int32} (hO : va_at E.1 vwCl (o, .inr (4, [.int 0, .int 0, .int 0, .int 0, .int 0, .int 0, .int 0, .int 0])) H) (hob : E.2.2.1 ≤ o) : we_Met l yX3_init wsX3_init rme_X3_init E H [.ref o, .int a, .int b, .int c9, .int d, .int f] (fun q => q = o) 0 0 (fun v H1 => v = none ∧ va_at E.1 vwCl (o, .inr (4, [.int a, .int b, .int c9, .int d, .int f, .int 0, .int 0, .int 0])) H1) := by
  refine Met.ofW (cc := cX3_init) (maxL := 6) (ret := none) (by decide) rfl ?_
  intro p e s m args below meth c s₁ B hml hv
  obtain ⟨rfl, hH, hV⟩ := hv
  subst hH
  have hK := hV.k
  have hx := B.exec
  have hb := B.bytes
  have hr := B.returns
  have hts := atoms_spec (ws := wsX3_init) B.pre
  have hown : s.vm.findClass RX3 = some m.cls := findClass_of_methodNamed B.named
  have hlocks := B.notSynchronized
  have hS : va_S (fun q => (fun q => q = o) q ∨ s.heap.size ≤ q) s.heap s.heap [] := va_S.rf
  have hA9 : ∀ q : Nat, s.heap.size ≤ q → ((fun q => q = o) q ∨ s.heap.size ≤ q) := fun _ h => Or.inr h
  have hbA : ∀ q : Nat, q < E.2.2.1 → ¬ ((fun q => q = o) q ∨ s.heap.size ≤ q) := fun q hq z => z.elim (fun z => absurd (z ▸ hq) (Nat.not_lt.mpr hob)) (fun z => absurd (Nat.lt_of_lt_of_le hq hV.2.2.2.2.2.2) (Nat.not_lt.mpr z))
  have hin : meth.name = "<init>" := (name_of_methodNamed B.named B.method).1
  have i_X3 : ∀ w ∈ u_ws RX3 TX3 8, w ∈ wsX3_init := fun w h => (List.mem_cons_of_mem _ (List.mem_append_right _ h))
  have hl := lv_entry [.ref o, .int a, .int b, .int c9, .int d, .int f] (n := 6) (Nat.le_of_ble_eq_true rfl)
  rw [lg_entry_eq]
  generalize (lg_sl [.ref o, .int a, .int b, .int c9, .int d, .int f] ++ List.replicate (6 - (lg_sl [.ref o, .int a, .int b, .int c9, .int d, .int f]).length) Slot.unset).toArray = ls at hl ⊢
  have hl : lv_has ls 6 [(0, .ref o), (1, .int a), (2, .int b), (3, .int c9), (4, .int d), (5, .int f)] := hl
  refine lv_aload_n hx hb dX3_init_0 rfl (lv_at hl 0 rfl) ?_
  refine W.objInit hx hb hown (hts _ (List.mem_of_getElem? (i := 1) rfl)) (hts _ (List.mem_of_getElem? (i := 2) rfl)) (hts _ (List.mem_of_getElem? (i := 3) rfl)) rfl (by rw [hml]; exact hl.1) rfl dX3_init_1 (Nat.le_of_ble_eq_true rfl) (Nat.le_of_ble_eq_true rfl) ?_
  refine W.eq (g2 := F0 m 4 ls []) rfl ?_
  refine lv_aload_n hx hb dX3_init_4 rfl (lv_at hl 0 rfl) ?_
  refine lv_iconst (v := 0) hx hb dX3_init_5 (by decide) ?_
  refine wk_put (own := RX3) (C := RX3) (T := TX3) (N := 8) (ci := 4) (v := .int 0) hx hb hts i_X3 tyX3 tyX3_ok nmX3 hown hK hO (Or.inl rfl) hS rfl 5 (by decide) (hts _ (List.mem_of_getElem? (i := 4) rfl)) (fun _ h9 => h9) rfl (tyX3_ok 5 (by decide)) rfl rfl (Nat.le_of_ble_eq_true rfl) dX3_init_6 (fun H locs hP9 hz9 hk9 hS => ?_)
  have hO := hP9
  refine lv_aload_n hx hb dX3_init_9 rfl (lv_at hl 0 rfl) ?_
  refine lv_iconst (v := 0) hx hb dX3_init_10 (by decide) ?_
  refine wk_put (own := RX3) (C := RX3) (T := TX3) (N := 8) (ci := 4) (v := .int 0) hx hb hts i_X3 tyX3 tyX3_ok nmX3 hown hK hO (Or.inl rfl) hS rfl 6 (by decide) (hts _ (List.mem_of_getElem? (i := 5) rfl)) (fun _ h9 => h9) rfl (tyX3_ok 6 (by decide)) rfl rfl (Nat.le_of_ble_eq_true rfl) dX3_init_11 (fun H locs hP9 hz9 hk9 hS => ?_)
  have hO := hP9
  refine lv_aload_n hx hb dX3_init_14 rfl (lv_at hl 0 rfl) ?_
  refine lv_iconst (v := 0) hx hb dX3_init_15 (by decide) ?_
  refine wk_put (own := RX3) (C := RX3) (T := TX3) (N := 8) (ci := 4) (v := .int 0) hx hb hts i_X3 tyX3 tyX3_ok nmX3 hown hK hO (Or.inl rfl) hS rfl 7 (by decide) (hts _ (List.mem_of_getElem? (i := 6) rfl)) (fun _ h9 => h9) rfl (tyX3_ok 7 (by decide)) rfl rfl (Nat.le_of_ble_eq_true rfl) dX3_init_16 (fun H locs hP9 hz9 hk9 hS => ?_)
  have hO := hP9
  refine lv_aload_n hx hb dX3_init_19 rfl (lv_at hl 0 rfl) ?_
  refine lv_iload_n hx hb dX3_init_20 rfl (lv_at hl 1 rfl) ?_
  refine wk_putF (own := RX3) (C := RX3) (T := TX3) (N := 8) (ci := 4) (v := .int a) hx hb hts i_X3 tyX3 tyX3_ok nmX3 hown hK hO (Or.inl rfl) hS rfl 0 (by decide) (hts _ (List.mem_of_getElem? (i := 7) rfl)) (fun _ h9 => h9) rfl hin rfl (tyX3_ok 0 (by decide)) rfl rfl (Nat.le_of_ble_eq_true rfl) dX3_init_21 (fun H locs hP9 hz9 hk9 hS => ?_)
  have hO := hP9
  refine lv_aload_n hx hb dX3_init_24 rfl (lv_at hl 0 rfl) ?_
  refine lv_iload_n hx hb dX3_init_25 rfl (lv_at hl 2 rfl) ?_
  refine wk_putF (own := RX3) (C := RX3) (T := TX3) (N := 8) (ci := 4) (v := .int b) hx hb hts i_X3 tyX3 tyX3_ok nmX3 hown hK hO (Or.inl rfl) hS rfl 1 (by decide) (hts _ (List.mem_of_getElem? (i := 8) rfl)) (fun _ h9 => h9) rfl hin rfl (tyX3_ok 1 (by decide)) rfl rfl (Nat.le_of_ble_eq_true rfl) dX3_init_26 (fun H locs hP9 hz9 hk9 hS => ?_)
  have hO := hP9
  refine lv_aload_n hx hb dX3_init_29 rfl (lv_at hl 0 rfl) ?_
  refine lv_iload_n hx hb dX3_init_30 rfl (lv_at hl 3 rfl) ?_
  refine wk_putF (own := RX3) (C := RX3) (T := TX3) (N := 8) (ci := 4) (v := .int c9) hx hb hts i_X3 tyX3 tyX3_ok nmX3 hown hK hO (Or.inl rfl) hS rfl 2 (by decide) (hts _ (List.mem_of_getElem? (i := 9) rfl)) (fun _ h9 => h9) rfl hin rfl (tyX3_ok 2 (by decide)) rfl rfl (Nat.le_of_ble_eq_true rfl) dX3_init_31 (fun H locs hP9 hz9 hk9 hS => ?_)
  have hO := hP9
  refine lv_aload_n hx hb dX3_init_34 rfl (lv_at hl 0 rfl) ?_
  refine lv_iload hx hb dX3_init_35 (lv_at hl 4 rfl) ?_
  refine wk_putF (own := RX3) (C := RX3) (T := TX3) (N := 8) (ci := 4) (v := .int d) hx hb hts i_X3 tyX3 tyX3_ok nmX3 hown hK hO (Or.inl rfl) hS rfl 3 (by decide) (hts _ (List.mem_of_getElem? (i := 10) rfl)) (fun _ h9 => h9) rfl hin rfl (tyX3_ok 3 (by decide)) rfl rfl (Nat.le_of_ble_eq_true rfl) dX3_init_37 (fun H locs hP9 hz9 hk9 hS => ?_)
  have hO := hP9
  refine lv_aload_n hx hb dX3_init_40 rfl (lv_at hl 0 rfl) ?_
  refine lv_iload hx hb dX3_init_41 (lv_at hl 5 rfl) ?_
  refine wk_putF (own := RX3) (C := RX3) (T := TX3) (N := 8) (ci := 4) (v := .int f) hx hb hts i_X3 tyX3 tyX3_ok nmX3 hown hK hO (Or.inl rfl) hS rfl 4 (by decide) (hts _ (List.mem_of_getElem? (i := 11) rfl)) (fun _ h9 => h9) rfl hin rfl (tyX3_ok 4 (by decide)) rfl rfl (Nat.le_of_ble_eq_true rfl) dX3_init_43 (fun H locs hP9 hz9 hk9 hS => ?_)
  have hO := hP9
  exact W.vret hx hb hr (we_end (Rt := fun v H1 => v = none ∧ va_at E.1 vwCl (o, .inr (4, [.int a, .int b, .int c9, .int d, .int f, .int 0, .int 0, .int 0])) H1) (F := fun q => q = o) (⟨rfl, hO⟩) hS) hS.2.2 dX3_init_46

abbrev rme_X5_addAntenna : Room := { frames := 13, cells := 2, slots := 30, locals := 421 }
set_option maxHeartbeats 4000000 in
set_option maxRecDepth 100000 in
theorem e_X5_addAntenna (l : Launch) (E : wk_E) {T : Nat → Nat × Nat} {X : z_X} {σ : z_S} {H : Heap} (hA : DA E T X σ H) (hI : z_Ok σ) (hZ : z_Zr σ) {x y z : Int32} (hok : v_ant x y z = true) (hn : z_n σ 0 < 5) : we_Met l yX5_addAntenna wsX5_addAntenna rme_X5_addAntenna E H [.ref (X.1 0 0), .int x, .int y, .int z] (z_FD T) 2 30 (fun v H1 => v = some (.int (nI (z_n σ 0))) ∧ z_DN E T X (f_addA σ x y z) H H1) := by
  refine Met.ofW (cc := cX5_addAntenna) (maxL := 5) (ret := (some .int)) (by decide) rfl ?_
  intro p e s m args below meth c s₁ B hml hv
  obtain ⟨rfl, hH, hV⟩ := hv
  subst hH
  have hK := hV.k
  have hx := B.exec
  have hb := B.bytes
  have hr := B.returns
  have hts := atoms_spec (ws := wsX5_addAntenna) B.pre
  have hown : s.vm.findClass RX5 = some m.cls := findClass_of_methodNamed B.named
  have hlocks := B.notSynchronized
  have hS : va_S (fun q => (z_FD T) q ∨ s.heap.size ≤ q) s.heap s.heap [] := va_S.rf
  have hA9 : ∀ q : Nat, s.heap.size ≤ q → ((z_FD T) q ∨ s.heap.size ≤ q) := fun _ h => Or.inr h
  have hbA : ∀ q : Nat, q < E.2.2.1 → ¬ ((z_FD T) q ∨ s.heap.size ≤ q) := fun q hq z => z.elim (z_FDb hA.2.1 hq) (fun z => absurd (Nat.lt_of_lt_of_le hq hV.2.2.2.2.2.2) (Nat.not_lt.mpr z))
  have i_X5 : ∀ w ∈ u_ws RX5 TX5 7, w ∈ wsX5_addAntenna := fun w h => (List.mem_cons_of_mem _ (List.mem_append_left _ (List.mem_append_left _ (List.mem_append_left _ (List.mem_append_left _ (List.mem_append_right _ h))))))
  have i_X0 : ∀ w ∈ u_ws RX0 TX0 5, w ∈ wsX5_addAntenna := fun w h => (List.mem_cons_of_mem _ (List.mem_append_left _ (List.mem_append_left _ (List.mem_append_left _ (List.mem_append_right _ h)))))
  have hl := lv_entry [.ref (X.1 0 0), .int x, .int y, .int z] (n := 5) (Nat.le_of_ble_eq_true rfl)
  rw [lg_entry_eq]
  generalize (lg_sl [.ref (X.1 0 0), .int x, .int y, .int z] ++ List.replicate (5 - (lg_sl [.ref (X.1 0 0), .int x, .int y, .int z]).length) Slot.unset).toArray = ls at hl ⊢
  have hl : lv_has ls 5 [(0, .ref (X.1 0 0)), (1, .int x), (2, .int y), (3, .int z)] := hl
  have b0 := hI.n0
  have b1 := hI.n1
  have b2 := hI.n2
  have b3 := hI.n3
  refine lv_iload_n hx hb dX5_addAntenna_0 rfl (lv_at hl 1 rfl) ?_
  refine lv_iconst (v := 1) hx hb dX5_addAntenna_1 (by decide) ?_
  refine lv_bipush (v := 15) hx hb dX5_addAntenna_2 (by decide) ?_
  refine wk_S (As := [.int x, .int 1, .int 15]) (rest := []) ⟨hx, hb, hml, hown, hts⟩ (c_X5_isWithin l E (x := x) (y := 1) (z := 15)) (va_cwS 3 hts gX5_addAntenna_X5_isWithin rfl rfl rfl (by decide +kernel) ⟨(Nat.le_of_ble_eq_true rfl), (Nat.le_of_ble_eq_true rfl)⟩) hK rfl hl.1 rfl (Nat.le_of_ble_eq_true rfl) dX5_addAntenna_4 ⟨Nat.zero_le _, Nat.zero_le _⟩ ?_
  refine lv_if_eq (tgt := 30) hx hb dX5_addAntenna_7 (by decide) (fun c_7 => ?_) (fun c_7 => ?_)
  · skip
    have e_7 : (v_in x 1 15) = false := wk_b0 c_7
    exact absurd hok (by simp [v_ant, e_7])
  have e_7 : (v_in x 1 15) = true := wk_b1 c_7
  refine lv_iload_n hx hb dX5_addAntenna_10 rfl (lv_at hl 2 rfl) ?_
  refine lv_iconst (v := 0) hx hb dX5_addAntenna_11 (by decide) ?_
  refine lv_bipush (v := 30) hx hb dX5_addAntenna_12 (by decide) ?_
  refine wk_S (As := [.int y, .int 0, .int 30]) (rest := []) ⟨hx, hb, hml, hown, hts⟩ (c_X5_isWithin l E (x := y) (y := 0) (z := 30)) (va_cwS 3 hts gX5_addAntenna_X5_isWithin rfl rfl rfl (by decide +kernel) ⟨(Nat.le_of_ble_eq_true rfl), (Nat.le_of_ble_eq_true rfl)⟩) hK rfl hl.1 rfl (Nat.le_of_ble_eq_true rfl) dX5_addAntenna_14 ⟨Nat.zero_le _, Nat.zero_le _⟩ ?_
  refine lv_if_eq (tgt := 30) hx hb dX5_addAntenna_17 (by decide) (fun c_17 => ?_) (fun c_17 => ?_)
  · skip
    have e_17 : (v_in y 0 30) = false := wk_b0 c_17
    exact absurd hok (by simp [v_ant, e_7, e_17])
  have e_17 : (v_in y 0 30) = true := wk_b1 c_17
  refine lv_iload_n hx hb dX5_addAntenna_20 rfl (lv_at hl 3 rfl) ?_
  refine lv_iconst (v := 1) hx hb dX5_addAntenna_21 (by decide) ?_
  refine lv_bipush (v := 100) hx hb dX5_addAntenna_22 (by decide) ?_
  refine wk_S (As := [.int z, .int 1, .int 100]) (rest := []) ⟨hx, hb, hml, hown, hts⟩ (c_X5_isWithin l E (x := z) (y := 1) (z := 100)) (va_cwS 3 hts gX5_addAntenna_X5_isWithin rfl rfl rfl (by decide +kernel) ⟨(Nat.le_of_ble_eq_true rfl), (Nat.le_of_ble_eq_true rfl)⟩) hK rfl hl.1 rfl (Nat.le_of_ble_eq_true rfl) dX5_addAntenna_24 ⟨Nat.zero_le _, Nat.zero_le _⟩ ?_
  refine lv_if_ne (tgt := 40) hx hb dX5_addAntenna_27 (by decide) (fun c_27 => ?_) (fun c_27 => ?_)
  · skip
    have e_27 : (v_in z 1 100) = true := wk_b1 c_27
    refine lv_aload_n hx hb dX5_addAntenna_40 rfl (lv_at hl 0 rfl) ?_
    refine wk_get (own := RX5) (C := RX5) (T := TX5) (N := 7) (ci := 6) (v := .ref (X.1 1 0)) hx hb hts i_X5 hown hK hA.desk rfl 0 (by decide) (hts _ (List.mem_of_getElem? (i := 5) rfl)) (fun _ h9 => h9) rfl dX5_addAntenna_41 ?_
    refine wk_V (As := []) (rest := []) ⟨hx, hb, hml, hown, hts⟩ (c_size0 l E hA) (cwV 0 hts gX5_addAntenna_Jx4a65c_size_8abf5 rfl rfl rfl (by decide +kernel) ⟨(Nat.le_of_ble_eq_true rfl), (Nat.le_of_ble_eq_true rfl)⟩) (wk_recv hK (hA.list (j := 0) (by decide)) rfl) hK rfl hl.1 rfl (Nat.le_of_ble_eq_true rfl) dX5_addAntenna_44 ⟨Nat.zero_le _, Nat.zero_le _⟩ ?_
    refine lv_istore (lv' := [(4, .int (nI (z_n σ 0))), (0, .ref (X.1 0 0)), (1, .int x), (2, .int y), (3, .int z)]) hx hb dX5_addAntenna_47 hl (by decide) rfl (fun ls hl => ?_)
    refine lv_iload hx hb dX5_addAntenna_49 (lv_at hl 0 rfl) ?_
    refine lv_iconst (v := 5) hx hb dX5_addAntenna_51 (by decide) ?_
    refine lv_icmp_lt (tgt := 65) hx hb dX5_addAntenna_52 (by decide) (fun c_52 => ?_) (fun c_52 => ?_)
    · skip
      have e_52 : (z_n σ 0) < 5 := wk_cltt (by omega) (by omega) c_52
      refine lv_aload_n hx hb dX5_addAntenna_65 rfl (lv_at hl 1 rfl) ?_
      refine wk_get (own := RX5) (C := RX5) (T := TX5) (N := 7) (ci := 6) (v := .ref (X.1 1 0)) hx hb hts i_X5 hown hK hA.desk rfl 0 (by decide) (hts _ (List.mem_of_getElem? (i := 5) rfl)) (fun _ h9 => h9) rfl dX5_addAntenna_66 ?_
      refine wk_newv (own := RX5) (C := RX0) (T := TX0) (N := 5) (ci := 1) (fs := [.int 0, .int 0, .int 0, .int 0, .int 0]) hx hb hts i_X0 tyX0 tyX0_ok hown (hts _ (List.mem_of_getElem? (i := 6) rfl)) (hts _ (List.mem_of_getElem? (i := 7) rfl)) (hts _ (List.mem_of_getElem? (i := 8) rfl)) hK hS rfl (fun j hj => by rcases (show j = 0 ∨ j = 1 ∨ j = 2 ∨ j = 3 ∨ j = 4 by omega) with rfl | rfl | rfl | rfl | rfl <;> rfl) (Nat.le_of_ble_eq_true rfl) (Nat.le_of_ble_eq_true rfl) dX5_addAntenna_69 (fun o9 H ho9 hN9 hz9 hk9 hS => ?_)
      have hO := hN9
      have hA0 := hA
      have hxs : ∀ (i k : Nat) (ae : Nat × va_E), z_cell E X σ i k = some ae → ¬ o9 = ae.1 := fun i k ae hc => by have hz := hA0.1.lt hc; rw [ho9]; exact Nat.ne_of_gt hz
      have hob : E.2.2.1 ≤ o9 := by rw [ho9]; exact hV.2.2.2.2.2.2
      have hA := hA.keptc (fun i k ae hc => hk9 _ (hA0.1.lt hc))
      have hkn9 := hk9
      have hzn9 := hz9
      refine lv_dup hx hb dX5_addAntenna_72 rfl ?_
      refine lv_iload hx hb dX5_addAntenna_73 (lv_at hl 0 rfl) ?_
      refine lv_iload_n hx hb dX5_addAntenna_75 rfl (lv_at hl 2 rfl) ?_
      refine lv_iload_n hx hb dX5_addAntenna_76 rfl (lv_at hl 3 rfl) ?_
      refine lv_iload_n hx hb dX5_addAntenna_77 rfl (lv_at hl 4 rfl) ?_
      refine we_I (As := [.int (nI (z_n σ 0)), .int x, .int y, .int z]) (rest := [.ref o9, .ref (X.1 1 0)]) ⟨hx, hb, hml, hown, hts⟩ (e_X0_init l E hO hob) (cwI 4 hts gX5_addAntenna_X0_init rfl rfl rfl (hts _ (List.mem_of_getElem? (i := 8) rfl)) (hts _ (List.mem_of_getElem? (i := 19) rfl)) (hts _ (List.mem_of_getElem? (i := 20) rfl)) rfl (by decide +kernel) ⟨(Nat.le_of_ble_eq_true rfl), (Nat.le_of_ble_eq_true rfl)⟩) (hV.heap hS.1 (fun q hq => hS.2.1 q (Nat.lt_of_lt_of_le hq hV.2.2.2.2.2.2) (hbA q hq))) hS (fun q h => Or.inr (by rw [h, ho9]; exact Nat.le_refl _)) hA9 rfl hl.1 rfl (Nat.le_of_ble_eq_true rfl) dX5_addAntenna_78 ⟨(Nat.le_of_ble_eq_true rfl), (Nat.le_of_ble_eq_true rfl)⟩ (fun v9 H locs hR9 hz9 hk9 hS => ?_)
      obtain ⟨rfl, hO⟩ := hR9
      have hA1 := hA
      have hA := hA.keptc (fun i k ae hc => hk9 _ (hA1.1.lt hc) (fun z => hxs i k ae hc z.symm))
      have hki9 := hk9
      have hzi9 := hz9
      refine wk_eqls (st' := [.ref o9, .ref (X.1 1 0)]) rfl ?_
      refine we_V (As := [.ref o9]) (rest := []) ⟨hx, hb, hml, hown, hts⟩ (e_listadd l E hA (j := 0) (by decide) (ci := 1) rfl (by decide) hO hxs (by omega) (fun i hi => ⟨_, hA.ant hi⟩) (fun i hi z => by have t1 := hA.antT hi; have t3 : T (X.1 1 0) = (1, 0) := z_cl1T hA (by decide); rw [← z] at t3; exact absurd (Prod.mk.inj (t1.symm.trans t3)).1 (by decide))) (cwV 1 hts gX5_addAntenna_Jx4a65c_add_9ea2d rfl rfl rfl (by decide +kernel) ⟨(Nat.le_of_ble_eq_true rfl), (Nat.le_of_ble_eq_true rfl)⟩) (wk_recv hK (hA.list (j := 0) (by decide)) rfl) (hV.heap hS.1 (fun q hq => hS.2.1 q (Nat.lt_of_lt_of_le hq hV.2.2.2.2.2.2) (hbA q hq))) hS (fun q h => Or.inl (h.elim (fun z => by rw [z]; exact hA.tag (z_cl1 (j := 0) (by decide))) (fun z => z_row_tag hA (by decide) z.1 z.2 hV.2.2.2.2.2.1))) hA9 rfl hl.1 rfl (Nat.le_of_ble_eq_true rfl) dX5_addAntenna_81 ⟨(Nat.le_of_ble_eq_true rfl), (Nat.le_of_ble_eq_true rfl)⟩ (fun v9 H locs hR9 hz9 hk9 hS => ?_)
      obtain ⟨rfl, q8, cap8, mo8, hq8, hc8, hrow8, hlist8⟩ := hR9
      refine wk_eqls (st' := [.int 1]) rfl ?_
      have hO := va_at.kept hO (hk9 _ hO.lt (fun z => z.elim (hxs 1 0 _ (z_cl1 (by decide))) (fun z => z_row_ne hA (by decide) hxs z.1 z.2 hV.2.2.2.2.2.1)))
      obtain ⟨T9, X9, hT9, hX9, hX8, hA⟩ := hA0.add (j := 0) (σ' := f_addA σ x y z) (by decide) hV.2.2.2.2.2.2 hV.2.2.2.2.2.1 (Nat.le_of_eq ho9.symm) (hq8.imp id (fun z => ⟨by omega, by omega⟩)) hc8 hO hrow8 hlist8 (fun a ha hn => (hk9 a (by omega) hn).trans ((hki9 a (by omega) (by omega)).trans (hkn9 a ha))) (z_cellA hZ) (z_othA hI) (fun i => by first | rfl | (match i with | 0 => rfl | 1 => rfl | 2 => rfl | 3 => rfl | i + 4 => rfl))
      refine lv_pop hx hb dX5_addAntenna_84 rfl ?_
      refine lv_iload hx hb dX5_addAntenna_85 (lv_at hl 0 rfl) ?_
      refine W.widen (k := 2) (n := 30) (Nat.le_of_ble_eq_true rfl) (Nat.le_of_ble_eq_true rfl) ?_
      exact W.iret hx hb hr (we_end (Rt := fun v H1 => v = some (.int (nI (z_n σ 0))) ∧ z_DN E T X (f_addA σ x y z) s.heap H1) (F := z_FD T) (⟨rfl, T9, X9, hT9, hX9, hA⟩) hS) hS.2.2 dX5_addAntenna_87
    have e_52 : 5 ≤ (z_n σ 0) := wk_cltf (by omega) (by omega) c_52
    omega
  have e_27 : (v_in z 1 100) = false := wk_b0 c_27
  exact absurd hok (by simp [v_ant, e_7, e_17, e_27])
