abbrev rmeA_Jx4a65c_grow_d5877 : Room := { frames := 2, cells := 1, slots := 22, locals := 44 }
set_option maxHeartbeats 4000000 in
set_option maxRecDepth 100000 in
theorem eA_Jx4a65c_grow_d5877 (l : Launch) (E : wk_E) {H : Heap} {L : Nat} {mo : Int32} {g : Nat → Nat} (hL : va_at E.1 vwCl (L, .inr (0, [.int mo, .ref E.2.2.2, .int (nI 0)])) H) (hLb : E.2.2.1 ≤ L) : we_Met l yJx4a65c_grow_d5877 wsJx4a65c_grow_d5877 rmeA_Jx4a65c_grow_d5877 E H [.ref L] (fun q => q = L) 1 22 (fun v H1 => ∃ q cap, v = some (.ref q) ∧ H.size ≤ q ∧ (0 < cap ∧ 2 ≤ cap ∧ cap ≤ 1000) ∧ va_at E.1 vwCl (q, .inl (E.2.1.2.1, cap, .inr (.inr (.inr (.inr (z_lc 0 g)))))) H1 ∧ va_at E.1 vwCl (L, .inr (0, [.int mo, .ref q, .int (nI 0)])) H1) := by
  refine Met.ofW (cc := cJx4a65c_grow_d5877) (maxL := 1) (ret := (some (.array (.object "java/lang/Object")))) (by decide) rfl ?_
  intro p e s m args below meth c s₁ B hml hv
  obtain ⟨rfl, hH, hV⟩ := hv
  subst hH
  have hK := hV.k
  have hx := B.exec
  have hb := B.bytes
  have hr := B.returns
  have hts := atoms_spec (ws := wsJx4a65c_grow_d5877) B.pre
  have hown : s.vm.findClass RJx4a65c = some m.cls := findClass_of_methodNamed B.named
  have hlocks := B.notSynchronized
  have hS : va_S (fun q => (fun q => q = L) q ∨ s.heap.size ≤ q) s.heap s.heap [] := va_S.rf
  have hA9 : ∀ q : Nat, s.heap.size ≤ q → ((fun q => q = L) q ∨ s.heap.size ≤ q) := fun _ h => Or.inr h
  have hbA : ∀ q : Nat, q < E.2.2.1 → ¬ ((fun q => q = L) q ∨ s.heap.size ≤ q) := fun q hq z => z.elim (fun z => absurd (z ▸ hq) (Nat.not_lt.mpr hLb)) (fun z => absurd (Nat.lt_of_lt_of_le hq hV.2.2.2.2.2.2) (Nat.not_lt.mpr z))
  have i_Jx4a65c : ∀ w ∈ u_ws RJx4a65c TJx4a65c 3, w ∈ wsJx4a65c_grow_d5877 := fun w h => (List.mem_cons_of_mem _ (List.mem_append_right _ h))
  have hl := lv_entry [.ref L] (n := 1) (Nat.le_of_ble_eq_true rfl)
  rw [lg_entry_eq]
  generalize (lg_sl [.ref L] ++ List.replicate (1 - (lg_sl [.ref L]).length) Slot.unset).toArray = ls at hl ⊢
  have hl : lv_has ls 1 [(0, .ref L)] := hl
  refine lv_aload_n hx hb dJx4a65c_grow_d5877_0 rfl (lv_at hl 0 rfl) ?_
  refine lv_aload_n hx hb dJx4a65c_grow_d5877_1 rfl (lv_at hl 0 rfl) ?_
  refine wk_get (own := RJx4a65c) (C := RJx4a65c) (T := TJx4a65c) (N := 3) (ci := 0) (v := .int (nI 0)) hx hb hts i_Jx4a65c hown hK hL rfl 2 (by decide) (hts _ (List.mem_of_getElem? (i := 1) rfl)) (fun _ h9 => h9) rfl dJx4a65c_grow_d5877_2 ?_
  refine lv_iconst (v := 1) hx hb dJx4a65c_grow_d5877_5 (by decide) ?_
  refine lv_iadd hx hb dJx4a65c_grow_d5877_6 ?_
  refine wk_eqi (show (nI 0) + 1 = nI (0 + 1) from nI_add 0 1) ?_
  refine we_V (As := [.int (nI (0 + 1))]) (rest := []) ⟨hx, hb, hml, hown, hts⟩ (eA_Jx4a65c_grow_92f84 l E hL hLb (g := g)) (cwV 1 hts gJx4a65c_grow_d5877_Jx4a65c_grow_92f84 rfl rfl rfl (by decide +kernel) ⟨(Nat.le_of_ble_eq_true rfl), (Nat.le_of_ble_eq_true rfl)⟩) (wk_recv hK hL rfl) hV hS (fun _ h => Or.inl h) hA9 rfl hl.1 rfl (Nat.le_of_ble_eq_true rfl) dJx4a65c_grow_d5877_7 ⟨Nat.le_refl _, Nat.le_refl _⟩ (fun v9 H locs hR9 hz9 hk9 hS => ?_)
  obtain ⟨q8, cap8, rfl, hR8⟩ := hR9
  refine W.widen (k := 1) (n := 22) (by omega) (by omega) ?_
  exact W.aret hx hb hr (Or.inr ⟨_, rfl⟩) (Or.inr ⟨_, rfl⟩) (we_end (Rt := fun v H1 => ∃ q cap, v = some (.ref q) ∧ s.heap.size ≤ q ∧ (0 < cap ∧ 2 ≤ cap ∧ cap ≤ 1000) ∧ va_at E.1 vwCl (q, .inl (E.2.1.2.1, cap, .inr (.inr (.inr (.inr (z_lc 0 g)))))) H1 ∧ va_at E.1 vwCl (L, .inr (0, [.int mo, .ref q, .int (nI 0)])) H1) (F := fun q => q = L) (⟨_, _, rfl, hR8⟩) hS) hS.2.2 dJx4a65c_grow_d5877_10

abbrev rmeB_Jx4a65c_grow_d5877 : Room := { frames := 4, cells := 1, slots := 22, locals := 107 }
set_option maxHeartbeats 4000000 in
set_option maxRecDepth 100000 in
theorem eB_Jx4a65c_grow_d5877 (l : Launch) (E : wk_E) {H : Heap} {L ar n : Nat} {mo : Int32} {g : Nat → Nat} (hL : va_at E.1 vwCl (L, .inr (0, [.int mo, .ref ar, .int (nI n)])) H) (hLb : E.2.2.1 ≤ L) (hA : va_at E.1 vwCl (ar, .inl (E.2.1.2.1, n, .inr (.inr (.inr (.inr (z_lc n g)))))) H) (hab : E.2.2.1 ≤ ar) (hLar : ¬ L = ar) (hn2 : 2 ≤ n) (hn15 : n ≤ 15) {ci : Nat} {r : vw_C} (hci : vwCl[ci]? = some r) (hel9 : r.1 ∈ wk_els) (hel : ∀ i, i < n → ∃ vs, va_at E.1 vwCl (g i, .inr (ci, vs)) H) : we_Met l yJx4a65c_grow_d5877 wsJx4a65c_grow_d5877 rmeB_Jx4a65c_grow_d5877 E H [.ref L] (fun q => q = L ∨ q = ar) 1 22 (fun v H1 => ∃ q cap, v = some (.ref q) ∧ H.size ≤ q ∧ (n < cap ∧ 2 ≤ cap ∧ cap ≤ 1000) ∧ va_at E.1 vwCl (q, .inl (E.2.1.2.1, cap, .inr (.inr (.inr (.inr (z_lc n g)))))) H1 ∧ va_at E.1 vwCl (L, .inr (0, [.int mo, .ref q, .int (nI n)])) H1) := by
  refine Met.ofW (cc := cJx4a65c_grow_d5877) (maxL := 1) (ret := (some (.array (.object "java/lang/Object")))) (by decide) rfl ?_
  intro p e s m args below meth c s₁ B hml hv
  obtain ⟨rfl, hH, hV⟩ := hv
  subst hH
  have hK := hV.k
  have hx := B.exec
  have hb := B.bytes
  have hr := B.returns
  have hts := atoms_spec (ws := wsJx4a65c_grow_d5877) B.pre
  have hown : s.vm.findClass RJx4a65c = some m.cls := findClass_of_methodNamed B.named
  have hlocks := B.notSynchronized
  have hS : va_S (fun q => (fun q => q = L ∨ q = ar) q ∨ s.heap.size ≤ q) s.heap s.heap [] := va_S.rf
  have hA9 : ∀ q : Nat, s.heap.size ≤ q → ((fun q => q = L ∨ q = ar) q ∨ s.heap.size ≤ q) := fun _ h => Or.inr h
  have hbA : ∀ q : Nat, q < E.2.2.1 → ¬ ((fun q => q = L ∨ q = ar) q ∨ s.heap.size ≤ q) := fun q hq z => z.elim (fun z => z.elim (fun z => absurd (z ▸ hq) (Nat.not_lt.mpr hLb)) (fun z => absurd (z ▸ hq) (Nat.not_lt.mpr hab))) (fun z => absurd (Nat.lt_of_lt_of_le hq hV.2.2.2.2.2.2) (Nat.not_lt.mpr z))
  have i_Jx4a65c : ∀ w ∈ u_ws RJx4a65c TJx4a65c 3, w ∈ wsJx4a65c_grow_d5877 := fun w h => (List.mem_cons_of_mem _ (List.mem_append_right _ h))
  have hl := lv_entry [.ref L] (n := 1) (Nat.le_of_ble_eq_true rfl)
  rw [lg_entry_eq]
  generalize (lg_sl [.ref L] ++ List.replicate (1 - (lg_sl [.ref L]).length) Slot.unset).toArray = ls at hl ⊢
  have hl : lv_has ls 1 [(0, .ref L)] := hl
  refine lv_aload_n hx hb dJx4a65c_grow_d5877_0 rfl (lv_at hl 0 rfl) ?_
  refine lv_aload_n hx hb dJx4a65c_grow_d5877_1 rfl (lv_at hl 0 rfl) ?_
  refine wk_get (own := RJx4a65c) (C := RJx4a65c) (T := TJx4a65c) (N := 3) (ci := 0) (v := .int (nI n)) hx hb hts i_Jx4a65c hown hK hL rfl 2 (by decide) (hts _ (List.mem_of_getElem? (i := 1) rfl)) (fun _ h9 => h9) rfl dJx4a65c_grow_d5877_2 ?_
  refine lv_iconst (v := 1) hx hb dJx4a65c_grow_d5877_5 (by decide) ?_
  refine lv_iadd hx hb dJx4a65c_grow_d5877_6 ?_
  refine wk_eqi (show (nI n) + 1 = nI (n + 1) from nI_add n 1) ?_
  refine we_V (As := [.int (nI (n + 1))]) (rest := []) ⟨hx, hb, hml, hown, hts⟩ (eB_Jx4a65c_grow_92f84 l E hL hLb hA hab hLar hn2 hn15 hci hel9 hel) (cwV 1 hts gJx4a65c_grow_d5877_Jx4a65c_grow_92f84 rfl rfl rfl (by decide +kernel) ⟨(Nat.le_of_ble_eq_true rfl), (Nat.le_of_ble_eq_true rfl)⟩) (wk_recv hK hL rfl) hV hS (fun _ h => Or.inl h) hA9 rfl hl.1 rfl (Nat.le_of_ble_eq_true rfl) dJx4a65c_grow_d5877_7 ⟨Nat.le_refl _, Nat.le_refl _⟩ (fun v9 H locs hR9 hz9 hk9 hS => ?_)
  obtain ⟨q8, cap8, rfl, hR8⟩ := hR9
  refine W.widen (k := 1) (n := 22) (by omega) (by omega) ?_
  exact W.aret hx hb hr (Or.inr ⟨_, rfl⟩) (Or.inr ⟨_, rfl⟩) (we_end (Rt := fun v H1 => ∃ q cap, v = some (.ref q) ∧ s.heap.size ≤ q ∧ (n < cap ∧ 2 ≤ cap ∧ cap ≤ 1000) ∧ va_at E.1 vwCl (q, .inl (E.2.1.2.1, cap, .inr (.inr (.inr (.inr (z_lc n g)))))) H1 ∧ va_at E.1 vwCl (L, .inr (0, [.int mo, .ref q, .int (nI n)])) H1) (F := fun q => q = L ∨ q = ar) (⟨_, _, rfl, hR8⟩) hS) hS.2.2 dJx4a65c_grow_d5877_10

abbrev rmeA_Jx4a65c_add_72be8 : Room := { frames := 3, cells := 1, slots := 22, locals := 64 }
set_option maxHeartbeats 4000000 in
set_option maxRecDepth 100000 in
theorem eA_Jx4a65c_add_72be8 (l : Launch) (E : wk_E) {H : Heap} {L : Nat} {mo : Int32} {g : Nat → Nat} (hL : va_at E.1 vwCl (L, .inr (0, [.int mo, .ref E.2.2.2, .int (nI 0)])) H) (hLb : E.2.2.1 ≤ L) {x : Nat} {vs : List Value} {ci : Nat} {r : vw_C} (hci : vwCl[ci]? = some r) (hel9 : r.1 ∈ wk_els) (hx9 : va_at E.1 vwCl (x, .inr (ci, vs)) H) (hLx : ¬ x = L) : we_Met l yJx4a65c_add_72be8 wsJx4a65c_add_72be8 rmeA_Jx4a65c_add_72be8 E H [.ref L, .ref x, .ref E.2.2.2, .int (nI 0)] (fun q => q = L ∨ (q = E.2.2.2 ∧ E.2.2.1 ≤ q)) 1 22 (fun v H1 => v = none ∧ ∃ q cap, ((q = E.2.2.2 ∧ 0 < 0) ∨ H.size ≤ q) ∧ (0 + 1 ≤ cap ∧ 2 ≤ cap ∧ cap ≤ 1000) ∧ va_at E.1 vwCl (q, .inl (E.2.1.2.1, cap, .inr (.inr (.inr (.inr (z_lc (0 + 1) (va_up g 0 x))))))) H1 ∧ va_at E.1 vwCl (L, .inr (0, [.int (mo), .ref q, .int (nI (0 + 1))])) H1) := by
  refine Met.ofW (cc := cJx4a65c_add_72be8) (maxL := 4) (ret := none) (by decide) rfl ?_
  intro p e s m args below meth c s₁ B hml hv
  obtain ⟨rfl, hH, hV⟩ := hv
  subst hH
  have hK := hV.k
  have hx := B.exec
  have hb := B.bytes
  have hr := B.returns
  have hts := atoms_spec (ws := wsJx4a65c_add_72be8) B.pre
  have hown : s.vm.findClass RJx4a65c = some m.cls := findClass_of_methodNamed B.named
  have hlocks := B.notSynchronized
  have hS : va_S (fun q => (fun q => q = L ∨ (q = E.2.2.2 ∧ E.2.2.1 ≤ q)) q ∨ s.heap.size ≤ q) s.heap s.heap [] := va_S.rf
  have hA9 : ∀ q : Nat, s.heap.size ≤ q → ((fun q => q = L ∨ (q = E.2.2.2 ∧ E.2.2.1 ≤ q)) q ∨ s.heap.size ≤ q) := fun _ h => Or.inr h
  have hbA : ∀ q : Nat, q < E.2.2.1 → ¬ ((fun q => q = L ∨ (q = E.2.2.2 ∧ E.2.2.1 ≤ q)) q ∨ s.heap.size ≤ q) := fun q hq z => z.elim (fun z => z.elim (fun z => absurd (z ▸ hq) (Nat.not_lt.mpr hLb)) (fun z => absurd hq (Nat.not_lt.mpr z.2))) (fun z => absurd (Nat.lt_of_lt_of_le hq hV.2.2.2.2.2.2) (Nat.not_lt.mpr z))
  have i_Jx4a65c : ∀ w ∈ u_ws RJx4a65c TJx4a65c 3, w ∈ wsJx4a65c_add_72be8 := fun w h => (List.mem_cons_of_mem _ (List.mem_append_right _ h))
  have hl := lv_entry [.ref L, .ref x, .ref E.2.2.2, .int (nI 0)] (n := 4) (Nat.le_of_ble_eq_true rfl)
  rw [lg_entry_eq]
  generalize (lg_sl [.ref L, .ref x, .ref E.2.2.2, .int (nI 0)] ++ List.replicate (4 - (lg_sl [.ref L, .ref x, .ref E.2.2.2, .int (nI 0)]).length) Slot.unset).toArray = ls at hl ⊢
  have hl : lv_has ls 4 [(0, .ref L), (1, .ref x), (2, .ref E.2.2.2), (3, .int (nI 0))] := hl
  have hLs := hL.lt
  refine lv_iload_n hx hb dJx4a65c_add_72be8_0 rfl (lv_at hl 3 rfl) ?_
  refine lv_aload_n hx hb dJx4a65c_add_72be8_1 rfl (lv_at hl 2 rfl) ?_
  refine wk_alen0 hx hb hV.2.2.2.2.1 dJx4a65c_add_72be8_2 ?_
  refine lv_icmp_ne (tgt := 11) hx hb dJx4a65c_add_72be8_3 (by decide) (fun c_3 => ?_) (fun c_3 => ?_)
  · skip
    exact absurd c_3 (by decide)
  refine lv_aload_n hx hb dJx4a65c_add_72be8_6 rfl (lv_at hl 0 rfl) ?_
  refine we_V (As := []) (rest := []) ⟨hx, hb, hml, hown, hts⟩ (eA_Jx4a65c_grow_d5877 l E hL hLb (g := g)) (cwV 0 hts gJx4a65c_add_72be8_Jx4a65c_grow_d5877 rfl rfl rfl (by decide +kernel) ⟨(Nat.le_of_ble_eq_true rfl), (Nat.le_of_ble_eq_true rfl)⟩) (wk_recv hK hL rfl) hV hS (fun _ h => Or.inl (Or.inl h)) hA9 rfl hl.1 rfl (Nat.le_of_ble_eq_true rfl) dJx4a65c_add_72be8_7 ⟨Nat.le_refl _, Nat.le_refl _⟩ (fun v9 H locs hR9 hz9 hk9 hS => ?_)
  obtain ⟨q8, cap8, rfl, hq8, hc8, hN8, hL⟩ := hR9
  have hx9 := va_at.kept hx9 (hk9 _ hx9.lt hLx)
  refine lv_astore_n (lv' := [(2, .ref q8), (0, .ref L), (1, .ref x), (3, .int (nI 0))]) hx hb dJx4a65c_add_72be8_10 rfl hl (by decide) rfl (fun ls hl => ?_)
  refine lv_aload_n hx hb dJx4a65c_add_72be8_11 rfl (lv_at hl 0 rfl) ?_
  refine lv_iload_n hx hb dJx4a65c_add_72be8_12 rfl (lv_at hl 3 rfl) ?_
  refine lv_aload_n hx hb dJx4a65c_add_72be8_13 rfl (lv_at hl 2 rfl) ?_
  refine wk_astq hx hb hK hN8 hx9 hci (hV.2.2.1.2.1 _ hel9) (Or.inr hq8) hS 0 rfl hc8.1 (by omega) dJx4a65c_add_72be8_14 (fun H locs hP9 hz9 hk9 hS => ?_)
  have hN8 := hP9
  rw [z_lc_put] at hN8
  have hL := va_at.kept hL (hk9 _ (Nat.ne_of_lt (Nat.lt_of_lt_of_le hLs hq8)))
  refine lv_aload_n hx hb dJx4a65c_add_72be8_15 rfl (lv_at hl 1 rfl) ?_
  refine lv_iload_n hx hb dJx4a65c_add_72be8_16 rfl (lv_at hl 3 rfl) ?_
  refine lv_iconst (v := 1) hx hb dJx4a65c_add_72be8_17 (by decide) ?_
  refine lv_iadd hx hb dJx4a65c_add_72be8_18 ?_
  refine wk_eqi (show (nI 0) + 1 = nI (0 + 1) from nI_add 0 1) ?_
  refine wk_put (own := RJx4a65c) (C := RJx4a65c) (T := TJx4a65c) (N := 3) (ci := 0) (v := .int (nI (0 + 1))) hx hb hts i_Jx4a65c tyJx4a65c tyJx4a65c_ok nmJx4a65c hown hK hL (Or.inl (Or.inl rfl)) hS rfl 2 (by decide) (hts _ (List.mem_of_getElem? (i := 1) rfl)) (fun _ h9 => h9) rfl (tyJx4a65c_ok 2 (by decide)) rfl rfl (Nat.le_of_ble_eq_true rfl) dJx4a65c_add_72be8_19 (fun H locs hP9 hz9 hk9 hS => ?_)
  have hL := hP9
  have hN8 := va_at.kept hN8 (hk9 _ (Ne.symm (Nat.ne_of_lt (Nat.lt_of_lt_of_le hLs hq8))))
  refine W.widen (k := 1) (n := 22) (by omega) (by omega) ?_
  exact W.vret hx hb hr (we_end (Rt := fun v H1 => v = none ∧ ∃ q cap, ((q = E.2.2.2 ∧ 0 < 0) ∨ s.heap.size ≤ q) ∧ (0 + 1 ≤ cap ∧ 2 ≤ cap ∧ cap ≤ 1000) ∧ va_at E.1 vwCl (q, .inl (E.2.1.2.1, cap, .inr (.inr (.inr (.inr (z_lc (0 + 1) (va_up g 0 x))))))) H1 ∧ va_at E.1 vwCl (L, .inr (0, [.int (mo), .ref q, .int (nI (0 + 1))])) H1) (F := fun q => q = L ∨ (q = E.2.2.2 ∧ E.2.2.1 ≤ q)) (⟨rfl, q8, cap8, Or.inr hq8, ⟨hc8.1, hc8.2.1, hc8.2.2⟩, hN8, hL⟩) hS) hS.2.2 dJx4a65c_add_72be8_22

abbrev rmeB_Jx4a65c_add_72be8 : Room := { frames := 5, cells := 1, slots := 22, locals := 127 }
set_option maxHeartbeats 4000000 in
set_option maxRecDepth 100000 in
theorem eB_Jx4a65c_add_72be8 (l : Launch) (E : wk_E) {H : Heap} {L ar n : Nat} {mo : Int32} {g : Nat → Nat} (hL : va_at E.1 vwCl (L, .inr (0, [.int mo, .ref ar, .int (nI n)])) H) (hLb : E.2.2.1 ≤ L) (hA : va_at E.1 vwCl (ar, .inl (E.2.1.2.1, n, .inr (.inr (.inr (.inr (z_lc n g)))))) H) (hab : E.2.2.1 ≤ ar) (hLar : ¬ L = ar) (hn2 : 2 ≤ n) (hn15 : n ≤ 15) {x : Nat} {vs : List Value} {ci : Nat} {r : vw_C} (hci : vwCl[ci]? = some r) (hel9 : r.1 ∈ wk_els) (hx9 : va_at E.1 vwCl (x, .inr (ci, vs)) H) (hLx : ¬ x = L) (hxa : ¬ x = ar) (hel : ∀ i, i < n → ∃ vs, va_at E.1 vwCl (g i, .inr (ci, vs)) H) : we_Met l yJx4a65c_add_72be8 wsJx4a65c_add_72be8 rmeB_Jx4a65c_add_72be8 E H [.ref L, .ref x, .ref ar, .int (nI n)] (fun q => q = L ∨ (q = ar ∧ E.2.2.1 ≤ q)) 1 22 (fun v H1 => v = none ∧ ∃ q cap, ((q = ar ∧ 0 < n) ∨ H.size ≤ q) ∧ (n + 1 ≤ cap ∧ 2 ≤ cap ∧ cap ≤ 1000) ∧ va_at E.1 vwCl (q, .inl (E.2.1.2.1, cap, .inr (.inr (.inr (.inr (z_lc (n + 1) (va_up g n x))))))) H1 ∧ va_at E.1 vwCl (L, .inr (0, [.int (mo), .ref q, .int (nI (n + 1))])) H1) := by
  refine Met.ofW (cc := cJx4a65c_add_72be8) (maxL := 4) (ret := none) (by decide) rfl ?_
  intro p e s m args below meth c s₁ B hml hv
  obtain ⟨rfl, hH, hV⟩ := hv
  subst hH
  have hK := hV.k
  have hx := B.exec
  have hb := B.bytes
  have hr := B.returns
  have hts := atoms_spec (ws := wsJx4a65c_add_72be8) B.pre
  have hown : s.vm.findClass RJx4a65c = some m.cls := findClass_of_methodNamed B.named
  have hlocks := B.notSynchronized
  have hS : va_S (fun q => (fun q => q = L ∨ (q = ar ∧ E.2.2.1 ≤ q)) q ∨ s.heap.size ≤ q) s.heap s.heap [] := va_S.rf
  have hA9 : ∀ q : Nat, s.heap.size ≤ q → ((fun q => q = L ∨ (q = ar ∧ E.2.2.1 ≤ q)) q ∨ s.heap.size ≤ q) := fun _ h => Or.inr h
  have hbA : ∀ q : Nat, q < E.2.2.1 → ¬ ((fun q => q = L ∨ (q = ar ∧ E.2.2.1 ≤ q)) q ∨ s.heap.size ≤ q) := fun q hq z => z.elim (fun z => z.elim (fun z => absurd (z ▸ hq) (Nat.not_lt.mpr hLb)) (fun z => absurd hq (Nat.not_lt.mpr z.2))) (fun z => absurd (Nat.lt_of_lt_of_le hq hV.2.2.2.2.2.2) (Nat.not_lt.mpr z))
  have i_Jx4a65c : ∀ w ∈ u_ws RJx4a65c TJx4a65c 3, w ∈ wsJx4a65c_add_72be8 := fun w h => (List.mem_cons_of_mem _ (List.mem_append_right _ h))
  have hl := lv_entry [.ref L, .ref x, .ref ar, .int (nI n)] (n := 4) (Nat.le_of_ble_eq_true rfl)
  rw [lg_entry_eq]
  generalize (lg_sl [.ref L, .ref x, .ref ar, .int (nI n)] ++ List.replicate (4 - (lg_sl [.ref L, .ref x, .ref ar, .int (nI n)]).length) Slot.unset).toArray = ls at hl ⊢
  have hl : lv_has ls 4 [(0, .ref L), (1, .ref x), (2, .ref ar), (3, .int (nI n))] := hl
  have hLs := hL.lt
  refine lv_iload_n hx hb dJx4a65c_add_72be8_0 rfl (lv_at hl 3 rfl) ?_
  refine lv_aload_n hx hb dJx4a65c_add_72be8_1 rfl (lv_at hl 2 rfl) ?_
  refine wk_alen hx hb hK 1 (ty := .object "java/lang/Object") (v := nI n) hA rfl rfl dJx4a65c_add_72be8_2 ?_
  refine lv_icmp_ne (tgt := 11) hx hb dJx4a65c_add_72be8_3 (by decide) (fun c_3 => ?_) (fun c_3 => ?_)
  · skip
    have e_3 : ¬ n = n := wk_cnet (by omega) (by omega) c_3
    exact absurd rfl e_3
  have e_3 : n = n := wk_cnef (by omega) (by omega) c_3
  refine lv_aload_n hx hb dJx4a65c_add_72be8_6 rfl (lv_at hl 0 rfl) ?_
  refine we_V (As := []) (rest := []) ⟨hx, hb, hml, hown, hts⟩ (eB_Jx4a65c_grow_d5877 l E hL hLb hA hab hLar hn2 hn15 hci hel9 hel) (cwV 0 hts gJx4a65c_add_72be8_Jx4a65c_grow_d5877 rfl rfl rfl (by decide +kernel) ⟨(Nat.le_of_ble_eq_true rfl), (Nat.le_of_ble_eq_true rfl)⟩) (wk_recv hK hL rfl) hV hS (fun q h => Or.inl (h.elim Or.inl (fun z => Or.inr ⟨z, by rw [z]; exact hab⟩))) hA9 rfl hl.1 rfl (Nat.le_of_ble_eq_true rfl) dJx4a65c_add_72be8_7 ⟨Nat.le_refl _, Nat.le_refl _⟩ (fun v9 H locs hR9 hz9 hk9 hS => ?_)
  obtain ⟨q8, cap8, rfl, hq8, hc8, hN8, hL⟩ := hR9
  have hx9 := va_at.kept hx9 (hk9 _ hx9.lt (fun z => z.elim hLx hxa))
  refine lv_astore_n (lv' := [(2, .ref q8), (0, .ref L), (1, .ref x), (3, .int (nI n))]) hx hb dJx4a65c_add_72be8_10 rfl hl (by decide) rfl (fun ls hl => ?_)
  refine lv_aload_n hx hb dJx4a65c_add_72be8_11 rfl (lv_at hl 0 rfl) ?_
  refine lv_iload_n hx hb dJx4a65c_add_72be8_12 rfl (lv_at hl 3 rfl) ?_
  refine lv_aload_n hx hb dJx4a65c_add_72be8_13 rfl (lv_at hl 2 rfl) ?_
  refine wk_astq hx hb hK hN8 hx9 hci (hV.2.2.1.2.1 _ hel9) (Or.inr hq8) hS n rfl hc8.1 (by omega) dJx4a65c_add_72be8_14 (fun H locs hP9 hz9 hk9 hS => ?_)
  have hN8 := hP9
  rw [z_lc_put] at hN8
  have hL := va_at.kept hL (hk9 _ (Nat.ne_of_lt (Nat.lt_of_lt_of_le hLs hq8)))
  refine lv_aload_n hx hb dJx4a65c_add_72be8_15 rfl (lv_at hl 1 rfl) ?_
  refine lv_iload_n hx hb dJx4a65c_add_72be8_16 rfl (lv_at hl 3 rfl) ?_
  refine lv_iconst (v := 1) hx hb dJx4a65c_add_72be8_17 (by decide) ?_
  refine lv_iadd hx hb dJx4a65c_add_72be8_18 ?_
  refine wk_eqi (show (nI n) + 1 = nI (n + 1) from nI_add n 1) ?_
  refine wk_put (own := RJx4a65c) (C := RJx4a65c) (T := TJx4a65c) (N := 3) (ci := 0) (v := .int (nI (n + 1))) hx hb hts i_Jx4a65c tyJx4a65c tyJx4a65c_ok nmJx4a65c hown hK hL (Or.inl (Or.inl rfl)) hS rfl 2 (by decide) (hts _ (List.mem_of_getElem? (i := 1) rfl)) (fun _ h9 => h9) rfl (tyJx4a65c_ok 2 (by decide)) rfl rfl (Nat.le_of_ble_eq_true rfl) dJx4a65c_add_72be8_19 (fun H locs hP9 hz9 hk9 hS => ?_)
  have hL := hP9
  have hN8 := va_at.kept hN8 (hk9 _ (Ne.symm (Nat.ne_of_lt (Nat.lt_of_lt_of_le hLs hq8))))
  refine W.widen (k := 1) (n := 22) (by omega) (by omega) ?_
  exact W.vret hx hb hr (we_end (Rt := fun v H1 => v = none ∧ ∃ q cap, ((q = ar ∧ 0 < n) ∨ s.heap.size ≤ q) ∧ (n + 1 ≤ cap ∧ 2 ≤ cap ∧ cap ≤ 1000) ∧ va_at E.1 vwCl (q, .inl (E.2.1.2.1, cap, .inr (.inr (.inr (.inr (z_lc (n + 1) (va_up g n x))))))) H1 ∧ va_at E.1 vwCl (L, .inr (0, [.int (mo), .ref q, .int (nI (n + 1))])) H1) (F := fun q => q = L ∨ (q = ar ∧ E.2.2.1 ≤ q)) (⟨rfl, q8, cap8, Or.inr hq8, ⟨hc8.1, hc8.2.1, hc8.2.2⟩, hN8, hL⟩) hS) hS.2.2 dJx4a65c_add_72be8_22

abbrev rmeC_Jx4a65c_add_72be8 : Room := { frames := 0, cells := 1, slots := 22, locals := 0 }
set_option maxHeartbeats 4000000 in
set_option maxRecDepth 100000 in
theorem eC_Jx4a65c_add_72be8 (l : Launch) (E : wk_E) {H : Heap} {L ar n cap : Nat} {mo : Int32} {g : Nat → Nat} (hL : va_at E.1 vwCl (L, .inr (0, [.int mo, .ref ar, .int (nI n)])) H) (hLb : E.2.2.1 ≤ L) (hA : va_at E.1 vwCl (ar, .inl (E.2.1.2.1, cap, .inr (.inr (.inr (.inr (z_lc n g)))))) H) (hab : E.2.2.1 ≤ ar) (hLar : ¬ L = ar) (hn0 : 0 < n) (hn2 : 2 ≤ cap) (hnc : n < cap) (hcap : cap ≤ 1000) {x : Nat} {vs : List Value} {ci : Nat} {r : vw_C} (hci : vwCl[ci]? = some r) (hel9 : r.1 ∈ wk_els) (hx9 : va_at E.1 vwCl (x, .inr (ci, vs)) H) (hLx : ¬ x = L) (hxa : ¬ x = ar) : we_Met l yJx4a65c_add_72be8 wsJx4a65c_add_72be8 rmeC_Jx4a65c_add_72be8 E H [.ref L, .ref x, .ref ar, .int (nI n)] (fun q => q = L ∨ (q = ar ∧ E.2.2.1 ≤ q)) 1 22 (fun v H1 => v = none ∧ ∃ q cap, ((q = ar ∧ 0 < n) ∨ H.size ≤ q) ∧ (n + 1 ≤ cap ∧ 2 ≤ cap ∧ cap ≤ 1000) ∧ va_at E.1 vwCl (q, .inl (E.2.1.2.1, cap, .inr (.inr (.inr (.inr (z_lc (n + 1) (va_up g n x))))))) H1 ∧ va_at E.1 vwCl (L, .inr (0, [.int (mo), .ref q, .int (nI (n + 1))])) H1) := by
  refine Met.ofW (cc := cJx4a65c_add_72be8) (maxL := 4) (ret := none) (by decide) rfl ?_
  intro p e s m args below meth c s₁ B hml hv
  obtain ⟨rfl, hH, hV⟩ := hv
  subst hH
  have hK := hV.k
  have hx := B.exec
  have hb := B.bytes
  have hr := B.returns
  have hts := atoms_spec (ws := wsJx4a65c_add_72be8) B.pre
  have hown : s.vm.findClass RJx4a65c = some m.cls := findClass_of_methodNamed B.named
  have hlocks := B.notSynchronized
  have hS : va_S (fun q => (fun q => q = L ∨ (q = ar ∧ E.2.2.1 ≤ q)) q ∨ s.heap.size ≤ q) s.heap s.heap [] := va_S.rf
  have hA9 : ∀ q : Nat, s.heap.size ≤ q → ((fun q => q = L ∨ (q = ar ∧ E.2.2.1 ≤ q)) q ∨ s.heap.size ≤ q) := fun _ h => Or.inr h
  have hbA : ∀ q : Nat, q < E.2.2.1 → ¬ ((fun q => q = L ∨ (q = ar ∧ E.2.2.1 ≤ q)) q ∨ s.heap.size ≤ q) := fun q hq z => z.elim (fun z => z.elim (fun z => absurd (z ▸ hq) (Nat.not_lt.mpr hLb)) (fun z => absurd hq (Nat.not_lt.mpr z.2))) (fun z => absurd (Nat.lt_of_lt_of_le hq hV.2.2.2.2.2.2) (Nat.not_lt.mpr z))
  have i_Jx4a65c : ∀ w ∈ u_ws RJx4a65c TJx4a65c 3, w ∈ wsJx4a65c_add_72be8 := fun w h => (List.mem_cons_of_mem _ (List.mem_append_right _ h))
  have hl := lv_entry [.ref L, .ref x, .ref ar, .int (nI n)] (n := 4) (Nat.le_of_ble_eq_true rfl)
  rw [lg_entry_eq]
  generalize (lg_sl [.ref L, .ref x, .ref ar, .int (nI n)] ++ List.replicate (4 - (lg_sl [.ref L, .ref x, .ref ar, .int (nI n)]).length) Slot.unset).toArray = ls at hl ⊢
  have hl : lv_has ls 4 [(0, .ref L), (1, .ref x), (2, .ref ar), (3, .int (nI n))] := hl
  have hLs := hL.lt
  refine lv_iload_n hx hb dJx4a65c_add_72be8_0 rfl (lv_at hl 3 rfl) ?_
  refine lv_aload_n hx hb dJx4a65c_add_72be8_1 rfl (lv_at hl 2 rfl) ?_
  refine wk_alen hx hb hK 1 (ty := .object "java/lang/Object") (v := nI cap) hA rfl rfl dJx4a65c_add_72be8_2 ?_
  refine lv_icmp_ne (tgt := 11) hx hb dJx4a65c_add_72be8_3 (by decide) (fun c_3 => ?_) (fun c_3 => ?_)
  · skip
    have e_3 : ¬ n = cap := wk_cnet (by omega) (by omega) c_3
    refine lv_aload_n hx hb dJx4a65c_add_72be8_11 rfl (lv_at hl 2 rfl) ?_
    refine lv_iload_n hx hb dJx4a65c_add_72be8_12 rfl (lv_at hl 3 rfl) ?_
    refine lv_aload_n hx hb dJx4a65c_add_72be8_13 rfl (lv_at hl 1 rfl) ?_
    refine wk_astq hx hb hK hA hx9 hci (hV.2.2.1.2.1 _ hel9) (Or.inl (Or.inr ⟨rfl, hab⟩)) hS n rfl hnc (by omega) dJx4a65c_add_72be8_14 (fun H locs hP9 hz9 hk9 hS => ?_)
    have hN8 := hP9
    rw [z_lc_put] at hN8
    have hL := va_at.kept hL (hk9 _ hLar)
    refine lv_aload_n hx hb dJx4a65c_add_72be8_15 rfl (lv_at hl 0 rfl) ?_
    refine lv_iload_n hx hb dJx4a65c_add_72be8_16 rfl (lv_at hl 3 rfl) ?_
    refine lv_iconst (v := 1) hx hb dJx4a65c_add_72be8_17 (by decide) ?_
    refine lv_iadd hx hb dJx4a65c_add_72be8_18 ?_
    refine wk_eqi (show (nI n) + 1 = nI (n + 1) from nI_add n 1) ?_
    refine wk_put (own := RJx4a65c) (C := RJx4a65c) (T := TJx4a65c) (N := 3) (ci := 0) (v := .int (nI (n + 1))) hx hb hts i_Jx4a65c tyJx4a65c tyJx4a65c_ok nmJx4a65c hown hK hL (Or.inl (Or.inl rfl)) hS rfl 2 (by decide) (hts _ (List.mem_of_getElem? (i := 1) rfl)) (fun _ h9 => h9) rfl (tyJx4a65c_ok 2 (by decide)) rfl rfl (Nat.le_of_ble_eq_true rfl) dJx4a65c_add_72be8_19 (fun H locs hP9 hz9 hk9 hS => ?_)
    have hL := hP9
    have hN8 := va_at.kept hN8 (hk9 _ (fun z => hLar z.symm))
    refine W.widen (k := 1) (n := 22) (by show _ ≤ 1; omega) (by show _ ≤ 22; omega) ?_
    exact W.vret hx hb hr (we_end (Rt := fun v H1 => v = none ∧ ∃ q cap, ((q = ar ∧ 0 < n) ∨ s.heap.size ≤ q) ∧ (n + 1 ≤ cap ∧ 2 ≤ cap ∧ cap ≤ 1000) ∧ va_at E.1 vwCl (q, .inl (E.2.1.2.1, cap, .inr (.inr (.inr (.inr (z_lc (n + 1) (va_up g n x))))))) H1 ∧ va_at E.1 vwCl (L, .inr (0, [.int (mo), .ref q, .int (nI (n + 1))])) H1) (F := fun q => q = L ∨ (q = ar ∧ E.2.2.1 ≤ q)) (⟨rfl, ar, cap, Or.inl ⟨rfl, hn0⟩, ⟨hnc, hn2, hcap⟩, hN8, hL⟩) hS) hS.2.2 dJx4a65c_add_72be8_22
  have e_3 : n = cap := wk_cnef (by omega) (by omega) c_3
  omega
