abbrev rmeA_Jx4a65c_add_9ea2d : Room := { frames := 12, cells := 1, slots := 22, locals := 400 }
set_option maxHeartbeats 4000000 in
set_option maxRecDepth 100000 in
theorem eA_Jx4a65c_add_9ea2d (l : Launch) (E : wk_E) {H : Heap} {L : Nat} {mo : Int32} {g : Nat → Nat} (hL : va_at E.1 vwCl (L, .inr (0, [.int mo, .ref E.2.2.2, .int (nI 0)])) H) (hLb : E.2.2.1 ≤ L) {x : Nat} {vs : List Value} {ci : Nat} {r : vw_C} (hci : vwCl[ci]? = some r) (hel9 : r.1 ∈ wk_els) (hx9 : va_at E.1 vwCl (x, .inr (ci, vs)) H) (hLx : ¬ x = L) : we_Met l yJx4a65c_add_9ea2d wsJx4a65c_add_9ea2d rmeA_Jx4a65c_add_9ea2d E H [.ref L, .ref x] (fun q => q = L ∨ (q = E.2.2.2 ∧ E.2.2.1 ≤ q)) 1 22 (fun v H1 => v = (some (.int 1)) ∧ ∃ q cap, ((q = E.2.2.2 ∧ 0 < 0) ∨ H.size ≤ q) ∧ (0 + 1 ≤ cap ∧ 2 ≤ cap ∧ cap ≤ 1000) ∧ va_at E.1 vwCl (q, .inl (E.2.1.2.1, cap, .inr (.inr (.inr (.inr (z_lc (0 + 1) (va_up g 0 x))))))) H1 ∧ va_at E.1 vwCl (L, .inr (0, [.int (mo + 1), .ref q, .int (nI (0 + 1))])) H1) := by
  refine Met.ofW (cc := cJx4a65c_add_9ea2d) (maxL := 2) (ret := (some .boolean)) (by decide) rfl ?_
  intro p e s m args below meth c s₁ B hml hv
  obtain ⟨rfl, hH, hV⟩ := hv
  subst hH
  have hK := hV.k
  have hx := B.exec
  have hb := B.bytes
  have hr := B.returns
  have hts := atoms_spec (ws := wsJx4a65c_add_9ea2d) B.pre
  have hown : s.vm.findClass RJx4a65c = some m.cls := findClass_of_methodNamed B.named
  have hlocks := B.notSynchronized
  have hS : va_S (fun q => (fun q => q = L ∨ (q = E.2.2.2 ∧ E.2.2.1 ≤ q)) q ∨ s.heap.size ≤ q) s.heap s.heap [] := va_S.rf
  have hA9 : ∀ q : Nat, s.heap.size ≤ q → ((fun q => q = L ∨ (q = E.2.2.2 ∧ E.2.2.1 ≤ q)) q ∨ s.heap.size ≤ q) := fun _ h => Or.inr h
  have hbA : ∀ q : Nat, q < E.2.2.1 → ¬ ((fun q => q = L ∨ (q = E.2.2.2 ∧ E.2.2.1 ≤ q)) q ∨ s.heap.size ≤ q) := fun q hq z => z.elim (fun z => z.elim (fun z => absurd (z ▸ hq) (Nat.not_lt.mpr hLb)) (fun z => absurd hq (Nat.not_lt.mpr z.2))) (fun z => absurd (Nat.lt_of_lt_of_le hq hV.2.2.2.2.2.2) (Nat.not_lt.mpr z))
  have i_Jx4a65c : ∀ w ∈ u_ws RJx4a65c TJx4a65c 3, w ∈ wsJx4a65c_add_9ea2d := fun w h => (List.mem_cons_of_mem _ (List.mem_append_right _ h))
  have hl := lv_entry [.ref L, .ref x] (n := 2) (Nat.le_of_ble_eq_true rfl)
  rw [lg_entry_eq]
  generalize (lg_sl [.ref L, .ref x] ++ List.replicate (2 - (lg_sl [.ref L, .ref x]).length) Slot.unset).toArray = ls at hl ⊢
  have hl : lv_has ls 2 [(0, .ref L), (1, .ref x)] := hl
  have hLs := hL.lt
  have hz0 : s.heap.size ≤ s.heap.size := Nat.le_refl _
  refine lv_aload_n hx hb dJx4a65c_add_9ea2d_0 rfl (lv_at hl 0 rfl) ?_
  refine lv_dup hx hb dJx4a65c_add_9ea2d_1 rfl ?_
  refine wk_get (own := RJx4a65c) (C := RJx4a65c) (T := TJx4a65c) (N := 3) (ci := 0) (v := .int mo) hx hb hts i_Jx4a65c hown hK hL rfl 0 (by decide) (hts _ (List.mem_of_getElem? (i := 1) rfl)) (fun x9 h9 => u_same (hts _ (List.mem_of_getElem? (i := 2) rfl)) x9 h9) rfl dJx4a65c_add_9ea2d_2 ?_
  refine lv_iconst (v := 1) hx hb dJx4a65c_add_9ea2d_5 (by decide) ?_
  refine lv_iadd hx hb dJx4a65c_add_9ea2d_6 ?_
  refine wk_put (own := RJx4a65c) (C := RJx4a65c) (T := TJx4a65c) (N := 3) (ci := 0) (v := .int (mo + 1)) hx hb hts i_Jx4a65c tyJx4a65c tyJx4a65c_ok nmJx4a65c hown hK hL (Or.inl (Or.inl rfl)) hS rfl 0 (by decide) (hts _ (List.mem_of_getElem? (i := 1) rfl)) (fun x9 h9 => u_same (hts _ (List.mem_of_getElem? (i := 2) rfl)) x9 h9) rfl (tyJx4a65c_ok 0 (by decide)) rfl rfl (Nat.le_of_ble_eq_true rfl) dJx4a65c_add_9ea2d_7 (fun H locs hP9 hz9 hk9 hS => ?_)
  have hL := hP9
  have hx9 := va_at.kept hx9 (hk9 _ hLx)
  have hz9m := hz9
  refine lv_aload_n hx hb dJx4a65c_add_9ea2d_10 rfl (lv_at hl 0 rfl) ?_
  refine lv_aload_n hx hb dJx4a65c_add_9ea2d_11 rfl (lv_at hl 1 rfl) ?_
  refine lv_aload_n hx hb dJx4a65c_add_9ea2d_12 rfl (lv_at hl 0 rfl) ?_
  refine wk_get (own := RJx4a65c) (C := RJx4a65c) (T := TJx4a65c) (N := 3) (ci := 0) (v := .ref E.2.2.2) hx hb hts i_Jx4a65c hown hK hL rfl 1 (by decide) (hts _ (List.mem_of_getElem? (i := 3) rfl)) (fun _ h9 => h9) rfl dJx4a65c_add_9ea2d_13 ?_
  refine lv_aload_n hx hb dJx4a65c_add_9ea2d_16 rfl (lv_at hl 0 rfl) ?_
  refine wk_get (own := RJx4a65c) (C := RJx4a65c) (T := TJx4a65c) (N := 3) (ci := 0) (v := .int (nI 0)) hx hb hts i_Jx4a65c hown hK hL rfl 2 (by decide) (hts _ (List.mem_of_getElem? (i := 4) rfl)) (fun _ h9 => h9) rfl dJx4a65c_add_9ea2d_17 ?_
  refine we_V (As := [.ref x, .ref E.2.2.2, .int (nI 0)]) (rest := []) ⟨hx, hb, hml, hown, hts⟩ (eA_Jx4a65c_add_72be8 l E hL hLb hci hel9 hx9 hLx (g := g)) (cwV 3 hts gJx4a65c_add_9ea2d_Jx4a65c_add_72be8 rfl rfl rfl (by decide +kernel) ⟨(Nat.le_of_ble_eq_true rfl), (Nat.le_of_ble_eq_true rfl)⟩) (wk_recv hK hL rfl) (hV.heap hS.1 (fun q hq => hS.2.1 q (Nat.lt_of_lt_of_le hq hV.2.2.2.2.2.2) (hbA q hq))) hS (fun _ h => Or.inl h) hA9 rfl hl.1 rfl (Nat.le_of_ble_eq_true rfl) dJx4a65c_add_9ea2d_20 ⟨Nat.le_refl _, Nat.le_refl _⟩ (fun v9 H locs hR9 hz9 hk9 hS => ?_)
  obtain ⟨rfl, q8, cap8, hq8, hc8, hN8, hL⟩ := hR9
  refine lv_iconst (v := 1) hx hb dJx4a65c_add_9ea2d_23 (by decide) ?_
  refine W.widen (k := 1) (n := 22) (by omega) (by omega) ?_
  exact W.zret hx hb hr rfl (we_end (Rt := fun v H1 => v = (some (.int 1)) ∧ ∃ q cap, ((q = E.2.2.2 ∧ 0 < 0) ∨ s.heap.size ≤ q) ∧ (0 + 1 ≤ cap ∧ 2 ≤ cap ∧ cap ≤ 1000) ∧ va_at E.1 vwCl (q, .inl (E.2.1.2.1, cap, .inr (.inr (.inr (.inr (z_lc (0 + 1) (va_up g 0 x))))))) H1 ∧ va_at E.1 vwCl (L, .inr (0, [.int (mo + 1), .ref q, .int (nI (0 + 1))])) H1) (F := fun q => q = L ∨ (q = E.2.2.2 ∧ E.2.2.1 ≤ q)) (⟨rfl, q8, cap8, hq8.imp id (fun z => Nat.le_trans (Nat.le_of_eq hz9m.symm) z), hc8, hN8, hL⟩) hS) hS.2.2 dJx4a65c_add_9ea2d_24

abbrev rmeB_Jx4a65c_add_9ea2d : Room := { frames := 12, cells := 1, slots := 22, locals := 400 }
set_option maxHeartbeats 4000000 in
set_option maxRecDepth 100000 in
theorem eB_Jx4a65c_add_9ea2d (l : Launch) (E : wk_E) {H : Heap} {L ar n : Nat} {mo : Int32} {g : Nat → Nat} (hL : va_at E.1 vwCl (L, .inr (0, [.int mo, .ref ar, .int (nI n)])) H) (hLb : E.2.2.1 ≤ L) (hA : va_at E.1 vwCl (ar, .inl (E.2.1.2.1, n, .inr (.inr (.inr (.inr (z_lc n g)))))) H) (hab : E.2.2.1 ≤ ar) (hLar : ¬ L = ar) (hn2 : 2 ≤ n) (hn15 : n ≤ 15) {x : Nat} {vs : List Value} {ci : Nat} {r : vw_C} (hci : vwCl[ci]? = some r) (hel9 : r.1 ∈ wk_els) (hx9 : va_at E.1 vwCl (x, .inr (ci, vs)) H) (hLx : ¬ x = L) (hxa : ¬ x = ar) (hel : ∀ i, i < n → ∃ vs, va_at E.1 vwCl (g i, .inr (ci, vs)) H) (hgL : ∀ i, i < n → ¬ g i = L) : we_Met l yJx4a65c_add_9ea2d wsJx4a65c_add_9ea2d rmeB_Jx4a65c_add_9ea2d E H [.ref L, .ref x] (fun q => q = L ∨ (q = ar ∧ E.2.2.1 ≤ q)) 1 22 (fun v H1 => v = (some (.int 1)) ∧ ∃ q cap, ((q = ar ∧ 0 < n) ∨ H.size ≤ q) ∧ (n + 1 ≤ cap ∧ 2 ≤ cap ∧ cap ≤ 1000) ∧ va_at E.1 vwCl (q, .inl (E.2.1.2.1, cap, .inr (.inr (.inr (.inr (z_lc (n + 1) (va_up g n x))))))) H1 ∧ va_at E.1 vwCl (L, .inr (0, [.int (mo + 1), .ref q, .int (nI (n + 1))])) H1) := by
  refine Met.ofW (cc := cJx4a65c_add_9ea2d) (maxL := 2) (ret := (some .boolean)) (by decide) rfl ?_
  intro p e s m args below meth c s₁ B hml hv
  obtain ⟨rfl, hH, hV⟩ := hv
  subst hH
  have hK := hV.k
  have hx := B.exec
  have hb := B.bytes
  have hr := B.returns
  have hts := atoms_spec (ws := wsJx4a65c_add_9ea2d) B.pre
  have hown : s.vm.findClass RJx4a65c = some m.cls := findClass_of_methodNamed B.named
  have hlocks := B.notSynchronized
  have hS : va_S (fun q => (fun q => q = L ∨ (q = ar ∧ E.2.2.1 ≤ q)) q ∨ s.heap.size ≤ q) s.heap s.heap [] := va_S.rf
  have hA9 : ∀ q : Nat, s.heap.size ≤ q → ((fun q => q = L ∨ (q = ar ∧ E.2.2.1 ≤ q)) q ∨ s.heap.size ≤ q) := fun _ h => Or.inr h
  have hbA : ∀ q : Nat, q < E.2.2.1 → ¬ ((fun q => q = L ∨ (q = ar ∧ E.2.2.1 ≤ q)) q ∨ s.heap.size ≤ q) := fun q hq z => z.elim (fun z => z.elim (fun z => absurd (z ▸ hq) (Nat.not_lt.mpr hLb)) (fun z => absurd hq (Nat.not_lt.mpr z.2))) (fun z => absurd (Nat.lt_of_lt_of_le hq hV.2.2.2.2.2.2) (Nat.not_lt.mpr z))
  have i_Jx4a65c : ∀ w ∈ u_ws RJx4a65c TJx4a65c 3, w ∈ wsJx4a65c_add_9ea2d := fun w h => (List.mem_cons_of_mem _ (List.mem_append_right _ h))
  have hl := lv_entry [.ref L, .ref x] (n := 2) (Nat.le_of_ble_eq_true rfl)
  rw [lg_entry_eq]
  generalize (lg_sl [.ref L, .ref x] ++ List.replicate (2 - (lg_sl [.ref L, .ref x]).length) Slot.unset).toArray = ls at hl ⊢
  have hl : lv_has ls 2 [(0, .ref L), (1, .ref x)] := hl
  have hLs := hL.lt
  have hz0 : s.heap.size ≤ s.heap.size := Nat.le_refl _
  refine lv_aload_n hx hb dJx4a65c_add_9ea2d_0 rfl (lv_at hl 0 rfl) ?_
  refine lv_dup hx hb dJx4a65c_add_9ea2d_1 rfl ?_
  refine wk_get (own := RJx4a65c) (C := RJx4a65c) (T := TJx4a65c) (N := 3) (ci := 0) (v := .int mo) hx hb hts i_Jx4a65c hown hK hL rfl 0 (by decide) (hts _ (List.mem_of_getElem? (i := 1) rfl)) (fun x9 h9 => u_same (hts _ (List.mem_of_getElem? (i := 2) rfl)) x9 h9) rfl dJx4a65c_add_9ea2d_2 ?_
  refine lv_iconst (v := 1) hx hb dJx4a65c_add_9ea2d_5 (by decide) ?_
  refine lv_iadd hx hb dJx4a65c_add_9ea2d_6 ?_
  refine wk_put (own := RJx4a65c) (C := RJx4a65c) (T := TJx4a65c) (N := 3) (ci := 0) (v := .int (mo + 1)) hx hb hts i_Jx4a65c tyJx4a65c tyJx4a65c_ok nmJx4a65c hown hK hL (Or.inl (Or.inl rfl)) hS rfl 0 (by decide) (hts _ (List.mem_of_getElem? (i := 1) rfl)) (fun x9 h9 => u_same (hts _ (List.mem_of_getElem? (i := 2) rfl)) x9 h9) rfl (tyJx4a65c_ok 0 (by decide)) rfl rfl (Nat.le_of_ble_eq_true rfl) dJx4a65c_add_9ea2d_7 (fun H locs hP9 hz9 hk9 hS => ?_)
  have hL := hP9
  have hx9 := va_at.kept hx9 (hk9 _ hLx)
  have hA := va_at.kept hA (hk9 _ (fun z => hLar z.symm))
  have hel : ∀ i, i < n → ∃ vs, va_at E.1 vwCl (g i, .inr (ci, vs)) H := fun i hi => (hel i hi).elim fun vs hv => ⟨vs, va_at.kept hv (hk9 _ (hgL i hi))⟩
  have hz9m := hz9
  refine lv_aload_n hx hb dJx4a65c_add_9ea2d_10 rfl (lv_at hl 0 rfl) ?_
  refine lv_aload_n hx hb dJx4a65c_add_9ea2d_11 rfl (lv_at hl 1 rfl) ?_
  refine lv_aload_n hx hb dJx4a65c_add_9ea2d_12 rfl (lv_at hl 0 rfl) ?_
  refine wk_get (own := RJx4a65c) (C := RJx4a65c) (T := TJx4a65c) (N := 3) (ci := 0) (v := .ref ar) hx hb hts i_Jx4a65c hown hK hL rfl 1 (by decide) (hts _ (List.mem_of_getElem? (i := 3) rfl)) (fun _ h9 => h9) rfl dJx4a65c_add_9ea2d_13 ?_
  refine lv_aload_n hx hb dJx4a65c_add_9ea2d_16 rfl (lv_at hl 0 rfl) ?_
  refine wk_get (own := RJx4a65c) (C := RJx4a65c) (T := TJx4a65c) (N := 3) (ci := 0) (v := .int (nI n)) hx hb hts i_Jx4a65c hown hK hL rfl 2 (by decide) (hts _ (List.mem_of_getElem? (i := 4) rfl)) (fun _ h9 => h9) rfl dJx4a65c_add_9ea2d_17 ?_
  refine we_V (As := [.ref x, .ref ar, .int (nI n)]) (rest := []) ⟨hx, hb, hml, hown, hts⟩ (eB_Jx4a65c_add_72be8 l E hL hLb hA hab hLar hn2 hn15 hci hel9 hx9 hLx hxa hel) (cwV 3 hts gJx4a65c_add_9ea2d_Jx4a65c_add_72be8 rfl rfl rfl (by decide +kernel) ⟨(Nat.le_of_ble_eq_true rfl), (Nat.le_of_ble_eq_true rfl)⟩) (wk_recv hK hL rfl) (hV.heap hS.1 (fun q hq => hS.2.1 q (Nat.lt_of_lt_of_le hq hV.2.2.2.2.2.2) (hbA q hq))) hS (fun _ h => Or.inl h) hA9 rfl hl.1 rfl (Nat.le_of_ble_eq_true rfl) dJx4a65c_add_9ea2d_20 ⟨Nat.le_refl _, Nat.le_refl _⟩ (fun v9 H locs hR9 hz9 hk9 hS => ?_)
  obtain ⟨rfl, q8, cap8, hq8, hc8, hN8, hL⟩ := hR9
  refine lv_iconst (v := 1) hx hb dJx4a65c_add_9ea2d_23 (by decide) ?_
  refine W.widen (k := 1) (n := 22) (by omega) (by omega) ?_
  exact W.zret hx hb hr rfl (we_end (Rt := fun v H1 => v = (some (.int 1)) ∧ ∃ q cap, ((q = ar ∧ 0 < n) ∨ s.heap.size ≤ q) ∧ (n + 1 ≤ cap ∧ 2 ≤ cap ∧ cap ≤ 1000) ∧ va_at E.1 vwCl (q, .inl (E.2.1.2.1, cap, .inr (.inr (.inr (.inr (z_lc (n + 1) (va_up g n x))))))) H1 ∧ va_at E.1 vwCl (L, .inr (0, [.int (mo + 1), .ref q, .int (nI (n + 1))])) H1) (F := fun q => q = L ∨ (q = ar ∧ E.2.2.1 ≤ q)) (⟨rfl, q8, cap8, hq8.imp id (fun z => Nat.le_trans (Nat.le_of_eq hz9m.symm) z), hc8, hN8, hL⟩) hS) hS.2.2 dJx4a65c_add_9ea2d_24

abbrev rmeC_Jx4a65c_add_9ea2d : Room := { frames := 12, cells := 1, slots := 22, locals := 400 }
set_option maxHeartbeats 4000000 in
set_option maxRecDepth 100000 in
theorem eC_Jx4a65c_add_9ea2d (l : Launch) (E : wk_E) {H : Heap} {L ar n cap : Nat} {mo : Int32} {g : Nat → Nat} (hL : va_at E.1 vwCl (L, .inr (0, [.int mo, .ref ar, .int (nI n)])) H) (hLb : E.2.2.1 ≤ L) (hA : va_at E.1 vwCl (ar, .inl (E.2.1.2.1, cap, .inr (.inr (.inr (.inr (z_lc n g)))))) H) (hab : E.2.2.1 ≤ ar) (hLar : ¬ L = ar) (hn0 : 0 < n) (hn2 : 2 ≤ cap) (hnc : n < cap) (hcap : cap ≤ 1000) {x : Nat} {vs : List Value} {ci : Nat} {r : vw_C} (hci : vwCl[ci]? = some r) (hel9 : r.1 ∈ wk_els) (hx9 : va_at E.1 vwCl (x, .inr (ci, vs)) H) (hLx : ¬ x = L) (hxa : ¬ x = ar) : we_Met l yJx4a65c_add_9ea2d wsJx4a65c_add_9ea2d rmeC_Jx4a65c_add_9ea2d E H [.ref L, .ref x] (fun q => q = L ∨ (q = ar ∧ E.2.2.1 ≤ q)) 1 22 (fun v H1 => v = (some (.int 1)) ∧ ∃ q cap, ((q = ar ∧ 0 < n) ∨ H.size ≤ q) ∧ (n + 1 ≤ cap ∧ 2 ≤ cap ∧ cap ≤ 1000) ∧ va_at E.1 vwCl (q, .inl (E.2.1.2.1, cap, .inr (.inr (.inr (.inr (z_lc (n + 1) (va_up g n x))))))) H1 ∧ va_at E.1 vwCl (L, .inr (0, [.int (mo + 1), .ref q, .int (nI (n + 1))])) H1) := by
  refine Met.ofW (cc := cJx4a65c_add_9ea2d) (maxL := 2) (ret := (some .boolean)) (by decide) rfl ?_
  intro p e s m args below meth c s₁ B hml hv
  obtain ⟨rfl, hH, hV⟩ := hv
  subst hH
  have hK := hV.k
  have hx := B.exec
  have hb := B.bytes
  have hr := B.returns
  have hts := atoms_spec (ws := wsJx4a65c_add_9ea2d) B.pre
  have hown : s.vm.findClass RJx4a65c = some m.cls := findClass_of_methodNamed B.named
  have hlocks := B.notSynchronized
  have hS : va_S (fun q => (fun q => q = L ∨ (q = ar ∧ E.2.2.1 ≤ q)) q ∨ s.heap.size ≤ q) s.heap s.heap [] := va_S.rf
  have hA9 : ∀ q : Nat, s.heap.size ≤ q → ((fun q => q = L ∨ (q = ar ∧ E.2.2.1 ≤ q)) q ∨ s.heap.size ≤ q) := fun _ h => Or.inr h
  have hbA : ∀ q : Nat, q < E.2.2.1 → ¬ ((fun q => q = L ∨ (q = ar ∧ E.2.2.1 ≤ q)) q ∨ s.heap.size ≤ q) := fun q hq z => z.elim (fun z => z.elim (fun z => absurd (z ▸ hq) (Nat.not_lt.mpr hLb)) (fun z => absurd hq (Nat.not_lt.mpr z.2))) (fun z => absurd (Nat.lt_of_lt_of_le hq hV.2.2.2.2.2.2) (Nat.not_lt.mpr z))
  have i_Jx4a65c : ∀ w ∈ u_ws RJx4a65c TJx4a65c 3, w ∈ wsJx4a65c_add_9ea2d := fun w h => (List.mem_cons_of_mem _ (List.mem_append_right _ h))
  have hl := lv_entry [.ref L, .ref x] (n := 2) (Nat.le_of_ble_eq_true rfl)
  rw [lg_entry_eq]
  generalize (lg_sl [.ref L, .ref x] ++ List.replicate (2 - (lg_sl [.ref L, .ref x]).length) Slot.unset).toArray = ls at hl ⊢
  have hl : lv_has ls 2 [(0, .ref L), (1, .ref x)] := hl
  have hLs := hL.lt
  have hz0 : s.heap.size ≤ s.heap.size := Nat.le_refl _
  refine lv_aload_n hx hb dJx4a65c_add_9ea2d_0 rfl (lv_at hl 0 rfl) ?_
  refine lv_dup hx hb dJx4a65c_add_9ea2d_1 rfl ?_
  refine wk_get (own := RJx4a65c) (C := RJx4a65c) (T := TJx4a65c) (N := 3) (ci := 0) (v := .int mo) hx hb hts i_Jx4a65c hown hK hL rfl 0 (by decide) (hts _ (List.mem_of_getElem? (i := 1) rfl)) (fun x9 h9 => u_same (hts _ (List.mem_of_getElem? (i := 2) rfl)) x9 h9) rfl dJx4a65c_add_9ea2d_2 ?_
  refine lv_iconst (v := 1) hx hb dJx4a65c_add_9ea2d_5 (by decide) ?_
  refine lv_iadd hx hb dJx4a65c_add_9ea2d_6 ?_
  refine wk_put (own := RJx4a65c) (C := RJx4a65c) (T := TJx4a65c) (N := 3) (ci := 0) (v := .int (mo + 1)) hx hb hts i_Jx4a65c tyJx4a65c tyJx4a65c_ok nmJx4a65c hown hK hL (Or.inl (Or.inl rfl)) hS rfl 0 (by decide) (hts _ (List.mem_of_getElem? (i := 1) rfl)) (fun x9 h9 => u_same (hts _ (List.mem_of_getElem? (i := 2) rfl)) x9 h9) rfl (tyJx4a65c_ok 0 (by decide)) rfl rfl (Nat.le_of_ble_eq_true rfl) dJx4a65c_add_9ea2d_7 (fun H locs hP9 hz9 hk9 hS => ?_)
  have hL := hP9
  have hx9 := va_at.kept hx9 (hk9 _ hLx)
  have hA := va_at.kept hA (hk9 _ (fun z => hLar z.symm))
  have hz9m := hz9
  refine lv_aload_n hx hb dJx4a65c_add_9ea2d_10 rfl (lv_at hl 0 rfl) ?_
  refine lv_aload_n hx hb dJx4a65c_add_9ea2d_11 rfl (lv_at hl 1 rfl) ?_
  refine lv_aload_n hx hb dJx4a65c_add_9ea2d_12 rfl (lv_at hl 0 rfl) ?_
  refine wk_get (own := RJx4a65c) (C := RJx4a65c) (T := TJx4a65c) (N := 3) (ci := 0) (v := .ref ar) hx hb hts i_Jx4a65c hown hK hL rfl 1 (by decide) (hts _ (List.mem_of_getElem? (i := 3) rfl)) (fun _ h9 => h9) rfl dJx4a65c_add_9ea2d_13 ?_
  refine lv_aload_n hx hb dJx4a65c_add_9ea2d_16 rfl (lv_at hl 0 rfl) ?_
  refine wk_get (own := RJx4a65c) (C := RJx4a65c) (T := TJx4a65c) (N := 3) (ci := 0) (v := .int (nI n)) hx hb hts i_Jx4a65c hown hK hL rfl 2 (by decide) (hts _ (List.mem_of_getElem? (i := 4) rfl)) (fun _ h9 => h9) rfl dJx4a65c_add_9ea2d_17 ?_
  refine we_V (As := [.ref x, .ref ar, .int (nI n)]) (rest := []) ⟨hx, hb, hml, hown, hts⟩ (eC_Jx4a65c_add_72be8 l E hL hLb hA hab hLar hn0 hn2 hnc hcap hci hel9 hx9 hLx hxa) (cwV 3 hts gJx4a65c_add_9ea2d_Jx4a65c_add_72be8 rfl rfl rfl (by decide +kernel) ⟨(Nat.le_of_ble_eq_true rfl), (Nat.le_of_ble_eq_true rfl)⟩) (wk_recv hK hL rfl) (hV.heap hS.1 (fun q hq => hS.2.1 q (Nat.lt_of_lt_of_le hq hV.2.2.2.2.2.2) (hbA q hq))) hS (fun _ h => Or.inl h) hA9 rfl hl.1 rfl (Nat.le_of_ble_eq_true rfl) dJx4a65c_add_9ea2d_20 ⟨Nat.le_refl _, Nat.le_refl _⟩ (fun v9 H locs hR9 hz9 hk9 hS => ?_)
  obtain ⟨rfl, q8, cap8, hq8, hc8, hN8, hL⟩ := hR9
  refine lv_iconst (v := 1) hx hb dJx4a65c_add_9ea2d_23 (by decide) ?_
  refine W.widen (k := 1) (n := 22) (by omega) (by omega) ?_
  exact W.zret hx hb hr rfl (we_end (Rt := fun v H1 => v = (some (.int 1)) ∧ ∃ q cap, ((q = ar ∧ 0 < n) ∨ s.heap.size ≤ q) ∧ (n + 1 ≤ cap ∧ 2 ≤ cap ∧ cap ≤ 1000) ∧ va_at E.1 vwCl (q, .inl (E.2.1.2.1, cap, .inr (.inr (.inr (.inr (z_lc (n + 1) (va_up g n x))))))) H1 ∧ va_at E.1 vwCl (L, .inr (0, [.int (mo + 1), .ref q, .int (nI (n + 1))])) H1) (F := fun q => q = L ∨ (q = ar ∧ E.2.2.1 ≤ q)) (⟨rfl, q8, cap8, hq8.imp id (fun z => Nat.le_trans (Nat.le_of_eq hz9m.symm) z), hc8, hN8, hL⟩) hS) hS.2.2 dJx4a65c_add_9ea2d_24
