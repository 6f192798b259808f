abbrev rmJ8_newLength_cabcc : Room := { frames := 1, cells := 0, slots := 0, locals := 21 }
set_option maxHeartbeats 4000000 in
set_option maxRecDepth 100000 in
theorem c_J8_newLength_cabcc (l : Launch) (E : wk_E) {H : Heap} {a b c9 : Nat} (ha : a ≤ 1000) (hb9 : b ≤ 1000) (hc : c9 ≤ 1000) (h0 : 0 < a + b) : wk_Met l yJ8_newLength_cabcc wsJ8_newLength_cabcc rmJ8_newLength_cabcc E H [.int (nI a), .int (nI b), .int (nI c9)] (some (.int (nI (a + max b c9)))) := by
  refine Met.ofW (cc := cJ8_newLength_cabcc) (maxL := 4) (ret := (some .int)) (by decide) rfl ?_
  intro p e s m args below meth c s₁ B hml hv
  obtain ⟨rfl, hH, hK⟩ := hv
  subst hH
  have hx := B.exec
  have hb := B.bytes
  have hr := B.returns
  have hts := atoms_spec (ws := wsJ8_newLength_cabcc) B.pre
  have hown : s.vm.findClass RJ8 = some m.cls := findClass_of_methodNamed B.named
  have hlocks := B.notSynchronized
  have hl := lv_entry [.int (nI a), .int (nI b), .int (nI c9)] (n := 4) (Nat.le_of_ble_eq_true rfl)
  rw [lg_entry_eq]
  generalize (lg_sl [.int (nI a), .int (nI b), .int (nI c9)] ++ List.replicate (4 - (lg_sl [.int (nI a), .int (nI b), .int (nI c9)]).length) Slot.unset).toArray = ls at hl ⊢
  have hl : lv_has ls 4 [(0, .int (nI a)), (1, .int (nI b)), (2, .int (nI c9))] := hl
  refine lv_iload_n hx hb dJ8_newLength_cabcc_0 rfl (lv_at hl 0 rfl) ?_
  refine lv_iload_n hx hb dJ8_newLength_cabcc_1 rfl (lv_at hl 1 rfl) ?_
  refine lv_iload_n hx hb dJ8_newLength_cabcc_2 rfl (lv_at hl 2 rfl) ?_
  refine va_mmax (own := RJ8) hx hb (hml.trans hl.1.symm) hown (hts _ (List.mem_of_getElem? (i := 1) rfl)) (hts _ (List.mem_of_getElem? (i := 2) rfl)) (hts _ (List.mem_of_getElem? (i := 3) rfl)) (hts _ (List.mem_of_getElem? (i := 4) rfl)) (Nat.le_of_ble_eq_true rfl) (Nat.le_trans (Nat.le_of_ble_eq_true rfl : _ ≤ 21) (Nat.le_of_ble_eq_true rfl)) (Nat.zero_le _) (Nat.zero_le _) dJ8_newLength_cabcc_3 ?_
  refine wk_eqi (wk_maxN (by omega) (by omega)) ?_
  refine lv_iadd hx hb dJ8_newLength_cabcc_6 ?_
  refine wk_eqi (show (nI a) + (nI (max b c9)) = nI (a + (max b c9)) from nI_add a (max b c9)) ?_
  refine lv_istore_n (lv' := [(3, .int (nI (a + (max b c9)))), (0, .int (nI a)), (1, .int (nI b)), (2, .int (nI c9))]) hx hb dJ8_newLength_cabcc_7 rfl hl (by decide) rfl (fun ls hl => ?_)
  refine lv_iconst (v := 0) hx hb dJ8_newLength_cabcc_8 (by decide) ?_
  refine lv_iload_n hx hb dJ8_newLength_cabcc_9 rfl (lv_at hl 0 rfl) ?_
  refine lv_icmp_ge (tgt := 21) hx hb dJ8_newLength_cabcc_10 (by decide) (fun c_10 => ?_) (fun c_10 => ?_)
  · skip
    have e_10 : (a + (max b c9)) ≤ 0 := wk_cget (by omega) (by omega) c_10
    omega
  have e_10 : 0 < (a + (max b c9)) := wk_cgef (by omega) (by omega) c_10
  refine lv_iload_n hx hb dJ8_newLength_cabcc_13 rfl (lv_at hl 0 rfl) ?_
  refine lv_ldc (own := RJ8) (v := (2147483639)) hx hb hown (hts _ (List.mem_of_getElem? (i := 5) rfl)) dJ8_newLength_cabcc_14 ?_
  refine lv_icmp_gt (tgt := 21) hx hb dJ8_newLength_cabcc_16 (by decide) (fun c_16 => ?_) (fun c_16 => ?_)
  · skip
    have e_16 : 2147483639 < (a + (max b c9)) := wk_cgtt (by omega) (by omega) c_16
    omega
  have e_16 : (a + (max b c9)) ≤ 2147483639 := wk_cgtf (by omega) (by omega) c_16
  refine lv_iload_n hx hb dJ8_newLength_cabcc_19 rfl (lv_at hl 0 rfl) ?_
  exact W.iret hx hb hr (fun t ht _ => wk_ret (congrArg Value.int rfl) ht) wk_nil dJ8_newLength_cabcc_20

abbrev rme_J7_copyOf_6403c : Room := { frames := 1, cells := 1, slots := 22, locals := 40 }
set_option maxHeartbeats 4000000 in
set_option maxRecDepth 100000 in
theorem e_J7_copyOf_6403c (l : Launch) (E : wk_E) {mi : Nat} {H : Heap} {ar n n2 : Nat} {g : Nat → Nat} (hA : va_at E.1 vwCl (ar, .inl (E.2.1.2.1, n, .inr (.inr (.inr (.inr (z_lc n g)))))) H) (hab : E.2.2.1 ≤ ar) (hn : n ≤ n2) (hn2 : n2 ≤ 22) {ci : Nat} {r : vw_C} (hci : vwCl[ci]? = some r) (hel9 : r.1 ∈ wk_els) (hel : ∀ i, i < n → ∃ vs, va_at E.1 vwCl (g i, .inr (ci, vs)) H) : we_MetP (va_Mi "[Ljava/lang/Object;" mi) l yJ7_copyOf_6403c wsJ7_copyOf_6403c rme_J7_copyOf_6403c E H [.ref ar, .int (nI n2), .ref mi] (fun q => q = ar) 1 22 (fun v H1 => ∃ q, v = some (.ref q) ∧ H.size ≤ q ∧ va_at E.1 vwCl (q, .inl (E.2.1.2.1, n2, .inr (.inr (.inr (.inr (z_lc n g)))))) H1) := by
  refine Met.ofW (cc := cJ7_copyOf_6403c) (maxL := 4) (ret := (some (.array (.object "java/lang/Object")))) (by decide) rfl ?_
  intro p e s m args below meth c s₁ B hml hv
  obtain ⟨rfl, ⟨hH, hV⟩, hMi⟩ := hv
  subst hH
  have hK := hV.k
  have hx := B.exec
  have hb := B.bytes
  have hr := B.returns
  have hts := atoms_spec (ws := wsJ7_copyOf_6403c) B.pre
  have hown : s.vm.findClass RJ7 = some m.cls := findClass_of_methodNamed B.named
  have hlocks := B.notSynchronized
  have hS : va_S (fun q => (fun q => q = ar) q ∨ s.heap.size ≤ q) s.heap s.heap [] := va_S.rf
  have hA9 : ∀ q : Nat, s.heap.size ≤ q → ((fun q => q = ar) q ∨ s.heap.size ≤ q) := fun _ h => Or.inr h
  have hbA : ∀ q : Nat, q < E.2.2.1 → ¬ ((fun q => q = ar) q ∨ s.heap.size ≤ q) := fun q hq z => z.elim (fun z => absurd (z ▸ hq) (Nat.not_lt.mpr hab)) (fun z => absurd (Nat.lt_of_lt_of_le hq hV.2.2.2.2.2.2) (Nat.not_lt.mpr z))
  have hl := lv_entry [.ref ar, .int (nI n2), .ref mi] (n := 4) (Nat.le_of_ble_eq_true rfl)
  rw [lg_entry_eq]
  generalize (lg_sl [.ref ar, .int (nI n2), .ref mi] ++ List.replicate (4 - (lg_sl [.ref ar, .int (nI n2), .ref mi]).length) Slot.unset).toArray = ls at hl ⊢
  have hl : lv_has ls 4 [(0, .ref ar), (1, .int (nI n2)), (2, .ref mi)] := hl
  refine lv_aload_n hx hb dJ7_copyOf_6403c_0 rfl (lv_at hl 2 rfl) ?_
  refine va_ldcM (own := RJ7) hx hb hown (hts _ (List.mem_of_getElem? (i := 1) rfl)) hMi dJ7_copyOf_6403c_1 ?_
  refine lv_acmp_ne (rx := some mi) (ry := some mi) (tgt := 13) hx hb dJ7_copyOf_6403c_3 (by decide) (fun c_3 => ?_) (fun c_3 => ?_)
  · skip
    exact absurd rfl c_3
  refine lv_iload_n hx hb dJ7_copyOf_6403c_6 rfl (lv_at hl 1 rfl) ?_
  refine wk_newq hx hb hown (hts _ (List.mem_of_getElem? (i := 2) rfl)) hV.2.2.2.1.1 hK hS n2 rfl (by omega) (Nat.le_refl 1) (by show 0 + n2 ≤ 22; omega) dJ7_copyOf_6403c_7 (fun H hN9 hz9 hk9 hS => ?_)
  refine lv_goto (tgt := 24) hx hb dJ7_copyOf_6403c_10 (by decide) ?_
  refine lv_astore_n (lv' := [(3, .ref s.heap.size), (0, .ref ar), (1, .int (nI n2)), (2, .ref mi)]) hx hb dJ7_copyOf_6403c_24 rfl hl (by decide) rfl (fun ls hl => ?_)
  refine lv_aload_n hx hb dJ7_copyOf_6403c_25 rfl (lv_at hl 1 rfl) ?_
  refine lv_iconst (v := 0) hx hb dJ7_copyOf_6403c_26 (by decide) ?_
  refine lv_aload_n hx hb dJ7_copyOf_6403c_27 rfl (lv_at hl 0 rfl) ?_
  refine lv_iconst (v := 0) hx hb dJ7_copyOf_6403c_28 (by decide) ?_
  refine lv_aload_n hx hb dJ7_copyOf_6403c_29 rfl (lv_at hl 1 rfl) ?_
  refine wk_alen hx hb hK 1 (ty := .object "java/lang/Object") (v := nI n) (va_at.kept hA (hk9 _ hA.lt)) rfl rfl dJ7_copyOf_6403c_30 ?_
  refine lv_iload_n hx hb dJ7_copyOf_6403c_31 rfl (lv_at hl 2 rfl) ?_
  refine va_mmin (own := RJ7) hx hb (hml.trans hl.1.symm) hown (hts _ (List.mem_of_getElem? (i := 3) rfl)) (hts _ (List.mem_of_getElem? (i := 4) rfl)) (hts _ (List.mem_of_getElem? (i := 5) rfl)) (hts _ (List.mem_of_getElem? (i := 6) rfl)) (Nat.le_of_ble_eq_true rfl) (Nat.le_trans (Nat.le_of_ble_eq_true rfl : _ ≤ 21) (Nat.le_of_ble_eq_true rfl)) (Nat.le_of_ble_eq_true rfl) (by show 0 + n2 ≤ 22; omega) dJ7_copyOf_6403c_32 ?_
  refine wk_eqi (wk_minN (by omega) (by omega)) ?_
  refine wk_eqi (show nI (min n n2) = nI n from by rw [Nat.min_eq_left hn]) ?_
  have hA2 := va_at.kept hA (hk9 _ hA.lt)
  refine va_copyq (own := RJ7) hx hb (hml.trans hl.1.symm) hown (hts _ (List.mem_of_getElem? (i := 7) rfl)) (hts _ (List.mem_of_getElem? (i := 8) rfl)) (hts _ (List.mem_of_getElem? (i := 9) rfl)) (hts _ (List.mem_of_getElem? (i := 10) rfl)) hK.1 (wk_P2 hA2 hN9) (wk_D2 (A := fun q => (fun q => q = ar) q ∨ s.heap.size ≤ q) (Nat.ne_of_lt hA.lt) (Or.inl rfl) (Or.inr (Nat.le_refl _))) hS 0 1 1 1 rfl rfl rfl rfl (by decide) (by decide) (nI_pos (by omega)) (by rw [nI_clamp (by omega)]; exact Nat.le_of_eq (Nat.zero_add _)) (by rw [nI_clamp (by omega)]; show 0 + n ≤ n2; omega) ?_ (wk_castO (hV.2.2.1.2.1 _ hel9)) (Nat.le_of_ble_eq_true rfl) (Nat.le_trans (Nat.le_of_ble_eq_true rfl : _ ≤ 40) (Nat.le_of_ble_eq_true rfl)) dJ7_copyOf_6403c_35 (fun H locs hP9 hD9 hS => ?_)
  · skip
    rw [nI_clamp (by omega)]
    intro i hi y hy
    rw [show (0 : Int32).toNatClampNeg + i = i from Nat.zero_add i] at hy
    obtain ⟨cv, h1, h2⟩ := wk_cells hK hci hel i hi y hy
    exact ⟨cv, by rw [hk9 y (Array.getElem?_eq_some_iff.mp h1).1]; exact h1, h2⟩
  have hN2 := hP9 1 _ rfl
  rw [nI_clamp (by omega)] at hN2
  rw [show (0 : Int32).toNatClampNeg = 0 from rfl, z_lc_cpy] at hN2
  refine lv_aload_n hx hb dJ7_copyOf_6403c_38 rfl (lv_at hl 0 rfl) ?_
  refine W.widen (k := 1) (n := 22) (by omega) (by omega) ?_
  exact W.aret hx hb hr (Or.inr ⟨_, rfl⟩) (Or.inr ⟨_, rfl⟩) (we_end (Rt := fun v H1 => ∃ q, v = some (.ref q) ∧ s.heap.size ≤ q ∧ va_at E.1 vwCl (q, .inl (E.2.1.2.1, n2, .inr (.inr (.inr (.inr (z_lc n g)))))) H1) (F := fun q => q = ar) (⟨_, rfl, Nat.le_refl _, hN2⟩) hS) hS.2.2 dJ7_copyOf_6403c_39

abbrev rme_J7_copyOf_1904c : Room := { frames := 2, cells := 1, slots := 22, locals := 63 }
set_option maxHeartbeats 4000000 in
set_option maxRecDepth 100000 in
theorem e_J7_copyOf_1904c (l : Launch) (E : wk_E) {H : Heap} {ar n n2 : Nat} {g : Nat → Nat} (hA : va_at E.1 vwCl (ar, .inl (E.2.1.2.1, n, .inr (.inr (.inr (.inr (z_lc n g)))))) H) (hab : E.2.2.1 ≤ ar) (hn : n ≤ n2) (hn2 : n2 ≤ 22) {ci : Nat} {r : vw_C} (hci : vwCl[ci]? = some r) (hel9 : r.1 ∈ wk_els) (hel : ∀ i, i < n → ∃ vs, va_at E.1 vwCl (g i, .inr (ci, vs)) H) : we_Met l yJ7_copyOf_1904c wsJ7_copyOf_1904c rme_J7_copyOf_1904c E H [.ref ar, .int (nI n2)] (fun q => q = ar) 1 22 (fun v H1 => ∃ q, v = some (.ref q) ∧ H.size ≤ q ∧ va_at E.1 vwCl (q, .inl (E.2.1.2.1, n2, .inr (.inr (.inr (.inr (z_lc n g)))))) H1) := by
  refine Met.ofW (cc := cJ7_copyOf_1904c) (maxL := 2) (ret := (some (.array (.object "java/lang/Object")))) (by decide) rfl ?_
  intro p e s m args below meth c s₁ B hml hv
  obtain ⟨rfl, hH, hV⟩ := hv
  subst hH
  have hK := hV.k
  have hx := B.exec
  have hb := B.bytes
  have hr := B.returns
  have hts := atoms_spec (ws := wsJ7_copyOf_1904c) B.pre
  have hown : s.vm.findClass RJ7 = some m.cls := findClass_of_methodNamed B.named
  have hlocks := B.notSynchronized
  have hS : va_S (fun q => (fun q => q = ar) q ∨ s.heap.size ≤ q) s.heap s.heap [] := va_S.rf
  have hA9 : ∀ q : Nat, s.heap.size ≤ q → ((fun q => q = ar) q ∨ s.heap.size ≤ q) := fun _ h => Or.inr h
  have hbA : ∀ q : Nat, q < E.2.2.1 → ¬ ((fun q => q = ar) q ∨ s.heap.size ≤ q) := fun q hq z => z.elim (fun z => absurd (z ▸ hq) (Nat.not_lt.mpr hab)) (fun z => absurd (Nat.lt_of_lt_of_le hq hV.2.2.2.2.2.2) (Nat.not_lt.mpr z))
  have hl := lv_entry [.ref ar, .int (nI n2)] (n := 2) (Nat.le_of_ble_eq_true rfl)
  rw [lg_entry_eq]
  generalize (lg_sl [.ref ar, .int (nI n2)] ++ List.replicate (2 - (lg_sl [.ref ar, .int (nI n2)]).length) Slot.unset).toArray = ls at hl ⊢
  have hl : lv_has ls 2 [(0, .ref ar), (1, .int (nI n2))] := hl
  refine lv_aload_n hx hb dJ7_copyOf_1904c_0 rfl (lv_at hl 0 rfl) ?_
  refine lv_iload_n hx hb dJ7_copyOf_1904c_1 rfl (lv_at hl 1 rfl) ?_
  refine lv_aload_n hx hb dJ7_copyOf_1904c_2 rfl (lv_at hl 0 rfl) ?_
  obtain ⟨mi, hMi⟩ := hV.2.2.2.1.2.2
  have hcA : ∃ cell : Cell, s.heap[ar]? = some cell ∧ cell.vm.isStatics = false ∧ s.vm.findClass "[Ljava/lang/Object;" = some cell.cls := ⟨_, hA, rfl, va_nmO (hK.1.2 1 _ rfl).2 (by decide)⟩
  refine va_getC (own := RJ7) hx hb (hml.trans hl.1.symm) hown (hts _ (List.mem_of_getElem? (i := 1) rfl)) (va_Dc.use hV.2.2.2.1.2.1) (hts _ (List.mem_of_getElem? (i := 2) rfl)) (hts _ (List.mem_of_getElem? (i := 3) rfl)) (hts _ (List.mem_of_getElem? (i := 4) rfl)) hMi hcA (Nat.le_of_ble_eq_true rfl) (Nat.le_trans (Nat.le_of_ble_eq_true rfl : _ ≤ 40) (Nat.le_of_ble_eq_true rfl)) dJ7_copyOf_1904c_3 ?_
  refine we_SP (As := [.ref ar, .int (nI n2), .ref mi]) (rest := []) ⟨hx, hb, hml, hown, hts⟩ (e_J7_copyOf_6403c l E hA hab hn hn2 hci hel9 hel) (fun U hW => va_Mi.moved hW.alike hMi) (fun U g mk a h => va_Mi.moved (u := U) (U := U.calling g mk a) (Vm.Alike.refl U.vm) h) (va_cwS 3 hts gJ7_copyOf_1904c_J7_copyOf_6403c rfl rfl rfl (by decide +kernel) ⟨(Nat.le_of_ble_eq_true rfl), (Nat.le_of_ble_eq_true rfl)⟩) hV hS (fun _ h => Or.inl h) hA9 rfl hl.1 rfl (Nat.le_of_ble_eq_true rfl) dJ7_copyOf_1904c_6 ⟨Nat.le_refl _, Nat.le_refl _⟩ (fun v9 H locs hR9 hz9 hk9 hS => ?_)
  obtain ⟨q7, rfl, hq7, hN7⟩ := hR9
  refine W.widen (k := 1) (n := 22) (by omega) (by omega) ?_
  exact W.aret hx hb hr (Or.inr ⟨_, rfl⟩) (Or.inr ⟨_, rfl⟩) (we_end (Rt := fun v H1 => ∃ q, v = some (.ref q) ∧ s.heap.size ≤ q ∧ va_at E.1 vwCl (q, .inl (E.2.1.2.1, n2, .inr (.inr (.inr (.inr (z_lc n g)))))) H1) (F := fun q => q = ar) (⟨_, rfl, hq7, hN7⟩) hS) hS.2.2 dJ7_copyOf_1904c_9

abbrev rmeA_Jx4a65c_grow_92f84 : Room := { frames := 1, cells := 1, slots := 22, locals := 21 }
set_option maxHeartbeats 4000000 in
set_option maxRecDepth 100000 in
theorem eA_Jx4a65c_grow_92f84 (l : Launch) (E : wk_E) {H : Heap} {L : Nat} {mo : Int32} {g : Nat → Nat} (hL : va_at E.1 vwCl (L, .inr (0, [.int mo, .ref E.2.2.2, .int (nI 0)])) H) (hLb : E.2.2.1 ≤ L) : we_Met l yJx4a65c_grow_92f84 wsJx4a65c_grow_92f84 rmeA_Jx4a65c_grow_92f84 E H [.ref L, .int (nI 1)] (fun q => q = L) 1 22 (fun v H1 => ∃ q cap, v = some (.ref q) ∧ H.size ≤ q ∧ (0 < cap ∧ 2 ≤ cap ∧ cap ≤ 1000) ∧ va_at E.1 vwCl (q, .inl (E.2.1.2.1, cap, .inr (.inr (.inr (.inr (z_lc 0 g)))))) H1 ∧ va_at E.1 vwCl (L, .inr (0, [.int mo, .ref q, .int (nI 0)])) H1) := by
  refine Met.ofW (cc := cJx4a65c_grow_92f84) (maxL := 4) (ret := (some (.array (.object "java/lang/Object")))) (by decide) rfl ?_
  intro p e s m args below meth c s₁ B hml hv
  obtain ⟨rfl, hH, hV⟩ := hv
  subst hH
  have hK := hV.k
  have hx := B.exec
  have hb := B.bytes
  have hr := B.returns
  have hts := atoms_spec (ws := wsJx4a65c_grow_92f84) B.pre
  have hown : s.vm.findClass RJx4a65c = some m.cls := findClass_of_methodNamed B.named
  have hlocks := B.notSynchronized
  have hS : va_S (fun q => (fun q => q = L) q ∨ s.heap.size ≤ q) s.heap s.heap [] := va_S.rf
  have hA9 : ∀ q : Nat, s.heap.size ≤ q → ((fun q => q = L) q ∨ s.heap.size ≤ q) := fun _ h => Or.inr h
  have hbA : ∀ q : Nat, q < E.2.2.1 → ¬ ((fun q => q = L) q ∨ s.heap.size ≤ q) := fun q hq z => z.elim (fun z => absurd (z ▸ hq) (Nat.not_lt.mpr hLb)) (fun z => absurd (Nat.lt_of_lt_of_le hq hV.2.2.2.2.2.2) (Nat.not_lt.mpr z))
  have i_Jx4a65c : ∀ w ∈ u_ws RJx4a65c TJx4a65c 3, w ∈ wsJx4a65c_grow_92f84 := fun w h => (List.mem_cons_of_mem _ (List.mem_append_right _ h))
  have hl := lv_entry [.ref L, .int (nI 1)] (n := 4) (Nat.le_of_ble_eq_true rfl)
  rw [lg_entry_eq]
  generalize (lg_sl [.ref L, .int (nI 1)] ++ List.replicate (4 - (lg_sl [.ref L, .int (nI 1)]).length) Slot.unset).toArray = ls at hl ⊢
  have hl : lv_has ls 4 [(0, .ref L), (1, .int (nI 1))] := hl
  have hLs := hL.lt
  refine lv_aload_n hx hb dJx4a65c_grow_92f84_0 rfl (lv_at hl 0 rfl) ?_
  refine wk_get (own := RJx4a65c) (C := RJx4a65c) (T := TJx4a65c) (N := 3) (ci := 0) (v := .ref E.2.2.2) hx hb hts i_Jx4a65c hown hK hL rfl 1 (by decide) (hts _ (List.mem_of_getElem? (i := 1) rfl)) (fun _ h9 => h9) rfl dJx4a65c_grow_92f84_1 ?_
  refine wk_alen0 hx hb hV.2.2.2.2.1 dJx4a65c_grow_92f84_4 ?_
  refine lv_istore_n (lv' := [(2, .int (nI 0)), (0, .ref L), (1, .int (nI 1))]) hx hb dJx4a65c_grow_92f84_5 rfl hl (by decide) rfl (fun ls hl => ?_)
  refine lv_iload_n hx hb dJx4a65c_grow_92f84_6 rfl (lv_at hl 0 rfl) ?_
  refine lv_if_gt (tgt := 20) hx hb dJx4a65c_grow_92f84_7 (by decide) (fun c_7 => ?_) (fun c_7 => ?_)
  · skip
    exact absurd c_7 (by decide)
  refine lv_aload_n hx hb dJx4a65c_grow_92f84_10 rfl (lv_at hl 1 rfl) ?_
  refine wk_get (own := RJx4a65c) (C := RJx4a65c) (T := TJx4a65c) (N := 3) (ci := 0) (v := .ref E.2.2.2) hx hb hts i_Jx4a65c hown hK hL rfl 1 (by decide) (hts _ (List.mem_of_getElem? (i := 1) rfl)) (fun _ h9 => h9) rfl dJx4a65c_grow_92f84_11 ?_
  refine va_gets (C := "java/util/ArrayList") (n := "DEFAULTCAPACITY_EMPTY_ELEMENTDATA") (d := "[Ljava/lang/Object;") (own := RJx4a65c) hx hb (hV.2.1.2.2.narrow (fun q hq => Nat.le_of_not_lt (fun z => hbA q z hq))) hS hown (hts _ (List.mem_of_getElem? (i := 2) rfl)) (fun _ h9 => h9) dJx4a65c_grow_92f84_14 ?_
  refine lv_acmp_eq (rx := some E.2.2.2) (ry := some E.2.2.2) (tgt := 45) hx hb dJx4a65c_grow_92f84_17 (by decide) (fun c_17 => ?_) (fun c_17 => ?_)
  · skip
    refine lv_aload_n hx hb dJx4a65c_grow_92f84_45 rfl (lv_at hl 1 rfl) ?_
    refine lv_bipush (v := 10) hx hb dJx4a65c_grow_92f84_46 (by decide) ?_
    refine lv_iload_n hx hb dJx4a65c_grow_92f84_48 rfl (lv_at hl 2 rfl) ?_
    refine va_mmax (own := RJx4a65c) hx hb (hml.trans hl.1.symm) hown (hts _ (List.mem_of_getElem? (i := 3) rfl)) (hts _ (List.mem_of_getElem? (i := 4) rfl)) (hts _ (List.mem_of_getElem? (i := 5) rfl)) (hts _ (List.mem_of_getElem? (i := 6) rfl)) (Nat.le_of_ble_eq_true rfl) (Nat.le_trans (Nat.le_of_ble_eq_true rfl : _ ≤ 21) (Nat.le_of_ble_eq_true rfl)) (Nat.zero_le _) (Nat.zero_le _) dJx4a65c_grow_92f84_49 ?_
    refine wk_eqi (show (if (10 : Int32) < nI 1 then nI 1 else 10) = nI 10 from by decide) ?_
    refine wk_newq hx hb hown (hts _ (List.mem_of_getElem? (i := 7) rfl)) hV.2.2.2.1.1 hK hS 10 rfl (by omega) (Nat.le_refl 1) (by show 0 + 10 ≤ 22; omega) dJx4a65c_grow_92f84_52 (fun H hN9 hz9 hk9 hS => ?_)
    have hL := va_at.kept hL (hk9 _ hL.lt)
    have hLl := hL.lt
    refine lv_dup_x1 hx hb dJx4a65c_grow_92f84_55 rfl rfl ?_
    refine wk_put (own := RJx4a65c) (C := RJx4a65c) (T := TJx4a65c) (N := 3) (ci := 0) (v := .ref s.heap.size) hx hb hts i_Jx4a65c tyJx4a65c tyJx4a65c_ok nmJx4a65c hown hK hL (Or.inl rfl) hS rfl 1 (by decide) (hts _ (List.mem_of_getElem? (i := 1) rfl)) (fun _ h9 => h9) rfl (tyJx4a65c_ok 1 (by decide)) rfl rfl (Nat.le_of_ble_eq_true rfl) dJx4a65c_grow_92f84_56 (fun H locs hP9 hz9 hk9 hS => ?_)
    have hL := hP9
    have hN9 := va_at.kept hN9 (hk9 _ (Ne.symm (Nat.ne_of_lt hLs)))
    refine W.widen (k := 1) (n := 22) (by omega) (by omega) ?_
    exact W.aret hx hb hr (Or.inr ⟨_, rfl⟩) (Or.inr ⟨_, rfl⟩) (we_end (Rt := fun v H1 => ∃ q cap, v = some (.ref q) ∧ s.heap.size ≤ q ∧ (0 < cap ∧ 2 ≤ cap ∧ cap ≤ 1000) ∧ va_at E.1 vwCl (q, .inl (E.2.1.2.1, cap, .inr (.inr (.inr (.inr (z_lc 0 g)))))) H1 ∧ va_at E.1 vwCl (L, .inr (0, [.int mo, .ref q, .int (nI 0)])) H1) (F := fun q => q = L) (⟨_, 10, rfl, Nat.le_refl _, ⟨by decide, by decide, by decide⟩, by rw [z_lc_0]; exact hN9, hL⟩) hS) hS.2.2 dJx4a65c_grow_92f84_59
  exact absurd rfl c_17

abbrev rmeB_Jx4a65c_grow_92f84 : Room := { frames := 3, cells := 1, slots := 22, locals := 84 }
set_option maxHeartbeats 4000000 in
set_option maxRecDepth 100000 in
theorem eB_Jx4a65c_grow_92f84 (l : Launch) (E : wk_E) {H : Heap} {L ar n : Nat} {mo : Int32} {g : Nat → Nat} (hL : va_at E.1 vwCl (L, .inr (0, [.int mo, .ref ar, .int (nI n)])) H) (hLb : E.2.2.1 ≤ L) (hA : va_at E.1 vwCl (ar, .inl (E.2.1.2.1, n, .inr (.inr (.inr (.inr (z_lc n g)))))) H) (hab : E.2.2.1 ≤ ar) (hLar : ¬ L = ar) (hn2 : 2 ≤ n) (hn15 : n ≤ 15) {ci : Nat} {r : vw_C} (hci : vwCl[ci]? = some r) (hel9 : r.1 ∈ wk_els) (hel : ∀ i, i < n → ∃ vs, va_at E.1 vwCl (g i, .inr (ci, vs)) H) : we_Met l yJx4a65c_grow_92f84 wsJx4a65c_grow_92f84 rmeB_Jx4a65c_grow_92f84 E H [.ref L, .int (nI (n + 1))] (fun q => q = L ∨ q = ar) 1 22 (fun v H1 => ∃ q cap, v = some (.ref q) ∧ H.size ≤ q ∧ (n < cap ∧ 2 ≤ cap ∧ cap ≤ 1000) ∧ va_at E.1 vwCl (q, .inl (E.2.1.2.1, cap, .inr (.inr (.inr (.inr (z_lc n g)))))) H1 ∧ va_at E.1 vwCl (L, .inr (0, [.int mo, .ref q, .int (nI n)])) H1) := by
  refine Met.ofW (cc := cJx4a65c_grow_92f84) (maxL := 4) (ret := (some (.array (.object "java/lang/Object")))) (by decide) rfl ?_
  intro p e s m args below meth c s₁ B hml hv
  obtain ⟨rfl, hH, hV⟩ := hv
  subst hH
  have hK := hV.k
  have hx := B.exec
  have hb := B.bytes
  have hr := B.returns
  have hts := atoms_spec (ws := wsJx4a65c_grow_92f84) B.pre
  have hown : s.vm.findClass RJx4a65c = some m.cls := findClass_of_methodNamed B.named
  have hlocks := B.notSynchronized
  have hS : va_S (fun q => (fun q => q = L ∨ q = ar) q ∨ s.heap.size ≤ q) s.heap s.heap [] := va_S.rf
  have hA9 : ∀ q : Nat, s.heap.size ≤ q → ((fun q => q = L ∨ q = ar) q ∨ s.heap.size ≤ q) := fun _ h => Or.inr h
  have hbA : ∀ q : Nat, q < E.2.2.1 → ¬ ((fun q => q = L ∨ q = ar) q ∨ s.heap.size ≤ q) := fun q hq z => z.elim (fun z => z.elim (fun z => absurd (z ▸ hq) (Nat.not_lt.mpr hLb)) (fun z => absurd (z ▸ hq) (Nat.not_lt.mpr hab))) (fun z => absurd (Nat.lt_of_lt_of_le hq hV.2.2.2.2.2.2) (Nat.not_lt.mpr z))
  have i_Jx4a65c : ∀ w ∈ u_ws RJx4a65c TJx4a65c 3, w ∈ wsJx4a65c_grow_92f84 := fun w h => (List.mem_cons_of_mem _ (List.mem_append_right _ h))
  have hl := lv_entry [.ref L, .int (nI (n + 1))] (n := 4) (Nat.le_of_ble_eq_true rfl)
  rw [lg_entry_eq]
  generalize (lg_sl [.ref L, .int (nI (n + 1))] ++ List.replicate (4 - (lg_sl [.ref L, .int (nI (n + 1))]).length) Slot.unset).toArray = ls at hl ⊢
  have hl : lv_has ls 4 [(0, .ref L), (1, .int (nI (n + 1)))] := hl
  have hLs := hL.lt
  refine lv_aload_n hx hb dJx4a65c_grow_92f84_0 rfl (lv_at hl 0 rfl) ?_
  refine wk_get (own := RJx4a65c) (C := RJx4a65c) (T := TJx4a65c) (N := 3) (ci := 0) (v := .ref ar) hx hb hts i_Jx4a65c hown hK hL rfl 1 (by decide) (hts _ (List.mem_of_getElem? (i := 1) rfl)) (fun _ h9 => h9) rfl dJx4a65c_grow_92f84_1 ?_
  refine wk_alen hx hb hK 1 (ty := .object "java/lang/Object") (v := nI n) hA rfl rfl dJx4a65c_grow_92f84_4 ?_
  refine lv_istore_n (lv' := [(2, .int (nI n)), (0, .ref L), (1, .int (nI (n + 1)))]) hx hb dJx4a65c_grow_92f84_5 rfl hl (by decide) rfl (fun ls hl => ?_)
  refine lv_iload_n hx hb dJx4a65c_grow_92f84_6 rfl (lv_at hl 0 rfl) ?_
  refine lv_if_gt (tgt := 20) hx hb dJx4a65c_grow_92f84_7 (by decide) (fun c_7 => ?_) (fun c_7 => ?_)
  · skip
    have d_7 := Int32.not_le.mpr c_7
    refine lv_iload_n hx hb dJx4a65c_grow_92f84_20 rfl (lv_at hl 0 rfl) ?_
    refine lv_iload_n hx hb dJx4a65c_grow_92f84_21 rfl (lv_at hl 2 rfl) ?_
    refine lv_iload_n hx hb dJx4a65c_grow_92f84_22 rfl (lv_at hl 0 rfl) ?_
    refine lv_isub hx hb dJx4a65c_grow_92f84_23 ?_
    refine wk_eqi (show nI (n + 1) - nI n = nI 1 from by rw [pk_sub (by omega), Nat.add_sub_cancel_left]) ?_
    refine lv_iload_n hx hb dJx4a65c_grow_92f84_24 rfl (lv_at hl 0 rfl) ?_
    refine lv_iconst (v := 1) hx hb dJx4a65c_grow_92f84_25 (by decide) ?_
    refine lv_ishr hx hb dJx4a65c_grow_92f84_26 ?_
    refine wk_eqi (wk_half (by omega)) ?_
    refine wk_S (As := [.int (nI n), .int (nI 1), .int (nI (n / 2))]) (rest := []) ⟨hx, hb, hml, hown, hts⟩ (c_J8_newLength_cabcc l E (a := n) (b := 1) (c9 := n / 2) (by omega) (by omega) (by omega) (by omega)) (va_cwS 3 hts gJx4a65c_grow_92f84_J8_newLength_cabcc rfl rfl rfl (by decide +kernel) ⟨(Nat.le_of_ble_eq_true rfl), (Nat.le_of_ble_eq_true rfl)⟩) hK rfl hl.1 rfl (Nat.le_of_ble_eq_true rfl) dJx4a65c_grow_92f84_27 ⟨Nat.zero_le _, Nat.zero_le _⟩ ?_
    refine lv_istore_n (lv' := [(3, .int (nI (n + max 1 (n / 2)))), (2, .int (nI n)), (0, .ref L), (1, .int (nI (n + 1)))]) hx hb dJx4a65c_grow_92f84_30 rfl hl (by decide) rfl (fun ls hl => ?_)
    refine lv_aload_n hx hb dJx4a65c_grow_92f84_31 rfl (lv_at hl 2 rfl) ?_
    refine lv_aload_n hx hb dJx4a65c_grow_92f84_32 rfl (lv_at hl 2 rfl) ?_
    refine wk_get (own := RJx4a65c) (C := RJx4a65c) (T := TJx4a65c) (N := 3) (ci := 0) (v := .ref ar) hx hb hts i_Jx4a65c hown hK hL rfl 1 (by decide) (hts _ (List.mem_of_getElem? (i := 1) rfl)) (fun _ h9 => h9) rfl dJx4a65c_grow_92f84_33 ?_
    refine lv_iload_n hx hb dJx4a65c_grow_92f84_36 rfl (lv_at hl 0 rfl) ?_
    refine we_S (As := [.ref ar, .int (nI (n + max 1 (n / 2)))]) (rest := [.ref L]) ⟨hx, hb, hml, hown, hts⟩ (e_J7_copyOf_1904c l E (n2 := n + max 1 (n / 2)) hA hab (by omega) (by omega) hci hel9 hel)  (va_cwS 2 hts gJx4a65c_grow_92f84_J7_copyOf_1904c rfl rfl rfl (by decide +kernel) ⟨(Nat.le_of_ble_eq_true rfl), (Nat.le_of_ble_eq_true rfl)⟩) hV hS (fun _ h => Or.inl (Or.inr h)) hA9 rfl hl.1 rfl (Nat.le_of_ble_eq_true rfl) dJx4a65c_grow_92f84_37 ⟨Nat.le_refl _, Nat.le_refl _⟩ (fun v9 H locs hR9 hz9 hk9 hS => ?_)
    obtain ⟨q7, rfl, hq7, hN7⟩ := hR9
    have hL := va_at.kept hL (hk9 _ hL.lt hLar)
    have hLl := hL.lt
    refine lv_dup_x1 hx hb dJx4a65c_grow_92f84_40 rfl rfl ?_
    refine wk_put (own := RJx4a65c) (C := RJx4a65c) (T := TJx4a65c) (N := 3) (ci := 0) (v := .ref q7) hx hb hts i_Jx4a65c tyJx4a65c tyJx4a65c_ok nmJx4a65c hown hK hL (Or.inl (Or.inl rfl)) hS rfl 1 (by decide) (hts _ (List.mem_of_getElem? (i := 1) rfl)) (fun _ h9 => h9) rfl (tyJx4a65c_ok 1 (by decide)) rfl rfl (Nat.le_of_ble_eq_true rfl) dJx4a65c_grow_92f84_41 (fun H locs hP9 hz9 hk9 hS => ?_)
    have hL := hP9
    have hN9 := va_at.kept hN7 (hk9 _ (Ne.symm (Nat.ne_of_lt (Nat.lt_of_lt_of_le hLs hq7))))
    refine W.widen (k := 1) (n := 22) (by omega) (by omega) ?_
    exact W.aret hx hb hr (Or.inr ⟨_, rfl⟩) (Or.inr ⟨_, rfl⟩) (we_end (Rt := fun v H1 => ∃ q cap, v = some (.ref q) ∧ s.heap.size ≤ q ∧ (n < cap ∧ 2 ≤ cap ∧ cap ≤ 1000) ∧ va_at E.1 vwCl (q, .inl (E.2.1.2.1, cap, .inr (.inr (.inr (.inr (z_lc n g)))))) H1 ∧ va_at E.1 vwCl (L, .inr (0, [.int mo, .ref q, .int (nI n)])) H1) (F := fun q => q = L ∨ q = ar) (⟨_, n + max 1 (n / 2), rfl, hq7, ⟨by omega, by omega, by omega⟩, hN9, hL⟩) hS) hS.2.2 dJx4a65c_grow_92f84_44
  have d_7 := Int32.not_lt.mp c_7
  exact absurd (show (0 : Int32) < nI n from nI_lt (a := 0) (by omega) (by omega)) c_7
