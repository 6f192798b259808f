set_option maxHeartbeats 4000000 in
set_option maxRecDepth 100000 in
theorem w_L_antenna (l : Launch) (E : wk_E) {T : Nat → Nat × Nat} {X : z_X} {σ : z_S} {H : Heap} (hA : DA E T X σ H) (hI : z_Ok σ) {oo : Nat} {ov : Nat → Int64} (hoo : va_at E.1 vwCl (oo, .inl (E.2.1.2.2, 1, .inr (.inl ov))) H) (hoT : T oo = (20, 0)) (hob : E.2.2.1 ≤ oo) {a w : Nat} (ha : a < z_n σ 0) (hw : w ≤ 3) : we_MetP (wl_NC) l yL_antenna wsL_antenna rmW E H [.ref (X.1 0 0), .int (nI a), .int (nI w), .ref oo] (fun q => z_FD T q ∨ q = oo) 2 30 (wl_R E T X oo H 0 (Int32.toInt64 (f_ant σ a w)) (σ)) := by
  refine wl_ofWH (cc := cL_antenna) (maxL := 5) (ret := (some .int)) (hh := [(0, 10, 13, 24)]) (by decide) rfl ?_
  intro p e s m args below meth c s₁ B hml hv
  obtain ⟨rfl, ⟨hH, hV⟩, hMi⟩ := hv
  subst hH
  have hK := hV.k
  have hx := B.exec
  have hb := B.bytes
  have hr := B.returns
  have hts := atoms_spec (ws := wsL_antenna) B.pre
  have hown : s.vm.findClass RL = some m.cls := findClass_of_methodNamed B.named
  have hlocks := B.notSynchronized
  have hS : va_S (fun q => (fun q => z_FD T q ∨ q = oo) q ∨ s.heap.size ≤ q) s.heap s.heap [] := va_S.rf
  have hA9 : ∀ q : Nat, s.heap.size ≤ q → ((fun q => z_FD T q ∨ q = oo) q ∨ s.heap.size ≤ q) := fun _ h => Or.inr h
  have hbA : ∀ q : Nat, q < E.2.2.1 → ¬ ((fun q => z_FD T q ∨ q = oo) q ∨ s.heap.size ≤ q) := fun q hq z => z.elim (fun z => Or.elim (show z_FD T q ∨ q = oo from z) (z_FDb hA.2.1 hq) (fun z => absurd hq (Nat.not_lt.mpr (z ▸ hob)))) (fun z => absurd (Nat.lt_of_lt_of_le hq hV.2.2.2.2.2.2) (Nat.not_lt.mpr z))
  have hl := lv_entry [.ref (X.1 0 0), .int (nI a), .int (nI w), .ref oo] (n := 5) (Nat.le_of_ble_eq_true rfl)
  rw [lg_entry_eq]
  generalize (lg_sl [.ref (X.1 0 0), .int (nI a), .int (nI w), .ref oo] ++ List.replicate (5 - (lg_sl [.ref (X.1 0 0), .int (nI a), .int (nI w), .ref oo]).length) Slot.unset).toArray = ls at hl ⊢
  have hl : lv_has ls 5 [(0, .ref (X.1 0 0)), (1, .int (nI a)), (2, .int (nI w)), (3, .ref oo)] := hl
  have b0 := hI.n0
  have b1 := hI.n1
  have b2 := hI.n2
  have b3 := hI.n3
  have hNC := hMi
  have htab : c.exceptionTable.toList = [{ startPc := 0, endPc := 10, handlerPc := 13, catchType := 24 }] := vx_table (x := yL_antenna) B (hts _ List.mem_cons_self)
  refine lv_aload_n hx hb dL_antenna_0 rfl (lv_at hl 3 rfl) ?_
  refine lv_iconst (v := 0) hx hb dL_antenna_1 (by decide) ?_
  refine lv_aload_n hx hb dL_antenna_2 rfl (lv_at hl 0 rfl) ?_
  refine lv_iload_n hx hb dL_antenna_3 rfl (lv_at hl 1 rfl) ?_
  refine lv_iload_n hx hb dL_antenna_4 rfl (lv_at hl 2 rfl) ?_
  refine wk_V (As := [.int (nI a), .int (nI w)]) (rest := [.int 0, .ref oo]) ⟨hx, hb, hml, hown, hts⟩ (c_X5_antenna l E hA hI ha hw) (cwV 2 hts gL_antenna_X5_antenna rfl rfl rfl (by decide +kernel) ⟨(Nat.le_of_ble_eq_true rfl), (Nat.le_of_ble_eq_true rfl)⟩) (wk_recv hK hA.desk rfl) hK rfl hl.1 rfl (Nat.le_of_ble_eq_true rfl) dL_antenna_5 ⟨Nat.zero_le _, Nat.zero_le _⟩ ?_
  refine lv_i2l (v := (f_ant σ a w).toInt64) hx hb dL_antenna_8 rfl ?_
  refine wk_last (nn := 1) hx hb hK hoo (Or.inl (Or.inr rfl)) hS 0 rfl (by decide) (by decide) dL_antenna_9 (fun H locs hP9 hz9 hk9 hS => ?_)
  have hoo := hP9
  have hA := hA.kept (fun q _ hf => hk9 q (wl_ne hoT hf))
  refine lv_goto (tgt := 17) hx hb dL_antenna_10 (by decide) ?_
  refine lv_iconst (v := 0) hx hb dL_antenna_17 (by decide) ?_
  refine W.widen (k := 2) (n := 30) (Nat.le_of_ble_eq_true rfl) (Nat.le_of_ble_eq_true rfl) ?_
  exact W.iret hx hb hr (we_end (Rt := wl_R E T X oo s.heap 0 (Int32.toInt64 (f_ant σ a w)) (σ)) (F := fun q => z_FD T q ∨ q = oo) (⟨rfl, ⟨_, hoo, fun _ => (by simp [vp_updL])⟩, T, X, fun _ _ => rfl, rfl, hA⟩) hS) hS.2.2 dL_antenna_18

set_option maxHeartbeats 4000000 in
set_option maxRecDepth 100000 in
theorem wf_L_antenna (l : Launch) (E : wk_E) (hlf : l.stackTraces = false) {T : Nat → Nat × Nat} {X : z_X} {σ : z_S} {H : Heap} (hA : DA E T X σ H) (hI : z_Ok σ) {oo : Nat} {ov : Nat → Int64} (hoo : va_at E.1 vwCl (oo, .inl (E.2.1.2.2, 1, .inr (.inl ov))) H) (hoT : T oo = (20, 0)) (hob : E.2.2.1 ≤ oo) {x y : Int32} (hbad : v_ix x (z_n σ 0) = false) : we_MetP (wl_NC) l yL_antenna wsL_antenna rmW E H [.ref (X.1 0 0), .int x, .int y, .ref oo] (fun q => z_FD T q ∨ q = oo) 2 30 (wl_R E T X oo H 1 (Int32.toInt64 0) (σ)) := by
  refine wl_ofWH (cc := cL_antenna) (maxL := 5) (ret := (some .int)) (hh := [(0, 10, 13, 24)]) (by decide) rfl ?_
  intro p e s m args below meth c s₁ B hml hv
  obtain ⟨rfl, ⟨hH, hV⟩, hMi⟩ := hv
  subst hH
  have hK := hV.k
  have hx := B.exec
  have hb := B.bytes
  have hr := B.returns
  have hts := atoms_spec (ws := wsL_antenna) B.pre
  have hown : s.vm.findClass RL = some m.cls := findClass_of_methodNamed B.named
  have hlocks := B.notSynchronized
  have hS : va_S (fun q => (fun q => z_FD T q ∨ q = oo) q ∨ s.heap.size ≤ q) s.heap s.heap [] := va_S.rf
  have hA9 : ∀ q : Nat, s.heap.size ≤ q → ((fun q => z_FD T q ∨ q = oo) q ∨ s.heap.size ≤ q) := fun _ h => Or.inr h
  have hbA : ∀ q : Nat, q < E.2.2.1 → ¬ ((fun q => z_FD T q ∨ q = oo) q ∨ s.heap.size ≤ q) := fun q hq z => z.elim (fun z => Or.elim (show z_FD T q ∨ q = oo from z) (z_FDb hA.2.1 hq) (fun z => absurd hq (Nat.not_lt.mpr (z ▸ hob)))) (fun z => absurd (Nat.lt_of_lt_of_le hq hV.2.2.2.2.2.2) (Nat.not_lt.mpr z))
  have hl := lv_entry [.ref (X.1 0 0), .int x, .int y, .ref oo] (n := 5) (Nat.le_of_ble_eq_true rfl)
  rw [lg_entry_eq]
  generalize (lg_sl [.ref (X.1 0 0), .int x, .int y, .ref oo] ++ List.replicate (5 - (lg_sl [.ref (X.1 0 0), .int x, .int y, .ref oo]).length) Slot.unset).toArray = ls at hl ⊢
  have hl : lv_has ls 5 [(0, .ref (X.1 0 0)), (1, .int x), (2, .int y), (3, .ref oo)] := hl
  have b0 := hI.n0
  have b1 := hI.n1
  have b2 := hI.n2
  have b3 := hI.n3
  have hNC := hMi
  have htab : c.exceptionTable.toList = [{ startPc := 0, endPc := 10, handlerPc := 13, catchType := 24 }] := vx_table (x := yL_antenna) B (hts _ List.mem_cons_self)
  refine lv_aload_n hx hb dL_antenna_0 rfl (lv_at hl 3 rfl) ?_
  refine lv_iconst (v := 0) hx hb dL_antenna_1 (by decide) ?_
  refine lv_aload_n hx hb dL_antenna_2 rfl (lv_at hl 0 rfl) ?_
  refine lv_iload_n hx hb dL_antenna_3 rfl (lv_at hl 1 rfl) ?_
  refine lv_iload_n hx hb dL_antenna_4 rfl (lv_at hl 2 rfl) ?_
  refine wx_V (As := [.int x, .int y]) (rest := [.int 0, .ref oo]) ⟨hx, hb, hml, hown, hts⟩ (t_X5_antenna l hlf E hA hI hbad) (cwV 2 hts gL_antenna_X5_antenna rfl rfl rfl (by decide +kernel) ⟨(Nat.le_of_ble_eq_true rfl), (Nat.le_of_ble_eq_true rfl)⟩) (wk_recv hK hA.desk rfl) hV rfl hl.1 rfl (Nat.le_of_ble_eq_true rfl) dL_antenna_5 ⟨(Nat.le_of_ble_eq_true rfl), (Nat.le_of_ble_eq_true rfl)⟩ (fun ce q9 H hz9 hk9 hc9 hv9 hcl9 => ?_)
  refine vx_catch (name := "java/lang/IndexOutOfBoundsException") (E := "java/lang/IndexOutOfBoundsException") hown [] { startPc := 0, endPc := 10, handlerPc := 13, catchType := 24 } [] htab (fun _ h => absurd h List.not_mem_nil) (by decide) (by decide) (hts _ (List.mem_of_getElem? (i := 1) rfl)) (va_Nw.use rfl (hV.2.2.1.1 "java/lang/IndexOutOfBoundsException" (by decide))) hc9 hv9 hcl9 ?_
  have hA := hA.kept (fun q hq _ => hk9 q hq)
  have hoo := va_at.kept hoo (hk9 _ hoo.lt)
  have hS : va_S (fun q => (fun q => z_FD T q ∨ q = oo) q ∨ s.heap.size ≤ q) s.heap H [] := ⟨hz9, fun q h1 _ => hk9 q h1, fun _ h => nomatch h⟩
  refine lv_astore (lv' := [(4, .ref q9), (0, .ref (X.1 0 0)), (1, .int x), (2, .int y), (3, .ref oo)]) hx hb dL_antenna_13 hl (by decide) rfl (fun ls hl => ?_)
  refine lv_iconst (v := 1) hx hb dL_antenna_15 (by decide) ?_
  refine W.widen (k := 2) (n := 30) (Nat.le_of_ble_eq_true rfl) (Nat.le_of_ble_eq_true rfl) ?_
  exact W.iret hx hb hr (we_end (Rt := wl_R E T X oo s.heap 1 (Int32.toInt64 0) (σ)) (F := fun q => z_FD T q ∨ q = oo) (⟨rfl, ⟨ov, hoo, fun z => absurd z (by decide)⟩, T, X, fun _ _ => rfl, rfl, hA⟩) hS) hS.2.2 dL_antenna_16

set_option maxHeartbeats 4000000 in
set_option maxRecDepth 100000 in
theorem wf2_L_antenna (l : Launch) (E : wk_E) (hlf : l.stackTraces = false) {T : Nat → Nat × Nat} {X : z_X} {σ : z_S} {H : Heap} (hA : DA E T X σ H) (hI : z_Ok σ) {oo : Nat} {ov : Nat → Int64} (hoo : va_at E.1 vwCl (oo, .inl (E.2.1.2.2, 1, .inr (.inl ov))) H) (hoT : T oo = (20, 0)) (hob : E.2.2.1 ≤ oo) {a : Nat} {y : Int32} (ha : a < z_n σ 0) (hbad : v_in y 0 3 = false) : we_MetP (wl_NC) l yL_antenna wsL_antenna rmW E H [.ref (X.1 0 0), .int (nI a), .int y, .ref oo] (fun q => z_FD T q ∨ q = oo) 2 30 (wl_R E T X oo H 1 (Int32.toInt64 0) (σ)) := by
  refine wl_ofWH (cc := cL_antenna) (maxL := 5) (ret := (some .int)) (hh := [(0, 10, 13, 24)]) (by decide) rfl ?_
  intro p e s m args below meth c s₁ B hml hv
  obtain ⟨rfl, ⟨hH, hV⟩, hMi⟩ := hv
  subst hH
  have hK := hV.k
  have hx := B.exec
  have hb := B.bytes
  have hr := B.returns
  have hts := atoms_spec (ws := wsL_antenna) B.pre
  have hown : s.vm.findClass RL = some m.cls := findClass_of_methodNamed B.named
  have hlocks := B.notSynchronized
  have hS : va_S (fun q => (fun q => z_FD T q ∨ q = oo) q ∨ s.heap.size ≤ q) s.heap s.heap [] := va_S.rf
  have hA9 : ∀ q : Nat, s.heap.size ≤ q → ((fun q => z_FD T q ∨ q = oo) q ∨ s.heap.size ≤ q) := fun _ h => Or.inr h
  have hbA : ∀ q : Nat, q < E.2.2.1 → ¬ ((fun q => z_FD T q ∨ q = oo) q ∨ s.heap.size ≤ q) := fun q hq z => z.elim (fun z => Or.elim (show z_FD T q ∨ q = oo from z) (z_FDb hA.2.1 hq) (fun z => absurd hq (Nat.not_lt.mpr (z ▸ hob)))) (fun z => absurd (Nat.lt_of_lt_of_le hq hV.2.2.2.2.2.2) (Nat.not_lt.mpr z))
  have hl := lv_entry [.ref (X.1 0 0), .int (nI a), .int y, .ref oo] (n := 5) (Nat.le_of_ble_eq_true rfl)
  rw [lg_entry_eq]
  generalize (lg_sl [.ref (X.1 0 0), .int (nI a), .int y, .ref oo] ++ List.replicate (5 - (lg_sl [.ref (X.1 0 0), .int (nI a), .int y, .ref oo]).length) Slot.unset).toArray = ls at hl ⊢
  have hl : lv_has ls 5 [(0, .ref (X.1 0 0)), (1, .int (nI a)), (2, .int y), (3, .ref oo)] := hl
  have b0 := hI.n0
  have b1 := hI.n1
  have b2 := hI.n2
  have b3 := hI.n3
  have hNC := hMi
  have htab : c.exceptionTable.toList = [{ startPc := 0, endPc := 10, handlerPc := 13, catchType := 24 }] := vx_table (x := yL_antenna) B (hts _ List.mem_cons_self)
  refine lv_aload_n hx hb dL_antenna_0 rfl (lv_at hl 3 rfl) ?_
  refine lv_iconst (v := 0) hx hb dL_antenna_1 (by decide) ?_
  refine lv_aload_n hx hb dL_antenna_2 rfl (lv_at hl 0 rfl) ?_
  refine lv_iload_n hx hb dL_antenna_3 rfl (lv_at hl 1 rfl) ?_
  refine lv_iload_n hx hb dL_antenna_4 rfl (lv_at hl 2 rfl) ?_
  refine wx_V (As := [.int (nI a), .int y]) (rest := [.int 0, .ref oo]) ⟨hx, hb, hml, hown, hts⟩ (t2_X5_antenna l hlf E hA hI ha hbad) (cwV 2 hts gL_antenna_X5_antenna rfl rfl rfl (by decide +kernel) ⟨(Nat.le_of_ble_eq_true rfl), (Nat.le_of_ble_eq_true rfl)⟩) (wk_recv hK hA.desk rfl) hV rfl hl.1 rfl (Nat.le_of_ble_eq_true rfl) dL_antenna_5 ⟨(Nat.le_of_ble_eq_true rfl), (Nat.le_of_ble_eq_true rfl)⟩ (fun ce q9 H hz9 hk9 hc9 hv9 hcl9 => ?_)
  refine vx_catch (name := "java/lang/IndexOutOfBoundsException") (E := "java/lang/IndexOutOfBoundsException") hown [] { startPc := 0, endPc := 10, handlerPc := 13, catchType := 24 } [] htab (fun _ h => absurd h List.not_mem_nil) (by decide) (by decide) (hts _ (List.mem_of_getElem? (i := 1) rfl)) (va_Nw.use rfl (hV.2.2.1.1 "java/lang/IndexOutOfBoundsException" (by decide))) hc9 hv9 hcl9 ?_
  have hA := hA.kept (fun q hq _ => hk9 q hq)
  have hoo := va_at.kept hoo (hk9 _ hoo.lt)
  have hS : va_S (fun q => (fun q => z_FD T q ∨ q = oo) q ∨ s.heap.size ≤ q) s.heap H [] := ⟨hz9, fun q h1 _ => hk9 q h1, fun _ h => nomatch h⟩
  refine lv_astore (lv' := [(4, .ref q9), (0, .ref (X.1 0 0)), (1, .int (nI a)), (2, .int y), (3, .ref oo)]) hx hb dL_antenna_13 hl (by decide) rfl (fun ls hl => ?_)
  refine lv_iconst (v := 1) hx hb dL_antenna_15 (by decide) ?_
  refine W.widen (k := 2) (n := 30) (Nat.le_of_ble_eq_true rfl) (Nat.le_of_ble_eq_true rfl) ?_
  exact W.iret hx hb hr (we_end (Rt := wl_R E T X oo s.heap 1 (Int32.toInt64 0) (σ)) (F := fun q => z_FD T q ∨ q = oo) (⟨rfl, ⟨ov, hoo, fun z => absurd z (by decide)⟩, T, X, fun _ _ => rfl, rfl, hA⟩) hS) hS.2.2 dL_antenna_16

set_option maxHeartbeats 4000000 in
set_option maxRecDepth 100000 in
theorem w_L_isConflict (l : Launch) (E : wk_E) {T : Nat → Nat × Nat} {X : z_X} {σ : z_S} {H : Heap} (hA : DA E T X σ H) (hI : z_Ok σ) {oo : Nat} {ov : Nat → Int64} (hoo : va_at E.1 vwCl (oo, .inl (E.2.1.2.2, 1, .inr (.inl ov))) H) (hoT : T oo = (20, 0)) (hob : E.2.2.1 ≤ oo) {i j : Nat} (hi : i < z_n σ 2) (hj : j < z_n σ 2) (hij : ¬ i = j) : we_MetP (wl_NC) l yL_isConflict wsL_isConflict rmW E H [.ref (X.1 0 0), .int (nI i), .int (nI j), .ref oo] (fun q => z_FD T q ∨ q = oo) 2 30 (wl_R E T X oo H 0 (if f_conf σ i j then 1 else 0) (σ)) := by
  refine wl_ofWH (cc := cL_isConflict) (maxL := 5) (ret := (some .int)) (hh := [(0, 17, 20, 24), (0, 17, 24, 13)]) (by decide) rfl ?_
  intro p e s m args below meth c s₁ B hml hv
  obtain ⟨rfl, ⟨hH, hV⟩, hMi⟩ := hv
  subst hH
  have hK := hV.k
  have hx := B.exec
  have hb := B.bytes
  have hr := B.returns
  have hts := atoms_spec (ws := wsL_isConflict) B.pre
  have hown : s.vm.findClass RL = some m.cls := findClass_of_methodNamed B.named
  have hlocks := B.notSynchronized
  have hS : va_S (fun q => (fun q => z_FD T q ∨ q = oo) q ∨ s.heap.size ≤ q) s.heap s.heap [] := va_S.rf
  have hA9 : ∀ q : Nat, s.heap.size ≤ q → ((fun q => z_FD T q ∨ q = oo) q ∨ s.heap.size ≤ q) := fun _ h => Or.inr h
  have hbA : ∀ q : Nat, q < E.2.2.1 → ¬ ((fun q => z_FD T q ∨ q = oo) q ∨ s.heap.size ≤ q) := fun q hq z => z.elim (fun z => Or.elim (show z_FD T q ∨ q = oo from z) (z_FDb hA.2.1 hq) (fun z => absurd hq (Nat.not_lt.mpr (z ▸ hob)))) (fun z => absurd (Nat.lt_of_lt_of_le hq hV.2.2.2.2.2.2) (Nat.not_lt.mpr z))
  have hl := lv_entry [.ref (X.1 0 0), .int (nI i), .int (nI j), .ref oo] (n := 5) (Nat.le_of_ble_eq_true rfl)
  rw [lg_entry_eq]
  generalize (lg_sl [.ref (X.1 0 0), .int (nI i), .int (nI j), .ref oo] ++ List.replicate (5 - (lg_sl [.ref (X.1 0 0), .int (nI i), .int (nI j), .ref oo]).length) Slot.unset).toArray = ls at hl ⊢
  have hl : lv_has ls 5 [(0, .ref (X.1 0 0)), (1, .int (nI i)), (2, .int (nI j)), (3, .ref oo)] := hl
  have b0 := hI.n0
  have b1 := hI.n1
  have b2 := hI.n2
  have b3 := hI.n3
  have hNC := hMi
  have htab : c.exceptionTable.toList = [{ startPc := 0, endPc := 17, handlerPc := 20, catchType := 24 }, { startPc := 0, endPc := 17, handlerPc := 24, catchType := 13 }] := vx_table (x := yL_isConflict) B (hts _ List.mem_cons_self)
  refine lv_aload_n hx hb dL_isConflict_0 rfl (lv_at hl 3 rfl) ?_
  refine lv_iconst (v := 0) hx hb dL_isConflict_1 (by decide) ?_
  refine lv_aload_n hx hb dL_isConflict_2 rfl (lv_at hl 0 rfl) ?_
  refine lv_iload_n hx hb dL_isConflict_3 rfl (lv_at hl 1 rfl) ?_
  refine lv_iload_n hx hb dL_isConflict_4 rfl (lv_at hl 2 rfl) ?_
  refine wk_V (As := [.int (nI i), .int (nI j)]) (rest := [.int 0, .ref oo]) ⟨hx, hb, hml, hown, hts⟩ (c_X5_isConflict l E hA hI hi hj hij) (cwV 2 hts gL_isConflict_X5_isConflict rfl rfl rfl (by decide +kernel) ⟨(Nat.le_of_ble_eq_true rfl), (Nat.le_of_ble_eq_true rfl)⟩) (wk_recv hK hA.desk rfl) hK rfl hl.1 rfl (Nat.le_of_ble_eq_true rfl) dL_isConflict_5 ⟨Nat.zero_le _, Nat.zero_le _⟩ ?_
  refine lv_if_eq (tgt := 15) hx hb dL_isConflict_8 (by decide) (fun c_8 => ?_) (fun c_8 => ?_)
  · skip
    have e_8 : (f_conf σ i j) = false := wk_b0 c_8
    refine lv_lconst (v := 0) hx hb dL_isConflict_15 (by decide) ?_
    refine wk_last (nn := 1) hx hb hK hoo (Or.inl (Or.inr rfl)) hS 0 rfl (by decide) (by decide) dL_isConflict_16 (fun H locs hP9 hz9 hk9 hS => ?_)
    have hoo := hP9
    have hA := hA.kept (fun q _ hf => hk9 q (wl_ne hoT hf))
    refine lv_goto (tgt := 28) hx hb dL_isConflict_17 (by decide) ?_
    refine lv_iconst (v := 0) hx hb dL_isConflict_28 (by decide) ?_
    refine W.widen (k := 2) (n := 30) (Nat.le_of_ble_eq_true rfl) (Nat.le_of_ble_eq_true rfl) ?_
    exact W.iret hx hb hr (we_end (Rt := wl_R E T X oo s.heap 0 (if f_conf σ i j then 1 else 0) (σ)) (F := fun q => z_FD T q ∨ q = oo) (⟨rfl, ⟨_, hoo, fun _ => (by simp [vp_updL, e_8])⟩, T, X, fun _ _ => rfl, rfl, hA⟩) hS) hS.2.2 dL_isConflict_29
  have e_8 : (f_conf σ i j) = true := wk_b1 c_8
  refine lv_lconst (v := 1) hx hb dL_isConflict_11 (by decide) ?_
  refine lv_goto (tgt := 16) hx hb dL_isConflict_12 (by decide) ?_
  refine wk_last (nn := 1) hx hb hK hoo (Or.inl (Or.inr rfl)) hS 0 rfl (by decide) (by decide) dL_isConflict_16 (fun H locs hP9 hz9 hk9 hS => ?_)
  have hoo := hP9
  have hA := hA.kept (fun q _ hf => hk9 q (wl_ne hoT hf))
  refine lv_goto (tgt := 28) hx hb dL_isConflict_17 (by decide) ?_
  refine lv_iconst (v := 0) hx hb dL_isConflict_28 (by decide) ?_
  refine W.widen (k := 2) (n := 30) (Nat.le_of_ble_eq_true rfl) (Nat.le_of_ble_eq_true rfl) ?_
  exact W.iret hx hb hr (we_end (Rt := wl_R E T X oo s.heap 0 (if f_conf σ i j then 1 else 0) (σ)) (F := fun q => z_FD T q ∨ q = oo) (⟨rfl, ⟨_, hoo, fun _ => (by simp [vp_updL, e_8])⟩, T, X, fun _ _ => rfl, rfl, hA⟩) hS) hS.2.2 dL_isConflict_29

set_option maxHeartbeats 4000000 in
set_option maxRecDepth 100000 in
theorem wf_L_isConflict (l : Launch) (E : wk_E) (hlf : l.stackTraces = false) {T : Nat → Nat × Nat} {X : z_X} {σ : z_S} {H : Heap} (hA : DA E T X σ H) (hI : z_Ok σ) {oo : Nat} {ov : Nat → Int64} (hoo : va_at E.1 vwCl (oo, .inl (E.2.1.2.2, 1, .inr (.inl ov))) H) (hoT : T oo = (20, 0)) (hob : E.2.2.1 ≤ oo) {x y : Int32} (hbad : v_ix x (z_n σ 2) = false) : we_MetP (wl_NC) l yL_isConflict wsL_isConflict rmW E H [.ref (X.1 0 0), .int x, .int y, .ref oo] (fun q => z_FD T q ∨ q = oo) 2 30 (wl_R E T X oo H 1 (if false then (1 : Int64) else 0) (σ)) := by
  refine wl_ofWH (cc := cL_isConflict) (maxL := 5) (ret := (some .int)) (hh := [(0, 17, 20, 24), (0, 17, 24, 13)]) (by decide) rfl ?_
  intro p e s m args below meth c s₁ B hml hv
  obtain ⟨rfl, ⟨hH, hV⟩, hMi⟩ := hv
  subst hH
  have hK := hV.k
  have hx := B.exec
  have hb := B.bytes
  have hr := B.returns
  have hts := atoms_spec (ws := wsL_isConflict) B.pre
  have hown : s.vm.findClass RL = some m.cls := findClass_of_methodNamed B.named
  have hlocks := B.notSynchronized
  have hS : va_S (fun q => (fun q => z_FD T q ∨ q = oo) q ∨ s.heap.size ≤ q) s.heap s.heap [] := va_S.rf
  have hA9 : ∀ q : Nat, s.heap.size ≤ q → ((fun q => z_FD T q ∨ q = oo) q ∨ s.heap.size ≤ q) := fun _ h => Or.inr h
  have hbA : ∀ q : Nat, q < E.2.2.1 → ¬ ((fun q => z_FD T q ∨ q = oo) q ∨ s.heap.size ≤ q) := fun q hq z => z.elim (fun z => Or.elim (show z_FD T q ∨ q = oo from z) (z_FDb hA.2.1 hq) (fun z => absurd hq (Nat.not_lt.mpr (z ▸ hob)))) (fun z => absurd (Nat.lt_of_lt_of_le hq hV.2.2.2.2.2.2) (Nat.not_lt.mpr z))
  have hl := lv_entry [.ref (X.1 0 0), .int x, .int y, .ref oo] (n := 5) (Nat.le_of_ble_eq_true rfl)
  rw [lg_entry_eq]
  generalize (lg_sl [.ref (X.1 0 0), .int x, .int y, .ref oo] ++ List.replicate (5 - (lg_sl [.ref (X.1 0 0), .int x, .int y, .ref oo]).length) Slot.unset).toArray = ls at hl ⊢
  have hl : lv_has ls 5 [(0, .ref (X.1 0 0)), (1, .int x), (2, .int y), (3, .ref oo)] := hl
  have b0 := hI.n0
  have b1 := hI.n1
  have b2 := hI.n2
  have b3 := hI.n3
  have hNC := hMi
  have htab : c.exceptionTable.toList = [{ startPc := 0, endPc := 17, handlerPc := 20, catchType := 24 }, { startPc := 0, endPc := 17, handlerPc := 24, catchType := 13 }] := vx_table (x := yL_isConflict) B (hts _ List.mem_cons_self)
  refine lv_aload_n hx hb dL_isConflict_0 rfl (lv_at hl 3 rfl) ?_
  refine lv_iconst (v := 0) hx hb dL_isConflict_1 (by decide) ?_
  refine lv_aload_n hx hb dL_isConflict_2 rfl (lv_at hl 0 rfl) ?_
  refine lv_iload_n hx hb dL_isConflict_3 rfl (lv_at hl 1 rfl) ?_
  refine lv_iload_n hx hb dL_isConflict_4 rfl (lv_at hl 2 rfl) ?_
  refine wx_V (As := [.int x, .int y]) (rest := [.int 0, .ref oo]) ⟨hx, hb, hml, hown, hts⟩ (t_X5_isConflict l hlf E hA hI hbad) (cwV 2 hts gL_isConflict_X5_isConflict rfl rfl rfl (by decide +kernel) ⟨(Nat.le_of_ble_eq_true rfl), (Nat.le_of_ble_eq_true rfl)⟩) (wk_recv hK hA.desk rfl) hV rfl hl.1 rfl (Nat.le_of_ble_eq_true rfl) dL_isConflict_5 ⟨(Nat.le_of_ble_eq_true rfl), (Nat.le_of_ble_eq_true rfl)⟩ (fun ce q9 H hz9 hk9 hc9 hv9 hcl9 => ?_)
  refine vx_catch (name := "java/lang/IndexOutOfBoundsException") (E := "java/lang/IndexOutOfBoundsException") hown [] { startPc := 0, endPc := 17, handlerPc := 20, catchType := 24 } [{ startPc := 0, endPc := 17, handlerPc := 24, catchType := 13 }] htab (fun _ h => absurd h List.not_mem_nil) (by decide) (by decide) (hts _ (List.mem_of_getElem? (i := 1) rfl)) (va_Nw.use rfl (hV.2.2.1.1 "java/lang/IndexOutOfBoundsException" (by decide))) hc9 hv9 hcl9 ?_
  have hA := hA.kept (fun q hq _ => hk9 q hq)
  have hoo := va_at.kept hoo (hk9 _ hoo.lt)
  have hS : va_S (fun q => (fun q => z_FD T q ∨ q = oo) q ∨ s.heap.size ≤ q) s.heap H [] := ⟨hz9, fun q h1 _ => hk9 q h1, fun _ h => nomatch h⟩
  refine lv_astore (lv' := [(4, .ref q9), (0, .ref (X.1 0 0)), (1, .int x), (2, .int y), (3, .ref oo)]) hx hb dL_isConflict_20 hl (by decide) rfl (fun ls hl => ?_)
  refine lv_iconst (v := 1) hx hb dL_isConflict_22 (by decide) ?_
  refine W.widen (k := 2) (n := 30) (Nat.le_of_ble_eq_true rfl) (Nat.le_of_ble_eq_true rfl) ?_
  exact W.iret hx hb hr (we_end (Rt := wl_R E T X oo s.heap 1 (if false then (1 : Int64) else 0) (σ)) (F := fun q => z_FD T q ∨ q = oo) (⟨rfl, ⟨ov, hoo, fun z => absurd z (by decide)⟩, T, X, fun _ _ => rfl, rfl, hA⟩) hS) hS.2.2 dL_isConflict_23

set_option maxHeartbeats 4000000 in
set_option maxRecDepth 100000 in
theorem wf2_L_isConflict (l : Launch) (E : wk_E) (hlf : l.stackTraces = false) {T : Nat → Nat × Nat} {X : z_X} {σ : z_S} {H : Heap} (hA : DA E T X σ H) (hI : z_Ok σ) {oo : Nat} {ov : Nat → Int64} (hoo : va_at E.1 vwCl (oo, .inl (E.2.1.2.2, 1, .inr (.inl ov))) H) (hoT : T oo = (20, 0)) (hob : E.2.2.1 ≤ oo) {i : Nat} {y : Int32} (hi : i < z_n σ 2) (hbad : v_ix y (z_n σ 2) = false) : we_MetP (wl_NC) l yL_isConflict wsL_isConflict rmW E H [.ref (X.1 0 0), .int (nI i), .int y, .ref oo] (fun q => z_FD T q ∨ q = oo) 2 30 (wl_R E T X oo H 1 (if false then (1 : Int64) else 0) (σ)) := by
  refine wl_ofWH (cc := cL_isConflict) (maxL := 5) (ret := (some .int)) (hh := [(0, 17, 20, 24), (0, 17, 24, 13)]) (by decide) rfl ?_
  intro p e s m args below meth c s₁ B hml hv
  obtain ⟨rfl, ⟨hH, hV⟩, hMi⟩ := hv
  subst hH
  have hK := hV.k
  have hx := B.exec
  have hb := B.bytes
  have hr := B.returns
  have hts := atoms_spec (ws := wsL_isConflict) B.pre
  have hown : s.vm.findClass RL = some m.cls := findClass_of_methodNamed B.named
  have hlocks := B.notSynchronized
  have hS : va_S (fun q => (fun q => z_FD T q ∨ q = oo) q ∨ s.heap.size ≤ q) s.heap s.heap [] := va_S.rf
  have hA9 : ∀ q : Nat, s.heap.size ≤ q → ((fun q => z_FD T q ∨ q = oo) q ∨ s.heap.size ≤ q) := fun _ h => Or.inr h
  have hbA : ∀ q : Nat, q < E.2.2.1 → ¬ ((fun q => z_FD T q ∨ q = oo) q ∨ s.heap.size ≤ q) := fun q hq z => z.elim (fun z => Or.elim (show z_FD T q ∨ q = oo from z) (z_FDb hA.2.1 hq) (fun z => absurd hq (Nat.not_lt.mpr (z ▸ hob)))) (fun z => absurd (Nat.lt_of_lt_of_le hq hV.2.2.2.2.2.2) (Nat.not_lt.mpr z))
  have hl := lv_entry [.ref (X.1 0 0), .int (nI i), .int y, .ref oo] (n := 5) (Nat.le_of_ble_eq_true rfl)
  rw [lg_entry_eq]
  generalize (lg_sl [.ref (X.1 0 0), .int (nI i), .int y, .ref oo] ++ List.replicate (5 - (lg_sl [.ref (X.1 0 0), .int (nI i), .int y, .ref oo]).length) Slot.unset).toArray = ls at hl ⊢
  have hl : lv_has ls 5 [(0, .ref (X.1 0 0)), (1, .int (nI i)), (2, .int y), (3, .ref oo)] := hl
  have b0 := hI.n0
  have b1 := hI.n1
  have b2 := hI.n2
  have b3 := hI.n3
  have hNC := hMi
  have htab : c.exceptionTable.toList = [{ startPc := 0, endPc := 17, handlerPc := 20, catchType := 24 }, { startPc := 0, endPc := 17, handlerPc := 24, catchType := 13 }] := vx_table (x := yL_isConflict) B (hts _ List.mem_cons_self)
  refine lv_aload_n hx hb dL_isConflict_0 rfl (lv_at hl 3 rfl) ?_
  refine lv_iconst (v := 0) hx hb dL_isConflict_1 (by decide) ?_
  refine lv_aload_n hx hb dL_isConflict_2 rfl (lv_at hl 0 rfl) ?_
  refine lv_iload_n hx hb dL_isConflict_3 rfl (lv_at hl 1 rfl) ?_
  refine lv_iload_n hx hb dL_isConflict_4 rfl (lv_at hl 2 rfl) ?_
  refine wx_V (As := [.int (nI i), .int y]) (rest := [.int 0, .ref oo]) ⟨hx, hb, hml, hown, hts⟩ (t2_X5_isConflict l hlf E hA hI hi hbad) (cwV 2 hts gL_isConflict_X5_isConflict rfl rfl rfl (by decide +kernel) ⟨(Nat.le_of_ble_eq_true rfl), (Nat.le_of_ble_eq_true rfl)⟩) (wk_recv hK hA.desk rfl) hV rfl hl.1 rfl (Nat.le_of_ble_eq_true rfl) dL_isConflict_5 ⟨(Nat.le_of_ble_eq_true rfl), (Nat.le_of_ble_eq_true rfl)⟩ (fun ce q9 H hz9 hk9 hc9 hv9 hcl9 => ?_)
  refine vx_catch (name := "java/lang/IndexOutOfBoundsException") (E := "java/lang/IndexOutOfBoundsException") hown [] { startPc := 0, endPc := 17, handlerPc := 20, catchType := 24 } [{ startPc := 0, endPc := 17, handlerPc := 24, catchType := 13 }] htab (fun _ h => absurd h List.not_mem_nil) (by decide) (by decide) (hts _ (List.mem_of_getElem? (i := 1) rfl)) (va_Nw.use rfl (hV.2.2.1.1 "java/lang/IndexOutOfBoundsException" (by decide))) hc9 hv9 hcl9 ?_
  have hA := hA.kept (fun q hq _ => hk9 q hq)
  have hoo := va_at.kept hoo (hk9 _ hoo.lt)
  have hS : va_S (fun q => (fun q => z_FD T q ∨ q = oo) q ∨ s.heap.size ≤ q) s.heap H [] := ⟨hz9, fun q h1 _ => hk9 q h1, fun _ h => nomatch h⟩
  refine lv_astore (lv' := [(4, .ref q9), (0, .ref (X.1 0 0)), (1, .int (nI i)), (2, .int y), (3, .ref oo)]) hx hb dL_isConflict_20 hl (by decide) rfl (fun ls hl => ?_)
  refine lv_iconst (v := 1) hx hb dL_isConflict_22 (by decide) ?_
  refine W.widen (k := 2) (n := 30) (Nat.le_of_ble_eq_true rfl) (Nat.le_of_ble_eq_true rfl) ?_
  exact W.iret hx hb hr (we_end (Rt := wl_R E T X oo s.heap 1 (if false then (1 : Int64) else 0) (σ)) (F := fun q => z_FD T q ∨ q = oo) (⟨rfl, ⟨ov, hoo, fun z => absurd z (by decide)⟩, T, X, fun _ _ => rfl, rfl, hA⟩) hS) hS.2.2 dL_isConflict_23

set_option maxHeartbeats 4000000 in
set_option maxRecDepth 100000 in
theorem wf3_L_isConflict (l : Launch) (E : wk_E) (hlf : l.stackTraces = false) {T : Nat → Nat × Nat} {X : z_X} {σ : z_S} {H : Heap} (hA : DA E T X σ H) (hI : z_Ok σ) {oo : Nat} {ov : Nat → Int64} (hoo : va_at E.1 vwCl (oo, .inl (E.2.1.2.2, 1, .inr (.inl ov))) H) (hoT : T oo = (20, 0)) (hob : E.2.2.1 ≤ oo) {i : Nat} (hi : i < z_n σ 2) : we_MetP (wl_NC) l yL_isConflict wsL_isConflict rmW E H [.ref (X.1 0 0), .int (nI i), .int (nI i), .ref oo] (fun q => z_FD T q ∨ q = oo) 2 30 (wl_R E T X oo H 2 (if false then (1 : Int64) else 0) (σ)) := by
  refine wl_ofWH (cc := cL_isConflict) (maxL := 5) (ret := (some .int)) (hh := [(0, 17, 20, 24), (0, 17, 24, 13)]) (by decide) rfl ?_
  intro p e s m args below meth c s₁ B hml hv
  obtain ⟨rfl, ⟨hH, hV⟩, hMi⟩ := hv
  subst hH
  have hK := hV.k
  have hx := B.exec
  have hb := B.bytes
  have hr := B.returns
  have hts := atoms_spec (ws := wsL_isConflict) B.pre
  have hown : s.vm.findClass RL = some m.cls := findClass_of_methodNamed B.named
  have hlocks := B.notSynchronized
  have hS : va_S (fun q => (fun q => z_FD T q ∨ q = oo) q ∨ s.heap.size ≤ q) s.heap s.heap [] := va_S.rf
  have hA9 : ∀ q : Nat, s.heap.size ≤ q → ((fun q => z_FD T q ∨ q = oo) q ∨ s.heap.size ≤ q) := fun _ h => Or.inr h
  have hbA : ∀ q : Nat, q < E.2.2.1 → ¬ ((fun q => z_FD T q ∨ q = oo) q ∨ s.heap.size ≤ q) := fun q hq z => z.elim (fun z => Or.elim (show z_FD T q ∨ q = oo from z) (z_FDb hA.2.1 hq) (fun z => absurd hq (Nat.not_lt.mpr (z ▸ hob)))) (fun z => absurd (Nat.lt_of_lt_of_le hq hV.2.2.2.2.2.2) (Nat.not_lt.mpr z))
  have hl := lv_entry [.ref (X.1 0 0), .int (nI i), .int (nI i), .ref oo] (n := 5) (Nat.le_of_ble_eq_true rfl)
  rw [lg_entry_eq]
  generalize (lg_sl [.ref (X.1 0 0), .int (nI i), .int (nI i), .ref oo] ++ List.replicate (5 - (lg_sl [.ref (X.1 0 0), .int (nI i), .int (nI i), .ref oo]).length) Slot.unset).toArray = ls at hl ⊢
  have hl : lv_has ls 5 [(0, .ref (X.1 0 0)), (1, .int (nI i)), (2, .int (nI i)), (3, .ref oo)] := hl
  have b0 := hI.n0
  have b1 := hI.n1
  have b2 := hI.n2
  have b3 := hI.n3
  have hNC := hMi
  have htab : c.exceptionTable.toList = [{ startPc := 0, endPc := 17, handlerPc := 20, catchType := 24 }, { startPc := 0, endPc := 17, handlerPc := 24, catchType := 13 }] := vx_table (x := yL_isConflict) B (hts _ List.mem_cons_self)
  refine lv_aload_n hx hb dL_isConflict_0 rfl (lv_at hl 3 rfl) ?_
  refine lv_iconst (v := 0) hx hb dL_isConflict_1 (by decide) ?_
  refine lv_aload_n hx hb dL_isConflict_2 rfl (lv_at hl 0 rfl) ?_
  refine lv_iload_n hx hb dL_isConflict_3 rfl (lv_at hl 1 rfl) ?_
  refine lv_iload_n hx hb dL_isConflict_4 rfl (lv_at hl 2 rfl) ?_
  refine wx_V (As := [.int (nI i), .int (nI i)]) (rest := [.int 0, .ref oo]) ⟨hx, hb, hml, hown, hts⟩ (t3_X5_isConflict l hlf E hA hI hi) (cwV 2 hts gL_isConflict_X5_isConflict rfl rfl rfl (by decide +kernel) ⟨(Nat.le_of_ble_eq_true rfl), (Nat.le_of_ble_eq_true rfl)⟩) (wk_recv hK hA.desk rfl) hV rfl hl.1 rfl (Nat.le_of_ble_eq_true rfl) dL_isConflict_5 ⟨(Nat.le_of_ble_eq_true rfl), (Nat.le_of_ble_eq_true rfl)⟩ (fun ce q9 H hz9 hk9 hc9 hv9 hcl9 => ?_)
  refine vx_catch (name := "java/lang/IllegalArgumentException") (E := "java/lang/IllegalArgumentException") hown [{ startPc := 0, endPc := 17, handlerPc := 20, catchType := 24 }] { startPc := 0, endPc := 17, handlerPc := 24, catchType := 13 } [] htab (List.forall_mem_cons.mpr ⟨Or.inr ⟨by decide, "java/lang/IndexOutOfBoundsException", (hts _ (List.mem_of_getElem? (i := 1) rfl)), hNC _ (List.mem_of_getElem? (i := 4) rfl)⟩, fun _ h => absurd h List.not_mem_nil⟩) (by decide) (by decide) (hts _ (List.mem_of_getElem? (i := 2) rfl)) (va_Nw.use rfl (hV.2.2.1.1 "java/lang/IllegalArgumentException" (by decide))) hc9 hv9 hcl9 ?_
  have hA := hA.kept (fun q hq _ => hk9 q hq)
  have hoo := va_at.kept hoo (hk9 _ hoo.lt)
  have hS : va_S (fun q => (fun q => z_FD T q ∨ q = oo) q ∨ s.heap.size ≤ q) s.heap H [] := ⟨hz9, fun q h1 _ => hk9 q h1, fun _ h => nomatch h⟩
  refine lv_astore (lv' := [(4, .ref q9), (0, .ref (X.1 0 0)), (1, .int (nI i)), (2, .int (nI i)), (3, .ref oo)]) hx hb dL_isConflict_24 hl (by decide) rfl (fun ls hl => ?_)
  refine lv_iconst (v := 2) hx hb dL_isConflict_26 (by decide) ?_
  refine W.widen (k := 2) (n := 30) (Nat.le_of_ble_eq_true rfl) (Nat.le_of_ble_eq_true rfl) ?_
  exact W.iret hx hb hr (we_end (Rt := wl_R E T X oo s.heap 2 (if false then (1 : Int64) else 0) (σ)) (F := fun q => z_FD T q ∨ q = oo) (⟨rfl, ⟨ov, hoo, fun z => absurd z (by decide)⟩, T, X, fun _ _ => rfl, rfl, hA⟩) hS) hS.2.2 dL_isConflict_27
