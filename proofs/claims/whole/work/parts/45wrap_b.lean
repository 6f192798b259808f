set_option maxHeartbeats 4000000 in
set_option maxRecDepth 100000 in
theorem w_L_addPass (l : Launch) (E : wk_E) {T : Nat → Nat × Nat} {X : z_X} {σ : z_S} {H : Heap} (hA : DA E T X σ H) (hI : z_Ok σ) {oo : Nat} {ov : Nat → Int64} (hoo : va_at E.1 vwCl (oo, .inl (E.2.1.2.2, 1, .inr (.inl ov))) H) (hoT : T oo = (20, 0)) (hob : E.2.2.1 ≤ oo) (hZ : z_Zr σ) {i a : Nat} {x y : Int32} (hi : i < z_n σ 1) (ha : a < z_n σ 0) (hsp : v_span σ x y = true) (hlen : y - x ≤ 600) (hhe : f_hears σ a i = true) (hn : z_n σ 2 < 16) : we_MetP (wl_NC) l yL_addPass wsL_addPass rmW E H [.ref (X.1 0 0), .int (nI i), .int (nI a), .int x, .int y, .ref oo] (fun q => z_FD T q ∨ q = oo) 2 30 (wl_R E T X oo H 0 (Int32.toInt64 (nI (z_n σ 2))) (f_addP σ i a x y)) := by
  refine wl_ofWH (cc := cL_addPass) (maxL := 7) (ret := (some .int)) (hh := [(0, 14, 17, 24), (0, 14, 21, 13), (0, 14, 25, 15)]) (by decide) rfl ?_
  intro p e s m args below meth c s₁ B hml hv
  obtain ⟨rfl, ⟨hH, hV⟩, hMi⟩ := hv
  subst hH
  have hK := hV.k
  have hx := B.exec
  have hb := B.bytes
  have hr := B.returns
  have hts := atoms_spec (ws := wsL_addPass) B.pre
  have hown : s.vm.findClass RL = some m.cls := findClass_of_methodNamed B.named
  have hlocks := B.notSynchronized
  have hS : va_S (fun q => (fun q => z_FD T q ∨ q = oo) q ∨ s.heap.size ≤ q) s.heap s.heap [] := va_S.rf
  have hA9 : ∀ q : Nat, s.heap.size ≤ q → ((fun q => z_FD T q ∨ q = oo) q ∨ s.heap.size ≤ q) := fun _ h => Or.inr h
  have hbA : ∀ q : Nat, q < E.2.2.1 → ¬ ((fun q => z_FD T q ∨ q = oo) q ∨ s.heap.size ≤ q) := fun q hq z => z.elim (fun z => Or.elim (show z_FD T q ∨ q = oo from z) (z_FDb hA.2.1 hq) (fun z => absurd hq (Nat.not_lt.mpr (z ▸ hob)))) (fun z => absurd (Nat.lt_of_lt_of_le hq hV.2.2.2.2.2.2) (Nat.not_lt.mpr z))
  have hl := lv_entry [.ref (X.1 0 0), .int (nI i), .int (nI a), .int x, .int y, .ref oo] (n := 7) (Nat.le_of_ble_eq_true rfl)
  rw [lg_entry_eq]
  generalize (lg_sl [.ref (X.1 0 0), .int (nI i), .int (nI a), .int x, .int y, .ref oo] ++ List.replicate (7 - (lg_sl [.ref (X.1 0 0), .int (nI i), .int (nI a), .int x, .int y, .ref oo]).length) Slot.unset).toArray = ls at hl ⊢
  have hl : lv_has ls 7 [(0, .ref (X.1 0 0)), (1, .int (nI i)), (2, .int (nI a)), (3, .int x), (4, .int y), (5, .ref oo)] := hl
  have b0 := hI.n0
  have b1 := hI.n1
  have b2 := hI.n2
  have b3 := hI.n3
  have hNC := hMi
  have htab : c.exceptionTable.toList = [{ startPc := 0, endPc := 14, handlerPc := 17, catchType := 24 }, { startPc := 0, endPc := 14, handlerPc := 21, catchType := 13 }, { startPc := 0, endPc := 14, handlerPc := 25, catchType := 15 }] := vx_table (x := yL_addPass) B (hts _ List.mem_cons_self)
  refine lv_aload hx hb dL_addPass_0 (lv_at hl 5 rfl) ?_
  refine lv_iconst (v := 0) hx hb dL_addPass_2 (by decide) ?_
  refine lv_aload_n hx hb dL_addPass_3 rfl (lv_at hl 0 rfl) ?_
  refine lv_iload_n hx hb dL_addPass_4 rfl (lv_at hl 1 rfl) ?_
  refine lv_iload_n hx hb dL_addPass_5 rfl (lv_at hl 2 rfl) ?_
  refine lv_iload_n hx hb dL_addPass_6 rfl (lv_at hl 3 rfl) ?_
  refine lv_iload hx hb dL_addPass_7 (lv_at hl 4 rfl) ?_
  refine we_V (As := [.int (nI i), .int (nI a), .int x, .int y]) (rest := [.int 0, .ref oo]) ⟨hx, hb, hml, hown, hts⟩ (e_X5_addPass l E hA hI hZ hi ha hsp hlen hhe hn) (cwV 4 hts gL_addPass_X5_addPass rfl rfl rfl (by decide +kernel) ⟨(Nat.le_of_ble_eq_true rfl), (Nat.le_of_ble_eq_true rfl)⟩) (wk_recv hK hA.desk rfl) hV hS (fun _ h => Or.inl (Or.inl h)) hA9 rfl hl.1 rfl (Nat.le_of_ble_eq_true rfl) dL_addPass_9 ⟨(Nat.le_of_ble_eq_true rfl), (Nat.le_of_ble_eq_true rfl)⟩ (fun v9 H locs hR9 hz9 hk9 hS => ?_)
  obtain ⟨rfl, T9, X9, hT9, hX9, hA9x⟩ := hR9
  have hoT9 : T9 oo = (20, 0) := (hT9 _ hoo.lt).trans hoT
  have hoo := va_at.kept hoo (hk9 _ hoo.lt (wl_ooF hoT))
  refine wk_eqls (st' := [.int (nI (z_n σ 2)), .int 0, .ref oo]) rfl ?_
  refine lv_i2l (v := (nI (z_n σ 2)).toInt64) hx hb dL_addPass_12 rfl ?_
  refine wk_last (nn := 1) hx hb hK hoo (Or.inl (Or.inr rfl)) hS 0 rfl (by decide) (by decide) dL_addPass_13 (fun H locs hP9 hz9 hk9 hS => ?_)
  have hoo := hP9
  have hA9x := hA9x.kept (fun q _ hf => hk9 q (wl_ne hoT9 hf))
  refine lv_goto (tgt := 29) hx hb dL_addPass_14 (by decide) ?_
  refine lv_iconst (v := 0) hx hb dL_addPass_29 (by decide) ?_
  refine W.widen (k := 2) (n := 30) (Nat.le_of_ble_eq_true rfl) (Nat.le_of_ble_eq_true rfl) ?_
  exact W.iret hx hb hr (we_end (Rt := wl_R E T X oo s.heap 0 (Int32.toInt64 (nI (z_n σ 2))) (f_addP σ i a x y)) (F := fun q => z_FD T q ∨ q = oo) (⟨rfl, ⟨_, hoo, fun _ => (by simp [vp_updL])⟩, T9, X9, hT9, hX9, hA9x⟩) hS) hS.2.2 dL_addPass_30

set_option maxHeartbeats 4000000 in
set_option maxRecDepth 100000 in
theorem wf_L_addPass (l : Launch) (E : wk_E) (hlf : l.stackTraces = false) {T : Nat → Nat × Nat} {X : z_X} {σ : z_S} {H : Heap} (hA : DA E T X σ H) (hI : z_Ok σ) {oo : Nat} {ov : Nat → Int64} (hoo : va_at E.1 vwCl (oo, .inl (E.2.1.2.2, 1, .inr (.inl ov))) H) (hoT : T oo = (20, 0)) (hob : E.2.2.1 ≤ oo) {v9 w9 x y : Int32} (hbad : v_ix v9 (z_n σ 1) = false) : we_MetP (wl_NC) l yL_addPass wsL_addPass rmW E H [.ref (X.1 0 0), .int v9, .int w9, .int x, .int y, .ref oo] (fun q => z_FD T q ∨ q = oo) 2 30 (wl_R E T X oo H 1 (Int32.toInt64 0) (σ)) := by
  refine wl_ofWH (cc := cL_addPass) (maxL := 7) (ret := (some .int)) (hh := [(0, 14, 17, 24), (0, 14, 21, 13), (0, 14, 25, 15)]) (by decide) rfl ?_
  intro p e s m args below meth c s₁ B hml hv
  obtain ⟨rfl, ⟨hH, hV⟩, hMi⟩ := hv
  subst hH
  have hK := hV.k
  have hx := B.exec
  have hb := B.bytes
  have hr := B.returns
  have hts := atoms_spec (ws := wsL_addPass) B.pre
  have hown : s.vm.findClass RL = some m.cls := findClass_of_methodNamed B.named
  have hlocks := B.notSynchronized
  have hS : va_S (fun q => (fun q => z_FD T q ∨ q = oo) q ∨ s.heap.size ≤ q) s.heap s.heap [] := va_S.rf
  have hA9 : ∀ q : Nat, s.heap.size ≤ q → ((fun q => z_FD T q ∨ q = oo) q ∨ s.heap.size ≤ q) := fun _ h => Or.inr h
  have hbA : ∀ q : Nat, q < E.2.2.1 → ¬ ((fun q => z_FD T q ∨ q = oo) q ∨ s.heap.size ≤ q) := fun q hq z => z.elim (fun z => Or.elim (show z_FD T q ∨ q = oo from z) (z_FDb hA.2.1 hq) (fun z => absurd hq (Nat.not_lt.mpr (z ▸ hob)))) (fun z => absurd (Nat.lt_of_lt_of_le hq hV.2.2.2.2.2.2) (Nat.not_lt.mpr z))
  have hl := lv_entry [.ref (X.1 0 0), .int v9, .int w9, .int x, .int y, .ref oo] (n := 7) (Nat.le_of_ble_eq_true rfl)
  rw [lg_entry_eq]
  generalize (lg_sl [.ref (X.1 0 0), .int v9, .int w9, .int x, .int y, .ref oo] ++ List.replicate (7 - (lg_sl [.ref (X.1 0 0), .int v9, .int w9, .int x, .int y, .ref oo]).length) Slot.unset).toArray = ls at hl ⊢
  have hl : lv_has ls 7 [(0, .ref (X.1 0 0)), (1, .int v9), (2, .int w9), (3, .int x), (4, .int y), (5, .ref oo)] := hl
  have b0 := hI.n0
  have b1 := hI.n1
  have b2 := hI.n2
  have b3 := hI.n3
  have hNC := hMi
  have htab : c.exceptionTable.toList = [{ startPc := 0, endPc := 14, handlerPc := 17, catchType := 24 }, { startPc := 0, endPc := 14, handlerPc := 21, catchType := 13 }, { startPc := 0, endPc := 14, handlerPc := 25, catchType := 15 }] := vx_table (x := yL_addPass) B (hts _ List.mem_cons_self)
  refine lv_aload hx hb dL_addPass_0 (lv_at hl 5 rfl) ?_
  refine lv_iconst (v := 0) hx hb dL_addPass_2 (by decide) ?_
  refine lv_aload_n hx hb dL_addPass_3 rfl (lv_at hl 0 rfl) ?_
  refine lv_iload_n hx hb dL_addPass_4 rfl (lv_at hl 1 rfl) ?_
  refine lv_iload_n hx hb dL_addPass_5 rfl (lv_at hl 2 rfl) ?_
  refine lv_iload_n hx hb dL_addPass_6 rfl (lv_at hl 3 rfl) ?_
  refine lv_iload hx hb dL_addPass_7 (lv_at hl 4 rfl) ?_
  refine wx_V (As := [.int v9, .int w9, .int x, .int y]) (rest := [.int 0, .ref oo]) ⟨hx, hb, hml, hown, hts⟩ (t_X5_addPass l hlf E hA hI hbad) (cwV 4 hts gL_addPass_X5_addPass rfl rfl rfl (by decide +kernel) ⟨(Nat.le_of_ble_eq_true rfl), (Nat.le_of_ble_eq_true rfl)⟩) (wk_recv hK hA.desk rfl) hV rfl hl.1 rfl (Nat.le_of_ble_eq_true rfl) dL_addPass_9 ⟨(Nat.le_of_ble_eq_true rfl), (Nat.le_of_ble_eq_true rfl)⟩ (fun ce q9 H hz9 hk9 hc9 hv9 hcl9 => ?_)
  refine vx_catch (name := "java/lang/IndexOutOfBoundsException") (E := "java/lang/IndexOutOfBoundsException") hown [] { startPc := 0, endPc := 14, handlerPc := 17, catchType := 24 } [{ startPc := 0, endPc := 14, handlerPc := 21, catchType := 13 }, { startPc := 0, endPc := 14, handlerPc := 25, catchType := 15 }] htab (fun _ h => absurd h List.not_mem_nil) (by decide) (by decide) (hts _ (List.mem_of_getElem? (i := 1) rfl)) (va_Nw.use rfl (hV.2.2.1.1 "java/lang/IndexOutOfBoundsException" (by decide))) hc9 hv9 hcl9 ?_
  have hA := hA.kept (fun q hq _ => hk9 q hq)
  have hoo := va_at.kept hoo (hk9 _ hoo.lt)
  have hS : va_S (fun q => (fun q => z_FD T q ∨ q = oo) q ∨ s.heap.size ≤ q) s.heap H [] := ⟨hz9, fun q h1 _ => hk9 q h1, fun _ h => nomatch h⟩
  refine lv_astore (lv' := [(6, .ref q9), (0, .ref (X.1 0 0)), (1, .int v9), (2, .int w9), (3, .int x), (4, .int y), (5, .ref oo)]) hx hb dL_addPass_17 hl (by decide) rfl (fun ls hl => ?_)
  refine lv_iconst (v := 1) hx hb dL_addPass_19 (by decide) ?_
  refine W.widen (k := 2) (n := 30) (Nat.le_of_ble_eq_true rfl) (Nat.le_of_ble_eq_true rfl) ?_
  exact W.iret hx hb hr (we_end (Rt := wl_R E T X oo s.heap 1 (Int32.toInt64 0) (σ)) (F := fun q => z_FD T q ∨ q = oo) (⟨rfl, ⟨ov, hoo, fun z => absurd z (by decide)⟩, T, X, fun _ _ => rfl, rfl, hA⟩) hS) hS.2.2 dL_addPass_20

set_option maxHeartbeats 4000000 in
set_option maxRecDepth 100000 in
theorem wf2_L_addPass (l : Launch) (E : wk_E) (hlf : l.stackTraces = false) {T : Nat → Nat × Nat} {X : z_X} {σ : z_S} {H : Heap} (hA : DA E T X σ H) (hI : z_Ok σ) {oo : Nat} {ov : Nat → Int64} (hoo : va_at E.1 vwCl (oo, .inl (E.2.1.2.2, 1, .inr (.inl ov))) H) (hoT : T oo = (20, 0)) (hob : E.2.2.1 ≤ oo) {i : Nat} {w9 x y : Int32} (hi : i < z_n σ 1) (hbad : v_ix w9 (z_n σ 0) = false) : we_MetP (wl_NC) l yL_addPass wsL_addPass rmW E H [.ref (X.1 0 0), .int (nI i), .int w9, .int x, .int y, .ref oo] (fun q => z_FD T q ∨ q = oo) 2 30 (wl_R E T X oo H 1 (Int32.toInt64 0) (σ)) := by
  refine wl_ofWH (cc := cL_addPass) (maxL := 7) (ret := (some .int)) (hh := [(0, 14, 17, 24), (0, 14, 21, 13), (0, 14, 25, 15)]) (by decide) rfl ?_
  intro p e s m args below meth c s₁ B hml hv
  obtain ⟨rfl, ⟨hH, hV⟩, hMi⟩ := hv
  subst hH
  have hK := hV.k
  have hx := B.exec
  have hb := B.bytes
  have hr := B.returns
  have hts := atoms_spec (ws := wsL_addPass) B.pre
  have hown : s.vm.findClass RL = some m.cls := findClass_of_methodNamed B.named
  have hlocks := B.notSynchronized
  have hS : va_S (fun q => (fun q => z_FD T q ∨ q = oo) q ∨ s.heap.size ≤ q) s.heap s.heap [] := va_S.rf
  have hA9 : ∀ q : Nat, s.heap.size ≤ q → ((fun q => z_FD T q ∨ q = oo) q ∨ s.heap.size ≤ q) := fun _ h => Or.inr h
  have hbA : ∀ q : Nat, q < E.2.2.1 → ¬ ((fun q => z_FD T q ∨ q = oo) q ∨ s.heap.size ≤ q) := fun q hq z => z.elim (fun z => Or.elim (show z_FD T q ∨ q = oo from z) (z_FDb hA.2.1 hq) (fun z => absurd hq (Nat.not_lt.mpr (z ▸ hob)))) (fun z => absurd (Nat.lt_of_lt_of_le hq hV.2.2.2.2.2.2) (Nat.not_lt.mpr z))
  have hl := lv_entry [.ref (X.1 0 0), .int (nI i), .int w9, .int x, .int y, .ref oo] (n := 7) (Nat.le_of_ble_eq_true rfl)
  rw [lg_entry_eq]
  generalize (lg_sl [.ref (X.1 0 0), .int (nI i), .int w9, .int x, .int y, .ref oo] ++ List.replicate (7 - (lg_sl [.ref (X.1 0 0), .int (nI i), .int w9, .int x, .int y, .ref oo]).length) Slot.unset).toArray = ls at hl ⊢
  have hl : lv_has ls 7 [(0, .ref (X.1 0 0)), (1, .int (nI i)), (2, .int w9), (3, .int x), (4, .int y), (5, .ref oo)] := hl
  have b0 := hI.n0
  have b1 := hI.n1
  have b2 := hI.n2
  have b3 := hI.n3
  have hNC := hMi
  have htab : c.exceptionTable.toList = [{ startPc := 0, endPc := 14, handlerPc := 17, catchType := 24 }, { startPc := 0, endPc := 14, handlerPc := 21, catchType := 13 }, { startPc := 0, endPc := 14, handlerPc := 25, catchType := 15 }] := vx_table (x := yL_addPass) B (hts _ List.mem_cons_self)
  refine lv_aload hx hb dL_addPass_0 (lv_at hl 5 rfl) ?_
  refine lv_iconst (v := 0) hx hb dL_addPass_2 (by decide) ?_
  refine lv_aload_n hx hb dL_addPass_3 rfl (lv_at hl 0 rfl) ?_
  refine lv_iload_n hx hb dL_addPass_4 rfl (lv_at hl 1 rfl) ?_
  refine lv_iload_n hx hb dL_addPass_5 rfl (lv_at hl 2 rfl) ?_
  refine lv_iload_n hx hb dL_addPass_6 rfl (lv_at hl 3 rfl) ?_
  refine lv_iload hx hb dL_addPass_7 (lv_at hl 4 rfl) ?_
  refine wx_V (As := [.int (nI i), .int w9, .int x, .int y]) (rest := [.int 0, .ref oo]) ⟨hx, hb, hml, hown, hts⟩ (t2_X5_addPass l hlf E hA hI hi hbad) (cwV 4 hts gL_addPass_X5_addPass rfl rfl rfl (by decide +kernel) ⟨(Nat.le_of_ble_eq_true rfl), (Nat.le_of_ble_eq_true rfl)⟩) (wk_recv hK hA.desk rfl) hV rfl hl.1 rfl (Nat.le_of_ble_eq_true rfl) dL_addPass_9 ⟨(Nat.le_of_ble_eq_true rfl), (Nat.le_of_ble_eq_true rfl)⟩ (fun ce q9 H hz9 hk9 hc9 hv9 hcl9 => ?_)
  refine vx_catch (name := "java/lang/IndexOutOfBoundsException") (E := "java/lang/IndexOutOfBoundsException") hown [] { startPc := 0, endPc := 14, handlerPc := 17, catchType := 24 } [{ startPc := 0, endPc := 14, handlerPc := 21, catchType := 13 }, { startPc := 0, endPc := 14, handlerPc := 25, catchType := 15 }] htab (fun _ h => absurd h List.not_mem_nil) (by decide) (by decide) (hts _ (List.mem_of_getElem? (i := 1) rfl)) (va_Nw.use rfl (hV.2.2.1.1 "java/lang/IndexOutOfBoundsException" (by decide))) hc9 hv9 hcl9 ?_
  have hA := hA.kept (fun q hq _ => hk9 q hq)
  have hoo := va_at.kept hoo (hk9 _ hoo.lt)
  have hS : va_S (fun q => (fun q => z_FD T q ∨ q = oo) q ∨ s.heap.size ≤ q) s.heap H [] := ⟨hz9, fun q h1 _ => hk9 q h1, fun _ h => nomatch h⟩
  refine lv_astore (lv' := [(6, .ref q9), (0, .ref (X.1 0 0)), (1, .int (nI i)), (2, .int w9), (3, .int x), (4, .int y), (5, .ref oo)]) hx hb dL_addPass_17 hl (by decide) rfl (fun ls hl => ?_)
  refine lv_iconst (v := 1) hx hb dL_addPass_19 (by decide) ?_
  refine W.widen (k := 2) (n := 30) (Nat.le_of_ble_eq_true rfl) (Nat.le_of_ble_eq_true rfl) ?_
  exact W.iret hx hb hr (we_end (Rt := wl_R E T X oo s.heap 1 (Int32.toInt64 0) (σ)) (F := fun q => z_FD T q ∨ q = oo) (⟨rfl, ⟨ov, hoo, fun z => absurd z (by decide)⟩, T, X, fun _ _ => rfl, rfl, hA⟩) hS) hS.2.2 dL_addPass_20

set_option maxHeartbeats 4000000 in
set_option maxRecDepth 100000 in
theorem wf3_L_addPass (l : Launch) (E : wk_E) (hlf : l.stackTraces = false) {T : Nat → Nat × Nat} {X : z_X} {σ : z_S} {H : Heap} (hA : DA E T X σ H) (hI : z_Ok σ) {oo : Nat} {ov : Nat → Int64} (hoo : va_at E.1 vwCl (oo, .inl (E.2.1.2.2, 1, .inr (.inl ov))) H) (hoT : T oo = (20, 0)) (hob : E.2.2.1 ≤ oo) {i a : Nat} {x y : Int32} (hi : i < z_n σ 1) (ha : a < z_n σ 0) (hbad : v_span σ x y = false) : we_MetP (wl_NC) l yL_addPass wsL_addPass rmW E H [.ref (X.1 0 0), .int (nI i), .int (nI a), .int x, .int y, .ref oo] (fun q => z_FD T q ∨ q = oo) 2 30 (wl_R E T X oo H 2 (Int32.toInt64 0) (σ)) := by
  refine wl_ofWH (cc := cL_addPass) (maxL := 7) (ret := (some .int)) (hh := [(0, 14, 17, 24), (0, 14, 21, 13), (0, 14, 25, 15)]) (by decide) rfl ?_
  intro p e s m args below meth c s₁ B hml hv
  obtain ⟨rfl, ⟨hH, hV⟩, hMi⟩ := hv
  subst hH
  have hK := hV.k
  have hx := B.exec
  have hb := B.bytes
  have hr := B.returns
  have hts := atoms_spec (ws := wsL_addPass) B.pre
  have hown : s.vm.findClass RL = some m.cls := findClass_of_methodNamed B.named
  have hlocks := B.notSynchronized
  have hS : va_S (fun q => (fun q => z_FD T q ∨ q = oo) q ∨ s.heap.size ≤ q) s.heap s.heap [] := va_S.rf
  have hA9 : ∀ q : Nat, s.heap.size ≤ q → ((fun q => z_FD T q ∨ q = oo) q ∨ s.heap.size ≤ q) := fun _ h => Or.inr h
  have hbA : ∀ q : Nat, q < E.2.2.1 → ¬ ((fun q => z_FD T q ∨ q = oo) q ∨ s.heap.size ≤ q) := fun q hq z => z.elim (fun z => Or.elim (show z_FD T q ∨ q = oo from z) (z_FDb hA.2.1 hq) (fun z => absurd hq (Nat.not_lt.mpr (z ▸ hob)))) (fun z => absurd (Nat.lt_of_lt_of_le hq hV.2.2.2.2.2.2) (Nat.not_lt.mpr z))
  have hl := lv_entry [.ref (X.1 0 0), .int (nI i), .int (nI a), .int x, .int y, .ref oo] (n := 7) (Nat.le_of_ble_eq_true rfl)
  rw [lg_entry_eq]
  generalize (lg_sl [.ref (X.1 0 0), .int (nI i), .int (nI a), .int x, .int y, .ref oo] ++ List.replicate (7 - (lg_sl [.ref (X.1 0 0), .int (nI i), .int (nI a), .int x, .int y, .ref oo]).length) Slot.unset).toArray = ls at hl ⊢
  have hl : lv_has ls 7 [(0, .ref (X.1 0 0)), (1, .int (nI i)), (2, .int (nI a)), (3, .int x), (4, .int y), (5, .ref oo)] := hl
  have b0 := hI.n0
  have b1 := hI.n1
  have b2 := hI.n2
  have b3 := hI.n3
  have hNC := hMi
  have htab : c.exceptionTable.toList = [{ startPc := 0, endPc := 14, handlerPc := 17, catchType := 24 }, { startPc := 0, endPc := 14, handlerPc := 21, catchType := 13 }, { startPc := 0, endPc := 14, handlerPc := 25, catchType := 15 }] := vx_table (x := yL_addPass) B (hts _ List.mem_cons_self)
  refine lv_aload hx hb dL_addPass_0 (lv_at hl 5 rfl) ?_
  refine lv_iconst (v := 0) hx hb dL_addPass_2 (by decide) ?_
  refine lv_aload_n hx hb dL_addPass_3 rfl (lv_at hl 0 rfl) ?_
  refine lv_iload_n hx hb dL_addPass_4 rfl (lv_at hl 1 rfl) ?_
  refine lv_iload_n hx hb dL_addPass_5 rfl (lv_at hl 2 rfl) ?_
  refine lv_iload_n hx hb dL_addPass_6 rfl (lv_at hl 3 rfl) ?_
  refine lv_iload hx hb dL_addPass_7 (lv_at hl 4 rfl) ?_
  refine wx_V (As := [.int (nI i), .int (nI a), .int x, .int y]) (rest := [.int 0, .ref oo]) ⟨hx, hb, hml, hown, hts⟩ (t3_X5_addPass l hlf E hA hI hi ha hbad) (cwV 4 hts gL_addPass_X5_addPass rfl rfl rfl (by decide +kernel) ⟨(Nat.le_of_ble_eq_true rfl), (Nat.le_of_ble_eq_true rfl)⟩) (wk_recv hK hA.desk rfl) hV rfl hl.1 rfl (Nat.le_of_ble_eq_true rfl) dL_addPass_9 ⟨(Nat.le_of_ble_eq_true rfl), (Nat.le_of_ble_eq_true rfl)⟩ (fun ce q9 H hz9 hk9 hc9 hv9 hcl9 => ?_)
  refine vx_catch (name := "java/lang/IllegalArgumentException") (E := "java/lang/IllegalArgumentException") hown [{ startPc := 0, endPc := 14, handlerPc := 17, catchType := 24 }] { startPc := 0, endPc := 14, handlerPc := 21, catchType := 13 } [{ startPc := 0, endPc := 14, handlerPc := 25, catchType := 15 }] htab (List.forall_mem_cons.mpr ⟨Or.inr ⟨by decide, "java/lang/IndexOutOfBoundsException", (hts _ (List.mem_of_getElem? (i := 1) rfl)), hNC _ (List.mem_of_getElem? (i := 4) rfl)⟩, fun _ h => absurd h List.not_mem_nil⟩) (by decide) (by decide) (hts _ (List.mem_of_getElem? (i := 2) rfl)) (va_Nw.use rfl (hV.2.2.1.1 "java/lang/IllegalArgumentException" (by decide))) hc9 hv9 hcl9 ?_
  have hA := hA.kept (fun q hq _ => hk9 q hq)
  have hoo := va_at.kept hoo (hk9 _ hoo.lt)
  have hS : va_S (fun q => (fun q => z_FD T q ∨ q = oo) q ∨ s.heap.size ≤ q) s.heap H [] := ⟨hz9, fun q h1 _ => hk9 q h1, fun _ h => nomatch h⟩
  refine lv_astore (lv' := [(6, .ref q9), (0, .ref (X.1 0 0)), (1, .int (nI i)), (2, .int (nI a)), (3, .int x), (4, .int y), (5, .ref oo)]) hx hb dL_addPass_21 hl (by decide) rfl (fun ls hl => ?_)
  refine lv_iconst (v := 2) hx hb dL_addPass_23 (by decide) ?_
  refine W.widen (k := 2) (n := 30) (Nat.le_of_ble_eq_true rfl) (Nat.le_of_ble_eq_true rfl) ?_
  exact W.iret hx hb hr (we_end (Rt := wl_R E T X oo s.heap 2 (Int32.toInt64 0) (σ)) (F := fun q => z_FD T q ∨ q = oo) (⟨rfl, ⟨ov, hoo, fun z => absurd z (by decide)⟩, T, X, fun _ _ => rfl, rfl, hA⟩) hS) hS.2.2 dL_addPass_24

set_option maxHeartbeats 4000000 in
set_option maxRecDepth 100000 in
theorem wf4_L_addPass (l : Launch) (E : wk_E) (hlf : l.stackTraces = false) {T : Nat → Nat × Nat} {X : z_X} {σ : z_S} {H : Heap} (hA : DA E T X σ H) (hI : z_Ok σ) {oo : Nat} {ov : Nat → Int64} (hoo : va_at E.1 vwCl (oo, .inl (E.2.1.2.2, 1, .inr (.inl ov))) H) (hoT : T oo = (20, 0)) (hob : E.2.2.1 ≤ oo) {i a : Nat} {x y : Int32} (hi : i < z_n σ 1) (ha : a < z_n σ 0) (hsp : v_span σ x y = true) (hbad : ¬ y - x ≤ 600) : we_MetP (wl_NC) l yL_addPass wsL_addPass rmW E H [.ref (X.1 0 0), .int (nI i), .int (nI a), .int x, .int y, .ref oo] (fun q => z_FD T q ∨ q = oo) 2 30 (wl_R E T X oo H 2 (Int32.toInt64 0) (σ)) := by
  refine wl_ofWH (cc := cL_addPass) (maxL := 7) (ret := (some .int)) (hh := [(0, 14, 17, 24), (0, 14, 21, 13), (0, 14, 25, 15)]) (by decide) rfl ?_
  intro p e s m args below meth c s₁ B hml hv
  obtain ⟨rfl, ⟨hH, hV⟩, hMi⟩ := hv
  subst hH
  have hK := hV.k
  have hx := B.exec
  have hb := B.bytes
  have hr := B.returns
  have hts := atoms_spec (ws := wsL_addPass) B.pre
  have hown : s.vm.findClass RL = some m.cls := findClass_of_methodNamed B.named
  have hlocks := B.notSynchronized
  have hS : va_S (fun q => (fun q => z_FD T q ∨ q = oo) q ∨ s.heap.size ≤ q) s.heap s.heap [] := va_S.rf
  have hA9 : ∀ q : Nat, s.heap.size ≤ q → ((fun q => z_FD T q ∨ q = oo) q ∨ s.heap.size ≤ q) := fun _ h => Or.inr h
  have hbA : ∀ q : Nat, q < E.2.2.1 → ¬ ((fun q => z_FD T q ∨ q = oo) q ∨ s.heap.size ≤ q) := fun q hq z => z.elim (fun z => Or.elim (show z_FD T q ∨ q = oo from z) (z_FDb hA.2.1 hq) (fun z => absurd hq (Nat.not_lt.mpr (z ▸ hob)))) (fun z => absurd (Nat.lt_of_lt_of_le hq hV.2.2.2.2.2.2) (Nat.not_lt.mpr z))
  have hl := lv_entry [.ref (X.1 0 0), .int (nI i), .int (nI a), .int x, .int y, .ref oo] (n := 7) (Nat.le_of_ble_eq_true rfl)
  rw [lg_entry_eq]
  generalize (lg_sl [.ref (X.1 0 0), .int (nI i), .int (nI a), .int x, .int y, .ref oo] ++ List.replicate (7 - (lg_sl [.ref (X.1 0 0), .int (nI i), .int (nI a), .int x, .int y, .ref oo]).length) Slot.unset).toArray = ls at hl ⊢
  have hl : lv_has ls 7 [(0, .ref (X.1 0 0)), (1, .int (nI i)), (2, .int (nI a)), (3, .int x), (4, .int y), (5, .ref oo)] := hl
  have b0 := hI.n0
  have b1 := hI.n1
  have b2 := hI.n2
  have b3 := hI.n3
  have hNC := hMi
  have htab : c.exceptionTable.toList = [{ startPc := 0, endPc := 14, handlerPc := 17, catchType := 24 }, { startPc := 0, endPc := 14, handlerPc := 21, catchType := 13 }, { startPc := 0, endPc := 14, handlerPc := 25, catchType := 15 }] := vx_table (x := yL_addPass) B (hts _ List.mem_cons_self)
  refine lv_aload hx hb dL_addPass_0 (lv_at hl 5 rfl) ?_
  refine lv_iconst (v := 0) hx hb dL_addPass_2 (by decide) ?_
  refine lv_aload_n hx hb dL_addPass_3 rfl (lv_at hl 0 rfl) ?_
  refine lv_iload_n hx hb dL_addPass_4 rfl (lv_at hl 1 rfl) ?_
  refine lv_iload_n hx hb dL_addPass_5 rfl (lv_at hl 2 rfl) ?_
  refine lv_iload_n hx hb dL_addPass_6 rfl (lv_at hl 3 rfl) ?_
  refine lv_iload hx hb dL_addPass_7 (lv_at hl 4 rfl) ?_
  refine wx_V (As := [.int (nI i), .int (nI a), .int x, .int y]) (rest := [.int 0, .ref oo]) ⟨hx, hb, hml, hown, hts⟩ (t4_X5_addPass l hlf E hA hI hi ha hsp hbad) (cwV 4 hts gL_addPass_X5_addPass rfl rfl rfl (by decide +kernel) ⟨(Nat.le_of_ble_eq_true rfl), (Nat.le_of_ble_eq_true rfl)⟩) (wk_recv hK hA.desk rfl) hV rfl hl.1 rfl (Nat.le_of_ble_eq_true rfl) dL_addPass_9 ⟨(Nat.le_of_ble_eq_true rfl), (Nat.le_of_ble_eq_true rfl)⟩ (fun ce q9 H hz9 hk9 hc9 hv9 hcl9 => ?_)
  refine vx_catch (name := "java/lang/IllegalArgumentException") (E := "java/lang/IllegalArgumentException") hown [{ startPc := 0, endPc := 14, handlerPc := 17, catchType := 24 }] { startPc := 0, endPc := 14, handlerPc := 21, catchType := 13 } [{ startPc := 0, endPc := 14, handlerPc := 25, catchType := 15 }] htab (List.forall_mem_cons.mpr ⟨Or.inr ⟨by decide, "java/lang/IndexOutOfBoundsException", (hts _ (List.mem_of_getElem? (i := 1) rfl)), hNC _ (List.mem_of_getElem? (i := 4) rfl)⟩, fun _ h => absurd h List.not_mem_nil⟩) (by decide) (by decide) (hts _ (List.mem_of_getElem? (i := 2) rfl)) (va_Nw.use rfl (hV.2.2.1.1 "java/lang/IllegalArgumentException" (by decide))) hc9 hv9 hcl9 ?_
  have hA := hA.kept (fun q hq _ => hk9 q hq)
  have hoo := va_at.kept hoo (hk9 _ hoo.lt)
  have hS : va_S (fun q => (fun q => z_FD T q ∨ q = oo) q ∨ s.heap.size ≤ q) s.heap H [] := ⟨hz9, fun q h1 _ => hk9 q h1, fun _ h => nomatch h⟩
  refine lv_astore (lv' := [(6, .ref q9), (0, .ref (X.1 0 0)), (1, .int (nI i)), (2, .int (nI a)), (3, .int x), (4, .int y), (5, .ref oo)]) hx hb dL_addPass_21 hl (by decide) rfl (fun ls hl => ?_)
  refine lv_iconst (v := 2) hx hb dL_addPass_23 (by decide) ?_
  refine W.widen (k := 2) (n := 30) (Nat.le_of_ble_eq_true rfl) (Nat.le_of_ble_eq_true rfl) ?_
  exact W.iret hx hb hr (we_end (Rt := wl_R E T X oo s.heap 2 (Int32.toInt64 0) (σ)) (F := fun q => z_FD T q ∨ q = oo) (⟨rfl, ⟨ov, hoo, fun z => absurd z (by decide)⟩, T, X, fun _ _ => rfl, rfl, hA⟩) hS) hS.2.2 dL_addPass_24

set_option maxHeartbeats 4000000 in
set_option maxRecDepth 100000 in
theorem wf5_L_addPass (l : Launch) (E : wk_E) (hlf : l.stackTraces = false) {T : Nat → Nat × Nat} {X : z_X} {σ : z_S} {H : Heap} (hA : DA E T X σ H) (hI : z_Ok σ) {oo : Nat} {ov : Nat → Int64} (hoo : va_at E.1 vwCl (oo, .inl (E.2.1.2.2, 1, .inr (.inl ov))) H) (hoT : T oo = (20, 0)) (hob : E.2.2.1 ≤ oo) {i a : Nat} {x y : Int32} (hi : i < z_n σ 1) (ha : a < z_n σ 0) (hsp : v_span σ x y = true) (hlen : y - x ≤ 600) (hbad : f_hears σ a i = false) : we_MetP (wl_NC) l yL_addPass wsL_addPass rmW E H [.ref (X.1 0 0), .int (nI i), .int (nI a), .int x, .int y, .ref oo] (fun q => z_FD T q ∨ q = oo) 2 30 (wl_R E T X oo H 2 (Int32.toInt64 0) (σ)) := by
  refine wl_ofWH (cc := cL_addPass) (maxL := 7) (ret := (some .int)) (hh := [(0, 14, 17, 24), (0, 14, 21, 13), (0, 14, 25, 15)]) (by decide) rfl ?_
  intro p e s m args below meth c s₁ B hml hv
  obtain ⟨rfl, ⟨hH, hV⟩, hMi⟩ := hv
  subst hH
  have hK := hV.k
  have hx := B.exec
  have hb := B.bytes
  have hr := B.returns
  have hts := atoms_spec (ws := wsL_addPass) B.pre
  have hown : s.vm.findClass RL = some m.cls := findClass_of_methodNamed B.named
  have hlocks := B.notSynchronized
  have hS : va_S (fun q => (fun q => z_FD T q ∨ q = oo) q ∨ s.heap.size ≤ q) s.heap s.heap [] := va_S.rf
  have hA9 : ∀ q : Nat, s.heap.size ≤ q → ((fun q => z_FD T q ∨ q = oo) q ∨ s.heap.size ≤ q) := fun _ h => Or.inr h
  have hbA : ∀ q : Nat, q < E.2.2.1 → ¬ ((fun q => z_FD T q ∨ q = oo) q ∨ s.heap.size ≤ q) := fun q hq z => z.elim (fun z => Or.elim (show z_FD T q ∨ q = oo from z) (z_FDb hA.2.1 hq) (fun z => absurd hq (Nat.not_lt.mpr (z ▸ hob)))) (fun z => absurd (Nat.lt_of_lt_of_le hq hV.2.2.2.2.2.2) (Nat.not_lt.mpr z))
  have hl := lv_entry [.ref (X.1 0 0), .int (nI i), .int (nI a), .int x, .int y, .ref oo] (n := 7) (Nat.le_of_ble_eq_true rfl)
  rw [lg_entry_eq]
  generalize (lg_sl [.ref (X.1 0 0), .int (nI i), .int (nI a), .int x, .int y, .ref oo] ++ List.replicate (7 - (lg_sl [.ref (X.1 0 0), .int (nI i), .int (nI a), .int x, .int y, .ref oo]).length) Slot.unset).toArray = ls at hl ⊢
  have hl : lv_has ls 7 [(0, .ref (X.1 0 0)), (1, .int (nI i)), (2, .int (nI a)), (3, .int x), (4, .int y), (5, .ref oo)] := hl
  have b0 := hI.n0
  have b1 := hI.n1
  have b2 := hI.n2
  have b3 := hI.n3
  have hNC := hMi
  have htab : c.exceptionTable.toList = [{ startPc := 0, endPc := 14, handlerPc := 17, catchType := 24 }, { startPc := 0, endPc := 14, handlerPc := 21, catchType := 13 }, { startPc := 0, endPc := 14, handlerPc := 25, catchType := 15 }] := vx_table (x := yL_addPass) B (hts _ List.mem_cons_self)
  refine lv_aload hx hb dL_addPass_0 (lv_at hl 5 rfl) ?_
  refine lv_iconst (v := 0) hx hb dL_addPass_2 (by decide) ?_
  refine lv_aload_n hx hb dL_addPass_3 rfl (lv_at hl 0 rfl) ?_
  refine lv_iload_n hx hb dL_addPass_4 rfl (lv_at hl 1 rfl) ?_
  refine lv_iload_n hx hb dL_addPass_5 rfl (lv_at hl 2 rfl) ?_
  refine lv_iload_n hx hb dL_addPass_6 rfl (lv_at hl 3 rfl) ?_
  refine lv_iload hx hb dL_addPass_7 (lv_at hl 4 rfl) ?_
  refine wx_V (As := [.int (nI i), .int (nI a), .int x, .int y]) (rest := [.int 0, .ref oo]) ⟨hx, hb, hml, hown, hts⟩ (t5_X5_addPass l hlf E hA hI hi ha hsp hlen hbad) (cwV 4 hts gL_addPass_X5_addPass rfl rfl rfl (by decide +kernel) ⟨(Nat.le_of_ble_eq_true rfl), (Nat.le_of_ble_eq_true rfl)⟩) (wk_recv hK hA.desk rfl) hV rfl hl.1 rfl (Nat.le_of_ble_eq_true rfl) dL_addPass_9 ⟨(Nat.le_of_ble_eq_true rfl), (Nat.le_of_ble_eq_true rfl)⟩ (fun ce q9 H hz9 hk9 hc9 hv9 hcl9 => ?_)
  refine vx_catch (name := "java/lang/IllegalArgumentException") (E := "java/lang/IllegalArgumentException") hown [{ startPc := 0, endPc := 14, handlerPc := 17, catchType := 24 }] { startPc := 0, endPc := 14, handlerPc := 21, catchType := 13 } [{ startPc := 0, endPc := 14, handlerPc := 25, catchType := 15 }] htab (List.forall_mem_cons.mpr ⟨Or.inr ⟨by decide, "java/lang/IndexOutOfBoundsException", (hts _ (List.mem_of_getElem? (i := 1) rfl)), hNC _ (List.mem_of_getElem? (i := 4) rfl)⟩, fun _ h => absurd h List.not_mem_nil⟩) (by decide) (by decide) (hts _ (List.mem_of_getElem? (i := 2) rfl)) (va_Nw.use rfl (hV.2.2.1.1 "java/lang/IllegalArgumentException" (by decide))) hc9 hv9 hcl9 ?_
  have hA := hA.kept (fun q hq _ => hk9 q hq)
  have hoo := va_at.kept hoo (hk9 _ hoo.lt)
  have hS : va_S (fun q => (fun q => z_FD T q ∨ q = oo) q ∨ s.heap.size ≤ q) s.heap H [] := ⟨hz9, fun q h1 _ => hk9 q h1, fun _ h => nomatch h⟩
  refine lv_astore (lv' := [(6, .ref q9), (0, .ref (X.1 0 0)), (1, .int (nI i)), (2, .int (nI a)), (3, .int x), (4, .int y), (5, .ref oo)]) hx hb dL_addPass_21 hl (by decide) rfl (fun ls hl => ?_)
  refine lv_iconst (v := 2) hx hb dL_addPass_23 (by decide) ?_
  refine W.widen (k := 2) (n := 30) (Nat.le_of_ble_eq_true rfl) (Nat.le_of_ble_eq_true rfl) ?_
  exact W.iret hx hb hr (we_end (Rt := wl_R E T X oo s.heap 2 (Int32.toInt64 0) (σ)) (F := fun q => z_FD T q ∨ q = oo) (⟨rfl, ⟨ov, hoo, fun z => absurd z (by decide)⟩, T, X, fun _ _ => rfl, rfl, hA⟩) hS) hS.2.2 dL_addPass_24

set_option maxHeartbeats 4000000 in
set_option maxRecDepth 100000 in
theorem wf6_L_addPass (l : Launch) (E : wk_E) (hlf : l.stackTraces = false) {T : Nat → Nat × Nat} {X : z_X} {σ : z_S} {H : Heap} (hA : DA E T X σ H) (hI : z_Ok σ) {oo : Nat} {ov : Nat → Int64} (hoo : va_at E.1 vwCl (oo, .inl (E.2.1.2.2, 1, .inr (.inl ov))) H) (hoT : T oo = (20, 0)) (hob : E.2.2.1 ≤ oo) {i a : Nat} {x y : Int32} (hi : i < z_n σ 1) (ha : a < z_n σ 0) (hsp : v_span σ x y = true) (hlen : y - x ≤ 600) (hhe : f_hears σ a i = true) (hn : ¬ z_n σ 2 < 16) : we_MetP (wl_NC) l yL_addPass wsL_addPass rmW E H [.ref (X.1 0 0), .int (nI i), .int (nI a), .int x, .int y, .ref oo] (fun q => z_FD T q ∨ q = oo) 2 30 (wl_R E T X oo H 3 (Int32.toInt64 0) (σ)) := by
  refine wl_ofWH (cc := cL_addPass) (maxL := 7) (ret := (some .int)) (hh := [(0, 14, 17, 24), (0, 14, 21, 13), (0, 14, 25, 15)]) (by decide) rfl ?_
  intro p e s m args below meth c s₁ B hml hv
  obtain ⟨rfl, ⟨hH, hV⟩, hMi⟩ := hv
  subst hH
  have hK := hV.k
  have hx := B.exec
  have hb := B.bytes
  have hr := B.returns
  have hts := atoms_spec (ws := wsL_addPass) B.pre
  have hown : s.vm.findClass RL = some m.cls := findClass_of_methodNamed B.named
  have hlocks := B.notSynchronized
  have hS : va_S (fun q => (fun q => z_FD T q ∨ q = oo) q ∨ s.heap.size ≤ q) s.heap s.heap [] := va_S.rf
  have hA9 : ∀ q : Nat, s.heap.size ≤ q → ((fun q => z_FD T q ∨ q = oo) q ∨ s.heap.size ≤ q) := fun _ h => Or.inr h
  have hbA : ∀ q : Nat, q < E.2.2.1 → ¬ ((fun q => z_FD T q ∨ q = oo) q ∨ s.heap.size ≤ q) := fun q hq z => z.elim (fun z => Or.elim (show z_FD T q ∨ q = oo from z) (z_FDb hA.2.1 hq) (fun z => absurd hq (Nat.not_lt.mpr (z ▸ hob)))) (fun z => absurd (Nat.lt_of_lt_of_le hq hV.2.2.2.2.2.2) (Nat.not_lt.mpr z))
  have hl := lv_entry [.ref (X.1 0 0), .int (nI i), .int (nI a), .int x, .int y, .ref oo] (n := 7) (Nat.le_of_ble_eq_true rfl)
  rw [lg_entry_eq]
  generalize (lg_sl [.ref (X.1 0 0), .int (nI i), .int (nI a), .int x, .int y, .ref oo] ++ List.replicate (7 - (lg_sl [.ref (X.1 0 0), .int (nI i), .int (nI a), .int x, .int y, .ref oo]).length) Slot.unset).toArray = ls at hl ⊢
  have hl : lv_has ls 7 [(0, .ref (X.1 0 0)), (1, .int (nI i)), (2, .int (nI a)), (3, .int x), (4, .int y), (5, .ref oo)] := hl
  have b0 := hI.n0
  have b1 := hI.n1
  have b2 := hI.n2
  have b3 := hI.n3
  have hNC := hMi
  have htab : c.exceptionTable.toList = [{ startPc := 0, endPc := 14, handlerPc := 17, catchType := 24 }, { startPc := 0, endPc := 14, handlerPc := 21, catchType := 13 }, { startPc := 0, endPc := 14, handlerPc := 25, catchType := 15 }] := vx_table (x := yL_addPass) B (hts _ List.mem_cons_self)
  refine lv_aload hx hb dL_addPass_0 (lv_at hl 5 rfl) ?_
  refine lv_iconst (v := 0) hx hb dL_addPass_2 (by decide) ?_
  refine lv_aload_n hx hb dL_addPass_3 rfl (lv_at hl 0 rfl) ?_
  refine lv_iload_n hx hb dL_addPass_4 rfl (lv_at hl 1 rfl) ?_
  refine lv_iload_n hx hb dL_addPass_5 rfl (lv_at hl 2 rfl) ?_
  refine lv_iload_n hx hb dL_addPass_6 rfl (lv_at hl 3 rfl) ?_
  refine lv_iload hx hb dL_addPass_7 (lv_at hl 4 rfl) ?_
  refine wx_V (As := [.int (nI i), .int (nI a), .int x, .int y]) (rest := [.int 0, .ref oo]) ⟨hx, hb, hml, hown, hts⟩ (t6_X5_addPass l hlf E hA hI hi ha hsp hlen hhe hn) (cwV 4 hts gL_addPass_X5_addPass rfl rfl rfl (by decide +kernel) ⟨(Nat.le_of_ble_eq_true rfl), (Nat.le_of_ble_eq_true rfl)⟩) (wk_recv hK hA.desk rfl) hV rfl hl.1 rfl (Nat.le_of_ble_eq_true rfl) dL_addPass_9 ⟨(Nat.le_of_ble_eq_true rfl), (Nat.le_of_ble_eq_true rfl)⟩ (fun ce q9 H hz9 hk9 hc9 hv9 hcl9 => ?_)
  refine vx_catch (name := "java/lang/IllegalStateException") (E := "java/lang/IllegalStateException") hown [{ startPc := 0, endPc := 14, handlerPc := 17, catchType := 24 }, { startPc := 0, endPc := 14, handlerPc := 21, catchType := 13 }] { startPc := 0, endPc := 14, handlerPc := 25, catchType := 15 } [] htab (List.forall_mem_cons.mpr ⟨Or.inr ⟨by decide, "java/lang/IndexOutOfBoundsException", (hts _ (List.mem_of_getElem? (i := 1) rfl)), hNC _ (List.mem_of_getElem? (i := 5) rfl)⟩, List.forall_mem_cons.mpr ⟨Or.inr ⟨by decide, "java/lang/IllegalArgumentException", (hts _ (List.mem_of_getElem? (i := 2) rfl)), hNC _ (List.mem_of_getElem? (i := 0) rfl)⟩, fun _ h => absurd h List.not_mem_nil⟩⟩) (by decide) (by decide) (hts _ (List.mem_of_getElem? (i := 3) rfl)) (va_Nw.use rfl (hV.2.2.1.1 "java/lang/IllegalStateException" (by decide))) hc9 hv9 hcl9 ?_
  have hA := hA.kept (fun q hq _ => hk9 q hq)
  have hoo := va_at.kept hoo (hk9 _ hoo.lt)
  have hS : va_S (fun q => (fun q => z_FD T q ∨ q = oo) q ∨ s.heap.size ≤ q) s.heap H [] := ⟨hz9, fun q h1 _ => hk9 q h1, fun _ h => nomatch h⟩
  refine lv_astore (lv' := [(6, .ref q9), (0, .ref (X.1 0 0)), (1, .int (nI i)), (2, .int (nI a)), (3, .int x), (4, .int y), (5, .ref oo)]) hx hb dL_addPass_25 hl (by decide) rfl (fun ls hl => ?_)
  refine lv_iconst (v := 3) hx hb dL_addPass_27 (by decide) ?_
  refine W.widen (k := 2) (n := 30) (Nat.le_of_ble_eq_true rfl) (Nat.le_of_ble_eq_true rfl) ?_
  exact W.iret hx hb hr (we_end (Rt := wl_R E T X oo s.heap 3 (Int32.toInt64 0) (σ)) (F := fun q => z_FD T q ∨ q = oo) (⟨rfl, ⟨ov, hoo, fun z => absurd z (by decide)⟩, T, X, fun _ _ => rfl, rfl, hA⟩) hS) hS.2.2 dL_addPass_28
