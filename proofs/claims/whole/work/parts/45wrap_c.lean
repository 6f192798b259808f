set_option maxHeartbeats 4000000 in
set_option maxRecDepth 100000 in
theorem w_L_addOutage (l : Launch) (E : wk_E) {T : Nat → Nat × Nat} {X : z_X} {σ : z_S} {H : Heap} (hA : DA E T X σ H) (hI : z_Ok σ) {oo : Nat} {ov : Nat → Int64} (hoo : va_at E.1 vwCl (oo, .inl (E.2.1.2.2, 1, .inr (.inl ov))) H) (hoT : T oo = (20, 0)) (hob : E.2.2.1 ≤ oo) (hZ : z_Zr σ) {a : Nat} {x y : Int32} (ha : a < z_n σ 0) (hsp : v_span σ x y = true) (hn : z_n σ 3 < 6) : we_MetP (wl_NC) l yL_addOutage wsL_addOutage rmW E H [.ref (X.1 0 0), .int (nI a), .int x, .int y, .ref oo] (fun q => z_FD T q ∨ q = oo) 2 30 (wl_R E T X oo H 0 (Int32.toInt64 (f_cntOut σ a x y)) (f_addO σ a x y)) := by
  refine wl_ofWH (cc := cL_addOutage) (maxL := 6) (ret := (some .int)) (hh := [(0, 12, 15, 24), (0, 12, 19, 13), (0, 12, 23, 15)]) (by decide) rfl ?_
  intro p e s m args below meth c s₁ B hml hv
  obtain ⟨rfl, ⟨hH, hV⟩, hMi⟩ := hv
  subst hH
  have hK := hV.k
  have hx := B.exec
  have hb := B.bytes
  have hr := B.returns
  have hts := atoms_spec (ws := wsL_addOutage) B.pre
  have hown : s.vm.findClass RL = some m.cls := findClass_of_methodNamed B.named
  have hlocks := B.notSynchronized
  have hS : va_S (fun q => (fun q => z_FD T q ∨ q = oo) q ∨ s.heap.size ≤ q) s.heap s.heap [] := va_S.rf
  have hA9 : ∀ q : Nat, s.heap.size ≤ q → ((fun q => z_FD T q ∨ q = oo) q ∨ s.heap.size ≤ q) := fun _ h => Or.inr h
  have hbA : ∀ q : Nat, q < E.2.2.1 → ¬ ((fun q => z_FD T q ∨ q = oo) q ∨ s.heap.size ≤ q) := fun q hq z => z.elim (fun z => Or.elim (show z_FD T q ∨ q = oo from z) (z_FDb hA.2.1 hq) (fun z => absurd hq (Nat.not_lt.mpr (z ▸ hob)))) (fun z => absurd (Nat.lt_of_lt_of_le hq hV.2.2.2.2.2.2) (Nat.not_lt.mpr z))
  have hl := lv_entry [.ref (X.1 0 0), .int (nI a), .int x, .int y, .ref oo] (n := 6) (Nat.le_of_ble_eq_true rfl)
  rw [lg_entry_eq]
  generalize (lg_sl [.ref (X.1 0 0), .int (nI a), .int x, .int y, .ref oo] ++ List.replicate (6 - (lg_sl [.ref (X.1 0 0), .int (nI a), .int x, .int y, .ref oo]).length) Slot.unset).toArray = ls at hl ⊢
  have hl : lv_has ls 6 [(0, .ref (X.1 0 0)), (1, .int (nI a)), (2, .int x), (3, .int y), (4, .ref oo)] := hl
  have b0 := hI.n0
  have b1 := hI.n1
  have b2 := hI.n2
  have b3 := hI.n3
  have hNC := hMi
  have htab : c.exceptionTable.toList = [{ startPc := 0, endPc := 12, handlerPc := 15, catchType := 24 }, { startPc := 0, endPc := 12, handlerPc := 19, catchType := 13 }, { startPc := 0, endPc := 12, handlerPc := 23, catchType := 15 }] := vx_table (x := yL_addOutage) B (hts _ List.mem_cons_self)
  refine lv_aload hx hb dL_addOutage_0 (lv_at hl 4 rfl) ?_
  refine lv_iconst (v := 0) hx hb dL_addOutage_2 (by decide) ?_
  refine lv_aload_n hx hb dL_addOutage_3 rfl (lv_at hl 0 rfl) ?_
  refine lv_iload_n hx hb dL_addOutage_4 rfl (lv_at hl 1 rfl) ?_
  refine lv_iload_n hx hb dL_addOutage_5 rfl (lv_at hl 2 rfl) ?_
  refine lv_iload_n hx hb dL_addOutage_6 rfl (lv_at hl 3 rfl) ?_
  refine we_V (As := [.int (nI a), .int x, .int y]) (rest := [.int 0, .ref oo]) ⟨hx, hb, hml, hown, hts⟩ (e_X5_addOutage l E hA hI hZ ha hsp hn) (cwV 3 hts gL_addOutage_X5_addOutage rfl rfl rfl (by decide +kernel) ⟨(Nat.le_of_ble_eq_true rfl), (Nat.le_of_ble_eq_true rfl)⟩) (wk_recv hK hA.desk rfl) hV hS (fun _ h => Or.inl (Or.inl h)) hA9 rfl hl.1 rfl (Nat.le_of_ble_eq_true rfl) dL_addOutage_7 ⟨(Nat.le_of_ble_eq_true rfl), (Nat.le_of_ble_eq_true rfl)⟩ (fun v9 H locs hR9 hz9 hk9 hS => ?_)
  obtain ⟨rfl, T9, X9, hT9, hX9, hA9x⟩ := hR9
  have hoT9 : T9 oo = (20, 0) := (hT9 _ hoo.lt).trans hoT
  have hoo := va_at.kept hoo (hk9 _ hoo.lt (wl_ooF hoT))
  refine wk_eqls (st' := [.int (f_cntOut σ a x y), .int 0, .ref oo]) rfl ?_
  refine lv_i2l (v := (f_cntOut σ a x y).toInt64) hx hb dL_addOutage_10 rfl ?_
  refine wk_last (nn := 1) hx hb hK hoo (Or.inl (Or.inr rfl)) hS 0 rfl (by decide) (by decide) dL_addOutage_11 (fun H locs hP9 hz9 hk9 hS => ?_)
  have hoo := hP9
  have hA9x := hA9x.kept (fun q _ hf => hk9 q (wl_ne hoT9 hf))
  refine lv_goto (tgt := 27) hx hb dL_addOutage_12 (by decide) ?_
  refine lv_iconst (v := 0) hx hb dL_addOutage_27 (by decide) ?_
  refine W.widen (k := 2) (n := 30) (Nat.le_of_ble_eq_true rfl) (Nat.le_of_ble_eq_true rfl) ?_
  exact W.iret hx hb hr (we_end (Rt := wl_R E T X oo s.heap 0 (Int32.toInt64 (f_cntOut σ a x y)) (f_addO σ a x y)) (F := fun q => z_FD T q ∨ q = oo) (⟨rfl, ⟨_, hoo, fun _ => (by simp [vp_updL])⟩, T9, X9, hT9, hX9, hA9x⟩) hS) hS.2.2 dL_addOutage_28

set_option maxHeartbeats 4000000 in
set_option maxRecDepth 100000 in
theorem wf_L_addOutage (l : Launch) (E : wk_E) (hlf : l.stackTraces = false) {T : Nat → Nat × Nat} {X : z_X} {σ : z_S} {H : Heap} (hA : DA E T X σ H) (hI : z_Ok σ) {oo : Nat} {ov : Nat → Int64} (hoo : va_at E.1 vwCl (oo, .inl (E.2.1.2.2, 1, .inr (.inl ov))) H) (hoT : T oo = (20, 0)) (hob : E.2.2.1 ≤ oo) {w9 x y : Int32} (hbad : v_ix w9 (z_n σ 0) = false) : we_MetP (wl_NC) l yL_addOutage wsL_addOutage rmW E H [.ref (X.1 0 0), .int w9, .int x, .int y, .ref oo] (fun q => z_FD T q ∨ q = oo) 2 30 (wl_R E T X oo H 1 (Int32.toInt64 0) (σ)) := by
  refine wl_ofWH (cc := cL_addOutage) (maxL := 6) (ret := (some .int)) (hh := [(0, 12, 15, 24), (0, 12, 19, 13), (0, 12, 23, 15)]) (by decide) rfl ?_
  intro p e s m args below meth c s₁ B hml hv
  obtain ⟨rfl, ⟨hH, hV⟩, hMi⟩ := hv
  subst hH
  have hK := hV.k
  have hx := B.exec
  have hb := B.bytes
  have hr := B.returns
  have hts := atoms_spec (ws := wsL_addOutage) B.pre
  have hown : s.vm.findClass RL = some m.cls := findClass_of_methodNamed B.named
  have hlocks := B.notSynchronized
  have hS : va_S (fun q => (fun q => z_FD T q ∨ q = oo) q ∨ s.heap.size ≤ q) s.heap s.heap [] := va_S.rf
  have hA9 : ∀ q : Nat, s.heap.size ≤ q → ((fun q => z_FD T q ∨ q = oo) q ∨ s.heap.size ≤ q) := fun _ h => Or.inr h
  have hbA : ∀ q : Nat, q < E.2.2.1 → ¬ ((fun q => z_FD T q ∨ q = oo) q ∨ s.heap.size ≤ q) := fun q hq z => z.elim (fun z => Or.elim (show z_FD T q ∨ q = oo from z) (z_FDb hA.2.1 hq) (fun z => absurd hq (Nat.not_lt.mpr (z ▸ hob)))) (fun z => absurd (Nat.lt_of_lt_of_le hq hV.2.2.2.2.2.2) (Nat.not_lt.mpr z))
  have hl := lv_entry [.ref (X.1 0 0), .int w9, .int x, .int y, .ref oo] (n := 6) (Nat.le_of_ble_eq_true rfl)
  rw [lg_entry_eq]
  generalize (lg_sl [.ref (X.1 0 0), .int w9, .int x, .int y, .ref oo] ++ List.replicate (6 - (lg_sl [.ref (X.1 0 0), .int w9, .int x, .int y, .ref oo]).length) Slot.unset).toArray = ls at hl ⊢
  have hl : lv_has ls 6 [(0, .ref (X.1 0 0)), (1, .int w9), (2, .int x), (3, .int y), (4, .ref oo)] := hl
  have b0 := hI.n0
  have b1 := hI.n1
  have b2 := hI.n2
  have b3 := hI.n3
  have hNC := hMi
  have htab : c.exceptionTable.toList = [{ startPc := 0, endPc := 12, handlerPc := 15, catchType := 24 }, { startPc := 0, endPc := 12, handlerPc := 19, catchType := 13 }, { startPc := 0, endPc := 12, handlerPc := 23, catchType := 15 }] := vx_table (x := yL_addOutage) B (hts _ List.mem_cons_self)
  refine lv_aload hx hb dL_addOutage_0 (lv_at hl 4 rfl) ?_
  refine lv_iconst (v := 0) hx hb dL_addOutage_2 (by decide) ?_
  refine lv_aload_n hx hb dL_addOutage_3 rfl (lv_at hl 0 rfl) ?_
  refine lv_iload_n hx hb dL_addOutage_4 rfl (lv_at hl 1 rfl) ?_
  refine lv_iload_n hx hb dL_addOutage_5 rfl (lv_at hl 2 rfl) ?_
  refine lv_iload_n hx hb dL_addOutage_6 rfl (lv_at hl 3 rfl) ?_
  refine wx_V (As := [.int w9, .int x, .int y]) (rest := [.int 0, .ref oo]) ⟨hx, hb, hml, hown, hts⟩ (t_X5_addOutage l hlf E hA hI hbad) (cwV 3 hts gL_addOutage_X5_addOutage rfl rfl rfl (by decide +kernel) ⟨(Nat.le_of_ble_eq_true rfl), (Nat.le_of_ble_eq_true rfl)⟩) (wk_recv hK hA.desk rfl) hV rfl hl.1 rfl (Nat.le_of_ble_eq_true rfl) dL_addOutage_7 ⟨(Nat.le_of_ble_eq_true rfl), (Nat.le_of_ble_eq_true rfl)⟩ (fun ce q9 H hz9 hk9 hc9 hv9 hcl9 => ?_)
  refine vx_catch (name := "java/lang/IndexOutOfBoundsException") (E := "java/lang/IndexOutOfBoundsException") hown [] { startPc := 0, endPc := 12, handlerPc := 15, catchType := 24 } [{ startPc := 0, endPc := 12, handlerPc := 19, catchType := 13 }, { startPc := 0, endPc := 12, handlerPc := 23, catchType := 15 }] htab (fun _ h => absurd h List.not_mem_nil) (by decide) (by decide) (hts _ (List.mem_of_getElem? (i := 1) rfl)) (va_Nw.use rfl (hV.2.2.1.1 "java/lang/IndexOutOfBoundsException" (by decide))) hc9 hv9 hcl9 ?_
  have hA := hA.kept (fun q hq _ => hk9 q hq)
  have hoo := va_at.kept hoo (hk9 _ hoo.lt)
  have hS : va_S (fun q => (fun q => z_FD T q ∨ q = oo) q ∨ s.heap.size ≤ q) s.heap H [] := ⟨hz9, fun q h1 _ => hk9 q h1, fun _ h => nomatch h⟩
  refine lv_astore (lv' := [(5, .ref q9), (0, .ref (X.1 0 0)), (1, .int w9), (2, .int x), (3, .int y), (4, .ref oo)]) hx hb dL_addOutage_15 hl (by decide) rfl (fun ls hl => ?_)
  refine lv_iconst (v := 1) hx hb dL_addOutage_17 (by decide) ?_
  refine W.widen (k := 2) (n := 30) (Nat.le_of_ble_eq_true rfl) (Nat.le_of_ble_eq_true rfl) ?_
  exact W.iret hx hb hr (we_end (Rt := wl_R E T X oo s.heap 1 (Int32.toInt64 0) (σ)) (F := fun q => z_FD T q ∨ q = oo) (⟨rfl, ⟨ov, hoo, fun z => absurd z (by decide)⟩, T, X, fun _ _ => rfl, rfl, hA⟩) hS) hS.2.2 dL_addOutage_18

set_option maxHeartbeats 4000000 in
set_option maxRecDepth 100000 in
theorem wf2_L_addOutage (l : Launch) (E : wk_E) (hlf : l.stackTraces = false) {T : Nat → Nat × Nat} {X : z_X} {σ : z_S} {H : Heap} (hA : DA E T X σ H) (hI : z_Ok σ) {oo : Nat} {ov : Nat → Int64} (hoo : va_at E.1 vwCl (oo, .inl (E.2.1.2.2, 1, .inr (.inl ov))) H) (hoT : T oo = (20, 0)) (hob : E.2.2.1 ≤ oo) {a : Nat} {x y : Int32} (ha : a < z_n σ 0) (hbad : v_span σ x y = false) : we_MetP (wl_NC) l yL_addOutage wsL_addOutage rmW E H [.ref (X.1 0 0), .int (nI a), .int x, .int y, .ref oo] (fun q => z_FD T q ∨ q = oo) 2 30 (wl_R E T X oo H 2 (Int32.toInt64 0) (σ)) := by
  refine wl_ofWH (cc := cL_addOutage) (maxL := 6) (ret := (some .int)) (hh := [(0, 12, 15, 24), (0, 12, 19, 13), (0, 12, 23, 15)]) (by decide) rfl ?_
  intro p e s m args below meth c s₁ B hml hv
  obtain ⟨rfl, ⟨hH, hV⟩, hMi⟩ := hv
  subst hH
  have hK := hV.k
  have hx := B.exec
  have hb := B.bytes
  have hr := B.returns
  have hts := atoms_spec (ws := wsL_addOutage) B.pre
  have hown : s.vm.findClass RL = some m.cls := findClass_of_methodNamed B.named
  have hlocks := B.notSynchronized
  have hS : va_S (fun q => (fun q => z_FD T q ∨ q = oo) q ∨ s.heap.size ≤ q) s.heap s.heap [] := va_S.rf
  have hA9 : ∀ q : Nat, s.heap.size ≤ q → ((fun q => z_FD T q ∨ q = oo) q ∨ s.heap.size ≤ q) := fun _ h => Or.inr h
  have hbA : ∀ q : Nat, q < E.2.2.1 → ¬ ((fun q => z_FD T q ∨ q = oo) q ∨ s.heap.size ≤ q) := fun q hq z => z.elim (fun z => Or.elim (show z_FD T q ∨ q = oo from z) (z_FDb hA.2.1 hq) (fun z => absurd hq (Nat.not_lt.mpr (z ▸ hob)))) (fun z => absurd (Nat.lt_of_lt_of_le hq hV.2.2.2.2.2.2) (Nat.not_lt.mpr z))
  have hl := lv_entry [.ref (X.1 0 0), .int (nI a), .int x, .int y, .ref oo] (n := 6) (Nat.le_of_ble_eq_true rfl)
  rw [lg_entry_eq]
  generalize (lg_sl [.ref (X.1 0 0), .int (nI a), .int x, .int y, .ref oo] ++ List.replicate (6 - (lg_sl [.ref (X.1 0 0), .int (nI a), .int x, .int y, .ref oo]).length) Slot.unset).toArray = ls at hl ⊢
  have hl : lv_has ls 6 [(0, .ref (X.1 0 0)), (1, .int (nI a)), (2, .int x), (3, .int y), (4, .ref oo)] := hl
  have b0 := hI.n0
  have b1 := hI.n1
  have b2 := hI.n2
  have b3 := hI.n3
  have hNC := hMi
  have htab : c.exceptionTable.toList = [{ startPc := 0, endPc := 12, handlerPc := 15, catchType := 24 }, { startPc := 0, endPc := 12, handlerPc := 19, catchType := 13 }, { startPc := 0, endPc := 12, handlerPc := 23, catchType := 15 }] := vx_table (x := yL_addOutage) B (hts _ List.mem_cons_self)
  refine lv_aload hx hb dL_addOutage_0 (lv_at hl 4 rfl) ?_
  refine lv_iconst (v := 0) hx hb dL_addOutage_2 (by decide) ?_
  refine lv_aload_n hx hb dL_addOutage_3 rfl (lv_at hl 0 rfl) ?_
  refine lv_iload_n hx hb dL_addOutage_4 rfl (lv_at hl 1 rfl) ?_
  refine lv_iload_n hx hb dL_addOutage_5 rfl (lv_at hl 2 rfl) ?_
  refine lv_iload_n hx hb dL_addOutage_6 rfl (lv_at hl 3 rfl) ?_
  refine wx_V (As := [.int (nI a), .int x, .int y]) (rest := [.int 0, .ref oo]) ⟨hx, hb, hml, hown, hts⟩ (t2_X5_addOutage l hlf E hA hI ha hbad) (cwV 3 hts gL_addOutage_X5_addOutage rfl rfl rfl (by decide +kernel) ⟨(Nat.le_of_ble_eq_true rfl), (Nat.le_of_ble_eq_true rfl)⟩) (wk_recv hK hA.desk rfl) hV rfl hl.1 rfl (Nat.le_of_ble_eq_true rfl) dL_addOutage_7 ⟨(Nat.le_of_ble_eq_true rfl), (Nat.le_of_ble_eq_true rfl)⟩ (fun ce q9 H hz9 hk9 hc9 hv9 hcl9 => ?_)
  refine vx_catch (name := "java/lang/IllegalArgumentException") (E := "java/lang/IllegalArgumentException") hown [{ startPc := 0, endPc := 12, handlerPc := 15, catchType := 24 }] { startPc := 0, endPc := 12, handlerPc := 19, catchType := 13 } [{ startPc := 0, endPc := 12, handlerPc := 23, catchType := 15 }] htab (List.forall_mem_cons.mpr ⟨Or.inr ⟨by decide, "java/lang/IndexOutOfBoundsException", (hts _ (List.mem_of_getElem? (i := 1) rfl)), hNC _ (List.mem_of_getElem? (i := 4) rfl)⟩, fun _ h => absurd h List.not_mem_nil⟩) (by decide) (by decide) (hts _ (List.mem_of_getElem? (i := 2) rfl)) (va_Nw.use rfl (hV.2.2.1.1 "java/lang/IllegalArgumentException" (by decide))) hc9 hv9 hcl9 ?_
  have hA := hA.kept (fun q hq _ => hk9 q hq)
  have hoo := va_at.kept hoo (hk9 _ hoo.lt)
  have hS : va_S (fun q => (fun q => z_FD T q ∨ q = oo) q ∨ s.heap.size ≤ q) s.heap H [] := ⟨hz9, fun q h1 _ => hk9 q h1, fun _ h => nomatch h⟩
  refine lv_astore (lv' := [(5, .ref q9), (0, .ref (X.1 0 0)), (1, .int (nI a)), (2, .int x), (3, .int y), (4, .ref oo)]) hx hb dL_addOutage_19 hl (by decide) rfl (fun ls hl => ?_)
  refine lv_iconst (v := 2) hx hb dL_addOutage_21 (by decide) ?_
  refine W.widen (k := 2) (n := 30) (Nat.le_of_ble_eq_true rfl) (Nat.le_of_ble_eq_true rfl) ?_
  exact W.iret hx hb hr (we_end (Rt := wl_R E T X oo s.heap 2 (Int32.toInt64 0) (σ)) (F := fun q => z_FD T q ∨ q = oo) (⟨rfl, ⟨ov, hoo, fun z => absurd z (by decide)⟩, T, X, fun _ _ => rfl, rfl, hA⟩) hS) hS.2.2 dL_addOutage_22

set_option maxHeartbeats 4000000 in
set_option maxRecDepth 100000 in
theorem wf3_L_addOutage (l : Launch) (E : wk_E) (hlf : l.stackTraces = false) {T : Nat → Nat × Nat} {X : z_X} {σ : z_S} {H : Heap} (hA : DA E T X σ H) (hI : z_Ok σ) {oo : Nat} {ov : Nat → Int64} (hoo : va_at E.1 vwCl (oo, .inl (E.2.1.2.2, 1, .inr (.inl ov))) H) (hoT : T oo = (20, 0)) (hob : E.2.2.1 ≤ oo) {a : Nat} {x y : Int32} (ha : a < z_n σ 0) (hsp : v_span σ x y = true) (hn : ¬ z_n σ 3 < 6) : we_MetP (wl_NC) l yL_addOutage wsL_addOutage rmW E H [.ref (X.1 0 0), .int (nI a), .int x, .int y, .ref oo] (fun q => z_FD T q ∨ q = oo) 2 30 (wl_R E T X oo H 3 (Int32.toInt64 0) (σ)) := by
  refine wl_ofWH (cc := cL_addOutage) (maxL := 6) (ret := (some .int)) (hh := [(0, 12, 15, 24), (0, 12, 19, 13), (0, 12, 23, 15)]) (by decide) rfl ?_
  intro p e s m args below meth c s₁ B hml hv
  obtain ⟨rfl, ⟨hH, hV⟩, hMi⟩ := hv
  subst hH
  have hK := hV.k
  have hx := B.exec
  have hb := B.bytes
  have hr := B.returns
  have hts := atoms_spec (ws := wsL_addOutage) B.pre
  have hown : s.vm.findClass RL = some m.cls := findClass_of_methodNamed B.named
  have hlocks := B.notSynchronized
  have hS : va_S (fun q => (fun q => z_FD T q ∨ q = oo) q ∨ s.heap.size ≤ q) s.heap s.heap [] := va_S.rf
  have hA9 : ∀ q : Nat, s.heap.size ≤ q → ((fun q => z_FD T q ∨ q = oo) q ∨ s.heap.size ≤ q) := fun _ h => Or.inr h
  have hbA : ∀ q : Nat, q < E.2.2.1 → ¬ ((fun q => z_FD T q ∨ q = oo) q ∨ s.heap.size ≤ q) := fun q hq z => z.elim (fun z => Or.elim (show z_FD T q ∨ q = oo from z) (z_FDb hA.2.1 hq) (fun z => absurd hq (Nat.not_lt.mpr (z ▸ hob)))) (fun z => absurd (Nat.lt_of_lt_of_le hq hV.2.2.2.2.2.2) (Nat.not_lt.mpr z))
  have hl := lv_entry [.ref (X.1 0 0), .int (nI a), .int x, .int y, .ref oo] (n := 6) (Nat.le_of_ble_eq_true rfl)
  rw [lg_entry_eq]
  generalize (lg_sl [.ref (X.1 0 0), .int (nI a), .int x, .int y, .ref oo] ++ List.replicate (6 - (lg_sl [.ref (X.1 0 0), .int (nI a), .int x, .int y, .ref oo]).length) Slot.unset).toArray = ls at hl ⊢
  have hl : lv_has ls 6 [(0, .ref (X.1 0 0)), (1, .int (nI a)), (2, .int x), (3, .int y), (4, .ref oo)] := hl
  have b0 := hI.n0
  have b1 := hI.n1
  have b2 := hI.n2
  have b3 := hI.n3
  have hNC := hMi
  have htab : c.exceptionTable.toList = [{ startPc := 0, endPc := 12, handlerPc := 15, catchType := 24 }, { startPc := 0, endPc := 12, handlerPc := 19, catchType := 13 }, { startPc := 0, endPc := 12, handlerPc := 23, catchType := 15 }] := vx_table (x := yL_addOutage) B (hts _ List.mem_cons_self)
  refine lv_aload hx hb dL_addOutage_0 (lv_at hl 4 rfl) ?_
  refine lv_iconst (v := 0) hx hb dL_addOutage_2 (by decide) ?_
  refine lv_aload_n hx hb dL_addOutage_3 rfl (lv_at hl 0 rfl) ?_
  refine lv_iload_n hx hb dL_addOutage_4 rfl (lv_at hl 1 rfl) ?_
  refine lv_iload_n hx hb dL_addOutage_5 rfl (lv_at hl 2 rfl) ?_
  refine lv_iload_n hx hb dL_addOutage_6 rfl (lv_at hl 3 rfl) ?_
  refine wx_V (As := [.int (nI a), .int x, .int y]) (rest := [.int 0, .ref oo]) ⟨hx, hb, hml, hown, hts⟩ (t3_X5_addOutage l hlf E hA hI ha hsp hn) (cwV 3 hts gL_addOutage_X5_addOutage rfl rfl rfl (by decide +kernel) ⟨(Nat.le_of_ble_eq_true rfl), (Nat.le_of_ble_eq_true rfl)⟩) (wk_recv hK hA.desk rfl) hV rfl hl.1 rfl (Nat.le_of_ble_eq_true rfl) dL_addOutage_7 ⟨(Nat.le_of_ble_eq_true rfl), (Nat.le_of_ble_eq_true rfl)⟩ (fun ce q9 H hz9 hk9 hc9 hv9 hcl9 => ?_)
  refine vx_catch (name := "java/lang/IllegalStateException") (E := "java/lang/IllegalStateException") hown [{ startPc := 0, endPc := 12, handlerPc := 15, catchType := 24 }, { startPc := 0, endPc := 12, handlerPc := 19, catchType := 13 }] { startPc := 0, endPc := 12, handlerPc := 23, catchType := 15 } [] htab (List.forall_mem_cons.mpr ⟨Or.inr ⟨by decide, "java/lang/IndexOutOfBoundsException", (hts _ (List.mem_of_getElem? (i := 1) rfl)), hNC _ (List.mem_of_getElem? (i := 5) rfl)⟩, List.forall_mem_cons.mpr ⟨Or.inr ⟨by decide, "java/lang/IllegalArgumentException", (hts _ (List.mem_of_getElem? (i := 2) rfl)), hNC _ (List.mem_of_getElem? (i := 0) rfl)⟩, fun _ h => absurd h List.not_mem_nil⟩⟩) (by decide) (by decide) (hts _ (List.mem_of_getElem? (i := 3) rfl)) (va_Nw.use rfl (hV.2.2.1.1 "java/lang/IllegalStateException" (by decide))) hc9 hv9 hcl9 ?_
  have hA := hA.kept (fun q hq _ => hk9 q hq)
  have hoo := va_at.kept hoo (hk9 _ hoo.lt)
  have hS : va_S (fun q => (fun q => z_FD T q ∨ q = oo) q ∨ s.heap.size ≤ q) s.heap H [] := ⟨hz9, fun q h1 _ => hk9 q h1, fun _ h => nomatch h⟩
  refine lv_astore (lv' := [(5, .ref q9), (0, .ref (X.1 0 0)), (1, .int (nI a)), (2, .int x), (3, .int y), (4, .ref oo)]) hx hb dL_addOutage_23 hl (by decide) rfl (fun ls hl => ?_)
  refine lv_iconst (v := 3) hx hb dL_addOutage_25 (by decide) ?_
  refine W.widen (k := 2) (n := 30) (Nat.le_of_ble_eq_true rfl) (Nat.le_of_ble_eq_true rfl) ?_
  exact W.iret hx hb hr (we_end (Rt := wl_R E T X oo s.heap 3 (Int32.toInt64 0) (σ)) (F := fun q => z_FD T q ∨ q = oo) (⟨rfl, ⟨ov, hoo, fun z => absurd z (by decide)⟩, T, X, fun _ _ => rfl, rfl, hA⟩) hS) hS.2.2 dL_addOutage_26

set_option maxHeartbeats 4000000 in
set_option maxRecDepth 100000 in
theorem w_L_setHandover (l : Launch) (E : wk_E) {T : Nat → Nat × Nat} {X : z_X} {σ : z_S} {H : Heap} (hA : DA E T X σ H) (hI : z_Ok σ) {oo : Nat} {ov : Nat → Int64} (hoo : va_at E.1 vwCl (oo, .inl (E.2.1.2.2, 1, .inr (.inl ov))) H) (hoT : T oo = (20, 0)) (hob : E.2.2.1 ≤ oo) {x : Int32} (hok : v_in x 0 60 = true) : we_MetP (wl_NC) l yL_setHandover wsL_setHandover rmW E H [.ref (X.1 0 0), .int x, .ref oo] (fun q => z_FD T q ∨ q = oo) 2 30 (wl_R E T X oo H 0 (Int32.toInt64 (z_ho σ)) (s1 σ 1 0 x)) := by
  refine wl_ofWH (cc := cL_setHandover) (maxL := 4) (ret := (some .int)) (hh := [(0, 9, 12, 13)]) (by decide) rfl ?_
  intro p e s m args below meth c s₁ B hml hv
  obtain ⟨rfl, ⟨hH, hV⟩, hMi⟩ := hv
  subst hH
  have hK := hV.k
  have hx := B.exec
  have hb := B.bytes
  have hr := B.returns
  have hts := atoms_spec (ws := wsL_setHandover) B.pre
  have hown : s.vm.findClass RL = some m.cls := findClass_of_methodNamed B.named
  have hlocks := B.notSynchronized
  have hS : va_S (fun q => (fun q => z_FD T q ∨ q = oo) q ∨ s.heap.size ≤ q) s.heap s.heap [] := va_S.rf
  have hA9 : ∀ q : Nat, s.heap.size ≤ q → ((fun q => z_FD T q ∨ q = oo) q ∨ s.heap.size ≤ q) := fun _ h => Or.inr h
  have hbA : ∀ q : Nat, q < E.2.2.1 → ¬ ((fun q => z_FD T q ∨ q = oo) q ∨ s.heap.size ≤ q) := fun q hq z => z.elim (fun z => Or.elim (show z_FD T q ∨ q = oo from z) (z_FDb hA.2.1 hq) (fun z => absurd hq (Nat.not_lt.mpr (z ▸ hob)))) (fun z => absurd (Nat.lt_of_lt_of_le hq hV.2.2.2.2.2.2) (Nat.not_lt.mpr z))
  have hl := lv_entry [.ref (X.1 0 0), .int x, .ref oo] (n := 4) (Nat.le_of_ble_eq_true rfl)
  rw [lg_entry_eq]
  generalize (lg_sl [.ref (X.1 0 0), .int x, .ref oo] ++ List.replicate (4 - (lg_sl [.ref (X.1 0 0), .int x, .ref oo]).length) Slot.unset).toArray = ls at hl ⊢
  have hl : lv_has ls 4 [(0, .ref (X.1 0 0)), (1, .int x), (2, .ref oo)] := hl
  have b0 := hI.n0
  have b1 := hI.n1
  have b2 := hI.n2
  have b3 := hI.n3
  have hNC := hMi
  have htab : c.exceptionTable.toList = [{ startPc := 0, endPc := 9, handlerPc := 12, catchType := 13 }] := vx_table (x := yL_setHandover) B (hts _ List.mem_cons_self)
  refine lv_aload_n hx hb dL_setHandover_0 rfl (lv_at hl 2 rfl) ?_
  refine lv_iconst (v := 0) hx hb dL_setHandover_1 (by decide) ?_
  refine lv_aload_n hx hb dL_setHandover_2 rfl (lv_at hl 0 rfl) ?_
  refine lv_iload_n hx hb dL_setHandover_3 rfl (lv_at hl 1 rfl) ?_
  refine we_V (As := [.int x]) (rest := [.int 0, .ref oo]) ⟨hx, hb, hml, hown, hts⟩ (e_X5_setHandover l E hA hI hok) (cwV 1 hts gL_setHandover_X5_setHandover rfl rfl rfl (by decide +kernel) ⟨(Nat.le_of_ble_eq_true rfl), (Nat.le_of_ble_eq_true rfl)⟩) (wk_recv hK hA.desk rfl) hV hS (fun _ h => Or.inl (Or.inl h)) hA9 rfl hl.1 rfl (Nat.le_of_ble_eq_true rfl) dL_setHandover_4 ⟨(Nat.le_of_ble_eq_true rfl), (Nat.le_of_ble_eq_true rfl)⟩ (fun v9 H locs hR9 hz9 hk9 hS => ?_)
  obtain ⟨rfl, hA9x⟩ := hR9
  obtain ⟨T9, hT9⟩ : ∃ T9, T9 = T := ⟨T, rfl⟩
  obtain ⟨X9, hX9⟩ : ∃ X9, X9 = X := ⟨X, rfl⟩
  rw [← hT9, ← hX9] at hA9x
  have hX9 : X9.1 0 0 = X.1 0 0 := by rw [hX9]
  have hT9 : ∀ a : Nat, a < s.heap.size → T9 a = T a := fun a _ => by rw [hT9]
  have hoT9 : T9 oo = (20, 0) := (hT9 _ hoo.lt).trans hoT
  have hoo := va_at.kept hoo (hk9 _ hoo.lt (wl_ooF hoT))
  refine wk_eqls (st' := [.int (z_ho σ), .int 0, .ref oo]) rfl ?_
  refine lv_i2l (v := (z_ho σ).toInt64) hx hb dL_setHandover_7 rfl ?_
  refine wk_last (nn := 1) hx hb hK hoo (Or.inl (Or.inr rfl)) hS 0 rfl (by decide) (by decide) dL_setHandover_8 (fun H locs hP9 hz9 hk9 hS => ?_)
  have hoo := hP9
  have hA9x := hA9x.kept (fun q _ hf => hk9 q (wl_ne hoT9 hf))
  refine lv_goto (tgt := 15) hx hb dL_setHandover_9 (by decide) ?_
  refine lv_iconst (v := 0) hx hb dL_setHandover_15 (by decide) ?_
  refine W.widen (k := 2) (n := 30) (Nat.le_of_ble_eq_true rfl) (Nat.le_of_ble_eq_true rfl) ?_
  exact W.iret hx hb hr (we_end (Rt := wl_R E T X oo s.heap 0 (Int32.toInt64 (z_ho σ)) (s1 σ 1 0 x)) (F := fun q => z_FD T q ∨ q = oo) (⟨rfl, ⟨_, hoo, fun _ => (by simp [vp_updL])⟩, T9, X9, hT9, hX9, hA9x⟩) hS) hS.2.2 dL_setHandover_16

set_option maxHeartbeats 4000000 in
set_option maxRecDepth 100000 in
theorem wf_L_setHandover (l : Launch) (E : wk_E) (hlf : l.stackTraces = false) {T : Nat → Nat × Nat} {X : z_X} {σ : z_S} {H : Heap} (hA : DA E T X σ H) (hI : z_Ok σ) {oo : Nat} {ov : Nat → Int64} (hoo : va_at E.1 vwCl (oo, .inl (E.2.1.2.2, 1, .inr (.inl ov))) H) (hoT : T oo = (20, 0)) (hob : E.2.2.1 ≤ oo) {x : Int32} (hbad : v_in x 0 60 = false) : we_MetP (wl_NC) l yL_setHandover wsL_setHandover rmW E H [.ref (X.1 0 0), .int x, .ref oo] (fun q => z_FD T q ∨ q = oo) 2 30 (wl_R E T X oo H 1 (Int32.toInt64 0) (σ)) := by
  refine wl_ofWH (cc := cL_setHandover) (maxL := 4) (ret := (some .int)) (hh := [(0, 9, 12, 13)]) (by decide) rfl ?_
  intro p e s m args below meth c s₁ B hml hv
  obtain ⟨rfl, ⟨hH, hV⟩, hMi⟩ := hv
  subst hH
  have hK := hV.k
  have hx := B.exec
  have hb := B.bytes
  have hr := B.returns
  have hts := atoms_spec (ws := wsL_setHandover) B.pre
  have hown : s.vm.findClass RL = some m.cls := findClass_of_methodNamed B.named
  have hlocks := B.notSynchronized
  have hS : va_S (fun q => (fun q => z_FD T q ∨ q = oo) q ∨ s.heap.size ≤ q) s.heap s.heap [] := va_S.rf
  have hA9 : ∀ q : Nat, s.heap.size ≤ q → ((fun q => z_FD T q ∨ q = oo) q ∨ s.heap.size ≤ q) := fun _ h => Or.inr h
  have hbA : ∀ q : Nat, q < E.2.2.1 → ¬ ((fun q => z_FD T q ∨ q = oo) q ∨ s.heap.size ≤ q) := fun q hq z => z.elim (fun z => Or.elim (show z_FD T q ∨ q = oo from z) (z_FDb hA.2.1 hq) (fun z => absurd hq (Nat.not_lt.mpr (z ▸ hob)))) (fun z => absurd (Nat.lt_of_lt_of_le hq hV.2.2.2.2.2.2) (Nat.not_lt.mpr z))
  have hl := lv_entry [.ref (X.1 0 0), .int x, .ref oo] (n := 4) (Nat.le_of_ble_eq_true rfl)
  rw [lg_entry_eq]
  generalize (lg_sl [.ref (X.1 0 0), .int x, .ref oo] ++ List.replicate (4 - (lg_sl [.ref (X.1 0 0), .int x, .ref oo]).length) Slot.unset).toArray = ls at hl ⊢
  have hl : lv_has ls 4 [(0, .ref (X.1 0 0)), (1, .int x), (2, .ref oo)] := hl
  have b0 := hI.n0
  have b1 := hI.n1
  have b2 := hI.n2
  have b3 := hI.n3
  have hNC := hMi
  have htab : c.exceptionTable.toList = [{ startPc := 0, endPc := 9, handlerPc := 12, catchType := 13 }] := vx_table (x := yL_setHandover) B (hts _ List.mem_cons_self)
  refine lv_aload_n hx hb dL_setHandover_0 rfl (lv_at hl 2 rfl) ?_
  refine lv_iconst (v := 0) hx hb dL_setHandover_1 (by decide) ?_
  refine lv_aload_n hx hb dL_setHandover_2 rfl (lv_at hl 0 rfl) ?_
  refine lv_iload_n hx hb dL_setHandover_3 rfl (lv_at hl 1 rfl) ?_
  refine wx_V (As := [.int x]) (rest := [.int 0, .ref oo]) ⟨hx, hb, hml, hown, hts⟩ (t_X5_setHandover l hlf E hA hI hbad) (cwV 1 hts gL_setHandover_X5_setHandover rfl rfl rfl (by decide +kernel) ⟨(Nat.le_of_ble_eq_true rfl), (Nat.le_of_ble_eq_true rfl)⟩) (wk_recv hK hA.desk rfl) hV rfl hl.1 rfl (Nat.le_of_ble_eq_true rfl) dL_setHandover_4 ⟨(Nat.le_of_ble_eq_true rfl), (Nat.le_of_ble_eq_true rfl)⟩ (fun ce q9 H hz9 hk9 hc9 hv9 hcl9 => ?_)
  refine vx_catch (name := "java/lang/IllegalArgumentException") (E := "java/lang/IllegalArgumentException") hown [] { startPc := 0, endPc := 9, handlerPc := 12, catchType := 13 } [] htab (fun _ h => absurd h List.not_mem_nil) (by decide) (by decide) (hts _ (List.mem_of_getElem? (i := 1) rfl)) (va_Nw.use rfl (hV.2.2.1.1 "java/lang/IllegalArgumentException" (by decide))) hc9 hv9 hcl9 ?_
  have hA := hA.kept (fun q hq _ => hk9 q hq)
  have hoo := va_at.kept hoo (hk9 _ hoo.lt)
  have hS : va_S (fun q => (fun q => z_FD T q ∨ q = oo) q ∨ s.heap.size ≤ q) s.heap H [] := ⟨hz9, fun q h1 _ => hk9 q h1, fun _ h => nomatch h⟩
  refine lv_astore_n (lv' := [(3, .ref q9), (0, .ref (X.1 0 0)), (1, .int x), (2, .ref oo)]) hx hb dL_setHandover_12 rfl hl (by decide) rfl (fun ls hl => ?_)
  refine lv_iconst (v := 1) hx hb dL_setHandover_13 (by decide) ?_
  refine W.widen (k := 2) (n := 30) (Nat.le_of_ble_eq_true rfl) (Nat.le_of_ble_eq_true rfl) ?_
  exact W.iret hx hb hr (we_end (Rt := wl_R E T X oo s.heap 1 (Int32.toInt64 0) (σ)) (F := fun q => z_FD T q ∨ q = oo) (⟨rfl, ⟨ov, hoo, fun z => absurd z (by decide)⟩, T, X, fun _ _ => rfl, rfl, hA⟩) hS) hS.2.2 dL_setHandover_14

set_option maxHeartbeats 4000000 in
set_option maxRecDepth 100000 in
theorem w_L_count (l : Launch) (E : wk_E) {T : Nat → Nat × Nat} {X : z_X} {σ : z_S} {H : Heap} (hA : DA E T X σ H) (hI : z_Ok σ) {oo : Nat} {ov : Nat → Int64} (hoo : va_at E.1 vwCl (oo, .inl (E.2.1.2.2, 1, .inr (.inl ov))) H) (hoT : T oo = (20, 0)) (hob : E.2.2.1 ≤ oo) {w : Nat} (hw : w ≤ 2) : we_MetP (wl_NC) l yL_count wsL_count rmW E H [.ref (X.1 0 0), .int (nI w), .ref oo] (fun q => z_FD T q ∨ q = oo) 2 30 (wl_R E T X oo H 0 (Int32.toInt64 (nI (z_n σ w))) (σ)) := by
  refine wl_ofWH (cc := cL_count) (maxL := 4) (ret := (some .int)) (hh := [(0, 9, 12, 24)]) (by decide) rfl ?_
  intro p e s m args below meth c s₁ B hml hv
  obtain ⟨rfl, ⟨hH, hV⟩, hMi⟩ := hv
  subst hH
  have hK := hV.k
  have hx := B.exec
  have hb := B.bytes
  have hr := B.returns
  have hts := atoms_spec (ws := wsL_count) B.pre
  have hown : s.vm.findClass RL = some m.cls := findClass_of_methodNamed B.named
  have hlocks := B.notSynchronized
  have hS : va_S (fun q => (fun q => z_FD T q ∨ q = oo) q ∨ s.heap.size ≤ q) s.heap s.heap [] := va_S.rf
  have hA9 : ∀ q : Nat, s.heap.size ≤ q → ((fun q => z_FD T q ∨ q = oo) q ∨ s.heap.size ≤ q) := fun _ h => Or.inr h
  have hbA : ∀ q : Nat, q < E.2.2.1 → ¬ ((fun q => z_FD T q ∨ q = oo) q ∨ s.heap.size ≤ q) := fun q hq z => z.elim (fun z => Or.elim (show z_FD T q ∨ q = oo from z) (z_FDb hA.2.1 hq) (fun z => absurd hq (Nat.not_lt.mpr (z ▸ hob)))) (fun z => absurd (Nat.lt_of_lt_of_le hq hV.2.2.2.2.2.2) (Nat.not_lt.mpr z))
  have hl := lv_entry [.ref (X.1 0 0), .int (nI w), .ref oo] (n := 4) (Nat.le_of_ble_eq_true rfl)
  rw [lg_entry_eq]
  generalize (lg_sl [.ref (X.1 0 0), .int (nI w), .ref oo] ++ List.replicate (4 - (lg_sl [.ref (X.1 0 0), .int (nI w), .ref oo]).length) Slot.unset).toArray = ls at hl ⊢
  have hl : lv_has ls 4 [(0, .ref (X.1 0 0)), (1, .int (nI w)), (2, .ref oo)] := hl
  have b0 := hI.n0
  have b1 := hI.n1
  have b2 := hI.n2
  have b3 := hI.n3
  have hNC := hMi
  have htab : c.exceptionTable.toList = [{ startPc := 0, endPc := 9, handlerPc := 12, catchType := 24 }] := vx_table (x := yL_count) B (hts _ List.mem_cons_self)
  refine lv_aload_n hx hb dL_count_0 rfl (lv_at hl 2 rfl) ?_
  refine lv_iconst (v := 0) hx hb dL_count_1 (by decide) ?_
  refine lv_aload_n hx hb dL_count_2 rfl (lv_at hl 0 rfl) ?_
  refine lv_iload_n hx hb dL_count_3 rfl (lv_at hl 1 rfl) ?_
  refine wk_V (As := [.int (nI w)]) (rest := [.int 0, .ref oo]) ⟨hx, hb, hml, hown, hts⟩ (c_X5_count l E hA hI hw) (cwV 1 hts gL_count_X5_count rfl rfl rfl (by decide +kernel) ⟨(Nat.le_of_ble_eq_true rfl), (Nat.le_of_ble_eq_true rfl)⟩) (wk_recv hK hA.desk rfl) hK rfl hl.1 rfl (Nat.le_of_ble_eq_true rfl) dL_count_4 ⟨Nat.zero_le _, Nat.zero_le _⟩ ?_
  refine lv_i2l (v := (nI (z_n σ w)).toInt64) hx hb dL_count_7 rfl ?_
  refine wk_last (nn := 1) hx hb hK hoo (Or.inl (Or.inr rfl)) hS 0 rfl (by decide) (by decide) dL_count_8 (fun H locs hP9 hz9 hk9 hS => ?_)
  have hoo := hP9
  have hA := hA.kept (fun q _ hf => hk9 q (wl_ne hoT hf))
  refine lv_goto (tgt := 15) hx hb dL_count_9 (by decide) ?_
  refine lv_iconst (v := 0) hx hb dL_count_15 (by decide) ?_
  refine W.widen (k := 2) (n := 30) (Nat.le_of_ble_eq_true rfl) (Nat.le_of_ble_eq_true rfl) ?_
  exact W.iret hx hb hr (we_end (Rt := wl_R E T X oo s.heap 0 (Int32.toInt64 (nI (z_n σ w))) (σ)) (F := fun q => z_FD T q ∨ q = oo) (⟨rfl, ⟨_, hoo, fun _ => (by simp [vp_updL])⟩, T, X, fun _ _ => rfl, rfl, hA⟩) hS) hS.2.2 dL_count_16
