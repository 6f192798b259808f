set_option maxHeartbeats 4000000 in
set_option maxRecDepth 100000 in
theorem w_L_giveUp (l : Launch) (E : wk_E) {T : Nat → Nat × Nat} {X : z_X} {σ : z_S} {H : Heap} (hA : DA E T X σ H) (hI : z_Ok σ) {oo : Nat} {ov : Nat → Int64} (hoo : va_at E.1 vwCl (oo, .inl (E.2.1.2.2, 1, .inr (.inl ov))) H) (hoT : T oo = (20, 0)) (hob : E.2.2.1 ≤ oo) {i : Nat} (hi : i < z_n σ 2) (htk : z_tk σ i = true) (hnb : z_now σ ≤ z_pb σ i) : we_MetP (wl_NC) l yL_giveUp wsL_giveUp rmW E H [.ref (X.1 0 0), .int (nI i), .ref oo] (fun q => z_FD T q ∨ q = oo) 2 30 (wl_R E T X oo H 0 (Int32.toInt64 (nI (z_mk (f_give σ i)))) (f_give σ i)) := by
  refine wl_ofWH (cc := cL_giveUp) (maxL := 4) (ret := (some .int)) (hh := [(0, 9, 12, 24), (0, 9, 15, 15)]) (by decide) rfl ?_
  intro p e s m args below meth c s₁ B hml hv
  obtain ⟨rfl, ⟨hH, hV⟩, hMi⟩ := hv
  subst hH
  have hK := hV.k
  have hx := B.exec
  have hb := B.bytes
  have hr := B.returns
  have hts := atoms_spec (ws := wsL_giveUp) B.pre
  have hown : s.vm.findClass RL = some m.cls := findClass_of_methodNamed B.named
  have hlocks := B.notSynchronized
  have hS : va_S (fun q => (fun q => z_FD T q ∨ q = oo) q ∨ s.heap.size ≤ q) s.heap s.heap [] := va_S.rf
  have hA9 : ∀ q : Nat, s.heap.size ≤ q → ((fun q => z_FD T q ∨ q = oo) q ∨ s.heap.size ≤ q) := fun _ h => Or.inr h
  have hbA : ∀ q : Nat, q < E.2.2.1 → ¬ ((fun q => z_FD T q ∨ q = oo) q ∨ s.heap.size ≤ q) := fun q hq z => z.elim (fun z => Or.elim (show z_FD T q ∨ q = oo from z) (z_FDb hA.2.1 hq) (fun z => absurd hq (Nat.not_lt.mpr (z ▸ hob)))) (fun z => absurd (Nat.lt_of_lt_of_le hq hV.2.2.2.2.2.2) (Nat.not_lt.mpr z))
  have hl := lv_entry [.ref (X.1 0 0), .int (nI i), .ref oo] (n := 4) (Nat.le_of_ble_eq_true rfl)
  rw [lg_entry_eq]
  generalize (lg_sl [.ref (X.1 0 0), .int (nI i), .ref oo] ++ List.replicate (4 - (lg_sl [.ref (X.1 0 0), .int (nI i), .ref oo]).length) Slot.unset).toArray = ls at hl ⊢
  have hl : lv_has ls 4 [(0, .ref (X.1 0 0)), (1, .int (nI i)), (2, .ref oo)] := hl
  have b0 := hI.n0
  have b1 := hI.n1
  have b2 := hI.n2
  have b3 := hI.n3
  have hNC := hMi
  have htab : c.exceptionTable.toList = [{ startPc := 0, endPc := 9, handlerPc := 12, catchType := 24 }, { startPc := 0, endPc := 9, handlerPc := 15, catchType := 15 }] := vx_table (x := yL_giveUp) B (hts _ List.mem_cons_self)
  refine lv_aload_n hx hb dL_giveUp_0 rfl (lv_at hl 2 rfl) ?_
  refine lv_iconst (v := 0) hx hb dL_giveUp_1 (by decide) ?_
  refine lv_aload_n hx hb dL_giveUp_2 rfl (lv_at hl 0 rfl) ?_
  refine lv_iload_n hx hb dL_giveUp_3 rfl (lv_at hl 1 rfl) ?_
  refine we_V (As := [.int (nI i)]) (rest := [.int 0, .ref oo]) ⟨hx, hb, hml, hown, hts⟩ (e_X5_giveUp l E hA hI hi htk hnb) (cwV 1 hts gL_giveUp_X5_giveUp rfl rfl rfl (by decide +kernel) ⟨(Nat.le_of_ble_eq_true rfl), (Nat.le_of_ble_eq_true rfl)⟩) (wk_recv hK hA.desk rfl) hV hS (fun _ h => Or.inl (Or.inl h)) hA9 rfl hl.1 rfl (Nat.le_of_ble_eq_true rfl) dL_giveUp_4 ⟨(Nat.le_of_ble_eq_true rfl), (Nat.le_of_ble_eq_true rfl)⟩ (fun v9 H locs hR9 hz9 hk9 hS => ?_)
  obtain ⟨rfl, hA9x⟩ := hR9
  obtain ⟨T9, hT9⟩ : ∃ T9, T9 = T := ⟨T, rfl⟩
  obtain ⟨X9, hX9⟩ : ∃ X9, X9 = X := ⟨X, rfl⟩
  rw [← hT9, ← hX9] at hA9x
  have hX9 : X9.1 0 0 = X.1 0 0 := by rw [hX9]
  have hT9 : ∀ a : Nat, a < s.heap.size → T9 a = T a := fun a _ => by rw [hT9]
  have hoT9 : T9 oo = (20, 0) := (hT9 _ hoo.lt).trans hoT
  have hoo := va_at.kept hoo (hk9 _ hoo.lt (wl_ooF hoT))
  refine wk_eqls (st' := [.int (nI (z_mk (f_give σ i))), .int 0, .ref oo]) rfl ?_
  refine lv_i2l (v := (nI (z_mk (f_give σ i))).toInt64) hx hb dL_giveUp_7 rfl ?_
  refine wk_last (nn := 1) hx hb hK hoo (Or.inl (Or.inr rfl)) hS 0 rfl (by decide) (by decide) dL_giveUp_8 (fun H locs hP9 hz9 hk9 hS => ?_)
  have hoo := hP9
  have hA9x := hA9x.kept (fun q _ hf => hk9 q (wl_ne hoT9 hf))
  refine lv_goto (tgt := 18) hx hb dL_giveUp_9 (by decide) ?_
  refine lv_iconst (v := 0) hx hb dL_giveUp_18 (by decide) ?_
  refine W.widen (k := 2) (n := 30) (Nat.le_of_ble_eq_true rfl) (Nat.le_of_ble_eq_true rfl) ?_
  exact W.iret hx hb hr (we_end (Rt := wl_R E T X oo s.heap 0 (Int32.toInt64 (nI (z_mk (f_give σ i)))) (f_give σ i)) (F := fun q => z_FD T q ∨ q = oo) (⟨rfl, ⟨_, hoo, fun _ => (by simp [vp_updL])⟩, T9, X9, hT9, hX9, hA9x⟩) hS) hS.2.2 dL_giveUp_19

set_option maxHeartbeats 4000000 in
set_option maxRecDepth 100000 in
theorem wf_L_giveUp (l : Launch) (E : wk_E) (hlf : l.stackTraces = false) {T : Nat → Nat × Nat} {X : z_X} {σ : z_S} {H : Heap} (hA : DA E T X σ H) (hI : z_Ok σ) {oo : Nat} {ov : Nat → Int64} (hoo : va_at E.1 vwCl (oo, .inl (E.2.1.2.2, 1, .inr (.inl ov))) H) (hoT : T oo = (20, 0)) (hob : E.2.2.1 ≤ oo) {x : Int32} (hbad : v_ix x (z_n σ 2) = false) : we_MetP (wl_NC) l yL_giveUp wsL_giveUp rmW E H [.ref (X.1 0 0), .int x, .ref oo] (fun q => z_FD T q ∨ q = oo) 2 30 (wl_R E T X oo H 1 (Int32.toInt64 0) (σ)) := by
  refine wl_ofWH (cc := cL_giveUp) (maxL := 4) (ret := (some .int)) (hh := [(0, 9, 12, 24), (0, 9, 15, 15)]) (by decide) rfl ?_
  intro p e s m args below meth c s₁ B hml hv
  obtain ⟨rfl, ⟨hH, hV⟩, hMi⟩ := hv
  subst hH
  have hK := hV.k
  have hx := B.exec
  have hb := B.bytes
  have hr := B.returns
  have hts := atoms_spec (ws := wsL_giveUp) B.pre
  have hown : s.vm.findClass RL = some m.cls := findClass_of_methodNamed B.named
  have hlocks := B.notSynchronized
  have hS : va_S (fun q => (fun q => z_FD T q ∨ q = oo) q ∨ s.heap.size ≤ q) s.heap s.heap [] := va_S.rf
  have hA9 : ∀ q : Nat, s.heap.size ≤ q → ((fun q => z_FD T q ∨ q = oo) q ∨ s.heap.size ≤ q) := fun _ h => Or.inr h
  have hbA : ∀ q : Nat, q < E.2.2.1 → ¬ ((fun q => z_FD T q ∨ q = oo) q ∨ s.heap.size ≤ q) := fun q hq z => z.elim (fun z => Or.elim (show z_FD T q ∨ q = oo from z) (z_FDb hA.2.1 hq) (fun z => absurd hq (Nat.not_lt.mpr (z ▸ hob)))) (fun z => absurd (Nat.lt_of_lt_of_le hq hV.2.2.2.2.2.2) (Nat.not_lt.mpr z))
  have hl := lv_entry [.ref (X.1 0 0), .int x, .ref oo] (n := 4) (Nat.le_of_ble_eq_true rfl)
  rw [lg_entry_eq]
  generalize (lg_sl [.ref (X.1 0 0), .int x, .ref oo] ++ List.replicate (4 - (lg_sl [.ref (X.1 0 0), .int x, .ref oo]).length) Slot.unset).toArray = ls at hl ⊢
  have hl : lv_has ls 4 [(0, .ref (X.1 0 0)), (1, .int x), (2, .ref oo)] := hl
  have b0 := hI.n0
  have b1 := hI.n1
  have b2 := hI.n2
  have b3 := hI.n3
  have hNC := hMi
  have htab : c.exceptionTable.toList = [{ startPc := 0, endPc := 9, handlerPc := 12, catchType := 24 }, { startPc := 0, endPc := 9, handlerPc := 15, catchType := 15 }] := vx_table (x := yL_giveUp) B (hts _ List.mem_cons_self)
  refine lv_aload_n hx hb dL_giveUp_0 rfl (lv_at hl 2 rfl) ?_
  refine lv_iconst (v := 0) hx hb dL_giveUp_1 (by decide) ?_
  refine lv_aload_n hx hb dL_giveUp_2 rfl (lv_at hl 0 rfl) ?_
  refine lv_iload_n hx hb dL_giveUp_3 rfl (lv_at hl 1 rfl) ?_
  refine wx_V (As := [.int x]) (rest := [.int 0, .ref oo]) ⟨hx, hb, hml, hown, hts⟩ (t_X5_giveUp l hlf E hA hI hbad) (cwV 1 hts gL_giveUp_X5_giveUp rfl rfl rfl (by decide +kernel) ⟨(Nat.le_of_ble_eq_true rfl), (Nat.le_of_ble_eq_true rfl)⟩) (wk_recv hK hA.desk rfl) hV rfl hl.1 rfl (Nat.le_of_ble_eq_true rfl) dL_giveUp_4 ⟨(Nat.le_of_ble_eq_true rfl), (Nat.le_of_ble_eq_true rfl)⟩ (fun ce q9 H hz9 hk9 hc9 hv9 hcl9 => ?_)
  refine vx_catch (name := "java/lang/IndexOutOfBoundsException") (E := "java/lang/IndexOutOfBoundsException") hown [] { startPc := 0, endPc := 9, handlerPc := 12, catchType := 24 } [{ startPc := 0, endPc := 9, handlerPc := 15, catchType := 15 }] htab (fun _ h => absurd h List.not_mem_nil) (by decide) (by decide) (hts _ (List.mem_of_getElem? (i := 1) rfl)) (va_Nw.use rfl (hV.2.2.1.1 "java/lang/IndexOutOfBoundsException" (by decide))) hc9 hv9 hcl9 ?_
  have hA := hA.kept (fun q hq _ => hk9 q hq)
  have hoo := va_at.kept hoo (hk9 _ hoo.lt)
  have hS : va_S (fun q => (fun q => z_FD T q ∨ q = oo) q ∨ s.heap.size ≤ q) s.heap H [] := ⟨hz9, fun q h1 _ => hk9 q h1, fun _ h => nomatch h⟩
  refine lv_astore_n (lv' := [(3, .ref q9), (0, .ref (X.1 0 0)), (1, .int x), (2, .ref oo)]) hx hb dL_giveUp_12 rfl hl (by decide) rfl (fun ls hl => ?_)
  refine lv_iconst (v := 1) hx hb dL_giveUp_13 (by decide) ?_
  refine W.widen (k := 2) (n := 30) (Nat.le_of_ble_eq_true rfl) (Nat.le_of_ble_eq_true rfl) ?_
  exact W.iret hx hb hr (we_end (Rt := wl_R E T X oo s.heap 1 (Int32.toInt64 0) (σ)) (F := fun q => z_FD T q ∨ q = oo) (⟨rfl, ⟨ov, hoo, fun z => absurd z (by decide)⟩, T, X, fun _ _ => rfl, rfl, hA⟩) hS) hS.2.2 dL_giveUp_14

set_option maxHeartbeats 4000000 in
set_option maxRecDepth 100000 in
theorem wf2_L_giveUp (l : Launch) (E : wk_E) (hlf : l.stackTraces = false) {T : Nat → Nat × Nat} {X : z_X} {σ : z_S} {H : Heap} (hA : DA E T X σ H) (hI : z_Ok σ) {oo : Nat} {ov : Nat → Int64} (hoo : va_at E.1 vwCl (oo, .inl (E.2.1.2.2, 1, .inr (.inl ov))) H) (hoT : T oo = (20, 0)) (hob : E.2.2.1 ≤ oo) {i : Nat} (hi : i < z_n σ 2) (hbad : (z_tk σ i && decide (z_now σ ≤ z_pb σ i)) = false) : we_MetP (wl_NC) l yL_giveUp wsL_giveUp rmW E H [.ref (X.1 0 0), .int (nI i), .ref oo] (fun q => z_FD T q ∨ q = oo) 2 30 (wl_R E T X oo H 2 (Int32.toInt64 0) (σ)) := by
  refine wl_ofWH (cc := cL_giveUp) (maxL := 4) (ret := (some .int)) (hh := [(0, 9, 12, 24), (0, 9, 15, 15)]) (by decide) rfl ?_
  intro p e s m args below meth c s₁ B hml hv
  obtain ⟨rfl, ⟨hH, hV⟩, hMi⟩ := hv
  subst hH
  have hK := hV.k
  have hx := B.exec
  have hb := B.bytes
  have hr := B.returns
  have hts := atoms_spec (ws := wsL_giveUp) B.pre
  have hown : s.vm.findClass RL = some m.cls := findClass_of_methodNamed B.named
  have hlocks := B.notSynchronized
  have hS : va_S (fun q => (fun q => z_FD T q ∨ q = oo) q ∨ s.heap.size ≤ q) s.heap s.heap [] := va_S.rf
  have hA9 : ∀ q : Nat, s.heap.size ≤ q → ((fun q => z_FD T q ∨ q = oo) q ∨ s.heap.size ≤ q) := fun _ h => Or.inr h
  have hbA : ∀ q : Nat, q < E.2.2.1 → ¬ ((fun q => z_FD T q ∨ q = oo) q ∨ s.heap.size ≤ q) := fun q hq z => z.elim (fun z => Or.elim (show z_FD T q ∨ q = oo from z) (z_FDb hA.2.1 hq) (fun z => absurd hq (Nat.not_lt.mpr (z ▸ hob)))) (fun z => absurd (Nat.lt_of_lt_of_le hq hV.2.2.2.2.2.2) (Nat.not_lt.mpr z))
  have hl := lv_entry [.ref (X.1 0 0), .int (nI i), .ref oo] (n := 4) (Nat.le_of_ble_eq_true rfl)
  rw [lg_entry_eq]
  generalize (lg_sl [.ref (X.1 0 0), .int (nI i), .ref oo] ++ List.replicate (4 - (lg_sl [.ref (X.1 0 0), .int (nI i), .ref oo]).length) Slot.unset).toArray = ls at hl ⊢
  have hl : lv_has ls 4 [(0, .ref (X.1 0 0)), (1, .int (nI i)), (2, .ref oo)] := hl
  have b0 := hI.n0
  have b1 := hI.n1
  have b2 := hI.n2
  have b3 := hI.n3
  have hNC := hMi
  have htab : c.exceptionTable.toList = [{ startPc := 0, endPc := 9, handlerPc := 12, catchType := 24 }, { startPc := 0, endPc := 9, handlerPc := 15, catchType := 15 }] := vx_table (x := yL_giveUp) B (hts _ List.mem_cons_self)
  refine lv_aload_n hx hb dL_giveUp_0 rfl (lv_at hl 2 rfl) ?_
  refine lv_iconst (v := 0) hx hb dL_giveUp_1 (by decide) ?_
  refine lv_aload_n hx hb dL_giveUp_2 rfl (lv_at hl 0 rfl) ?_
  refine lv_iload_n hx hb dL_giveUp_3 rfl (lv_at hl 1 rfl) ?_
  refine wx_V (As := [.int (nI i)]) (rest := [.int 0, .ref oo]) ⟨hx, hb, hml, hown, hts⟩ (t2_X5_giveUp l hlf E hA hI hi hbad) (cwV 1 hts gL_giveUp_X5_giveUp rfl rfl rfl (by decide +kernel) ⟨(Nat.le_of_ble_eq_true rfl), (Nat.le_of_ble_eq_true rfl)⟩) (wk_recv hK hA.desk rfl) hV rfl hl.1 rfl (Nat.le_of_ble_eq_true rfl) dL_giveUp_4 ⟨(Nat.le_of_ble_eq_true rfl), (Nat.le_of_ble_eq_true rfl)⟩ (fun ce q9 H hz9 hk9 hc9 hv9 hcl9 => ?_)
  refine vx_catch (name := "java/lang/IllegalStateException") (E := "java/lang/IllegalStateException") hown [{ startPc := 0, endPc := 9, handlerPc := 12, catchType := 24 }] { startPc := 0, endPc := 9, handlerPc := 15, catchType := 15 } [] htab (List.forall_mem_cons.mpr ⟨Or.inr ⟨by decide, "java/lang/IndexOutOfBoundsException", (hts _ (List.mem_of_getElem? (i := 1) rfl)), hNC _ (List.mem_of_getElem? (i := 5) rfl)⟩, fun _ h => absurd h List.not_mem_nil⟩) (by decide) (by decide) (hts _ (List.mem_of_getElem? (i := 2) rfl)) (va_Nw.use rfl (hV.2.2.1.1 "java/lang/IllegalStateException" (by decide))) hc9 hv9 hcl9 ?_
  have hA := hA.kept (fun q hq _ => hk9 q hq)
  have hoo := va_at.kept hoo (hk9 _ hoo.lt)
  have hS : va_S (fun q => (fun q => z_FD T q ∨ q = oo) q ∨ s.heap.size ≤ q) s.heap H [] := ⟨hz9, fun q h1 _ => hk9 q h1, fun _ h => nomatch h⟩
  refine lv_astore_n (lv' := [(3, .ref q9), (0, .ref (X.1 0 0)), (1, .int (nI i)), (2, .ref oo)]) hx hb dL_giveUp_15 rfl hl (by decide) rfl (fun ls hl => ?_)
  refine lv_iconst (v := 2) hx hb dL_giveUp_16 (by decide) ?_
  refine W.widen (k := 2) (n := 30) (Nat.le_of_ble_eq_true rfl) (Nat.le_of_ble_eq_true rfl) ?_
  exact W.iret hx hb hr (we_end (Rt := wl_R E T X oo s.heap 2 (Int32.toInt64 0) (σ)) (F := fun q => z_FD T q ∨ q = oo) (⟨rfl, ⟨ov, hoo, fun z => absurd z (by decide)⟩, T, X, fun _ _ => rfl, rfl, hA⟩) hS) hS.2.2 dL_giveUp_17

set_option maxHeartbeats 4000000 in
set_option maxRecDepth 100000 in
theorem w_L_handovers (l : Launch) (E : wk_E) {T : Nat → Nat × Nat} {X : z_X} {σ : z_S} {H : Heap} (hA : DA E T X σ H) (hI : z_Ok σ) {oo : Nat} {ov : Nat → Int64} (hoo : va_at E.1 vwCl (oo, .inl (E.2.1.2.2, 1, .inr (.inl ov))) H) (hoT : T oo = (20, 0)) (hob : E.2.2.1 ≤ oo) {s9 : Nat} (hs9 : s9 < z_n σ 1) : we_MetP (wl_NC) l yL_handovers wsL_handovers rmW E H [.ref (X.1 0 0), .int (nI s9), .ref oo] (fun q => z_FD T q ∨ q = oo) 2 30 (wl_R E T X oo H 0 (Int32.toInt64 (f_hand σ s9)) (σ)) := by
  refine wl_ofWH (cc := cL_handovers) (maxL := 4) (ret := (some .int)) (hh := [(0, 9, 12, 24)]) (by decide) rfl ?_
  intro p e s m args below meth c s₁ B hml hv
  obtain ⟨rfl, ⟨hH, hV⟩, hMi⟩ := hv
  subst hH
  have hK := hV.k
  have hx := B.exec
  have hb := B.bytes
  have hr := B.returns
  have hts := atoms_spec (ws := wsL_handovers) B.pre
  have hown : s.vm.findClass RL = some m.cls := findClass_of_methodNamed B.named
  have hlocks := B.notSynchronized
  have hS : va_S (fun q => (fun q => z_FD T q ∨ q = oo) q ∨ s.heap.size ≤ q) s.heap s.heap [] := va_S.rf
  have hA9 : ∀ q : Nat, s.heap.size ≤ q → ((fun q => z_FD T q ∨ q = oo) q ∨ s.heap.size ≤ q) := fun _ h => Or.inr h
  have hbA : ∀ q : Nat, q < E.2.2.1 → ¬ ((fun q => z_FD T q ∨ q = oo) q ∨ s.heap.size ≤ q) := fun q hq z => z.elim (fun z => Or.elim (show z_FD T q ∨ q = oo from z) (z_FDb hA.2.1 hq) (fun z => absurd hq (Nat.not_lt.mpr (z ▸ hob)))) (fun z => absurd (Nat.lt_of_lt_of_le hq hV.2.2.2.2.2.2) (Nat.not_lt.mpr z))
  have hl := lv_entry [.ref (X.1 0 0), .int (nI s9), .ref oo] (n := 4) (Nat.le_of_ble_eq_true rfl)
  rw [lg_entry_eq]
  generalize (lg_sl [.ref (X.1 0 0), .int (nI s9), .ref oo] ++ List.replicate (4 - (lg_sl [.ref (X.1 0 0), .int (nI s9), .ref oo]).length) Slot.unset).toArray = ls at hl ⊢
  have hl : lv_has ls 4 [(0, .ref (X.1 0 0)), (1, .int (nI s9)), (2, .ref oo)] := hl
  have b0 := hI.n0
  have b1 := hI.n1
  have b2 := hI.n2
  have b3 := hI.n3
  have hNC := hMi
  have htab : c.exceptionTable.toList = [{ startPc := 0, endPc := 9, handlerPc := 12, catchType := 24 }] := vx_table (x := yL_handovers) B (hts _ List.mem_cons_self)
  refine lv_aload_n hx hb dL_handovers_0 rfl (lv_at hl 2 rfl) ?_
  refine lv_iconst (v := 0) hx hb dL_handovers_1 (by decide) ?_
  refine lv_aload_n hx hb dL_handovers_2 rfl (lv_at hl 0 rfl) ?_
  refine lv_iload_n hx hb dL_handovers_3 rfl (lv_at hl 1 rfl) ?_
  refine wk_V (As := [.int (nI s9)]) (rest := [.int 0, .ref oo]) ⟨hx, hb, hml, hown, hts⟩ (c_X5_handovers l E hA hI hs9) (cwV 1 hts gL_handovers_X5_handovers rfl rfl rfl (by decide +kernel) ⟨(Nat.le_of_ble_eq_true rfl), (Nat.le_of_ble_eq_true rfl)⟩) (wk_recv hK hA.desk rfl) hK rfl hl.1 rfl (Nat.le_of_ble_eq_true rfl) dL_handovers_4 ⟨Nat.zero_le _, Nat.zero_le _⟩ ?_
  refine lv_i2l (v := (f_hand σ s9).toInt64) hx hb dL_handovers_7 rfl ?_
  refine wk_last (nn := 1) hx hb hK hoo (Or.inl (Or.inr rfl)) hS 0 rfl (by decide) (by decide) dL_handovers_8 (fun H locs hP9 hz9 hk9 hS => ?_)
  have hoo := hP9
  have hA := hA.kept (fun q _ hf => hk9 q (wl_ne hoT hf))
  refine lv_goto (tgt := 15) hx hb dL_handovers_9 (by decide) ?_
  refine lv_iconst (v := 0) hx hb dL_handovers_15 (by decide) ?_
  refine W.widen (k := 2) (n := 30) (Nat.le_of_ble_eq_true rfl) (Nat.le_of_ble_eq_true rfl) ?_
  exact W.iret hx hb hr (we_end (Rt := wl_R E T X oo s.heap 0 (Int32.toInt64 (f_hand σ s9)) (σ)) (F := fun q => z_FD T q ∨ q = oo) (⟨rfl, ⟨_, hoo, fun _ => (by simp [vp_updL])⟩, T, X, fun _ _ => rfl, rfl, hA⟩) hS) hS.2.2 dL_handovers_16

set_option maxHeartbeats 4000000 in
set_option maxRecDepth 100000 in
theorem wf_L_handovers (l : Launch) (E : wk_E) (hlf : l.stackTraces = false) {T : Nat → Nat × Nat} {X : z_X} {σ : z_S} {H : Heap} (hA : DA E T X σ H) (hI : z_Ok σ) {oo : Nat} {ov : Nat → Int64} (hoo : va_at E.1 vwCl (oo, .inl (E.2.1.2.2, 1, .inr (.inl ov))) H) (hoT : T oo = (20, 0)) (hob : E.2.2.1 ≤ oo) {x : Int32} (hbad : v_ix x (z_n σ 1) = false) : we_MetP (wl_NC) l yL_handovers wsL_handovers rmW E H [.ref (X.1 0 0), .int x, .ref oo] (fun q => z_FD T q ∨ q = oo) 2 30 (wl_R E T X oo H 1 (Int32.toInt64 0) (σ)) := by
  refine wl_ofWH (cc := cL_handovers) (maxL := 4) (ret := (some .int)) (hh := [(0, 9, 12, 24)]) (by decide) rfl ?_
  intro p e s m args below meth c s₁ B hml hv
  obtain ⟨rfl, ⟨hH, hV⟩, hMi⟩ := hv
  subst hH
  have hK := hV.k
  have hx := B.exec
  have hb := B.bytes
  have hr := B.returns
  have hts := atoms_spec (ws := wsL_handovers) B.pre
  have hown : s.vm.findClass RL = some m.cls := findClass_of_methodNamed B.named
  have hlocks := B.notSynchronized
  have hS : va_S (fun q => (fun q => z_FD T q ∨ q = oo) q ∨ s.heap.size ≤ q) s.heap s.heap [] := va_S.rf
  have hA9 : ∀ q : Nat, s.heap.size ≤ q → ((fun q => z_FD T q ∨ q = oo) q ∨ s.heap.size ≤ q) := fun _ h => Or.inr h
  have hbA : ∀ q : Nat, q < E.2.2.1 → ¬ ((fun q => z_FD T q ∨ q = oo) q ∨ s.heap.size ≤ q) := fun q hq z => z.elim (fun z => Or.elim (show z_FD T q ∨ q = oo from z) (z_FDb hA.2.1 hq) (fun z => absurd hq (Nat.not_lt.mpr (z ▸ hob)))) (fun z => absurd (Nat.lt_of_lt_of_le hq hV.2.2.2.2.2.2) (Nat.not_lt.mpr z))
  have hl := lv_entry [.ref (X.1 0 0), .int x, .ref oo] (n := 4) (Nat.le_of_ble_eq_true rfl)
  rw [lg_entry_eq]
  generalize (lg_sl [.ref (X.1 0 0), .int x, .ref oo] ++ List.replicate (4 - (lg_sl [.ref (X.1 0 0), .int x, .ref oo]).length) Slot.unset).toArray = ls at hl ⊢
  have hl : lv_has ls 4 [(0, .ref (X.1 0 0)), (1, .int x), (2, .ref oo)] := hl
  have b0 := hI.n0
  have b1 := hI.n1
  have b2 := hI.n2
  have b3 := hI.n3
  have hNC := hMi
  have htab : c.exceptionTable.toList = [{ startPc := 0, endPc := 9, handlerPc := 12, catchType := 24 }] := vx_table (x := yL_handovers) B (hts _ List.mem_cons_self)
  refine lv_aload_n hx hb dL_handovers_0 rfl (lv_at hl 2 rfl) ?_
  refine lv_iconst (v := 0) hx hb dL_handovers_1 (by decide) ?_
  refine lv_aload_n hx hb dL_handovers_2 rfl (lv_at hl 0 rfl) ?_
  refine lv_iload_n hx hb dL_handovers_3 rfl (lv_at hl 1 rfl) ?_
  refine wx_V (As := [.int x]) (rest := [.int 0, .ref oo]) ⟨hx, hb, hml, hown, hts⟩ (t_X5_handovers l hlf E hA hI hbad) (cwV 1 hts gL_handovers_X5_handovers rfl rfl rfl (by decide +kernel) ⟨(Nat.le_of_ble_eq_true rfl), (Nat.le_of_ble_eq_true rfl)⟩) (wk_recv hK hA.desk rfl) hV rfl hl.1 rfl (Nat.le_of_ble_eq_true rfl) dL_handovers_4 ⟨(Nat.le_of_ble_eq_true rfl), (Nat.le_of_ble_eq_true rfl)⟩ (fun ce q9 H hz9 hk9 hc9 hv9 hcl9 => ?_)
  refine vx_catch (name := "java/lang/IndexOutOfBoundsException") (E := "java/lang/IndexOutOfBoundsException") hown [] { startPc := 0, endPc := 9, handlerPc := 12, catchType := 24 } [] htab (fun _ h => absurd h List.not_mem_nil) (by decide) (by decide) (hts _ (List.mem_of_getElem? (i := 1) rfl)) (va_Nw.use rfl (hV.2.2.1.1 "java/lang/IndexOutOfBoundsException" (by decide))) hc9 hv9 hcl9 ?_
  have hA := hA.kept (fun q hq _ => hk9 q hq)
  have hoo := va_at.kept hoo (hk9 _ hoo.lt)
  have hS : va_S (fun q => (fun q => z_FD T q ∨ q = oo) q ∨ s.heap.size ≤ q) s.heap H [] := ⟨hz9, fun q h1 _ => hk9 q h1, fun _ h => nomatch h⟩
  refine lv_astore_n (lv' := [(3, .ref q9), (0, .ref (X.1 0 0)), (1, .int x), (2, .ref oo)]) hx hb dL_handovers_12 rfl hl (by decide) rfl (fun ls hl => ?_)
  refine lv_iconst (v := 1) hx hb dL_handovers_13 (by decide) ?_
  refine W.widen (k := 2) (n := 30) (Nat.le_of_ble_eq_true rfl) (Nat.le_of_ble_eq_true rfl) ?_
  exact W.iret hx hb hr (we_end (Rt := wl_R E T X oo s.heap 1 (Int32.toInt64 0) (σ)) (F := fun q => z_FD T q ∨ q = oo) (⟨rfl, ⟨ov, hoo, fun z => absurd z (by decide)⟩, T, X, fun _ _ => rfl, rfl, hA⟩) hS) hS.2.2 dL_handovers_14

set_option maxHeartbeats 4000000 in
set_option maxRecDepth 100000 in
theorem w_L_run (l : Launch) (E : wk_E) {T : Nat → Nat × Nat} {X : z_X} {σ : z_S} {H : Heap} (hA : DA E T X σ H) (hI : z_Ok σ) {oo : Nat} {ov : Nat → Int64} (hoo : va_at E.1 vwCl (oo, .inl (E.2.1.2.2, 1, .inr (.inl ov))) H) (hoT : T oo = (20, 0)) (hob : E.2.2.1 ≤ oo) {mn : Nat} (hok : v_in (nI mn) 1 500 = true) (hmn : mn ≤ 500) (hle : (z_now σ).toInt + mn ≤ 9999) : we_MetP (wl_NC) l yL_run wsL_run rmW E H [.ref (X.1 0 0), .int (nI mn), .ref oo] (fun q => z_FD T q ∨ q = oo) 2 30 (wl_R E T X oo H 0 (Int32.toInt64 ((f_run σ mn).2)) ((f_run σ mn).1)) := by
  refine wl_ofWH (cc := cL_run) (maxL := 4) (ret := (some .int)) (hh := [(0, 9, 12, 13), (0, 9, 15, 15)]) (by decide) rfl ?_
  intro p e s m args below meth c s₁ B hml hv
  obtain ⟨rfl, ⟨hH, hV⟩, hMi⟩ := hv
  subst hH
  have hK := hV.k
  have hx := B.exec
  have hb := B.bytes
  have hr := B.returns
  have hts := atoms_spec (ws := wsL_run) B.pre
  have hown : s.vm.findClass RL = some m.cls := findClass_of_methodNamed B.named
  have hlocks := B.notSynchronized
  have hS : va_S (fun q => (fun q => z_FD T q ∨ q = oo) q ∨ s.heap.size ≤ q) s.heap s.heap [] := va_S.rf
  have hA9 : ∀ q : Nat, s.heap.size ≤ q → ((fun q => z_FD T q ∨ q = oo) q ∨ s.heap.size ≤ q) := fun _ h => Or.inr h
  have hbA : ∀ q : Nat, q < E.2.2.1 → ¬ ((fun q => z_FD T q ∨ q = oo) q ∨ s.heap.size ≤ q) := fun q hq z => z.elim (fun z => Or.elim (show z_FD T q ∨ q = oo from z) (z_FDb hA.2.1 hq) (fun z => absurd hq (Nat.not_lt.mpr (z ▸ hob)))) (fun z => absurd (Nat.lt_of_lt_of_le hq hV.2.2.2.2.2.2) (Nat.not_lt.mpr z))
  have hl := lv_entry [.ref (X.1 0 0), .int (nI mn), .ref oo] (n := 4) (Nat.le_of_ble_eq_true rfl)
  rw [lg_entry_eq]
  generalize (lg_sl [.ref (X.1 0 0), .int (nI mn), .ref oo] ++ List.replicate (4 - (lg_sl [.ref (X.1 0 0), .int (nI mn), .ref oo]).length) Slot.unset).toArray = ls at hl ⊢
  have hl : lv_has ls 4 [(0, .ref (X.1 0 0)), (1, .int (nI mn)), (2, .ref oo)] := hl
  have b0 := hI.n0
  have b1 := hI.n1
  have b2 := hI.n2
  have b3 := hI.n3
  have hNC := hMi
  have htab : c.exceptionTable.toList = [{ startPc := 0, endPc := 9, handlerPc := 12, catchType := 13 }, { startPc := 0, endPc := 9, handlerPc := 15, catchType := 15 }] := vx_table (x := yL_run) B (hts _ List.mem_cons_self)
  refine lv_aload_n hx hb dL_run_0 rfl (lv_at hl 2 rfl) ?_
  refine lv_iconst (v := 0) hx hb dL_run_1 (by decide) ?_
  refine lv_aload_n hx hb dL_run_2 rfl (lv_at hl 0 rfl) ?_
  refine lv_iload_n hx hb dL_run_3 rfl (lv_at hl 1 rfl) ?_
  refine we_V (As := [.int (nI mn)]) (rest := [.int 0, .ref oo]) ⟨hx, hb, hml, hown, hts⟩ (e_X5_run l E hA hI hok hmn hle) (cwV 1 hts gL_run_X5_run rfl rfl rfl (by decide +kernel) ⟨(Nat.le_of_ble_eq_true rfl), (Nat.le_of_ble_eq_true rfl)⟩) (wk_recv hK hA.desk rfl) hV hS (fun _ h => Or.inl (Or.inl h)) hA9 rfl hl.1 rfl (Nat.le_of_ble_eq_true rfl) dL_run_4 ⟨(Nat.le_of_ble_eq_true rfl), (Nat.le_of_ble_eq_true rfl)⟩ (fun v9 H locs hR9 hz9 hk9 hS => ?_)
  obtain ⟨rfl, hA9x⟩ := hR9
  obtain ⟨T9, hT9⟩ : ∃ T9, T9 = T := ⟨T, rfl⟩
  obtain ⟨X9, hX9⟩ : ∃ X9, X9 = X := ⟨X, rfl⟩
  rw [← hT9, ← hX9] at hA9x
  have hX9 : X9.1 0 0 = X.1 0 0 := by rw [hX9]
  have hT9 : ∀ a : Nat, a < s.heap.size → T9 a = T a := fun a _ => by rw [hT9]
  have hoT9 : T9 oo = (20, 0) := (hT9 _ hoo.lt).trans hoT
  have hoo := va_at.kept hoo (hk9 _ hoo.lt (wl_ooF hoT))
  refine wk_eqls (st' := [.int ((f_run σ mn).2), .int 0, .ref oo]) rfl ?_
  refine lv_i2l (v := ((f_run σ mn).2).toInt64) hx hb dL_run_7 rfl ?_
  refine wk_last (nn := 1) hx hb hK hoo (Or.inl (Or.inr rfl)) hS 0 rfl (by decide) (by decide) dL_run_8 (fun H locs hP9 hz9 hk9 hS => ?_)
  have hoo := hP9
  have hA9x := hA9x.kept (fun q _ hf => hk9 q (wl_ne hoT9 hf))
  refine lv_goto (tgt := 18) hx hb dL_run_9 (by decide) ?_
  refine lv_iconst (v := 0) hx hb dL_run_18 (by decide) ?_
  refine W.widen (k := 2) (n := 30) (Nat.le_of_ble_eq_true rfl) (Nat.le_of_ble_eq_true rfl) ?_
  exact W.iret hx hb hr (we_end (Rt := wl_R E T X oo s.heap 0 (Int32.toInt64 ((f_run σ mn).2)) ((f_run σ mn).1)) (F := fun q => z_FD T q ∨ q = oo) (⟨rfl, ⟨_, hoo, fun _ => (by simp [vp_updL])⟩, T9, X9, hT9, hX9, hA9x⟩) hS) hS.2.2 dL_run_19

set_option maxHeartbeats 4000000 in
set_option maxRecDepth 100000 in
theorem wf_L_run (l : Launch) (E : wk_E) (hlf : l.stackTraces = false) {T : Nat → Nat × Nat} {X : z_X} {σ : z_S} {H : Heap} (hA : DA E T X σ H) (hI : z_Ok σ) {oo : Nat} {ov : Nat → Int64} (hoo : va_at E.1 vwCl (oo, .inl (E.2.1.2.2, 1, .inr (.inl ov))) H) (hoT : T oo = (20, 0)) (hob : E.2.2.1 ≤ oo) {x : Int32} (hbad : v_in x 1 500 = false) : we_MetP (wl_NC) l yL_run wsL_run rmW E H [.ref (X.1 0 0), .int x, .ref oo] (fun q => z_FD T q ∨ q = oo) 2 30 (wl_R E T X oo H 1 (Int32.toInt64 0) (σ)) := by
  refine wl_ofWH (cc := cL_run) (maxL := 4) (ret := (some .int)) (hh := [(0, 9, 12, 13), (0, 9, 15, 15)]) (by decide) rfl ?_
  intro p e s m args below meth c s₁ B hml hv
  obtain ⟨rfl, ⟨hH, hV⟩, hMi⟩ := hv
  subst hH
  have hK := hV.k
  have hx := B.exec
  have hb := B.bytes
  have hr := B.returns
  have hts := atoms_spec (ws := wsL_run) B.pre
  have hown : s.vm.findClass RL = some m.cls := findClass_of_methodNamed B.named
  have hlocks := B.notSynchronized
  have hS : va_S (fun q => (fun q => z_FD T q ∨ q = oo) q ∨ s.heap.size ≤ q) s.heap s.heap [] := va_S.rf
  have hA9 : ∀ q : Nat, s.heap.size ≤ q → ((fun q => z_FD T q ∨ q = oo) q ∨ s.heap.size ≤ q) := fun _ h => Or.inr h
  have hbA : ∀ q : Nat, q < E.2.2.1 → ¬ ((fun q => z_FD T q ∨ q = oo) q ∨ s.heap.size ≤ q) := fun q hq z => z.elim (fun z => Or.elim (show z_FD T q ∨ q = oo from z) (z_FDb hA.2.1 hq) (fun z => absurd hq (Nat.not_lt.mpr (z ▸ hob)))) (fun z => absurd (Nat.lt_of_lt_of_le hq hV.2.2.2.2.2.2) (Nat.not_lt.mpr z))
  have hl := lv_entry [.ref (X.1 0 0), .int x, .ref oo] (n := 4) (Nat.le_of_ble_eq_true rfl)
  rw [lg_entry_eq]
  generalize (lg_sl [.ref (X.1 0 0), .int x, .ref oo] ++ List.replicate (4 - (lg_sl [.ref (X.1 0 0), .int x, .ref oo]).length) Slot.unset).toArray = ls at hl ⊢
  have hl : lv_has ls 4 [(0, .ref (X.1 0 0)), (1, .int x), (2, .ref oo)] := hl
  have b0 := hI.n0
  have b1 := hI.n1
  have b2 := hI.n2
  have b3 := hI.n3
  have hNC := hMi
  have htab : c.exceptionTable.toList = [{ startPc := 0, endPc := 9, handlerPc := 12, catchType := 13 }, { startPc := 0, endPc := 9, handlerPc := 15, catchType := 15 }] := vx_table (x := yL_run) B (hts _ List.mem_cons_self)
  refine lv_aload_n hx hb dL_run_0 rfl (lv_at hl 2 rfl) ?_
  refine lv_iconst (v := 0) hx hb dL_run_1 (by decide) ?_
  refine lv_aload_n hx hb dL_run_2 rfl (lv_at hl 0 rfl) ?_
  refine lv_iload_n hx hb dL_run_3 rfl (lv_at hl 1 rfl) ?_
  refine wx_V (As := [.int x]) (rest := [.int 0, .ref oo]) ⟨hx, hb, hml, hown, hts⟩ (t_X5_run l hlf E hA hI hbad) (cwV 1 hts gL_run_X5_run rfl rfl rfl (by decide +kernel) ⟨(Nat.le_of_ble_eq_true rfl), (Nat.le_of_ble_eq_true rfl)⟩) (wk_recv hK hA.desk rfl) hV rfl hl.1 rfl (Nat.le_of_ble_eq_true rfl) dL_run_4 ⟨(Nat.le_of_ble_eq_true rfl), (Nat.le_of_ble_eq_true rfl)⟩ (fun ce q9 H hz9 hk9 hc9 hv9 hcl9 => ?_)
  refine vx_catch (name := "java/lang/IllegalArgumentException") (E := "java/lang/IllegalArgumentException") hown [] { startPc := 0, endPc := 9, handlerPc := 12, catchType := 13 } [{ startPc := 0, endPc := 9, handlerPc := 15, catchType := 15 }] htab (fun _ h => absurd h List.not_mem_nil) (by decide) (by decide) (hts _ (List.mem_of_getElem? (i := 1) rfl)) (va_Nw.use rfl (hV.2.2.1.1 "java/lang/IllegalArgumentException" (by decide))) hc9 hv9 hcl9 ?_
  have hA := hA.kept (fun q hq _ => hk9 q hq)
  have hoo := va_at.kept hoo (hk9 _ hoo.lt)
  have hS : va_S (fun q => (fun q => z_FD T q ∨ q = oo) q ∨ s.heap.size ≤ q) s.heap H [] := ⟨hz9, fun q h1 _ => hk9 q h1, fun _ h => nomatch h⟩
  refine lv_astore_n (lv' := [(3, .ref q9), (0, .ref (X.1 0 0)), (1, .int x), (2, .ref oo)]) hx hb dL_run_12 rfl hl (by decide) rfl (fun ls hl => ?_)
  refine lv_iconst (v := 1) hx hb dL_run_13 (by decide) ?_
  refine W.widen (k := 2) (n := 30) (Nat.le_of_ble_eq_true rfl) (Nat.le_of_ble_eq_true rfl) ?_
  exact W.iret hx hb hr (we_end (Rt := wl_R E T X oo s.heap 1 (Int32.toInt64 0) (σ)) (F := fun q => z_FD T q ∨ q = oo) (⟨rfl, ⟨ov, hoo, fun z => absurd z (by decide)⟩, T, X, fun _ _ => rfl, rfl, hA⟩) hS) hS.2.2 dL_run_14
