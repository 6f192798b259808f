set_option maxHeartbeats 4000000 in
set_option maxRecDepth 100000 in
theorem wf2_L_run (l : Launch) (E : wk_E) (hlf : l.stackTraces = false) {T : Nat → Nat × Nat} {X : z_X} {σ : z_S} {H : Heap} (hA : DA E T X σ H) (hI : z_Ok σ) {oo : Nat} {ov : Nat → Int64} (hoo : va_at E.1 vwCl (oo, .inl (E.2.1.2.2, 1, .inr (.inl ov))) H) (hoT : T oo = (20, 0)) (hob : E.2.2.1 ≤ oo) {x : Int32} (hok : v_in x 1 500 = true) (hbad : ¬ z_now σ + x ≤ 9999) : we_MetP (wl_NC) l yL_run wsL_run rmW E H [.ref (X.1 0 0), .int x, .ref oo] (fun q => z_FD T q ∨ q = oo) 2 30 (wl_R E T X oo H 2 (Int32.toInt64 0) (σ)) := by
  refine wl_ofWH (cc := cL_run) (maxL := 4) (ret := (some .int)) (hh := [(0, 9, 12, 13), (0, 9, 15, 15)]) (by decide) rfl ?_
  intro p e s m args below meth c s₁ B hml hv
  obtain ⟨rfl, ⟨hH, hV⟩, hMi⟩ := hv
  subst hH
  have hK := hV.k
  have hx := B.exec
  have hb := B.bytes
  have hr := B.returns
  have hts := atoms_spec (ws := wsL_run) B.pre
  have hown : s.vm.findClass RL = some m.cls := findClass_of_methodNamed B.named
  have hlocks := B.notSynchronized
  have hS : va_S (fun q => (fun q => z_FD T q ∨ q = oo) q ∨ s.heap.size ≤ q) s.heap s.heap [] := va_S.rf
  have hA9 : ∀ q : Nat, s.heap.size ≤ q → ((fun q => z_FD T q ∨ q = oo) q ∨ s.heap.size ≤ q) := fun _ h => Or.inr h
  have hbA : ∀ q : Nat, q < E.2.2.1 → ¬ ((fun q => z_FD T q ∨ q = oo) q ∨ s.heap.size ≤ q) := fun q hq z => z.elim (fun z => Or.elim (show z_FD T q ∨ q = oo from z) (z_FDb hA.2.1 hq) (fun z => absurd hq (Nat.not_lt.mpr (z ▸ hob)))) (fun z => absurd (Nat.lt_of_lt_of_le hq hV.2.2.2.2.2.2) (Nat.not_lt.mpr z))
  have hl := lv_entry [.ref (X.1 0 0), .int x, .ref oo] (n := 4) (Nat.le_of_ble_eq_true rfl)
  rw [lg_entry_eq]
  generalize (lg_sl [.ref (X.1 0 0), .int x, .ref oo] ++ List.replicate (4 - (lg_sl [.ref (X.1 0 0), .int x, .ref oo]).length) Slot.unset).toArray = ls at hl ⊢
  have hl : lv_has ls 4 [(0, .ref (X.1 0 0)), (1, .int x), (2, .ref oo)] := hl
  have b0 := hI.n0
  have b1 := hI.n1
  have b2 := hI.n2
  have b3 := hI.n3
  have hNC := hMi
  have htab : c.exceptionTable.toList = [{ startPc := 0, endPc := 9, handlerPc := 12, catchType := 13 }, { startPc := 0, endPc := 9, handlerPc := 15, catchType := 15 }] := vx_table (x := yL_run) B (hts _ List.mem_cons_self)
  refine lv_aload_n hx hb dL_run_0 rfl (lv_at hl 2 rfl) ?_
  refine lv_iconst (v := 0) hx hb dL_run_1 (by decide) ?_
  refine lv_aload_n hx hb dL_run_2 rfl (lv_at hl 0 rfl) ?_
  refine lv_iload_n hx hb dL_run_3 rfl (lv_at hl 1 rfl) ?_
  refine wx_V (As := [.int x]) (rest := [.int 0, .ref oo]) ⟨hx, hb, hml, hown, hts⟩ (t2_X5_run l hlf E hA hI hok hbad) (cwV 1 hts gL_run_X5_run rfl rfl rfl (by decide +kernel) ⟨(Nat.le_of_ble_eq_true rfl), (Nat.le_of_ble_eq_true rfl)⟩) (wk_recv hK hA.desk rfl) hV rfl hl.1 rfl (Nat.le_of_ble_eq_true rfl) dL_run_4 ⟨(Nat.le_of_ble_eq_true rfl), (Nat.le_of_ble_eq_true rfl)⟩ (fun ce q9 H hz9 hk9 hc9 hv9 hcl9 => ?_)
  refine vx_catch (name := "java/lang/IllegalStateException") (E := "java/lang/IllegalStateException") hown [{ startPc := 0, endPc := 9, handlerPc := 12, catchType := 13 }] { startPc := 0, endPc := 9, handlerPc := 15, catchType := 15 } [] htab (List.forall_mem_cons.mpr ⟨Or.inr ⟨by decide, "java/lang/IllegalArgumentException", (hts _ (List.mem_of_getElem? (i := 1) rfl)), hNC _ (List.mem_of_getElem? (i := 0) rfl)⟩, fun _ h => absurd h List.not_mem_nil⟩) (by decide) (by decide) (hts _ (List.mem_of_getElem? (i := 2) rfl)) (va_Nw.use rfl (hV.2.2.1.1 "java/lang/IllegalStateException" (by decide))) hc9 hv9 hcl9 ?_
  have hA := hA.kept (fun q hq _ => hk9 q hq)
  have hoo := va_at.kept hoo (hk9 _ hoo.lt)
  have hS : va_S (fun q => (fun q => z_FD T q ∨ q = oo) q ∨ s.heap.size ≤ q) s.heap H [] := ⟨hz9, fun q h1 _ => hk9 q h1, fun _ h => nomatch h⟩
  refine lv_astore_n (lv' := [(3, .ref q9), (0, .ref (X.1 0 0)), (1, .int x), (2, .ref oo)]) hx hb dL_run_15 rfl hl (by decide) rfl (fun ls hl => ?_)
  refine lv_iconst (v := 2) hx hb dL_run_16 (by decide) ?_
  refine W.widen (k := 2) (n := 30) (Nat.le_of_ble_eq_true rfl) (Nat.le_of_ble_eq_true rfl) ?_
  exact W.iret hx hb hr (we_end (Rt := wl_R E T X oo s.heap 2 (Int32.toInt64 0) (σ)) (F := fun q => z_FD T q ∨ q = oo) (⟨rfl, ⟨ov, hoo, fun z => absurd z (by decide)⟩, T, X, fun _ _ => rfl, rfl, hA⟩) hS) hS.2.2 dL_run_17
