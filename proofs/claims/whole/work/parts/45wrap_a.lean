abbrev rmW : Room := { frames := 45, cells := 2, slots := 30, locals := 1500 }

set_option maxHeartbeats 4000000 in
set_option maxRecDepth 100000 in
theorem w_L_addAntenna (l : Launch) (E : wk_E) {T : Nat → Nat × Nat} {X : z_X} {σ : z_S} {H : Heap} (hA : DA E T X σ H) (hI : z_Ok σ) {oo : Nat} {ov : Nat → Int64} (hoo : va_at E.1 vwCl (oo, .inl (E.2.1.2.2, 1, .inr (.inl ov))) H) (hoT : T oo = (20, 0)) (hob : E.2.2.1 ≤ oo) (hZ : z_Zr σ) {x y z : Int32} (hok : v_ant x y z = true) (hn : z_n σ 0 < 5) : we_MetP (wl_NC) l yL_addAntenna wsL_addAntenna rmW E H [.ref (X.1 0 0), .int x, .int y, .int z, .ref oo] (fun q => z_FD T q ∨ q = oo) 2 30 (wl_R E T X oo H 0 (Int32.toInt64 (nI (z_n σ 0))) (f_addA σ x y z)) := by
  refine wl_ofWH (cc := cL_addAntenna) (maxL := 6) (ret := (some .int)) (hh := [(0, 12, 15, 13), (0, 12, 19, 15)]) (by decide) rfl ?_
  intro p e s m args below meth c s₁ B hml hv
  obtain ⟨rfl, ⟨hH, hV⟩, hMi⟩ := hv
  subst hH
  have hK := hV.k
  have hx := B.exec
  have hb := B.bytes
  have hr := B.returns
  have hts := atoms_spec (ws := wsL_addAntenna) B.pre
  have hown : s.vm.findClass RL = some m.cls := findClass_of_methodNamed B.named
  have hlocks := B.notSynchronized
  have hS : va_S (fun q => (fun q => z_FD T q ∨ q = oo) q ∨ s.heap.size ≤ q) s.heap s.heap [] := va_S.rf
  have hA9 : ∀ q : Nat, s.heap.size ≤ q → ((fun q => z_FD T q ∨ q = oo) q ∨ s.heap.size ≤ q) := fun _ h => Or.inr h
  have hbA : ∀ q : Nat, q < E.2.2.1 → ¬ ((fun q => z_FD T q ∨ q = oo) q ∨ s.heap.size ≤ q) := fun q hq z => z.elim (fun z => Or.elim (show z_FD T q ∨ q = oo from z) (z_FDb hA.2.1 hq) (fun z => absurd hq (Nat.not_lt.mpr (z ▸ hob)))) (fun z => absurd (Nat.lt_of_lt_of_le hq hV.2.2.2.2.2.2) (Nat.not_lt.mpr z))
  have hl := lv_entry [.ref (X.1 0 0), .int x, .int y, .int z, .ref oo] (n := 6) (Nat.le_of_ble_eq_true rfl)
  rw [lg_entry_eq]
  generalize (lg_sl [.ref (X.1 0 0), .int x, .int y, .int z, .ref oo] ++ List.replicate (6 - (lg_sl [.ref (X.1 0 0), .int x, .int y, .int z, .ref oo]).length) Slot.unset).toArray = ls at hl ⊢
  have hl : lv_has ls 6 [(0, .ref (X.1 0 0)), (1, .int x), (2, .int y), (3, .int z), (4, .ref oo)] := hl
  have b0 := hI.n0
  have b1 := hI.n1
  have b2 := hI.n2
  have b3 := hI.n3
  have hNC := hMi
  have htab : c.exceptionTable.toList = [{ startPc := 0, endPc := 12, handlerPc := 15, catchType := 13 }, { startPc := 0, endPc := 12, handlerPc := 19, catchType := 15 }] := vx_table (x := yL_addAntenna) B (hts _ List.mem_cons_self)
  refine lv_aload hx hb dL_addAntenna_0 (lv_at hl 4 rfl) ?_
  refine lv_iconst (v := 0) hx hb dL_addAntenna_2 (by decide) ?_
  refine lv_aload_n hx hb dL_addAntenna_3 rfl (lv_at hl 0 rfl) ?_
  refine lv_iload_n hx hb dL_addAntenna_4 rfl (lv_at hl 1 rfl) ?_
  refine lv_iload_n hx hb dL_addAntenna_5 rfl (lv_at hl 2 rfl) ?_
  refine lv_iload_n hx hb dL_addAntenna_6 rfl (lv_at hl 3 rfl) ?_
  refine we_V (As := [.int x, .int y, .int z]) (rest := [.int 0, .ref oo]) ⟨hx, hb, hml, hown, hts⟩ (e_X5_addAntenna l E hA hI hZ hok hn) (cwV 3 hts gL_addAntenna_X5_addAntenna rfl rfl rfl (by decide +kernel) ⟨(Nat.le_of_ble_eq_true rfl), (Nat.le_of_ble_eq_true rfl)⟩) (wk_recv hK hA.desk rfl) hV hS (fun _ h => Or.inl (Or.inl h)) hA9 rfl hl.1 rfl (Nat.le_of_ble_eq_true rfl) dL_addAntenna_7 ⟨(Nat.le_of_ble_eq_true rfl), (Nat.le_of_ble_eq_true rfl)⟩ (fun v9 H locs hR9 hz9 hk9 hS => ?_)
  obtain ⟨rfl, T9, X9, hT9, hX9, hA9x⟩ := hR9
  have hoT9 : T9 oo = (20, 0) := (hT9 _ hoo.lt).trans hoT
  have hoo := va_at.kept hoo (hk9 _ hoo.lt (wl_ooF hoT))
  refine wk_eqls (st' := [.int (nI (z_n σ 0)), .int 0, .ref oo]) rfl ?_
  refine lv_i2l (v := (nI (z_n σ 0)).toInt64) hx hb dL_addAntenna_10 rfl ?_
  refine wk_last (nn := 1) hx hb hK hoo (Or.inl (Or.inr rfl)) hS 0 rfl (by decide) (by decide) dL_addAntenna_11 (fun H locs hP9 hz9 hk9 hS => ?_)
  have hoo := hP9
  have hA9x := hA9x.kept (fun q _ hf => hk9 q (wl_ne hoT9 hf))
  refine lv_goto (tgt := 23) hx hb dL_addAntenna_12 (by decide) ?_
  refine lv_iconst (v := 0) hx hb dL_addAntenna_23 (by decide) ?_
  refine W.widen (k := 2) (n := 30) (Nat.le_of_ble_eq_true rfl) (Nat.le_of_ble_eq_true rfl) ?_
  exact W.iret hx hb hr (we_end (Rt := wl_R E T X oo s.heap 0 (Int32.toInt64 (nI (z_n σ 0))) (f_addA σ x y z)) (F := fun q => z_FD T q ∨ q = oo) (⟨rfl, ⟨_, hoo, fun _ => (by simp [vp_updL])⟩, T9, X9, hT9, hX9, hA9x⟩) hS) hS.2.2 dL_addAntenna_24

set_option maxHeartbeats 4000000 in
set_option maxRecDepth 100000 in
theorem wf_L_addAntenna (l : Launch) (E : wk_E) (hlf : l.stackTraces = false) {T : Nat → Nat × Nat} {X : z_X} {σ : z_S} {H : Heap} (hA : DA E T X σ H) (hI : z_Ok σ) {oo : Nat} {ov : Nat → Int64} (hoo : va_at E.1 vwCl (oo, .inl (E.2.1.2.2, 1, .inr (.inl ov))) H) (hoT : T oo = (20, 0)) (hob : E.2.2.1 ≤ oo) {x y z : Int32} (hbad : v_ant x y z = false) : we_MetP (wl_NC) l yL_addAntenna wsL_addAntenna rmW E H [.ref (X.1 0 0), .int x, .int y, .int z, .ref oo] (fun q => z_FD T q ∨ q = oo) 2 30 (wl_R E T X oo H 1 (Int32.toInt64 0) (σ)) := by
  refine wl_ofWH (cc := cL_addAntenna) (maxL := 6) (ret := (some .int)) (hh := [(0, 12, 15, 13), (0, 12, 19, 15)]) (by decide) rfl ?_
  intro p e s m args below meth c s₁ B hml hv
  obtain ⟨rfl, ⟨hH, hV⟩, hMi⟩ := hv
  subst hH
  have hK := hV.k
  have hx := B.exec
  have hb := B.bytes
  have hr := B.returns
  have hts := atoms_spec (ws := wsL_addAntenna) B.pre
  have hown : s.vm.findClass RL = some m.cls := findClass_of_methodNamed B.named
  have hlocks := B.notSynchronized
  have hS : va_S (fun q => (fun q => z_FD T q ∨ q = oo) q ∨ s.heap.size ≤ q) s.heap s.heap [] := va_S.rf
  have hA9 : ∀ q : Nat, s.heap.size ≤ q → ((fun q => z_FD T q ∨ q = oo) q ∨ s.heap.size ≤ q) := fun _ h => Or.inr h
  have hbA : ∀ q : Nat, q < E.2.2.1 → ¬ ((fun q => z_FD T q ∨ q = oo) q ∨ s.heap.size ≤ q) := fun q hq z => z.elim (fun z => Or.elim (show z_FD T q ∨ q = oo from z) (z_FDb hA.2.1 hq) (fun z => absurd hq (Nat.not_lt.mpr (z ▸ hob)))) (fun z => absurd (Nat.lt_of_lt_of_le hq hV.2.2.2.2.2.2) (Nat.not_lt.mpr z))
  have hl := lv_entry [.ref (X.1 0 0), .int x, .int y, .int z, .ref oo] (n := 6) (Nat.le_of_ble_eq_true rfl)
  rw [lg_entry_eq]
  generalize (lg_sl [.ref (X.1 0 0), .int x, .int y, .int z, .ref oo] ++ List.replicate (6 - (lg_sl [.ref (X.1 0 0), .int x, .int y, .int z, .ref oo]).length) Slot.unset).toArray = ls at hl ⊢
  have hl : lv_has ls 6 [(0, .ref (X.1 0 0)), (1, .int x), (2, .int y), (3, .int z), (4, .ref oo)] := hl
  have b0 := hI.n0
  have b1 := hI.n1
  have b2 := hI.n2
  have b3 := hI.n3
  have hNC := hMi
  have htab : c.exceptionTable.toList = [{ startPc := 0, endPc := 12, handlerPc := 15, catchType := 13 }, { startPc := 0, endPc := 12, handlerPc := 19, catchType := 15 }] := vx_table (x := yL_addAntenna) B (hts _ List.mem_cons_self)
  refine lv_aload hx hb dL_addAntenna_0 (lv_at hl 4 rfl) ?_
  refine lv_iconst (v := 0) hx hb dL_addAntenna_2 (by decide) ?_
  refine lv_aload_n hx hb dL_addAntenna_3 rfl (lv_at hl 0 rfl) ?_
  refine lv_iload_n hx hb dL_addAntenna_4 rfl (lv_at hl 1 rfl) ?_
  refine lv_iload_n hx hb dL_addAntenna_5 rfl (lv_at hl 2 rfl) ?_
  refine lv_iload_n hx hb dL_addAntenna_6 rfl (lv_at hl 3 rfl) ?_
  refine wx_V (As := [.int x, .int y, .int z]) (rest := [.int 0, .ref oo]) ⟨hx, hb, hml, hown, hts⟩ (t_X5_addAntenna l hlf E hA hI hbad) (cwV 3 hts gL_addAntenna_X5_addAntenna rfl rfl rfl (by decide +kernel) ⟨(Nat.le_of_ble_eq_true rfl), (Nat.le_of_ble_eq_true rfl)⟩) (wk_recv hK hA.desk rfl) hV rfl hl.1 rfl (Nat.le_of_ble_eq_true rfl) dL_addAntenna_7 ⟨(Nat.le_of_ble_eq_true rfl), (Nat.le_of_ble_eq_true rfl)⟩ (fun ce q9 H hz9 hk9 hc9 hv9 hcl9 => ?_)
  refine vx_catch (name := "java/lang/IllegalArgumentException") (E := "java/lang/IllegalArgumentException") hown [] { startPc := 0, endPc := 12, handlerPc := 15, catchType := 13 } [{ startPc := 0, endPc := 12, handlerPc := 19, catchType := 15 }] htab (fun _ h => absurd h List.not_mem_nil) (by decide) (by decide) (hts _ (List.mem_of_getElem? (i := 1) rfl)) (va_Nw.use rfl (hV.2.2.1.1 "java/lang/IllegalArgumentException" (by decide))) hc9 hv9 hcl9 ?_
  have hA := hA.kept (fun q hq _ => hk9 q hq)
  have hoo := va_at.kept hoo (hk9 _ hoo.lt)
  have hS : va_S (fun q => (fun q => z_FD T q ∨ q = oo) q ∨ s.heap.size ≤ q) s.heap H [] := ⟨hz9, fun q h1 _ => hk9 q h1, fun _ h => nomatch h⟩
  refine lv_astore (lv' := [(5, .ref q9), (0, .ref (X.1 0 0)), (1, .int x), (2, .int y), (3, .int z), (4, .ref oo)]) hx hb dL_addAntenna_15 hl (by decide) rfl (fun ls hl => ?_)
  refine lv_iconst (v := 1) hx hb dL_addAntenna_17 (by decide) ?_
  refine W.widen (k := 2) (n := 30) (Nat.le_of_ble_eq_true rfl) (Nat.le_of_ble_eq_true rfl) ?_
  exact W.iret hx hb hr (we_end (Rt := wl_R E T X oo s.heap 1 (Int32.toInt64 0) (σ)) (F := fun q => z_FD T q ∨ q = oo) (⟨rfl, ⟨ov, hoo, fun z => absurd z (by decide)⟩, T, X, fun _ _ => rfl, rfl, hA⟩) hS) hS.2.2 dL_addAntenna_18

set_option maxHeartbeats 4000000 in
set_option maxRecDepth 100000 in
theorem wf2_L_addAntenna (l : Launch) (E : wk_E) (hlf : l.stackTraces = false) {T : Nat → Nat × Nat} {X : z_X} {σ : z_S} {H : Heap} (hA : DA E T X σ H) (hI : z_Ok σ) {oo : Nat} {ov : Nat → Int64} (hoo : va_at E.1 vwCl (oo, .inl (E.2.1.2.2, 1, .inr (.inl ov))) H) (hoT : T oo = (20, 0)) (hob : E.2.2.1 ≤ oo) {x y z : Int32} (hok : v_ant x y z = true) (hn : ¬ z_n σ 0 < 5) : we_MetP (wl_NC) l yL_addAntenna wsL_addAntenna rmW E H [.ref (X.1 0 0), .int x, .int y, .int z, .ref oo] (fun q => z_FD T q ∨ q = oo) 2 30 (wl_R E T X oo H 2 (Int32.toInt64 0) (σ)) := by
  refine wl_ofWH (cc := cL_addAntenna) (maxL := 6) (ret := (some .int)) (hh := [(0, 12, 15, 13), (0, 12, 19, 15)]) (by decide) rfl ?_
  intro p e s m args below meth c s₁ B hml hv
  obtain ⟨rfl, ⟨hH, hV⟩, hMi⟩ := hv
  subst hH
  have hK := hV.k
  have hx := B.exec
  have hb := B.bytes
  have hr := B.returns
  have hts := atoms_spec (ws := wsL_addAntenna) B.pre
  have hown : s.vm.findClass RL = some m.cls := findClass_of_methodNamed B.named
  have hlocks := B.notSynchronized
  have hS : va_S (fun q => (fun q => z_FD T q ∨ q = oo) q ∨ s.heap.size ≤ q) s.heap s.heap [] := va_S.rf
  have hA9 : ∀ q : Nat, s.heap.size ≤ q → ((fun q => z_FD T q ∨ q = oo) q ∨ s.heap.size ≤ q) := fun _ h => Or.inr h
  have hbA : ∀ q : Nat, q < E.2.2.1 → ¬ ((fun q => z_FD T q ∨ q = oo) q ∨ s.heap.size ≤ q) := fun q hq z => z.elim (fun z => Or.elim (show z_FD T q ∨ q = oo from z) (z_FDb hA.2.1 hq) (fun z => absurd hq (Nat.not_lt.mpr (z ▸ hob)))) (fun z => absurd (Nat.lt_of_lt_of_le hq hV.2.2.2.2.2.2) (Nat.not_lt.mpr z))
  have hl := lv_entry [.ref (X.1 0 0), .int x, .int y, .int z, .ref oo] (n := 6) (Nat.le_of_ble_eq_true rfl)
  rw [lg_entry_eq]
  generalize (lg_sl [.ref (X.1 0 0), .int x, .int y, .int z, .ref oo] ++ List.replicate (6 - (lg_sl [.ref (X.1 0 0), .int x, .int y, .int z, .ref oo]).length) Slot.unset).toArray = ls at hl ⊢
  have hl : lv_has ls 6 [(0, .ref (X.1 0 0)), (1, .int x), (2, .int y), (3, .int z), (4, .ref oo)] := hl
  have b0 := hI.n0
  have b1 := hI.n1
  have b2 := hI.n2
  have b3 := hI.n3
  have hNC := hMi
  have htab : c.exceptionTable.toList = [{ startPc := 0, endPc := 12, handlerPc := 15, catchType := 13 }, { startPc := 0, endPc := 12, handlerPc := 19, catchType := 15 }] := vx_table (x := yL_addAntenna) B (hts _ List.mem_cons_self)
  refine lv_aload hx hb dL_addAntenna_0 (lv_at hl 4 rfl) ?_
  refine lv_iconst (v := 0) hx hb dL_addAntenna_2 (by decide) ?_
  refine lv_aload_n hx hb dL_addAntenna_3 rfl (lv_at hl 0 rfl) ?_
  refine lv_iload_n hx hb dL_addAntenna_4 rfl (lv_at hl 1 rfl) ?_
  refine lv_iload_n hx hb dL_addAntenna_5 rfl (lv_at hl 2 rfl) ?_
  refine lv_iload_n hx hb dL_addAntenna_6 rfl (lv_at hl 3 rfl) ?_
  refine wx_V (As := [.int x, .int y, .int z]) (rest := [.int 0, .ref oo]) ⟨hx, hb, hml, hown, hts⟩ (t2_X5_addAntenna l hlf E hA hI hok hn) (cwV 3 hts gL_addAntenna_X5_addAntenna rfl rfl rfl (by decide +kernel) ⟨(Nat.le_of_ble_eq_true rfl), (Nat.le_of_ble_eq_true rfl)⟩) (wk_recv hK hA.desk rfl) hV rfl hl.1 rfl (Nat.le_of_ble_eq_true rfl) dL_addAntenna_7 ⟨(Nat.le_of_ble_eq_true rfl), (Nat.le_of_ble_eq_true rfl)⟩ (fun ce q9 H hz9 hk9 hc9 hv9 hcl9 => ?_)
  refine vx_catch (name := "java/lang/IllegalStateException") (E := "java/lang/IllegalStateException") hown [{ startPc := 0, endPc := 12, handlerPc := 15, catchType := 13 }] { startPc := 0, endPc := 12, handlerPc := 19, catchType := 15 } [] htab (List.forall_mem_cons.mpr ⟨Or.inr ⟨by decide, "java/lang/IllegalArgumentException", (hts _ (List.mem_of_getElem? (i := 1) rfl)), hNC _ (List.mem_of_getElem? (i := 0) rfl)⟩, fun _ h => absurd h List.not_mem_nil⟩) (by decide) (by decide) (hts _ (List.mem_of_getElem? (i := 2) rfl)) (va_Nw.use rfl (hV.2.2.1.1 "java/lang/IllegalStateException" (by decide))) hc9 hv9 hcl9 ?_
  have hA := hA.kept (fun q hq _ => hk9 q hq)
  have hoo := va_at.kept hoo (hk9 _ hoo.lt)
  have hS : va_S (fun q => (fun q => z_FD T q ∨ q = oo) q ∨ s.heap.size ≤ q) s.heap H [] := ⟨hz9, fun q h1 _ => hk9 q h1, fun _ h => nomatch h⟩
  refine lv_astore (lv' := [(5, .ref q9), (0, .ref (X.1 0 0)), (1, .int x), (2, .int y), (3, .int z), (4, .ref oo)]) hx hb dL_addAntenna_19 hl (by decide) rfl (fun ls hl => ?_)
  refine lv_iconst (v := 2) hx hb dL_addAntenna_21 (by decide) ?_
  refine W.widen (k := 2) (n := 30) (Nat.le_of_ble_eq_true rfl) (Nat.le_of_ble_eq_true rfl) ?_
  exact W.iret hx hb hr (we_end (Rt := wl_R E T X oo s.heap 2 (Int32.toInt64 0) (σ)) (F := fun q => z_FD T q ∨ q = oo) (⟨rfl, ⟨ov, hoo, fun z => absurd z (by decide)⟩, T, X, fun _ _ => rfl, rfl, hA⟩) hS) hS.2.2 dL_addAntenna_22

set_option maxHeartbeats 4000000 in
set_option maxRecDepth 100000 in
theorem w_L_addSatellite (l : Launch) (E : wk_E) {T : Nat → Nat × Nat} {X : z_X} {σ : z_S} {H : Heap} (hA : DA E T X σ H) (hI : z_Ok σ) {oo : Nat} {ov : Nat → Int64} (hoo : va_at E.1 vwCl (oo, .inl (E.2.1.2.2, 1, .inr (.inl ov))) H) (hoT : T oo = (20, 0)) (hob : E.2.2.1 ≤ oo) (hZ : z_Zr σ) {w x y z : Int32} (hok : v_sat w x y z = true) (hn : z_n σ 1 < 8) : we_MetP (wl_NC) l yL_addSatellite wsL_addSatellite rmW E H [.ref (X.1 0 0), .int w, .int x, .int y, .int z, .ref oo] (fun q => z_FD T q ∨ q = oo) 2 30 (wl_R E T X oo H 0 (Int32.toInt64 (nI (z_n σ 1))) (f_addS σ w x y z)) := by
  refine wl_ofWH (cc := cL_addSatellite) (maxL := 7) (ret := (some .int)) (hh := [(0, 14, 17, 13), (0, 14, 21, 15)]) (by decide) rfl ?_
  intro p e s m args below meth c s₁ B hml hv
  obtain ⟨rfl, ⟨hH, hV⟩, hMi⟩ := hv
  subst hH
  have hK := hV.k
  have hx := B.exec
  have hb := B.bytes
  have hr := B.returns
  have hts := atoms_spec (ws := wsL_addSatellite) B.pre
  have hown : s.vm.findClass RL = some m.cls := findClass_of_methodNamed B.named
  have hlocks := B.notSynchronized
  have hS : va_S (fun q => (fun q => z_FD T q ∨ q = oo) q ∨ s.heap.size ≤ q) s.heap s.heap [] := va_S.rf
  have hA9 : ∀ q : Nat, s.heap.size ≤ q → ((fun q => z_FD T q ∨ q = oo) q ∨ s.heap.size ≤ q) := fun _ h => Or.inr h
  have hbA : ∀ q : Nat, q < E.2.2.1 → ¬ ((fun q => z_FD T q ∨ q = oo) q ∨ s.heap.size ≤ q) := fun q hq z => z.elim (fun z => Or.elim (show z_FD T q ∨ q = oo from z) (z_FDb hA.2.1 hq) (fun z => absurd hq (Nat.not_lt.mpr (z ▸ hob)))) (fun z => absurd (Nat.lt_of_lt_of_le hq hV.2.2.2.2.2.2) (Nat.not_lt.mpr z))
  have hl := lv_entry [.ref (X.1 0 0), .int w, .int x, .int y, .int z, .ref oo] (n := 7) (Nat.le_of_ble_eq_true rfl)
  rw [lg_entry_eq]
  generalize (lg_sl [.ref (X.1 0 0), .int w, .int x, .int y, .int z, .ref oo] ++ List.replicate (7 - (lg_sl [.ref (X.1 0 0), .int w, .int x, .int y, .int z, .ref oo]).length) Slot.unset).toArray = ls at hl ⊢
  have hl : lv_has ls 7 [(0, .ref (X.1 0 0)), (1, .int w), (2, .int x), (3, .int y), (4, .int z), (5, .ref oo)] := hl
  have b0 := hI.n0
  have b1 := hI.n1
  have b2 := hI.n2
  have b3 := hI.n3
  have hNC := hMi
  have htab : c.exceptionTable.toList = [{ startPc := 0, endPc := 14, handlerPc := 17, catchType := 13 }, { startPc := 0, endPc := 14, handlerPc := 21, catchType := 15 }] := vx_table (x := yL_addSatellite) B (hts _ List.mem_cons_self)
  refine lv_aload hx hb dL_addSatellite_0 (lv_at hl 5 rfl) ?_
  refine lv_iconst (v := 0) hx hb dL_addSatellite_2 (by decide) ?_
  refine lv_aload_n hx hb dL_addSatellite_3 rfl (lv_at hl 0 rfl) ?_
  refine lv_iload_n hx hb dL_addSatellite_4 rfl (lv_at hl 1 rfl) ?_
  refine lv_iload_n hx hb dL_addSatellite_5 rfl (lv_at hl 2 rfl) ?_
  refine lv_iload_n hx hb dL_addSatellite_6 rfl (lv_at hl 3 rfl) ?_
  refine lv_iload hx hb dL_addSatellite_7 (lv_at hl 4 rfl) ?_
  refine we_V (As := [.int w, .int x, .int y, .int z]) (rest := [.int 0, .ref oo]) ⟨hx, hb, hml, hown, hts⟩ (e_X5_addSatellite l E hA hI hZ hok hn) (cwV 4 hts gL_addSatellite_X5_addSatellite rfl rfl rfl (by decide +kernel) ⟨(Nat.le_of_ble_eq_true rfl), (Nat.le_of_ble_eq_true rfl)⟩) (wk_recv hK hA.desk rfl) hV hS (fun _ h => Or.inl (Or.inl h)) hA9 rfl hl.1 rfl (Nat.le_of_ble_eq_true rfl) dL_addSatellite_9 ⟨(Nat.le_of_ble_eq_true rfl), (Nat.le_of_ble_eq_true rfl)⟩ (fun v9 H locs hR9 hz9 hk9 hS => ?_)
  obtain ⟨rfl, T9, X9, hT9, hX9, hA9x⟩ := hR9
  have hoT9 : T9 oo = (20, 0) := (hT9 _ hoo.lt).trans hoT
  have hoo := va_at.kept hoo (hk9 _ hoo.lt (wl_ooF hoT))
  refine wk_eqls (st' := [.int (nI (z_n σ 1)), .int 0, .ref oo]) rfl ?_
  refine lv_i2l (v := (nI (z_n σ 1)).toInt64) hx hb dL_addSatellite_12 rfl ?_
  refine wk_last (nn := 1) hx hb hK hoo (Or.inl (Or.inr rfl)) hS 0 rfl (by decide) (by decide) dL_addSatellite_13 (fun H locs hP9 hz9 hk9 hS => ?_)
  have hoo := hP9
  have hA9x := hA9x.kept (fun q _ hf => hk9 q (wl_ne hoT9 hf))
  refine lv_goto (tgt := 25) hx hb dL_addSatellite_14 (by decide) ?_
  refine lv_iconst (v := 0) hx hb dL_addSatellite_25 (by decide) ?_
  refine W.widen (k := 2) (n := 30) (Nat.le_of_ble_eq_true rfl) (Nat.le_of_ble_eq_true rfl) ?_
  exact W.iret hx hb hr (we_end (Rt := wl_R E T X oo s.heap 0 (Int32.toInt64 (nI (z_n σ 1))) (f_addS σ w x y z)) (F := fun q => z_FD T q ∨ q = oo) (⟨rfl, ⟨_, hoo, fun _ => (by simp [vp_updL])⟩, T9, X9, hT9, hX9, hA9x⟩) hS) hS.2.2 dL_addSatellite_26

set_option maxHeartbeats 4000000 in
set_option maxRecDepth 100000 in
theorem wf_L_addSatellite (l : Launch) (E : wk_E) (hlf : l.stackTraces = false) {T : Nat → Nat × Nat} {X : z_X} {σ : z_S} {H : Heap} (hA : DA E T X σ H) (hI : z_Ok σ) {oo : Nat} {ov : Nat → Int64} (hoo : va_at E.1 vwCl (oo, .inl (E.2.1.2.2, 1, .inr (.inl ov))) H) (hoT : T oo = (20, 0)) (hob : E.2.2.1 ≤ oo) {w x y z : Int32} (hbad : v_sat w x y z = false) : we_MetP (wl_NC) l yL_addSatellite wsL_addSatellite rmW E H [.ref (X.1 0 0), .int w, .int x, .int y, .int z, .ref oo] (fun q => z_FD T q ∨ q = oo) 2 30 (wl_R E T X oo H 1 (Int32.toInt64 0) (σ)) := by
  refine wl_ofWH (cc := cL_addSatellite) (maxL := 7) (ret := (some .int)) (hh := [(0, 14, 17, 13), (0, 14, 21, 15)]) (by decide) rfl ?_
  intro p e s m args below meth c s₁ B hml hv
  obtain ⟨rfl, ⟨hH, hV⟩, hMi⟩ := hv
  subst hH
  have hK := hV.k
  have hx := B.exec
  have hb := B.bytes
  have hr := B.returns
  have hts := atoms_spec (ws := wsL_addSatellite) B.pre
  have hown : s.vm.findClass RL = some m.cls := findClass_of_methodNamed B.named
  have hlocks := B.notSynchronized
  have hS : va_S (fun q => (fun q => z_FD T q ∨ q = oo) q ∨ s.heap.size ≤ q) s.heap s.heap [] := va_S.rf
  have hA9 : ∀ q : Nat, s.heap.size ≤ q → ((fun q => z_FD T q ∨ q = oo) q ∨ s.heap.size ≤ q) := fun _ h => Or.inr h
  have hbA : ∀ q : Nat, q < E.2.2.1 → ¬ ((fun q => z_FD T q ∨ q = oo) q ∨ s.heap.size ≤ q) := fun q hq z => z.elim (fun z => Or.elim (show z_FD T q ∨ q = oo from z) (z_FDb hA.2.1 hq) (fun z => absurd hq (Nat.not_lt.mpr (z ▸ hob)))) (fun z => absurd (Nat.lt_of_lt_of_le hq hV.2.2.2.2.2.2) (Nat.not_lt.mpr z))
  have hl := lv_entry [.ref (X.1 0 0), .int w, .int x, .int y, .int z, .ref oo] (n := 7) (Nat.le_of_ble_eq_true rfl)
  rw [lg_entry_eq]
  generalize (lg_sl [.ref (X.1 0 0), .int w, .int x, .int y, .int z, .ref oo] ++ List.replicate (7 - (lg_sl [.ref (X.1 0 0), .int w, .int x, .int y, .int z, .ref oo]).length) Slot.unset).toArray = ls at hl ⊢
  have hl : lv_has ls 7 [(0, .ref (X.1 0 0)), (1, .int w), (2, .int x), (3, .int y), (4, .int z), (5, .ref oo)] := hl
  have b0 := hI.n0
  have b1 := hI.n1
  have b2 := hI.n2
  have b3 := hI.n3
  have hNC := hMi
  have htab : c.exceptionTable.toList = [{ startPc := 0, endPc := 14, handlerPc := 17, catchType := 13 }, { startPc := 0, endPc := 14, handlerPc := 21, catchType := 15 }] := vx_table (x := yL_addSatellite) B (hts _ List.mem_cons_self)
  refine lv_aload hx hb dL_addSatellite_0 (lv_at hl 5 rfl) ?_
  refine lv_iconst (v := 0) hx hb dL_addSatellite_2 (by decide) ?_
  refine lv_aload_n hx hb dL_addSatellite_3 rfl (lv_at hl 0 rfl) ?_
  refine lv_iload_n hx hb dL_addSatellite_4 rfl (lv_at hl 1 rfl) ?_
  refine lv_iload_n hx hb dL_addSatellite_5 rfl (lv_at hl 2 rfl) ?_
  refine lv_iload_n hx hb dL_addSatellite_6 rfl (lv_at hl 3 rfl) ?_
  refine lv_iload hx hb dL_addSatellite_7 (lv_at hl 4 rfl) ?_
  refine wx_V (As := [.int w, .int x, .int y, .int z]) (rest := [.int 0, .ref oo]) ⟨hx, hb, hml, hown, hts⟩ (t_X5_addSatellite l hlf E hA hI hbad) (cwV 4 hts gL_addSatellite_X5_addSatellite rfl rfl rfl (by decide +kernel) ⟨(Nat.le_of_ble_eq_true rfl), (Nat.le_of_ble_eq_true rfl)⟩) (wk_recv hK hA.desk rfl) hV rfl hl.1 rfl (Nat.le_of_ble_eq_true rfl) dL_addSatellite_9 ⟨(Nat.le_of_ble_eq_true rfl), (Nat.le_of_ble_eq_true rfl)⟩ (fun ce q9 H hz9 hk9 hc9 hv9 hcl9 => ?_)
  refine vx_catch (name := "java/lang/IllegalArgumentException") (E := "java/lang/IllegalArgumentException") hown [] { startPc := 0, endPc := 14, handlerPc := 17, catchType := 13 } [{ startPc := 0, endPc := 14, handlerPc := 21, catchType := 15 }] htab (fun _ h => absurd h List.not_mem_nil) (by decide) (by decide) (hts _ (List.mem_of_getElem? (i := 1) rfl)) (va_Nw.use rfl (hV.2.2.1.1 "java/lang/IllegalArgumentException" (by decide))) hc9 hv9 hcl9 ?_
  have hA := hA.kept (fun q hq _ => hk9 q hq)
  have hoo := va_at.kept hoo (hk9 _ hoo.lt)
  have hS : va_S (fun q => (fun q => z_FD T q ∨ q = oo) q ∨ s.heap.size ≤ q) s.heap H [] := ⟨hz9, fun q h1 _ => hk9 q h1, fun _ h => nomatch h⟩
  refine lv_astore (lv' := [(6, .ref q9), (0, .ref (X.1 0 0)), (1, .int w), (2, .int x), (3, .int y), (4, .int z), (5, .ref oo)]) hx hb dL_addSatellite_17 hl (by decide) rfl (fun ls hl => ?_)
  refine lv_iconst (v := 1) hx hb dL_addSatellite_19 (by decide) ?_
  refine W.widen (k := 2) (n := 30) (Nat.le_of_ble_eq_true rfl) (Nat.le_of_ble_eq_true rfl) ?_
  exact W.iret hx hb hr (we_end (Rt := wl_R E T X oo s.heap 1 (Int32.toInt64 0) (σ)) (F := fun q => z_FD T q ∨ q = oo) (⟨rfl, ⟨ov, hoo, fun z => absurd z (by decide)⟩, T, X, fun _ _ => rfl, rfl, hA⟩) hS) hS.2.2 dL_addSatellite_20

set_option maxHeartbeats 4000000 in
set_option maxRecDepth 100000 in
theorem wf2_L_addSatellite (l : Launch) (E : wk_E) (hlf : l.stackTraces = false) {T : Nat → Nat × Nat} {X : z_X} {σ : z_S} {H : Heap} (hA : DA E T X σ H) (hI : z_Ok σ) {oo : Nat} {ov : Nat → Int64} (hoo : va_at E.1 vwCl (oo, .inl (E.2.1.2.2, 1, .inr (.inl ov))) H) (hoT : T oo = (20, 0)) (hob : E.2.2.1 ≤ oo) {w x y z : Int32} (hok : v_sat w x y z = true) (hn : ¬ z_n σ 1 < 8) : we_MetP (wl_NC) l yL_addSatellite wsL_addSatellite rmW E H [.ref (X.1 0 0), .int w, .int x, .int y, .int z, .ref oo] (fun q => z_FD T q ∨ q = oo) 2 30 (wl_R E T X oo H 2 (Int32.toInt64 0) (σ)) := by
  refine wl_ofWH (cc := cL_addSatellite) (maxL := 7) (ret := (some .int)) (hh := [(0, 14, 17, 13), (0, 14, 21, 15)]) (by decide) rfl ?_
  intro p e s m args below meth c s₁ B hml hv
  obtain ⟨rfl, ⟨hH, hV⟩, hMi⟩ := hv
  subst hH
  have hK := hV.k
  have hx := B.exec
  have hb := B.bytes
  have hr := B.returns
  have hts := atoms_spec (ws := wsL_addSatellite) B.pre
  have hown : s.vm.findClass RL = some m.cls := findClass_of_methodNamed B.named
  have hlocks := B.notSynchronized
  have hS : va_S (fun q => (fun q => z_FD T q ∨ q = oo) q ∨ s.heap.size ≤ q) s.heap s.heap [] := va_S.rf
  have hA9 : ∀ q : Nat, s.heap.size ≤ q → ((fun q => z_FD T q ∨ q = oo) q ∨ s.heap.size ≤ q) := fun _ h => Or.inr h
  have hbA : ∀ q : Nat, q < E.2.2.1 → ¬ ((fun q => z_FD T q ∨ q = oo) q ∨ s.heap.size ≤ q) := fun q hq z => z.elim (fun z => Or.elim (show z_FD T q ∨ q = oo from z) (z_FDb hA.2.1 hq) (fun z => absurd hq (Nat.not_lt.mpr (z ▸ hob)))) (fun z => absurd (Nat.lt_of_lt_of_le hq hV.2.2.2.2.2.2) (Nat.not_lt.mpr z))
  have hl := lv_entry [.ref (X.1 0 0), .int w, .int x, .int y, .int z, .ref oo] (n := 7) (Nat.le_of_ble_eq_true rfl)
  rw [lg_entry_eq]
  generalize (lg_sl [.ref (X.1 0 0), .int w, .int x, .int y, .int z, .ref oo] ++ List.replicate (7 - (lg_sl [.ref (X.1 0 0), .int w, .int x, .int y, .int z, .ref oo]).length) Slot.unset).toArray = ls at hl ⊢
  have hl : lv_has ls 7 [(0, .ref (X.1 0 0)), (1, .int w), (2, .int x), (3, .int y), (4, .int z), (5, .ref oo)] := hl
  have b0 := hI.n0
  have b1 := hI.n1
  have b2 := hI.n2
  have b3 := hI.n3
  have hNC := hMi
  have htab : c.exceptionTable.toList = [{ startPc := 0, endPc := 14, handlerPc := 17, catchType := 13 }, { startPc := 0, endPc := 14, handlerPc := 21, catchType := 15 }] := vx_table (x := yL_addSatellite) B (hts _ List.mem_cons_self)
  refine lv_aload hx hb dL_addSatellite_0 (lv_at hl 5 rfl) ?_
  refine lv_iconst (v := 0) hx hb dL_addSatellite_2 (by decide) ?_
  refine lv_aload_n hx hb dL_addSatellite_3 rfl (lv_at hl 0 rfl) ?_
  refine lv_iload_n hx hb dL_addSatellite_4 rfl (lv_at hl 1 rfl) ?_
  refine lv_iload_n hx hb dL_addSatellite_5 rfl (lv_at hl 2 rfl) ?_
  refine lv_iload_n hx hb dL_addSatellite_6 rfl (lv_at hl 3 rfl) ?_
  refine lv_iload hx hb dL_addSatellite_7 (lv_at hl 4 rfl) ?_
  refine wx_V (As := [.int w, .int x, .int y, .int z]) (rest := [.int 0, .ref oo]) ⟨hx, hb, hml, hown, hts⟩ (t2_X5_addSatellite l hlf E hA hI hok hn) (cwV 4 hts gL_addSatellite_X5_addSatellite rfl rfl rfl (by decide +kernel) ⟨(Nat.le_of_ble_eq_true rfl), (Nat.le_of_ble_eq_true rfl)⟩) (wk_recv hK hA.desk rfl) hV rfl hl.1 rfl (Nat.le_of_ble_eq_true rfl) dL_addSatellite_9 ⟨(Nat.le_of_ble_eq_true rfl), (Nat.le_of_ble_eq_true rfl)⟩ (fun ce q9 H hz9 hk9 hc9 hv9 hcl9 => ?_)
  refine vx_catch (name := "java/lang/IllegalStateException") (E := "java/lang/IllegalStateException") hown [{ startPc := 0, endPc := 14, handlerPc := 17, catchType := 13 }] { startPc := 0, endPc := 14, handlerPc := 21, catchType := 15 } [] htab (List.forall_mem_cons.mpr ⟨Or.inr ⟨by decide, "java/lang/IllegalArgumentException", (hts _ (List.mem_of_getElem? (i := 1) rfl)), hNC _ (List.mem_of_getElem? (i := 0) rfl)⟩, fun _ h => absurd h List.not_mem_nil⟩) (by decide) (by decide) (hts _ (List.mem_of_getElem? (i := 2) rfl)) (va_Nw.use rfl (hV.2.2.1.1 "java/lang/IllegalStateException" (by decide))) hc9 hv9 hcl9 ?_
  have hA := hA.kept (fun q hq _ => hk9 q hq)
  have hoo := va_at.kept hoo (hk9 _ hoo.lt)
  have hS : va_S (fun q => (fun q => z_FD T q ∨ q = oo) q ∨ s.heap.size ≤ q) s.heap H [] := ⟨hz9, fun q h1 _ => hk9 q h1, fun _ h => nomatch h⟩
  refine lv_astore (lv' := [(6, .ref q9), (0, .ref (X.1 0 0)), (1, .int w), (2, .int x), (3, .int y), (4, .int z), (5, .ref oo)]) hx hb dL_addSatellite_21 hl (by decide) rfl (fun ls hl => ?_)
  refine lv_iconst (v := 2) hx hb dL_addSatellite_23 (by decide) ?_
  refine W.widen (k := 2) (n := 30) (Nat.le_of_ble_eq_true rfl) (Nat.le_of_ble_eq_true rfl) ?_
  exact W.iret hx hb hr (we_end (Rt := wl_R E T X oo s.heap 2 (Int32.toInt64 0) (σ)) (F := fun q => z_FD T q ∨ q = oo) (⟨rfl, ⟨ov, hoo, fun z => absurd z (by decide)⟩, T, X, fun _ _ => rfl, rfl, hA⟩) hS) hS.2.2 dL_addSatellite_24
