/-! Methods that write or throw. The world beside the heap: EV. -/
def wk_exs : List String := ["java/lang/IllegalArgumentException", "java/lang/IllegalStateException", "java/lang/IndexOutOfBoundsException"]
abbrev wk_nms : List String := ["java/lang/RuntimeException", "java/lang/Exception"]
def wk_els : List String := [RX0, RX2, RX3]
def wk_A (E : wk_E) : Nat → Prop := fun q => E.2.2.1 ≤ q
abbrev wk_none : Nat → Option Nat := fun _ => none
/-- the row that all empty lists share -/
def wk_emp (E : wk_E) (U : State) (H : Heap) : Prop := ∃ cell : Cell, H[E.2.2.2]? = some cell ∧ U.isArrayOf cell (.object "java/lang/Object") ∧ cell.slots.size = 0
theorem wk_emp.moved {E : wk_E} {u U : State} {H : Heap} (hvm : u.vm.Alike U.vm) (h : wk_emp E u H) : wk_emp E U H := by
  obtain ⟨cell, h1, h2, h3⟩ := h
  exact ⟨cell, h1, State.isArrayOf_alike hvm h2, h3⟩
theorem wk_emp.kept {E : wk_E} {U : State} {H H1 : Heap} (h : wk_emp E U H) (hk : H1[E.2.2.2]? = H[E.2.2.2]?) : wk_emp E U H1 := by
  obtain ⟨cell, h1, h2⟩ := h
  exact ⟨cell, hk.trans h1, h2⟩
def EV (E : wk_E) (U : State) (H : Heap) : Prop :=
  wk_K E U ∧ (vx_Zq Bundle.tN "UNASSIGNED_STACK" Bundle.steD (wk_A E) U H ∧ vx_Zq Bundle.tN "SUPPRESSED_SENTINEL" Bundle.listD (wk_A E) U H ∧ va_Z "java/util/ArrayList" "DEFAULTCAPACITY_EMPTY_ELEMENTDATA" "[Ljava/lang/Object;" (.ref E.2.2.2) (wk_A E) U H) ∧
  ((∀ X ∈ wk_exs, va_Nw (.castable X X) U) ∧ (∀ X ∈ wk_els, va_Nw (.castable X "java/lang/Object") U) ∧ (∀ q ∈ wk_strs, ∃ sa : Nat, vk_R RX5 q.1 q.2 sa U) ∧ va_Nw (.declares (Bundle.initS "java/lang/RuntimeException")) U ∧ va_Nw (.declares (Bundle.initS "java/lang/Exception")) U ∧ va_Nw (.declares (Bundle.initS Bundle.tN)) U) ∧
  (va_AO "java/lang/Object" U ∧ va_Dc U ∧ ∃ mi : Nat, va_Mi "[Ljava/lang/Object;" mi U) ∧
  (wk_emp E U H ∧ E.2.2.2 < E.2.2.1 ∧ E.2.2.1 ≤ H.size)
theorem EV.k {E : wk_E} {U : State} {H : Heap} (h : EV E U H) : wk_K E U := h.1
theorem EV.warm {E : wk_E} {s U : State} {H : Heap} (hW : s.WarmedH U.vm) (h : EV E s H) : EV E U H :=
  ⟨wk_warm hW h.1, ⟨vx_Zq.moved hW.alike h.2.1.1, vx_Zq.moved hW.alike h.2.1.2.1, va_Z.moved hW.alike h.2.1.2.2⟩,
   ⟨fun X hX => va_Nw.warmC hW (h.2.2.1.1 X hX), fun X hX => va_Nw.warmC hW (h.2.2.1.2.1 X hX), fun q hq => (h.2.2.1.2.2.1 q hq).elim fun sa hs => ⟨sa, vk_R.warm hW hs⟩, va_Nw.warmD hW h.2.2.1.2.2.2.1, va_Nw.warmD hW h.2.2.1.2.2.2.2.1, va_Nw.warmD hW h.2.2.1.2.2.2.2.2⟩,
   ⟨va_AO.moved hW.alike h.2.2.2.1.1, va_Dc.moved hW.alike h.2.2.2.1.2.1, h.2.2.2.1.2.2.elim fun mi hm => ⟨mi, va_Mi.moved hW.alike hm⟩⟩, ⟨h.2.2.2.2.1.moved hW.alike, h.2.2.2.2.2⟩⟩
theorem EV.call {E : wk_E} {U : State} {H : Heap} (g : JFrame) (mk : MethodId) (a : Array Value) (h : EV E U H) : EV E (U.calling g mk a) H :=
  have hr : U.vm.Alike (U.calling g mk a).vm := Vm.Alike.refl U.vm
  ⟨⟨va_K.moved hr h.1.1, va_Nw.same rfl (u := U) (U := U.calling g mk a) rfl h.1.2.1, va_Nw.same rfl (u := U) (U := U.calling g mk a) rfl h.1.2.2⟩, ⟨vx_Zq.moved hr h.2.1.1, vx_Zq.moved hr h.2.1.2.1, va_Z.moved hr h.2.1.2.2⟩,
   ⟨fun X hX => va_Nw.same rfl (u := U) (U := U.calling g mk a) rfl (h.2.2.1.1 X hX), fun X hX => va_Nw.same rfl (u := U) (U := U.calling g mk a) rfl (h.2.2.1.2.1 X hX), fun q hq => (h.2.2.1.2.2.1 q hq).elim fun sa hs => ⟨sa, vk_R.same (u := U) (U := U.calling g mk a) rfl hs⟩, va_Nw.same rfl (u := U) (U := U.calling g mk a) rfl h.2.2.1.2.2.2.1, va_Nw.same rfl (u := U) (U := U.calling g mk a) rfl h.2.2.1.2.2.2.2.1, va_Nw.same rfl (u := U) (U := U.calling g mk a) rfl h.2.2.1.2.2.2.2.2⟩,
   ⟨va_AO.moved hr h.2.2.2.1.1, va_Dc.moved hr h.2.2.2.1.2.1, h.2.2.2.1.2.2.elim fun mi hm => ⟨mi, va_Mi.moved hr hm⟩⟩, ⟨wk_emp.moved (U := U.calling g mk a) hr h.2.2.2.2.1, h.2.2.2.2.2⟩⟩
theorem EV.heap {E : wk_E} {U : State} {H H1 : Heap} (h : EV E U H) (hz : H.size ≤ H1.size) (hk : ∀ q : Nat, q < E.2.2.1 → H1[q]? = H[q]?) : EV E U H1 :=
  have k : ∀ a : Nat, a < H.size → ¬ wk_A E a → H1[a]? = H[a]? := fun a _ ha => hk a (Nat.lt_of_not_le ha)
  ⟨h.1, ⟨h.2.1.1.kept k, h.2.1.2.1.kept k, h.2.1.2.2.kept k⟩, h.2.2.1, h.2.2.2.1, ⟨h.2.2.2.2.1.kept (hk _ h.2.2.2.2.2.1), h.2.2.2.2.2.1, Nat.le_trans h.2.2.2.2.2.2 hz⟩⟩
def wx_Pc (E : wk_E) (H : Heap) (av : List Value) : Array Value → State → Prop := va_Pc av (fun U => U.heap = H ∧ EV E U H)
theorem wx_blind {E : wk_E} {H : Heap} {av : List Value} : FrameBlind (wx_Pc E H av) := fun a U g mk q => ⟨q.1, q.2.1, EV.call g mk a q.2.2⟩
theorem wx_pre {E : wk_E} {H : Heap} {av : List Value} {s : State} (hV : EV E s H) : ∀ U : State, U.heap = H → s.WarmedH U.vm → wx_Pc E H av av.toArray U := fun _ hU hW => ⟨rfl, hU, EV.warm hW hV⟩
/-- it throws a C, and writes nothing that was there -/
def wx_X (H : Heap) (C : String) : String → State → State → Prop := fun X _ t => X = C ∧ H.size ≤ t.heap.size ∧ ∀ q : Nat, q < H.size → t.heap[q]? = H[q]?
def wx_Met (l : Launch) (y : MethodName) (ws : List Cond) (rm : Room) (E : wk_E) (H : Heap) (av : List Value) (C : String) : Prop := vx_Met l y ws rm (wx_Pc E H av) (fun _ _ _ _ => False) (wx_X H C) 1 6 (fun _ => False)
/-- it returns, writes only where F says, and Rt holds of its answer and its heap -/
def we_Met (l : Launch) (y : MethodName) (ws : List Cond) (rm : Room) (E : wk_E) (H : Heap) (av : List Value) (F : Nat → Prop) (mc ms : Nat) (Rt : Option Value → Heap → Prop) : Prop :=
  Met l y ws rm (wx_Pc E H av) (fun _ _ oc t => (∃ v, oc = .returned v ∧ Rt v t.heap) ∧ H.size ≤ t.heap.size ∧ ∀ q : Nat, q < H.size → ¬ F q → t.heap[q]? = H[q]?) mc ms (fun q => F q ∨ H.size ≤ q)
section WER
variable {p : Program} {l : Launch} {e : Env} {R : Room} {s : State} {m : MethodId} {args : Array Value} {below : List Frame} {meth : Method} {c : Code} {H : Heap} {locs : List Loc} {cells slots : Nat} {Q : State → Prop}
variable {y : MethodName} {bytes cc : ByteArray} {maxL nL n index mc ms : Nat} {ret : Option FieldType} {ws Ts : List Cond} {rm : Room} {own C X : String} {b pc : Nat} {As rest st0 : List Value} {ls : Array Slot} {E : wk_E} {v : Value} {A : Nat → Prop} {H0 : Heap} {F : Nat → Prop} {Rt : Option Value → Heap → Prop}
theorem wx_back {g : JFrame} (hr : vx_Run p l e R s m args below meth c H locs cells slots 1 6 g rest (fun _ _ _ => False) (wx_X H X) (fun _ => False))
    (kx : ∀ (ce : Cell) (q9 : Addr) (H1 : Heap), H.size ≤ H1.size → (∀ q : Nat, q < H.size → H1[q]? = H[q]?) → H1[q9]? = some ce → ce.vm = .none → s.vm.findClass X = some ce.cls → vx_W p l e R s m args below meth c H1 locs (cells + 1) (slots + 6) Q { g with stack := rest } q9) : W p l e R s m args below meth c H locs cells slots Q g := by
  intro T hT Y
  rcases hr T hT Y with ⟨v, st₀, t, T', L, h0, X', hL, e1, e2, hv, st⟩ | ⟨q, st₀, t, T', L, X9, ce, h0, X', hL, e1, e2, ⟨rfl, hz, hk⟩, hce, hcv, hcl, st⟩
  · exact hv.elim
  · have hL0 : L = [] := List.eq_nil_iff_forall_not_mem.mpr (fun q hq => hL q hq)
    subst hL0
    rw [List.append_nil] at X'
    obtain ⟨t2, a1, b1⟩ := kx ce q T'.heap (by rw [e1]; exact hz) (fun q h1 => by rw [e1]; exact hk q h1) (by rw [e1]; exact hce) hcv hcl T' rfl X'
    exact ⟨t2, st.trans a1, b1⟩
theorem wx_V (S : CallFix p m c cc nL s args Ts own) (hM : wx_Met l y ws rm E H (.ref b :: As) X) (cw : CallW R s args own C index y bytes maxL ret ws rm 1 6 n) (hrecv : ∃ cellB : Cell, H[b]? = some cellB ∧ cellB.vm.isStatics = false ∧ s.vm.findClass C = some cellB.cls) (hV : EV E s H)
    (hn : As.length = n) (hsize : ls.size = nL) (hstack : st0 = As.reverse ++ .ref b :: rest) (hW : (rest.map fun v => v.category).sum ≤ 8) (hdg : decode cc pc = .ok (.invokevirtual index, 3)) (hf : cells + 1 ≤ R.cells ∧ slots + 6 ≤ R.slots)
    (kx : ∀ (ce : Cell) (q9 : Addr) (H1 : Heap), H.size ≤ H1.size → (∀ q : Nat, q < H.size → H1[q]? = H[q]?) → H1[q9]? = some ce → ce.vm = .none → s.vm.findClass X = some ce.cls → vx_W p l e R s m args below meth c H1 locs (cells + 1) (slots + 6) Q (F0 m pc ls rest) q9) : W p l e R s m args below meth c H locs cells slots Q (F0 m pc ls st0) :=
  wx_back (vx_runV (g := F0 m pc ls st0) (b := b) (As := As) (rest := rest) S hM cw ⟨wx_blind, hrecv, fun U hU hW => wx_pre hV U hU hW⟩ rfl hn hsize hstack (lv_room hW) hdg hf) kx
/-- not caught here -/
theorem wx_out {q9 : Addr} {ce : Cell} {H1 : Heap} {Qc : Array Value → State → Outcome → State → Prop} (htab : ∀ x ∈ c.exceptionTable.toList, False) (hlocks : meth.locks = false) (hz : H.size ≤ H1.size) (hk : ∀ q : Nat, q < H.size → H1[q]? = H[q]?) (hcell : H1[q9]? = some ce) (hv : ce.vm = .none) (hcl : s.vm.findClass X = some ce.cls) :
    vx_W p l e R s m args below meth c H1 [] (0 + 1) (0 + 6) (vx_MQ below Qc (wx_X H X) args s 1 6 (fun _ => False)) (F0 m pc ls rest) q9 :=
  vx_out (fun x hx => (htab x hx).elim) hlocks hcell hv hcl (fun t ht _ => ⟨rfl, by rw [ht]; exact hz, fun q hq => by rw [ht]; exact hk q hq⟩) (fun _ h => nomatch h) (Nat.le_refl _) (Nat.le_refl _)
/-- throw new X("text") in the class itself -/
theorem wx_throw {Qc : Array Value → State → Outcome → State → Prop} (hx : p.tables.exec = Jvm.exec) (hb : c.code = cc) (hl : l.stackTraces = false) {text : String} {ik is ic : Nat} (hown : s.vm.findClass RX5 = some m.cls) (hml : c.maxLocals = nL) (hsz : ls.size = nL) (hfit : Bundle.fit X = true) (hX : X ∈ wk_exs)
    (hk : (Cond.classLink RX5 ik X).before args s = true) (hini : (Cond.initialized X).before args s = true) (hq : (is, text) ∈ wk_strs) (hts : ∀ w ∈ (vx_atS RX5 ic X wk_nms).filter goodWord, w.before args s = true) (hbad : ∀ w ∈ (vx_atS RX5 ic X wk_nms).filter (fun w => !goodWord w), w ∈ wk_bad X)
    (hgood : ∀ w ∈ Cond.classLink RX5 ik X :: Cond.initialized X :: vx_atS RX5 ic X wk_nms, vx_ot w = true) (hV : EV E s s.heap) (htab : ∀ x ∈ c.exceptionTable.toList, False) (hlocks : meth.locks = false)
    (d0 : decode cc pc = .ok (.new ik, 3)) (d3 : decode cc (pc + 3) = .ok (.dup, 1)) (d4 : decode cc (pc + 4) = .ok (.ldc is, 2)) (d6 : decode cc (pc + 6) = .ok (.invokespecial ic, 3)) (d9 : decode cc (pc + 9) = .ok (.athrow, 1))
    (hR : 6 ≤ R.frames ∧ (rest.map fun v => v.category).sum + 82 ≤ R.locals ∧ 0 + 1 ≤ R.cells ∧ 0 + 6 ≤ R.slots) :
    W p l e R s m args below meth c s.heap [] 0 0 (vx_MQ below Qc (wx_X s.heap X) args s 1 6 (fun _ => False)) (F0 m pc ls rest) := by
  obtain ⟨sa, hsa⟩ := hV.2.2.1.2.2.1 _ hq
  refine vx_throwS (A := wk_A E) (names := wk_nms) (text := text) (sa := sa) hx hb hl hown hfit (by decide) hk hini hsa (vx_hat hts hbad (vx_c (va_Nw.use rfl (hV.2.2.1.1 X hX)) (vx_c (va_Nw.use rfl hV.2.2.1.2.2.2.1) (vx_c (va_Nw.use rfl hV.2.2.1.2.2.2.2.1) (vx_c (va_Nw.use rfl hV.2.2.1.2.2.2.2.2) vx_n))))) hgood hV.2.1.1 hV.2.1.2.1 va_S.rf (hsz.trans hml.symm) d0 d3 d4 d6 d9 (fun x hx => (htab x hx).elim) ?_ ?_ hR.2.2.1 hR.2.2.2 hlocks (fun t _ h1 h2 => ⟨rfl, h1, h2⟩) (fun _ h => nomatch h) (Nat.le_refl _) (Nat.le_refl _)
  · exact Nat.lt_of_lt_of_le (by decide) hR.1
  · exact hR.2.1
/-- throw new X("text") in the class itself, the text by a wide index -/
theorem wx_throwW {Qc : Array Value → State → Outcome → State → Prop} (hx : p.tables.exec = Jvm.exec) (hb : c.code = cc) (hl : l.stackTraces = false) {text : String} {ik is ic : Nat} (hown : s.vm.findClass RX5 = some m.cls) (hml : c.maxLocals = nL) (hsz : ls.size = nL) (hfit : Bundle.fit X = true) (hX : X ∈ wk_exs)
    (hk : (Cond.classLink RX5 ik X).before args s = true) (hini : (Cond.initialized X).before args s = true) (hq : (is, text) ∈ wk_strs) (hts : ∀ w ∈ (vx_atS RX5 ic X wk_nms).filter goodWord, w.before args s = true) (hbad : ∀ w ∈ (vx_atS RX5 ic X wk_nms).filter (fun w => !goodWord w), w ∈ wk_bad X)
    (hgood : ∀ w ∈ Cond.classLink RX5 ik X :: Cond.initialized X :: vx_atS RX5 ic X wk_nms, vx_ot w = true) (hV : EV E s s.heap) (htab : ∀ x ∈ c.exceptionTable.toList, False) (hlocks : meth.locks = false)
    (d0 : decode cc pc = .ok (.new ik, 3)) (d3 : decode cc (pc + 3) = .ok (.dup, 1)) (d4 : decode cc (pc + 4) = .ok (.ldc_w is, 3)) (d7 : decode cc (pc + 7) = .ok (.invokespecial ic, 3)) (d10 : decode cc (pc + 10) = .ok (.athrow, 1))
    (hR : 6 ≤ R.frames ∧ (rest.map fun v => v.category).sum + 82 ≤ R.locals ∧ 0 + 1 ≤ R.cells ∧ 0 + 6 ≤ R.slots) :
    W p l e R s m args below meth c s.heap [] 0 0 (vx_MQ below Qc (wx_X s.heap X) args s 1 6 (fun _ => False)) (F0 m pc ls rest) := by
  obtain ⟨sa, hsa⟩ := hV.2.2.1.2.2.1 _ hq
  refine vx_throwSW (A := wk_A E) (names := wk_nms) (text := text) (sa := sa) hx hb hl hown hfit (by decide) hk hini hsa (vx_hat hts hbad (vx_c (va_Nw.use rfl (hV.2.2.1.1 X hX)) (vx_c (va_Nw.use rfl hV.2.2.1.2.2.2.1) (vx_c (va_Nw.use rfl hV.2.2.1.2.2.2.2.1) (vx_c (va_Nw.use rfl hV.2.2.1.2.2.2.2.2) vx_n))))) hgood hV.2.1.1 hV.2.1.2.1 va_S.rf (hsz.trans hml.symm) d0 d3 d4 d7 d10 (fun x hx => (htab x hx).elim) ?_ ?_ hR.2.2.1 hR.2.2.2 hlocks (fun t _ h1 h2 => ⟨rfl, h1, h2⟩) (fun _ h => nomatch h) (Nat.le_refl _) (Nat.le_refl _)
  · exact Nat.lt_of_lt_of_le (by decide) hR.1
  · exact hR.2.1
/-- behind a call that writes -/
theorem we_back {g : JFrame} {Hc : Heap} (hr : va_Run p l e R s m args below meth c H locs cells slots mc ms g rest (fun _ oc t => (∃ v, oc = .returned v ∧ Rt v t.heap) ∧ Hc.size ≤ t.heap.size ∧ ∀ q : Nat, q < Hc.size → ¬ F q → t.heap[q]? = Hc[q]?) (fun q => F q ∨ Hc.size ≤ q)) (hHc : Hc = H) (hS : va_S A H0 H locs) (hF : ∀ q, F q → A q) (hA : ∀ q, H0.size ≤ q → A q)
    (kk : ∀ (v : Option Value) (H1 : Heap) (locs1 : List Loc), Rt v H1 → H.size ≤ H1.size → (∀ q : Nat, q < H.size → ¬ F q → H1[q]? = H[q]?) → va_S A H0 H1 locs1 → W p l e R s m args below meth c H1 locs1 (cells + mc) (slots + ms) Q { g with pc := g.pc + 3, stack := v.toList ++ rest }) : W p l e R s m args below meth c H locs cells slots Q g := by
  subst hHc
  intro T hT Y
  obtain ⟨v, st₀, t, T', L, h0, X', hL, e1, e2, ⟨⟨v9, hv, hR⟩, hz, hk⟩, st⟩ := hr T hT Y
  cases hv
  have hz' : Hc.size ≤ T'.heap.size := by rw [e1]; exact hz
  have hk' : ∀ q : Nat, q < Hc.size → ¬ F q → T'.heap[q]? = Hc[q]? := fun q h1 h2 => by rw [e1]; exact hk q h1 h2
  obtain ⟨t2, a1, b1⟩ := kk v T'.heap (locs ++ L) (by rw [e1]; exact hR) hz' hk' ⟨Nat.le_trans hS.1 hz', fun q h1 h2 => (hk' q (Nat.lt_of_lt_of_le h1 hS.1) (fun z => h2 (hF q z))).trans (hS.2.1 q h1 h2), fun q hq => by
    rcases List.mem_append.mp hq with h | h
    · exact hS.2.2 q h
    · exact (hL q h).elim (hF _) (fun z => hA _ (Nat.le_trans hS.1 z))⟩ T' rfl X'
  exact ⟨t2, st t2 a1, b1⟩
theorem we_V (S : CallFix p m c cc nL s args Ts own) (hM : we_Met l y ws rm E H (.ref b :: As) F mc ms Rt) (cw : CallW R s args own C index y bytes maxL ret ws rm mc ms n) (hrecv : ∃ cellB : Cell, H[b]? = some cellB ∧ cellB.vm.isStatics = false ∧ s.vm.findClass C = some cellB.cls) (hV : EV E s H) (hS : va_S A H0 H locs) (hF : ∀ q, F q → A q) (hA : ∀ q, H0.size ≤ q → A q)
    (hn : As.length = n) (hsize : ls.size = nL) (hstack : st0 = As.reverse ++ .ref b :: rest) (hW : (rest.map fun v => v.category).sum ≤ 8) (hdg : decode cc pc = .ok (.invokevirtual index, 3)) (hf : cells + mc ≤ R.cells ∧ slots + ms ≤ R.slots)
    (kk : ∀ (v : Option Value) (H1 : Heap) (locs1 : List Loc), Rt v H1 → H.size ≤ H1.size → (∀ q : Nat, q < H.size → ¬ F q → H1[q]? = H[q]?) → va_S A H0 H1 locs1 → W p l e R s m args below meth c H1 locs1 (cells + mc) (slots + ms) Q (F0 m (pc + 3) ls (v.toList ++ rest))) : W p l e R s m args below meth c H locs cells slots Q (F0 m pc ls st0) :=
  we_back (va_runV (g := F0 m pc ls st0) (b := b) (As := As) (rest := rest) S hM cw ⟨wx_blind, hrecv, fun U hU hW => wx_pre hV U hU hW⟩ rfl hn hsize hstack (lv_room hW) hdg hf) rfl hS hF hA kk
theorem we_S (S : CallFix p m c cc nL s args Ts own) (hM : we_Met l y ws rm E H As F mc ms Rt) (cw : CallB R s args own index y bytes maxL ret ws rm mc ms n ∧ (Cond.static y).before args s = true) (hV : EV E s H) (hS : va_S A H0 H locs) (hF : ∀ q, F q → A q) (hA : ∀ q, H0.size ≤ q → A q)
    (hn : As.length = n) (hsize : ls.size = nL) (hstack : st0 = As.reverse ++ rest) (hW : (rest.map fun v => v.category).sum ≤ 8) (hdg : decode cc pc = .ok (.invokestatic index, 3)) (hf : cells + mc ≤ R.cells ∧ slots + ms ≤ R.slots)
    (kk : ∀ (v : Option Value) (H1 : Heap) (locs1 : List Loc), Rt v H1 → H.size ≤ H1.size → (∀ q : Nat, q < H.size → ¬ F q → H1[q]? = H[q]?) → va_S A H0 H1 locs1 → W p l e R s m args below meth c H1 locs1 (cells + mc) (slots + ms) Q (F0 m (pc + 3) ls (v.toList ++ rest))) : W p l e R s m args below meth c H locs cells slots Q (F0 m pc ls st0) :=
  we_back (va_runS (g := F0 m pc ls st0) (As := As) (rest := rest) S hM cw ⟨wx_blind, fun U hU hW => wx_pre hV U hU hW⟩ rfl hn hsize hstack (lv_room hW) hdg hf) rfl hS hF hA kk
theorem we_I (S : CallFix p m c cc nL s args Ts own) (hM : we_Met l y ws rm E H (.ref b :: As) F mc ms Rt) (cw : CallB R s args own index y bytes maxL none ws rm mc ms n ∧ y.name = "<init>" ∧ (Cond.instanceMethod y).before args s = true) (hV : EV E s H) (hS : va_S A H0 H locs) (hF : ∀ q, F q → A q) (hA : ∀ q, H0.size ≤ q → A q)
    (hn : As.length = n) (hsize : ls.size = nL) (hstack : st0 = As.reverse ++ .ref b :: rest) (hW : (rest.map fun v => v.category).sum ≤ 8) (hdg : decode cc pc = .ok (.invokespecial index, 3)) (hf : cells + mc ≤ R.cells ∧ slots + ms ≤ R.slots)
    (kk : ∀ (v : Option Value) (H1 : Heap) (locs1 : List Loc), Rt v H1 → H.size ≤ H1.size → (∀ q : Nat, q < H.size → ¬ F q → H1[q]? = H[q]?) → va_S A H0 H1 locs1 → W p l e R s m args below meth c H1 locs1 (cells + mc) (slots + ms) Q (F0 m (pc + 3) ls (v.toList ++ rest))) : W p l e R s m args below meth c H locs cells slots Q (F0 m pc ls st0) :=
  we_back (va_runI (g := F0 m pc ls st0) (b := b) (As := As) (rest := rest) S hM cw ⟨wx_blind, fun U hU hW => wx_pre hV U hU hW⟩ rfl hn hsize hstack (lv_room hW) hdg hf) rfl hS hF hA kk
/-- the end of a body that writes -/
theorem we_end {v : Option Value} (hR : Rt v H) (hS : va_S (fun q => F q ∨ s.heap.size ≤ q) s.heap H locs) : ∀ t : State, t.heap = H → s.WarmedH t.vm → (∃ v9, Outcome.returned v = .returned v9 ∧ Rt v9 t.heap) ∧ s.heap.size ≤ t.heap.size ∧ ∀ q : Nat, q < s.heap.size → ¬ F q → t.heap[q]? = s.heap[q]? := fun t ht _ => ⟨⟨v, rfl, by rw [ht]; exact hR⟩, by rw [ht]; exact hS.1, fun q h1 h2 => by rw [ht]; exact hS.2.1 q h1 (fun z => z.elim h2 (fun z => absurd z (Nat.not_le.mpr h1)))⟩
/-- the length of the row that all empty lists share -/
theorem wk_alen0 (hexec : p.tables.exec = Jvm.exec) (hb : c.code = cc) (hP : wk_emp E s H) (hdg : decode cc pc = .ok (.arraylength, 1))
    (kk : W p l e R s m args below meth c H locs cells slots Q (F0 m (pc + 1) ls (.int (nI 0) :: rest))) : W p l e R s m args below meth c H locs cells slots Q (F0 m pc ls (.ref E.2.2.2 :: rest)) := by
  obtain ⟨cell, h1, h2, h3⟩ := hP
  exact W.alen (n := nI 0) hexec hb h1 h2 (by rw [h3]; rfl) rfl rfl hdg kk
/-- a field is written -/
theorem wk_put (hexec : p.tables.exec = Jvm.exec) (hb : c.code = cc) {ref : String} {T : u_T} {N ci a : Nat} (hts : ∀ w ∈ Ts, w.before args s = true) (hin : ∀ w ∈ u_ws C T N, w ∈ Ts) (ty0 : Nat → FieldType) (hty : ∀ k, k < N → parseFieldDescriptor (T k).2.2.1 = some (ty0 k)) (hnm : ∀ a, a < N → ∀ b, b < N → a ≠ b → (T a).2.1 ≠ (T b).2.1) (hown : s.vm.findClass own = some m.cls) (hK : wk_K E s) {fs : List Value} (hP : va_at E.1 vwCl (a, .inr (ci, fs)) H) (ha : A a) (hS : va_S A H0 H locs) (hc : vwCl[ci]? = some (C, T, N)) (k : Nat) (hk : k < N) (hlink : (Cond.fieldLink own index ref (T k).2.1 (T k).2.2.1).before args s = true) (hsame : ∀ x, s.fieldFound? (T k).1 (T k).2.1 (T k).2.2.1 = some x → s.fieldFound? ref (T k).2.1 (T k).2.2.1 = some x) (hfin : (T k).2.2.2 = false) {ty : FieldType} (hd : parseFieldDescriptor (T k).2.2.1 = some ty) (hn : narrow ty v = v) (hfit : fits ty v = true) (hl : k < fs.length) (hdg : decode cc pc = .ok (.putfield index, 3))
    (kk : ∀ (H1 : Heap) (locs1 : List Loc), va_at E.1 vwCl (a, .inr (ci, fs.set k v)) H1 → H1.size = H.size → (∀ q : Nat, q ≠ a → H1[q]? = H[q]?) → va_S A H0 H1 locs1 → W p l e R s m args below meth c H1 locs1 cells slots Q (F0 m (pc + 3) ls rest)) : W p l e R s m args below meth c H locs cells slots Q (F0 m pc ls (v :: .ref a :: rest)) := by
  have hap := va_apart (own := own) hts hin ty0 hty hnm hK.1 hc
  obtain ⟨r, h1, cell, q1, q2, q3, q4⟩ := hP
  have hr : r = (C, T, N) := Option.some.inj (h1.symm.trans hc)
  subst hr
  obtain ⟨hSl, hfc, kC, hkC, hkind⟩ := hK.1.1 ci _ hc
  obtain ⟨cf, kf, fi, f, hi, hsl⟩ := hSl k hk
  have hlay := hts _ (hin _ (u_in_lay hk))
  unfold u_lay at hlay
  rw [if_neg (by rw [hfin]; decide)] at hlay
  refine W.putK hexec hb (f := f) ⟨hown, hlink, ⟨_, _, _, hsame _ hi⟩, (u_facts hfc hkC (u_lays hts hin hk) hi).1⟩ (by rw [q2]; exact u_store hfc hkC hkind hlay hi hd hn hfit) q1 q3 (by rw [hsl]; exact k2_hasslot (q4 k hk)) rfl rfl hdg fun H' e1 e2 e3 => ?_
  rw [hsl] at e1 ⊢
  exact kk H' _ ⟨_, hc, t_OB.to (V := updV (vp_V fs) k v) ⟨_, e1, q2, q3, t_set q4 hap hk v⟩ (fun j _ => vp_updV_set hl v j)⟩ e2 e3 (hS.put e2 e3 ha)
/-- a place of a row of ints is written -/
theorem wk_iast (hexec : p.tables.exec = Jvm.exec) (hb : c.code = cc) (hK : wk_K E s) {a nn : Nat} {f : Nat → Int32} (hP : va_at E.1 vwCl (a, .inl (E.2.1.1, nn, .inl f)) H) (ha : A a) (hS : va_S A H0 H locs) (j : Nat) {i x : Int32} (hi : i = nI j) (hj : j < nn) (hnn : nn < 2 ^ 31) (hdg : decode cc pc = .ok (.iastore, 1))
    (kk : ∀ (H1 : Heap) (locs1 : List Loc), va_at E.1 vwCl (a, .inl (E.2.1.1, nn, .inl (upd f j x))) H1 → H1.size = H.size → (∀ q : Nat, q ≠ a → H1[q]? = H[q]?) → va_S A H0 H1 locs1 → W p l e R s m args below meth c H1 locs1 cells slots Q (F0 m (pc + 1) ls rest)) : W p l e R s m args below meth c H locs cells slots Q (F0 m pc ls (.int x :: .int i :: .ref a :: rest)) := by
  subst hi
  have hcl : (nI j).toNatClampNeg = j := nI_clamp (by omega)
  refine W.iast hexec hb hP ((hK.1.2 0 _ rfl).1 nn (fun j => .int (f j))) (fun q => by cases q) (by show ¬ (nI j < 0 ∨ (arrV _ _ _).slots.size ≤ _); rw [arrV_size]; exact vp_in_nI hj hnn) rfl rfl hdg fun H1 e z oq => ?_
  refine kk H1 _ ?_ z oq (hS.put z oq ha)
  show H1[a]? = some (vp_cell _ _)
  rw [e, vp_cell_i, vp_cell_i, arrV_store, hcl]
  congr 2
  funext q
  by_cases hq : q = j
  · subst hq; simp [updV, upd]
  · simp [updV, upd, hq]
/-- a new object -/
theorem wk_new (hexec : p.tables.exec = Jvm.exec) (hb : c.code = cc) {T : u_T} {N ci : Nat} (hts : ∀ w ∈ Ts, w.before args s = true) (hin : ∀ w ∈ u_ws C T N, w ∈ Ts) (ty : Nat → FieldType) (hty : ∀ k, k < N → parseFieldDescriptor (T k).2.2.1 = some (ty k)) (hown : s.vm.findClass own = some m.cls) (hcl : (Cond.classLink own index C).before args s = true) (hinst : (Cond.instantiable C N).before args s = true) (hini : (Cond.initialized C).before args s = true) (hK : wk_K E s) (hS : va_S A H0 H locs) (hc : vwCl[ci]? = some (C, T, N)) {fs : List Value} (hfs : ∀ j, j < N → defaultValue (ty j) = vp_V fs j) (hcells : cells + 1 ≤ R.cells) (hslots : slots + N ≤ R.slots) (hdg : decode cc pc = .ok (.new index, 3))
    (kk : ∀ (H1 : Heap), va_at E.1 vwCl (H.size, .inr (ci, fs)) H1 → H1.size = H.size + 1 → (∀ q : Nat, q < H.size → H1[q]? = H[q]?) → va_S A H0 H1 locs → W p l e R s m args below meth c H1 locs (cells + 1) (slots + N) Q (F0 m (pc + 3) ls (.ref H.size :: rest))) : W p l e R s m args below meth c H locs cells slots Q (F0 m pc ls rest) := by
  have hKn := hK.1.1 ci _ hc
  refine W.newcK hexec hb hown hcl hinst hini rfl hdg hcells hslots hKn.2.1 rfl fun H1 kC hkC e1 z1 o1 => ?_
  exact kk H1 ⟨_, hc, (u_born ty hts hin hKn hkC e1 hty).to hfs⟩ z1 o1 ⟨Nat.le_trans hS.1 (by omega), fun x h1 h2 => (o1 x (Nat.lt_of_lt_of_le h1 hS.1)).trans (hS.2.1 x h1 h2), hS.2.2⟩
end WER
