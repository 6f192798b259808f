/-! A heap that a method only reads: contracts 'wk_Met' (it returns r, the heap is the same), and the rows that go with them. -/
abbrev wk_E : Type := va_G × (ClassId × ClassId × ClassId) × (Nat × Nat)
abbrev wk_ty (E : wk_E) : List (ClassId × FieldType) := [(E.2.1.1, .int), (E.2.1.2.1, .object "java/lang/Object")]
/-- the classes of the worlds, and the two calls between nest mates -/
def wk_K (E : wk_E) (U : State) : Prop := va_K E.1 vwCl (wk_ty E) U ∧ va_Nw (.methodLinkNest RX4 18 yX5_contains RX5) U ∧ va_Nw (.methodLinkNest RX5 27 yX4_init RX5) U
def wk_Pc (E : wk_E) (H : Heap) (av : List Value) : Array Value → State → Prop := va_Pc av (fun U => U.heap = H ∧ wk_K E U)
def wk_Q (r : Option Value) : Array Value → State → Outcome → State → Prop := fun _ st oc t => oc = .returned r ∧ t.heap = st.heap
def wk_Met (l : Launch) (y : MethodName) (ws : List Cond) (rm : Room) (E : wk_E) (H : Heap) (av : List Value) (r : Option Value) : Prop := Met l y ws rm (wk_Pc E H av) (wk_Q r) 0 0 (fun _ => False)
theorem wk_one {D : va_G} {cl : List vw_C} {ae : Nat × va_E} {H : Heap} (h : va_at D cl ae H) : va_P D cl [ae] H := by
  intro k q hq
  match k, hq with
  | 0, hq => cases hq; exact h
  | k + 1, hq => simp at hq
theorem wk_warm {E : wk_E} {s U : State} (hW : s.WarmedH U.vm) (h : wk_K E s) : wk_K E U := ⟨va_K.moved hW.alike h.1, va_Nw.warmM hW h.2.1, va_Nw.warmM hW h.2.2⟩
theorem wk_blind {E : wk_E} {H : Heap} {av : List Value} : FrameBlind (wk_Pc E H av) := fun _ U g mk q => ⟨q.1, q.2.1, va_K.moved (u := U) (U := U.calling g mk _) (Vm.Alike.refl U.vm) q.2.2.1, va_Nw.same rfl (u := U) (U := U.calling g mk _) rfl q.2.2.2.1, va_Nw.same rfl (u := U) (U := U.calling g mk _) rfl q.2.2.2.2⟩
theorem wk_pre {E : wk_E} {H : Heap} {av : List Value} {s : State} (hK : wk_K E s) : ∀ U : State, U.heap = H → s.WarmedH U.vm → wk_Pc E H av av.toArray U := fun _ hU hW => ⟨rfl, hU, wk_warm hW hK⟩
section WKR
variable {p : Program} {l : Launch} {e : Env} {R : Room} {s : State} {m : MethodId} {args : Array Value} {below : List Frame} {meth : Method} {c : Code} {H : Heap} {locs : List Loc} {cells slots : Nat} {Q : State → Prop}
variable {y : MethodName} {bytes cc : ByteArray} {maxL nL n index : Nat} {ret : Option FieldType} {ws Ts : List Cond} {rm : Room} {own C : String} {b pc : Nat} {As rest st0 : List Value} {ls : Array Slot} {E : wk_E} {v : Value}
/-- behind a call that only reads -/
theorem wk_back {g : JFrame} {r : Option Value} {a : Array Value} (hr : va_Run p l e R s m args below meth c H locs cells slots 0 0 g rest (wk_Q r a) (fun _ => False))
    (kk : W p l e R s m args below meth c H locs cells slots Q { g with pc := g.pc + 3, stack := r.toList ++ rest }) : W p l e R s m args below meth c H locs cells slots Q g := by
  intro T hT X
  obtain ⟨v, st₀, t, T', L, h0, X', hL, e1, e2, ⟨hv, hh⟩, st⟩ := hr T hT X
  have hL0 : L = [] := List.eq_nil_iff_forall_not_mem.mpr (fun q hq => hL q hq)
  subst hL0
  cases hv
  rw [List.append_nil] at X'
  obtain ⟨t2, a1, b1⟩ := kk T' (e1.trans (hh.trans h0)) X'
  exact ⟨t2, st t2 a1, b1⟩
theorem wk_V (S : CallFix p m c cc nL s args Ts own) (hM : wk_Met l y ws rm E H (.ref b :: As) (some v)) (cw : CallW R s args own C index y bytes maxL ret ws rm 0 0 n) (hrecv : ∃ cellB : Cell, H[b]? = some cellB ∧ cellB.vm.isStatics = false ∧ s.vm.findClass C = some cellB.cls) (hK : wk_K E s)
    (hn : As.length = n) (hsize : ls.size = nL) (hstack : st0 = As.reverse ++ .ref b :: rest) (hW : (rest.map fun v => v.category).sum ≤ 8) (hdg : decode cc pc = .ok (.invokevirtual index, 3)) (hf : cells ≤ R.cells ∧ slots ≤ R.slots)
    (kk : W p l e R s m args below meth c H locs cells slots Q (F0 m (pc + 3) ls (v :: rest))) : W p l e R s m args below meth c H locs cells slots Q (F0 m pc ls st0) :=
  wk_back (va_runV (g := F0 m pc ls st0) (b := b) (As := As) (rest := rest) S hM cw ⟨wk_blind, hrecv, fun U hU hW => wk_pre hK U hU hW⟩ rfl hn hsize hstack (lv_room hW) hdg hf) kk
theorem wk_Vv (S : CallFix p m c cc nL s args Ts own) (hM : wk_Met l y ws rm E H (.ref b :: As) none) (cw : CallW R s args own C index y bytes maxL ret ws rm 0 0 n) (hrecv : ∃ cellB : Cell, H[b]? = some cellB ∧ cellB.vm.isStatics = false ∧ s.vm.findClass C = some cellB.cls) (hK : wk_K E s)
    (hn : As.length = n) (hsize : ls.size = nL) (hstack : st0 = As.reverse ++ .ref b :: rest) (hW : (rest.map fun v => v.category).sum ≤ 8) (hdg : decode cc pc = .ok (.invokevirtual index, 3)) (hf : cells ≤ R.cells ∧ slots ≤ R.slots)
    (kk : W p l e R s m args below meth c H locs cells slots Q (F0 m (pc + 3) ls rest)) : W p l e R s m args below meth c H locs cells slots Q (F0 m pc ls st0) :=
  wk_back (va_runV (g := F0 m pc ls st0) (b := b) (As := As) (rest := rest) S hM cw ⟨wk_blind, hrecv, fun U hU hW => wk_pre hK U hU hW⟩ rfl hn hsize hstack (lv_room hW) hdg hf) kk
theorem wk_S (S : CallFix p m c cc nL s args Ts own) (hM : wk_Met l y ws rm E H As (some v)) (cw : CallB R s args own index y bytes maxL ret ws rm 0 0 n ∧ (Cond.static y).before args s = true) (hK : wk_K E s)
    (hn : As.length = n) (hsize : ls.size = nL) (hstack : st0 = As.reverse ++ rest) (hW : (rest.map fun v => v.category).sum ≤ 8) (hdg : decode cc pc = .ok (.invokestatic index, 3)) (hf : cells ≤ R.cells ∧ slots ≤ R.slots)
    (kk : W p l e R s m args below meth c H locs cells slots Q (F0 m (pc + 3) ls (v :: rest))) : W p l e R s m args below meth c H locs cells slots Q (F0 m pc ls st0) :=
  wk_back (va_runS (g := F0 m pc ls st0) (As := As) (rest := rest) S hM cw ⟨wk_blind, fun U hU hW => wk_pre hK U hU hW⟩ rfl hn hsize hstack (lv_room hW) hdg hf) kk
theorem wk_SN {host : String} (S : CallFix p m c cc nL s args Ts own) (hM : wk_Met l y ws rm E H As (some v)) (cw : va_CN R s args own index y host bytes maxL ret ws rm 0 0 n ∧ (Cond.static y).before args s = true ∧ True) (hK : wk_K E s)
    (hn : As.length = n) (hsize : ls.size = nL) (hstack : st0 = As.reverse ++ rest) (hW : (rest.map fun v => v.category).sum ≤ 8) (hdg : decode cc pc = .ok (.invokestatic index, 3)) (hf : cells ≤ R.cells ∧ slots ≤ R.slots)
    (kk : W p l e R s m args below meth c H locs cells slots Q (F0 m (pc + 3) ls (v :: rest))) : W p l e R s m args below meth c H locs cells slots Q (F0 m pc ls st0) :=
  wk_back (va_runSN (g := F0 m pc ls st0) (As := As) (rest := rest) S hM cw ⟨wk_blind, fun U hU hW => wk_pre hK U hU hW⟩ rfl hn hsize hstack (lv_room hW) hdg hf) kk
theorem wk_ret {v w : Value} {t : State} (he : v = w) (ht : t.heap = s.heap) : wk_Q (some w) args s (.returned (some v)) t := ⟨by rw [he], ht⟩
theorem wk_nil {free : Addr → Prop} : ∀ q ∈ ([] : List Loc), free q.base := fun _ h => nomatch h
/-- a field is read off one cell -/
theorem wk_get (hexec : p.tables.exec = Jvm.exec) (hb : c.code = cc) {ref : String} {T : u_T} {N ci a : Nat} (hts : ∀ w ∈ Ts, w.before args s = true) (hin : ∀ w ∈ u_ws C T N, w ∈ Ts) (hown : s.vm.findClass own = some m.cls) (hK : wk_K E s) {fs : List Value} (hP : va_at E.1 vwCl (a, .inr (ci, fs)) H) (hc : vwCl[ci]? = some (C, T, N)) (k : Nat) (hk : k < N) (hlink : (Cond.fieldLink own index ref (T k).2.1 (T k).2.2.1).before args s = true) (hsame : ∀ x, s.fieldFound? (T k).1 (T k).2.1 (T k).2.2.1 = some x → s.fieldFound? ref (T k).2.1 (T k).2.2.1 = some x) (hv : fs[k]? = some v) (hdg : decode cc pc = .ok (.getfield index, 3))
    (kk : W p l e R s m args below meth c H locs cells slots Q (F0 m (pc + 3) ls (v :: rest))) : W p l e R s m args below meth c H locs cells slots Q (F0 m pc ls (.ref a :: rest)) :=
  va_get hexec hb hts hin hown hK.1 (wk_one hP) 0 rfl hc k hk hlink hsame hv hdg kk
theorem wk_recv {q : vw_C} {ci a : Nat} {fs : List Value} (hK : wk_K E s) (hP : va_at E.1 vwCl (a, .inr (ci, fs)) H) (hc : vwCl[ci]? = some q) : ∃ cell : Cell, H[a]? = some cell ∧ cell.vm.isStatics = false ∧ s.vm.findClass q.1 = some cell.cls := va_recv hK.1 (wk_one hP) hc (q0 := 0) rfl
theorem wk_iald (hexec : p.tables.exec = Jvm.exec) (hb : c.code = cc) (hK : wk_K E s) {a n : Nat} {f : Nat → Int32} (hP : va_at E.1 vwCl (a, .inl (E.2.1.1, n, .inl f)) H) (j : Nat) {i : Int32} (hi : i = nI j) (hj : j < n) (hn : n < 2 ^ 31) (hdg : decode cc pc = .ok (.iaload, 1))
    (kk : W p l e R s m args below meth c H locs cells slots Q (F0 m (pc + 1) ls (.int (f j) :: rest))) : W p l e R s m args below meth c H locs cells slots Q (F0 m pc ls (.int i :: .ref a :: rest)) := by
  subst hi
  refine va_iald hexec hb hK.1 (wk_one hP) 0 0 rfl rfl (vp_in_nI hj hn) hdg ?_
  rw [nI_clamp (by omega)]
  exact kk
theorem wk_aald (hexec : p.tables.exec = Jvm.exec) (hb : c.code = cc) (hK : wk_K E s) {a n : Nat} {f : Nat → Option Nat} (hP : va_at E.1 vwCl (a, .inl (E.2.1.2.1, n, .inr (.inr (.inr (.inr f))))) H) (j : Nat) {i : Int32} (hi : i = nI j) (hj : j < n) (hn : n < 2 ^ 31) {q : Nat} (hq : f j = some q) (hdg : decode cc pc = .ok (.aaload, 1))
    (kk : W p l e R s m args below meth c H locs cells slots Q (F0 m (pc + 1) ls (.ref q :: rest))) : W p l e R s m args below meth c H locs cells slots Q (F0 m pc ls (.int i :: .ref a :: rest)) := by
  subst hi
  refine va_aldq hexec hb hK.1 (wk_one hP) 0 1 rfl rfl (vp_in_nI hj hn) hdg ?_
  rw [nI_clamp (by omega), hq]
  exact kk
theorem wk_alen (hexec : p.tables.exec = Jvm.exec) (hb : c.code = cc) (hK : wk_K E s) (t0 : Nat) {a : Nat} {x : vp_A} {cA : ClassId} (hP : va_at E.1 vwCl (a, .inl (cA, x)) H) {ty : FieldType} (ht : (wk_ty E)[t0]? = some (cA, ty)) {v : Int32} (hv : nI x.1 = v) (hdg : decode cc pc = .ok (.arraylength, 1))
    (kk : W p l e R s m args below meth c H locs cells slots Q (F0 m (pc + 1) ls (.int v :: rest))) : W p l e R s m args below meth c H locs cells slots Q (F0 m pc ls (.ref a :: rest)) :=
  va_alen hexec hb hK.1 (wk_one hP) 0 t0 rfl ht hv hdg kk
end WKR
/-- truth values -/
def wk_b (b : Bool) : Int32 := cond b 1 0
theorem wk_b0 {b : Bool} (h : wk_b b = 0) : b = false := by cases b with | false => rfl | true => exact absurd h (by decide)
theorem wk_b1 {b : Bool} (h : ¬ wk_b b = 0) : b = true := by cases b with | true => rfl | false => exact absurd rfl h
theorem wk_bt {b : Bool} (h : b = true) : wk_b b = 1 := by rw [h]; rfl
theorem wk_bf {b : Bool} (h : b = false) : wk_b b = 0 := by rw [h]; rfl
theorem wk_nz (b : Bool) : narrow .boolean (.int (wk_b b)) = .int (wk_b b) := by cases b <;> rfl
theorem wk_lt {k n : Nat} (hk : k < 2 ^ 31) (hn : n < 2 ^ 31) (h : ¬ nI n ≤ nI k) : k < n := Nat.lt_of_not_le (fun q => h (nI_le q hk))
theorem wk_ge {k n : Nat} (hk : k < 2 ^ 31) (hn : n < 2 ^ 31) (h : nI n ≤ nI k) : n ≤ k := (nI_leI hn hk).mp h
theorem wk_ceqt {a b : Nat} (ha : a < 2 ^ 31) (hb : b < 2 ^ 31) (h : nI a = nI b) : a = b := (nI_eq ha hb).mp h
theorem wk_ceqf {a b : Nat} (ha : a < 2 ^ 31) (hb : b < 2 ^ 31) (h : ¬ nI a = nI b) : ¬ a = b := fun q => h (by rw [q])
theorem wk_cnet {a b : Nat} (ha : a < 2 ^ 31) (hb : b < 2 ^ 31) (h : ¬ nI a = nI b) : ¬ a = b := fun q => h (by rw [q])
theorem wk_cnef {a b : Nat} (ha : a < 2 ^ 31) (hb : b < 2 ^ 31) (h : nI a = nI b) : a = b := (nI_eq ha hb).mp h
theorem wk_cltt {a b : Nat} (ha : a < 2 ^ 31) (hb : b < 2 ^ 31) (h : nI a < nI b) : a < b := (nI_ltI ha hb).mp h
theorem wk_cltf {a b : Nat} (ha : a < 2 ^ 31) (hb : b < 2 ^ 31) (h : ¬ nI a < nI b) : b ≤ a := Nat.le_of_not_lt (fun q => h ((nI_ltI ha hb).mpr q))
theorem wk_cget {a b : Nat} (ha : a < 2 ^ 31) (hb : b < 2 ^ 31) (h : nI b ≤ nI a) : b ≤ a := (nI_leI hb ha).mp h
theorem wk_cgef {a b : Nat} (ha : a < 2 ^ 31) (hb : b < 2 ^ 31) (h : ¬ nI b ≤ nI a) : a < b := Nat.lt_of_not_le (fun q => h ((nI_leI hb ha).mpr q))
theorem wk_cgtt {a b : Nat} (ha : a < 2 ^ 31) (hb : b < 2 ^ 31) (h : nI b < nI a) : b < a := (nI_ltI hb ha).mp h
theorem wk_cgtf {a b : Nat} (ha : a < 2 ^ 31) (hb : b < 2 ^ 31) (h : ¬ nI b < nI a) : a ≤ b := Nat.le_of_not_lt (fun q => h ((nI_ltI hb ha).mpr q))
theorem wk_clet {a b : Nat} (ha : a < 2 ^ 31) (hb : b < 2 ^ 31) (h : nI a ≤ nI b) : a ≤ b := (nI_leI ha hb).mp h
theorem wk_clef {a b : Nat} (ha : a < 2 ^ 31) (hb : b < 2 ^ 31) (h : ¬ nI a ≤ nI b) : b < a := Nat.lt_of_not_le (fun q => h ((nI_leI ha hb).mpr q))
section WKT
variable {p : Program} {l : Launch} {e : Env} {R : Room} {s : State} {m : MethodId} {args : Array Value} {below : List Frame} {meth : Method} {c : Code} {H : Heap} {locs : List Loc} {cells slots pc : Nat} {Q : State → Prop} {ls : Array Slot} {rest : List Value}
theorem wk_eqi {x y : Int32} (h : x = y) (k : W p l e R s m args below meth c H locs cells slots Q (F0 m pc ls (.int y :: rest))) : W p l e R s m args below meth c H locs cells slots Q (F0 m pc ls (.int x :: rest)) := by rw [h]; exact k
theorem wk_eql {x y : Int64} (h : x = y) (k : W p l e R s m args below meth c H locs cells slots Q (F0 m pc ls (.long y :: rest))) : W p l e R s m args below meth c H locs cells slots Q (F0 m pc ls (.long x :: rest)) := by rw [h]; exact k
theorem wk_eqls {st st' : List Value} (h : st = st') (k : W p l e R s m args below meth c H locs cells slots Q (F0 m pc ls st')) : W p l e R s m args below meth c H locs cells slots Q (F0 m pc ls st) := by rw [h]; exact k
end WKT
