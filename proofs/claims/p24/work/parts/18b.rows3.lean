section WKV
variable {p : Program} {l : Launch} {e : Env} {R : Room} {s : State} {m : MethodId} {args : Array Value} {below : List Frame} {meth : Method} {c : Code} {H : Heap} {locs : List Loc} {cells slots : Nat} {Q : State → Prop}
variable {y : MethodName} {bytes cc : ByteArray} {maxL nL n index mc ms : Nat} {ws Ts : List Cond} {rm : Room} {own C host : String} {b pc : Nat} {As rest st0 : List Value} {ls : Array Slot} {E : wk_E} {v : Value} {A : Nat → Prop} {H0 : Heap} {F : Nat → Prop} {Rt : Option Value → Heap → Prop}
theorem wk_newv (hexec : p.tables.exec = Jvm.exec) (hb : c.code = cc) {T : u_T} {N ci : Nat} (hts : ∀ w ∈ Ts, w.before args s = true) (hin : ∀ w ∈ u_ws C T N, w ∈ Ts) (ty : Nat → FieldType) (hty : ∀ k, k < N → parseFieldDescriptor (T k).2.2.1 = some (ty k)) (hown : s.vm.findClass own = some m.cls) (hcl : (Cond.classLink own index C).before args s = true) (hinst : (Cond.instantiable C N).before args s = true) (hini : (Cond.initialized C).before args s = true) (hK : wk_K E s) (hS : va_S A H0 H locs) (hc : vwCl[ci]? = some (C, T, N)) {fs : List Value} (hfs : ∀ j, j < N → defaultValue (ty j) = vp_V fs j) (hcells : cells + 1 ≤ R.cells) (hslots : slots + N ≤ R.slots) (hdg : decode cc pc = .ok (.new index, 3))
    (kk : ∀ (o : Nat) (H1 : Heap), o = H.size → va_at E.1 vwCl (o, .inr (ci, fs)) H1 → H1.size = H.size + 1 → (∀ q : Nat, q < H.size → H1[q]? = H[q]?) → va_S A H0 H1 locs → W p l e R s m args below meth c H1 locs (cells + 1) (slots + N) Q (F0 m (pc + 3) ls (.ref o :: rest))) : W p l e R s m args below meth c H locs cells slots Q (F0 m pc ls rest) :=
  wk_new hexec hb hts hin ty hty hown hcl hinst hini hK hS hc hfs hcells hslots hdg (fun H1 h1 h2 h3 h4 => kk H.size H1 rfl h1 h2 h3 h4)
theorem wk_newiv (hexec : p.tables.exec = Jvm.exec) (hb : c.code = cc) (harr : (Cond.arrayClass .int).before args s = true) (hK : wk_K E s) (hS : va_S A H0 H locs) (n : Nat) {x : Int32} (hx : x = nI n) (hn : n ≤ 1000) (hcells : cells + 1 ≤ R.cells) (hslots : slots + n ≤ R.slots) (hdg : decode cc pc = .ok (.newarray .int, 2))
    (kk : ∀ (o : Nat) (H1 : Heap), o = H.size → va_at E.1 vwCl (o, .inl (E.2.1.1, n, .inl (fun _ => 0))) H1 → H1.size = H.size + 1 → (∀ q : Nat, q < H.size → H1[q]? = H[q]?) → va_S A H0 H1 locs → W p l e R s m args below meth c H1 locs (cells + 1) (slots + n) Q (F0 m (pc + 2) ls (.ref o :: rest))) : W p l e R s m args below meth c H locs cells slots Q (F0 m pc ls (.int x :: rest)) :=
  wk_newi hexec hb harr hK hS n hx hn hcells hslots hdg (fun H1 h1 h2 h3 h4 => kk H.size H1 rfl h1 h2 h3 h4)
theorem we_IN (S : CallFix p m c cc nL s args Ts own) (hM : we_Met l y ws rm E H (.ref b :: As) F mc ms Rt) (cw : va_CN R s args own index y host bytes maxL none ws rm mc ms n ∧ y.name = "<init>" ∧ (Cond.instanceMethod y).before args s = true) (hV : EV E s H) (hS : va_S A H0 H locs) (hF : ∀ q, F q → A q) (hA : ∀ q, H0.size ≤ q → A q)
    (hn : As.length = n) (hsize : ls.size = nL) (hstack : st0 = As.reverse ++ .ref b :: rest) (hW : (rest.map fun v => v.category).sum ≤ 8) (hdg : decode cc pc = .ok (.invokespecial index, 3)) (hf : cells + mc ≤ R.cells ∧ slots + ms ≤ R.slots)
    (kk : ∀ (v : Option Value) (H1 : Heap) (locs1 : List Loc), Rt v H1 → H.size ≤ H1.size → (∀ q : Nat, q < H.size → ¬ F q → H1[q]? = H[q]?) → va_S A H0 H1 locs1 → W p l e R s m args below meth c H1 locs1 (cells + mc) (slots + ms) Q (F0 m (pc + 3) ls (v.toList ++ rest))) : W p l e R s m args below meth c H locs cells slots Q (F0 m pc ls st0) :=
  we_back (va_runIN (g := F0 m pc ls st0) (b := b) (As := As) (rest := rest) S hM cw ⟨wx_blind, fun U hU hW => wx_pre hV U hU hW⟩ rfl hn hsize hstack (lv_room hW) hdg hf) rfl hS hF hA kk
end WKV
theorem DA.outT {E : wk_E} {T : Nat → Nat × Nat} {X : z_X} {σ : z_S} {H : Heap} (h : DA E T X σ H) {k : Nat} (hk : k < z_n σ 3) : T (X.1 8 k) = (8, k) := (h.1 8 k _ (if_pos hk)).1
theorem z_row_tag {E : wk_E} {T : Nat → Nat × Nat} {X : z_X} {σ : z_S} {H : Heap} (h : DA E T X σ H) {j a : Nat} (hj : j < 4) (ha : a = X.1 2 j) (hb : E.2.2.1 ≤ a) (hd : E.2.2.2 < E.2.2.1) : z_FD T a := by
  rcases Nat.eq_zero_or_pos (z_n σ j) with hn | hn
  · have := (h.2.2 j hj).1 hn
    rw [ha, this] at hb; omega
  · rw [ha]; exact h.tag (i := 2) (k := j) (if_pos ⟨hj, hn⟩)
theorem z_row_ne {E : wk_E} {T : Nat → Nat × Nat} {X : z_X} {σ : z_S} {H : Heap} (h : DA E T X σ H) {j o : Nat} (hj : j < 4) (hxs : ∀ (i k : Nat) (ae : Nat × va_E), z_cell E X σ i k = some ae → ¬ o = ae.1) (ha : o = X.1 2 j) (hb : E.2.2.1 ≤ o) (hd : E.2.2.2 < E.2.2.1) : False := by
  rcases Nat.eq_zero_or_pos (z_n σ j) with hn | hn
  · have := (h.2.2 j hj).1 hn
    rw [ha, this] at hb; omega
  · exact hxs 2 j _ (if_pos ⟨hj, hn⟩) ha
theorem DA.keptc {E : wk_E} {T : Nat → Nat × Nat} {X : z_X} {σ : z_S} {H H1 : Heap} (h : DA E T X σ H) (hk : ∀ (i k : Nat) (ae : Nat × va_E), z_cell E X σ i k = some ae → H1[ae.1]? = H[ae.1]?) : DA E T X σ H1 := ⟨h.1.kept hk, h.2⟩
def f_hears (σ : z_S) (a i : Nat) : Bool := ((z_ab σ a).toNatClampNeg).testBit (z_sb σ i).toNatClampNeg
theorem f_hearsN {σ : z_S} (hI : z_Ok σ) {a i : Nat} (ha : a < z_n σ 0) (hi : i < z_n σ 1) : ∃ mm bb : Nat, mm < 16 ∧ bb < 4 ∧ z_ab σ a = nI mm ∧ z_sb σ i = nI bb ∧ f_hears σ a i = mm.testBit bb := by
  have h1 := (hI.a ha).1
  have h2 := (hI.s hi).1
  obtain ⟨mm, m1, m2, m3⟩ := wk_nat (x := z_ab σ a) (by omega)
  obtain ⟨bb, b1, b2, b3⟩ := wk_nat h2.1
  refine ⟨mm, bb, by omega, by omega, m2, b2, ?_⟩
  unfold f_hears
  rw [m2, b2, nI_clamp m1, nI_clamp b1]
theorem f_cntO (σ : z_S) (a : Nat) (x y : Int32) : f_cntOut (f_addO σ a x y) (z_oA (f_addO σ a x y) (z_n σ 3)) (z_of (f_addO σ a x y) (z_n σ 3)) (z_ot (f_addO σ a x y) (z_n σ 3)) = f_cntOut σ a x y := by
  have e1 : z_oA (f_addO σ a x y) (z_n σ 3) = a := by simp [f_addO, s1, s2, z_oA, z_n]
  have e3 : z_of (f_addO σ a x y) (z_n σ 3) = x := by simp [f_addO, s1, s2, z_of, z_n]
  have e4 : z_ot (f_addO σ a x y) (z_n σ 3) = y := by simp [f_addO, s1, s2, z_ot, z_n]
  rw [e1, e3, e4]; rfl
/-- the desk is the old one's with σ', seen from H1 on -/
def z_DN (E : wk_E) (T : Nat → Nat × Nat) (X : z_X) (σ' : z_S) (H H1 : Heap) : Prop := ∃ (T' : Nat → Nat × Nat) (X' : z_X), (∀ a, a < H.size → T' a = T a) ∧ X'.1 0 0 = X.1 0 0 ∧ DA E T' X' σ' H1
theorem z_cl1 {E : wk_E} {X : z_X} {σ : z_S} {j : Nat} (hj : j < 4) : z_cell E X σ 1 j = some (X.1 1 j, .inr (0, [.int (X.2.1 0 j), .ref (X.1 2 j), .int (nI (z_n σ j))])) := if_pos hj
theorem z_cl1T {E : wk_E} {T : Nat → Nat × Nat} {X : z_X} {σ : z_S} {H : Heap} (h : DA E T X σ H) {j : Nat} (hj : j < 4) : T (X.1 1 j) = (1, j) := (h.1 1 j _ (if_pos hj)).1
