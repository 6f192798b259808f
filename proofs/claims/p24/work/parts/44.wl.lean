/-! The law's own calls: methods that catch what the desk throws. -/
def wl_ncs : List (String × String) := [("java/lang/IllegalStateException", "java/lang/IllegalArgumentException"), ("java/lang/IndexOutOfBoundsException", "java/lang/IllegalArgumentException"), ("java/lang/IllegalArgumentException", "java/lang/IllegalStateException"), ("java/lang/IndexOutOfBoundsException", "java/lang/IllegalStateException"), ("java/lang/IllegalArgumentException", "java/lang/IndexOutOfBoundsException"), ("java/lang/IllegalStateException", "java/lang/IndexOutOfBoundsException")]
/-- none of the three exceptions is another one -/
def wl_NC (U : State) : Prop := ∀ q ∈ wl_ncs, va_Nc q.1 q.2 U
theorem wl_NC.warm {s U : State} (hW : s.WarmedH U.vm) (h : wl_NC s) : wl_NC U := fun q hq => va_Nc.moved hW.alike (h q hq)
theorem wl_NC.call {U : State} (g : JFrame) (mk : MethodId) (a : Array Value) (h : wl_NC U) : wl_NC (U.calling g mk a) := fun q hq => va_Nc.moved (u := U) (U := U.calling g mk a) (Vm.Alike.refl U.vm) (h q hq)
/-- a contract of a method with an exception table -/
theorem wl_ofWH {l : Launch} {y : MethodName} {ws ws' : List Cond} {rm : Room} {Pc : Array Value → State → Prop} {Qc : Array Value → State → Outcome → State → Prop} {mc ms : Nat} {free : Addr → Prop} {cc : ByteArray} {maxL : Nat} {ret : Option FieldType} {hh : List (Nat × Nat × Nat × Nat)}
    (hy : plainName y.cls = true) (hw : ws = Cond.codeWith y cc maxL ret hh :: ws')
    (body : ∀ p e s m args below meth c s₁, BodyLoose p l y (headSpec ws rm) cc maxL ret e s m args below meth c s₁ → c.maxLocals = maxL → Pc args s →
      W p l e (headSpec ws rm).room s m args below meth c s.heap [] 0 0 (MQ below Qc args s mc ms free) (entryFrame m args maxL)) : Met l y ws rm Pc Qc mc ms free := by
  refine MetFree.of_bodyS (code := cc) (maxLocals := maxL) (ret := ret) hy ?_ ?_
  · intro args s m h hn
    obtain ⟨m9, meth, c, hn9, h1, h2, h3, h4, -, h5, h6, -⟩ := Cond.codeWith_spec (atoms_spec (ws := ws) h _ (by rw [hw]; exact List.mem_cons_self))
    cases hn.symm.trans hn9
    exact ⟨meth, c, h1, h2, h3, h4, h5, h6⟩
  · intro p e s m args below meth c s₁ B hml hP _
    have hh0 : s₁.heap = s.heap := by rw [B.state]; rfl
    obtain ⟨t, a1, o, b1, b2, b3⟩ := body p e s m args below meth c s₁ B hml hP s₁ hh0 (Stand.of_body B)
    exact ⟨t, o, a1, b1, b2, ⟨b3.1, b3.2⟩⟩
section WL
variable {p : Program} {l : Launch} {e : Env} {R : Room} {s : State} {m : MethodId} {args : Array Value} {below : List Frame} {meth : Method} {c : Code} {H : Heap} {locs : List Loc} {cells slots : Nat} {Q : State → Prop}
variable {y : MethodName} {bytes cc : ByteArray} {maxL nL n index mc ms : Nat} {ret : Option FieldType} {hh : List (Nat × Nat × Nat × Nat)} {ws Ts : List Cond} {rm : Room} {own : String} {pc : Nat} {As rest st0 : List Value} {ls : Array Slot} {E : wk_E} {A : Nat → Prop} {H0 : Heap} {F : Nat → Prop} {Rt : Option Value → Heap → Prop}
theorem wl_S (S : CallFix p m c cc nL s args Ts own) (hM : we_MetP wl_NC l y ws rm E H As F mc ms Rt) (hN : wl_NC s) (cw : vx_CSW R s args own index y bytes maxL ret hh ws rm mc ms n) (hV : EV E s H) (hS : va_S A H0 H locs) (hF : ∀ q, F q → A q) (hA : ∀ q, H0.size ≤ q → A q)
    (hn : As.length = n) (hsize : ls.size = nL) (hstack : st0 = As.reverse ++ rest) (hW : (rest.map fun v => v.category).sum ≤ 8) (hdg : decode cc pc = .ok (.invokestatic index, 3)) (hf : cells + mc ≤ R.cells ∧ slots + ms ≤ R.slots)
    (kk : ∀ (v : Option Value) (H1 : Heap) (locs1 : List Loc), Rt v H1 → H.size ≤ H1.size → (∀ q : Nat, q < H.size → ¬ F q → H1[q]? = H[q]?) → va_S A H0 H1 locs1 → W p l e R s m args below meth c H1 locs1 (cells + mc) (slots + ms) Q (F0 m (pc + 3) ls (v.toList ++ rest))) : W p l e R s m args below meth c H locs cells slots Q (F0 m pc ls st0) :=
  we_back (vx_runSW (g := F0 m pc ls st0) (As := As) (rest := rest) S hM cw ⟨fun a U g mk q => ⟨q.1, ⟨q.2.1.1, EV.call g mk a q.2.1.2⟩, wl_NC.call g mk a q.2.2⟩, fun U hU hW => ⟨rfl, ⟨hU, EV.warm hW hV⟩, wl_NC.warm hW hN⟩⟩ rfl hn hsize hstack (lv_room hW) hdg hf) rfl hS hF hA kk
end WL
theorem wl_ooF {T : Nat → Nat × Nat} {oo : Nat} (h : T oo = (20, 0)) : ¬ z_FD T oo := by unfold z_FD; rw [h]; decide
theorem wl_ooM {T : Nat → Nat × Nat} {oo : Nat} (h : T oo = (20, 0)) : ¬ z_FM T oo := by unfold z_FM; rw [h]; decide
theorem wl_ne {T : Nat → Nat × Nat} {oo q : Nat} (h : T oo = (20, 0)) (hq : z_FD T q) : q ≠ oo := fun z => wl_ooF h (z ▸ hq)
theorem wl_neM {T : Nat → Nat × Nat} {oo q : Nat} (h : T oo = (20, 0)) (hq : z_FM T q) : q ≠ oo := fun z => wl_ooM h (z ▸ hq)
theorem wl_DM {T : Nat → Nat × Nat} {q : Nat} (hq : z_FM T q) : ¬ z_FD T q := by
  unfold z_FM at hq
  unfold z_FD
  omega
