/-! The law's body. -/
theorem wl_FDA {T : Nat → Nat × Nat} {E : wk_E} (hb : ∀ q, q < E.2.2.1 → T q = (99, 0)) : ∀ q, z_FD T q → wk_A E q := fun q hq => Nat.le_of_not_lt fun z => z_FDb hb z hq
theorem wl_FMA {T : Nat → Nat × Nat} {E : wk_E} (hb : ∀ q, q < E.2.2.1 → T q = (99, 0)) : ∀ q, z_FM T q → wk_A E q := fun q hq => Nat.le_of_not_lt fun z => z_FMb hb z hq
theorem wl_MAw {E : wk_E} {T T9 : Nat → Nat × Nat} {Y : Nat → Nat → Nat} {σ : z_S} {th : Int32} {gt : Int64} {H H1 : Heap} {oo : Nat} (h : MA E T Y σ th gt H) (hb : E.2.2.1 ≤ H.size) (hT9 : ∀ a, a < H.size → T9 a = T a) (hoT : T oo = (20, 0)) (hk : ∀ q : Nat, q < H.size → ¬ (z_FD T q ∨ q = oo) → H1[q]? = H[q]?) : MA E T9 Y σ th gt H1 :=
  (h.retag hb hT9).kept fun q hq hf => hk q hq fun z => by
    have hf2 : z_FM T q := by unfold z_FM at hf ⊢; rw [← hT9 q hq]; exact hf
    exact z.elim (wl_DM hf2) (wl_neM hoT hf2)
/-- what stands at the law's entry, and doesn't change -/
abbrev wl_C (p : Program) (l : Launch) (s : State) (m : MethodId) (meth : Method) (c : Code) (b L : Nat) (xs : Nat → Int32) (E : wk_E) : Prop :=
  (p.tables.exec = Jvm.exec ∧ c.code = code ∧ meth.sig.returnType = ret ∧ c.maxLocals = 9 ∧ s.vm.findClass RL = some m.cls ∧ meth.locks = false) ∧ (∀ w ∈ wsL_law, w.before #[Value.ref b] s = true) ∧ (va_X b L xs s s.heap ∧ b < s.heap.size ∧ L ≤ 2560) ∧ (EV E s s.heap ∧ wl_NC s ∧ E.2.2.1 = s.heap.size) ∧ l.stackTraces = false
/-- what stands between two calls -/
abbrev wl_I (E : wk_E) (T : Nat → Nat × Nat) (X : z_X) (Y : Nat → Nat → Nat) (σ : z_S) (gt : Int64) (oo : Nat) (H : Heap) : Prop :=
  DA E T X σ H ∧ (∃ th, MA E T Y σ th gt H) ∧ z_Iv σ gt ∧ T oo = (20, 0) ∧ E.2.2.1 ≤ oo ∧ ∃ ov : Nat → Int64, va_at E.1 vwCl (oo, .inl (E.2.1.2.2, 1, .inr (.inl ov))) H
section WLS
variable {p : Program} {l : Launch} {e : Env} {R : Room} {s : State} {m : MethodId} {args : Array Value} {below : List Frame} {meth : Method} {c : Code} {H : Heap} {locs : List Loc} {cells slots : Nat} {Q : State → Prop} {cc : ByteArray} {pc : Nat} {rest : List Value} {ls : Array Slot} {A : Nat → Prop} {H0 : Heap}
theorem wl_sld (hexec : p.tables.exec = Jvm.exec) (hb : c.code = cc) {b L : Nat} {xs : Nat → Int32} (hX : va_X b L xs s H0) (hbl : b < H0.size) (hbA : ¬ A b) (hS : va_S A H0 H locs) (j : Nat) {i : Int32} (hi : i = nI j) (hj : j < L) (hL : L ≤ 2560) (hdg : decode cc pc = .ok (.iaload, 1))
    (kk : W p l e R s m args below meth c H locs cells slots Q (F0 m (pc + 1) ls (.int (xs j) :: rest))) : W p l e R s m args below meth c H locs cells slots Q (F0 m pc ls (.int i :: .ref b :: rest)) := by
  subst hi
  refine va_sld hexec hb hX hbl hbA hS (vp_in_nI hj (by omega)) hdg ?_
  rw [nI_clamp (by omega)]
  exact kk
end WLS
theorem wl_m1 : ∀ w ∈ wsL_law0_r1, w ∈ wsL_law := fun w h => by
  unfold wsL_law wsL_law0
  simp only [List.mem_append, h, true_or, or_true]
theorem wl_m2 : ∀ w ∈ wsL_law0_r2, w ∈ wsL_law := fun w h => by
  unfold wsL_law wsL_law0
  simp only [List.mem_append, h, true_or, or_true]
theorem wl_m3 : ∀ w ∈ wsL_law0_r3, w ∈ wsL_law := fun w h => by
  unfold wsL_law wsL_law0
  simp only [List.mem_append, h, true_or, or_true]
theorem wl_m4 : ∀ w ∈ wsL_law0_r4, w ∈ wsL_law := fun w h => by
  unfold wsL_law wsL_law0
  simp only [List.mem_append, h, true_or, or_true]
theorem wl_m5 : ∀ w ∈ wsL_law0_r5, w ∈ wsL_law := fun w h => by
  unfold wsL_law wsL_law0
  simp only [List.mem_append, h, true_or, or_true]
theorem wl_m6 : ∀ w ∈ wsL_law0_r6, w ∈ wsL_law := fun w h => by
  unfold wsL_law wsL_law0
  simp only [List.mem_append, h, true_or, or_true]
theorem wl_m7 : ∀ w ∈ wsL_law0_r7, w ∈ wsL_law := fun w h => by
  unfold wsL_law wsL_law0
  simp only [List.mem_append, h, true_or, or_true]
theorem wl_m8 : ∀ w ∈ wsL_law0_r8, w ∈ wsL_law := fun w h => by
  unfold wsL_law wsL_law0
  simp only [List.mem_append, h, true_or, or_true]
theorem wl_m9 : ∀ w ∈ wsL_law0_r9, w ∈ wsL_law := fun w h => by
  unfold wsL_law wsL_law0
  simp only [List.mem_append, h, true_or, or_true]
theorem wl_m10 : ∀ w ∈ wsL_law0_r10, w ∈ wsL_law := fun w h => by
  unfold wsL_law wsL_law0
  simp only [List.mem_append, h, true_or, or_true]
theorem wl_m11 : ∀ w ∈ wsL_law0_r11, w ∈ wsL_law := fun w h => by
  unfold wsL_law wsL_law0
  simp only [List.mem_append, h, true_or, or_true]
theorem wl_m12 : ∀ w ∈ wsL_law0_r12, w ∈ wsL_law := fun w h => by
  unfold wsL_law wsL_law0
  simp only [List.mem_append, h, true_or, or_true]
theorem wl_m13 : ∀ w ∈ wsL_law0_r13, w ∈ wsL_law := fun w h => by
  unfold wsL_law wsL_law0
  simp only [List.mem_append, h, true_or, or_true]
theorem wl_m14 : ∀ w ∈ wsL_law0_r14, w ∈ wsL_law := fun w h => by
  unfold wsL_law wsL_law0
  simp only [List.mem_append, h, true_or, or_true]
theorem wl_m15 : ∀ w ∈ wsL_law0_r15, w ∈ wsL_law := fun w h => by
  unfold wsL_law wsL_law0
  simp only [List.mem_append, h, true_or, or_true]
theorem wl_m16 : ∀ w ∈ wsL_law0_r16, w ∈ wsL_law := fun w h => by
  unfold wsL_law wsL_law0
  simp only [List.mem_append, h, true_or, or_true]
theorem wl_m17 : ∀ w ∈ wsL_law0_r17, w ∈ wsL_law := fun w h => by
  unfold wsL_law wsL_law0
  simp only [List.mem_append, h, true_or, or_true]
theorem wl_m18 : ∀ w ∈ wsL_law0_r18, w ∈ wsL_law := fun w h => by
  unfold wsL_law wsL_law0
  simp only [List.mem_append, h, true_or, or_true]
theorem wl_m19 : ∀ w ∈ wsL_law0_r19, w ∈ wsL_law := fun w h => by
  unfold wsL_law wsL_law0
  simp only [List.mem_append, h, true_or, or_true]
theorem wl_m20 : ∀ w ∈ wsL_law0_r20, w ∈ wsL_law := fun w h => by
  unfold wsL_law wsL_law0
  simp only [List.mem_append, h, true_or, or_true]
theorem wl_m21 : ∀ w ∈ wsL_law0_r21, w ∈ wsL_law := fun w h => by
  unfold wsL_law wsL_law0
  simp only [List.mem_append, h, true_or, or_true]
theorem wl_m22 : ∀ w ∈ wsL_law0_r22, w ∈ wsL_law := fun w h => by
  unfold wsL_law wsL_law0
  simp only [List.mem_append, h, true_or, or_true]
theorem wl_m23 : ∀ w ∈ wsL_law0_r23, w ∈ wsL_law := fun w h => by
  unfold wsL_law wsL_law0
  simp only [List.mem_append, h, true_or, or_true]
theorem wl_m24 : ∀ w ∈ wsL_law0_r24, w ∈ wsL_law := fun w h => by
  unfold wsL_law wsL_law0
  simp only [List.mem_append, h, true_or, or_true]
theorem wl_m25 : ∀ w ∈ wsL_law0_r25, w ∈ wsL_law := fun w h => by
  unfold wsL_law wsL_law0
  simp only [List.mem_append, h, true_or, or_true]
theorem wl_m26 : ∀ w ∈ wsL_law0_r26, w ∈ wsL_law := fun w h => by
  unfold wsL_law wsL_law0
  simp only [List.mem_append, h, true_or, or_true]
theorem wl_m27 : ∀ w ∈ wsL_law0_r27, w ∈ wsL_law := fun w h => by
  unfold wsL_law wsL_law0
  simp only [List.mem_append, h, true_or, or_true]
theorem wl_m28 : ∀ w ∈ wsL_law0_r28, w ∈ wsL_law := fun w h => by
  unfold wsL_law wsL_law0
  simp only [List.mem_append, h, true_or, or_true]
theorem wl_m29 : ∀ w ∈ wsL_law0_r29, w ∈ wsL_law := fun w h => by
  unfold wsL_law wsL_law0
  simp only [List.mem_append, h, true_or, or_true]
theorem wl_m30 : ∀ w ∈ wsL_law0_r30, w ∈ wsL_law := fun w h => by
  unfold wsL_law wsL_law0
  simp only [List.mem_append, h, true_or, or_true]
