/-! The law's body. -/
theorem wl_FDA {T : Nat → Nat × Nat} {E : wk_E} (hb : ∀ q, q < E.2.2.1 → T q = (99, 0)) : ∀ q, z_FD T q → wk_A E q := fun q hq => Nat.le_of_not_lt fun z => z_FDb hb z hq
theorem q_FA {T : Nat → Nat × Nat} {E : wk_E} {aa sa pa : Nat} (hb : ∀ q, q < E.2.2.1 → T q = (99, 0)) (ea : E.2.2.1 ≤ aa) (es : E.2.2.1 ≤ sa) (ep : E.2.2.1 ≤ pa) : ∀ q, (z_FD T q ∨ q = aa ∨ q = sa ∨ q = pa) → wk_A E q := fun q hq => Nat.le_of_not_lt fun z => q_notF hb ea es ep z hq
/-- what stands at the law's entry, and doesn't change -/
abbrev q_C (p : Program) (l : Launch) (s : State) (m : MethodId) (meth : Method) (c : Code) (b L : Nat) (xs : Nat → Int32) (E : wk_E) : Prop :=
  (p.tables.exec = Jvm.exec ∧ c.code = code ∧ meth.sig.returnType = ret ∧ c.maxLocals = 14 ∧ s.vm.findClass RL = some m.cls ∧ meth.locks = false) ∧ (∀ w ∈ wsL_law, w.before #[Value.ref b] s = true) ∧ (va_X b L xs s s.heap ∧ b < s.heap.size ∧ L ≤ 260) ∧ (EV E s s.heap ∧ E.2.2.1 = s.heap.size) ∧ l.stackTraces = false
theorem q_nowrun {σ : z_S} {t n b : Nat} (h0 : 0 ≤ (z_now σ).toInt) (h : (z_now σ).toInt ≤ 30 * (t : Int)) (hn : n ≤ 30) (ht : t ≤ 4) (x : Int32) : (z_now (s1 (s1 (f_run (f_take σ b) n).1 1 0 x) 1 0 x)).toInt ≤ 30 * ((t + 1 : Nat) : Int) := by
  have e1 : (nI n).toInt = n := nI_toInt (by omega)
  have e2 : z_now (s1 (s1 (f_run (f_take σ b) n).1 1 0 x) 1 0 x) = z_now σ + nI n := f_run_now (f_take σ b) n
  rw [e2, fb_addI (by omega) (by omega), e1]
  omega
theorem wl_m1 : ∀ w ∈ wsL_law0_r1, w ∈ wsL_law := fun w h => by
  unfold wsL_law wsL_law0
  simp only [List.mem_append, h, true_or, or_true]
theorem wl_m2 : ∀ w ∈ wsL_law0_r2, w ∈ wsL_law := fun w h => by
  unfold wsL_law wsL_law0
  simp only [List.mem_append, h, true_or, or_true]
theorem wl_m3 : ∀ w ∈ wsL_law0_r3, w ∈ wsL_law := fun w h => by
  unfold wsL_law wsL_law0
  simp only [List.mem_append, h, true_or, or_true]
theorem wl_m4 : ∀ w ∈ wsL_law0_r4, w ∈ wsL_law := fun w h => by
  unfold wsL_law wsL_law0
  simp only [List.mem_append, h, true_or, or_true]
theorem wl_m5 : ∀ w ∈ wsL_law0_r5, w ∈ wsL_law := fun w h => by
  unfold wsL_law wsL_law0
  simp only [List.mem_append, h, true_or, or_true]
theorem wl_m6 : ∀ w ∈ wsL_law0_r6, w ∈ wsL_law := fun w h => by
  unfold wsL_law wsL_law0
  simp only [List.mem_append, h, true_or, or_true]
theorem wl_m7 : ∀ w ∈ wsL_law0_r7, w ∈ wsL_law := fun w h => by
  unfold wsL_law wsL_law0
  simp only [List.mem_append, h, true_or, or_true]
theorem wl_m8 : ∀ w ∈ wsL_law0_r8, w ∈ wsL_law := fun w h => by
  unfold wsL_law wsL_law0
  simp only [List.mem_append, h, true_or, or_true]
theorem wl_m9 : ∀ w ∈ wsL_law0_r9, w ∈ wsL_law := fun w h => by
  unfold wsL_law wsL_law0
  simp only [List.mem_append, h, true_or, or_true]
theorem wl_m10 : ∀ w ∈ wsL_law0_r10, w ∈ wsL_law := fun w h => by
  unfold wsL_law wsL_law0
  simp only [List.mem_append, h, true_or, or_true]
theorem wl_m11 : ∀ w ∈ wsL_law0_r11, w ∈ wsL_law := fun w h => by
  unfold wsL_law wsL_law0
  simp only [List.mem_append, h, true_or, or_true]
theorem wl_m12 : ∀ w ∈ wsL_law0_r12, w ∈ wsL_law := fun w h => by
  unfold wsL_law wsL_law0
  simp only [List.mem_append, h, true_or, or_true]
theorem wl_m13 : ∀ w ∈ wsL_law0_r13, w ∈ wsL_law := fun w h => by
  unfold wsL_law wsL_law0
  simp only [List.mem_append, h, true_or, or_true]
theorem wl_m14 : ∀ w ∈ wsL_law0_r14, w ∈ wsL_law := fun w h => by
  unfold wsL_law wsL_law0
  simp only [List.mem_append, h, true_or, or_true]
theorem wl_m15 : ∀ w ∈ wsL_law0_r15, w ∈ wsL_law := fun w h => by
  unfold wsL_law wsL_law0
  simp only [List.mem_append, h, true_or, or_true]
theorem wl_m16 : ∀ w ∈ wsL_law0_r16, w ∈ wsL_law := fun w h => by
  unfold wsL_law wsL_law0
  simp only [List.mem_append, h, true_or, or_true]
