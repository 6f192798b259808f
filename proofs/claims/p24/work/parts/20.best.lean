/-! The best set: what it is. w: the weights, cf: the conflicts of each, fr: the free ones. -/
def f_us (x y : Int32) : Int32 := (x.toUInt32 >>> (y.toUInt32 &&& Int32.toUInt32 31)).toInt32
def f_bc1 (x : Int32) : Int32 := x - (f_us x 1 &&& 1431655765)
def f_bc2 (x : Int32) : Int32 := (x &&& 858993459) + (f_us x 2 &&& 858993459)
def f_bc3 (x : Int32) : Int32 := (x + f_us x 4) &&& 252645135
def f_bc4 (x : Int32) : Int32 := x + f_us x 8
def f_bc5 (x : Int32) : Int32 := x + f_us x 16
/-- the bits of x, as the library counts them (nothing needs to be known of it) -/
def f_bc (x : Int32) : Int32 := f_bc5 (f_bc4 (f_bc3 (f_bc2 (f_bc1 x)))) &&& 63
def b_W (w : Nat → Nat) (m : Nat) : Nat → Nat | 0 => 0 | k + 1 => if m.testBit k then b_W w m k + w k else b_W w m k
def b_bt (w : Nat → Nat) (m b : Nat) : Prop := b_W w b 16 < b_W w m 16 ∨ (b_W w m 16 = b_W w b 16 ∧ ((f_bc (nI m)).toInt < (f_bc (nI b)).toInt ∨ ((f_bc (nI m)).toInt = (f_bc (nI b)).toInt ∧ m < b)))
theorem b_bt_irr {w : Nat → Nat} {m : Nat} : ¬ b_bt w m m := by unfold b_bt; omega
theorem b_bt_asym {w : Nat → Nat} {m b : Nat} (h : b_bt w m b) : ¬ b_bt w b m := by unfold b_bt at *; omega
theorem b_nbt_tr {w : Nat → Nat} {a b c : Nat} (h1 : ¬ b_bt w a b) (h2 : ¬ b_bt w b c) : ¬ b_bt w a c := by unfold b_bt at *; omega
theorem b_nbt_eq {w : Nat → Nat} {a b : Nat} (h1 : ¬ b_bt w a b) (h2 : ¬ b_bt w b a) : a = b := by unfold b_bt at *; omega
def b_ok (fr : Nat) (cf : Nat → Nat) (m : Nat) : Prop := (∀ i, m.testBit i = true → fr.testBit i = true) ∧ ∀ i j, m.testBit i = true → m.testBit j = true → (cf i).testBit j = false
def b_best (w : Nat → Nat) (fr : Nat) (cf : Nat → Nat) (b : Nat) : Prop := b_ok fr cf b ∧ ∀ m, b_ok fr cf m → ¬ b_bt w m b
theorem b_best_one {w : Nat → Nat} {fr : Nat} {cf : Nat → Nat} {a b : Nat} (h1 : b_best w fr cf a) (h2 : b_best w fr cf b) : a = b := b_nbt_eq (h2.2 _ h1.1) (h1.2 _ h2.1)
theorem b_ok0 (fr : Nat) (cf : Nat → Nat) : b_ok fr cf 0 := ⟨fun i h => by rw [Nat.zero_testBit] at h; exact Bool.noConfusion h, fun i j h => by rw [Nat.zero_testBit] at h; exact nomatch h⟩
/-- the sets of the search below a node: depth k, chosen c -/
def b_S (fr : Nat) (cf : Nat → Nat) (k c m : Nat) : Prop := b_ok fr cf m ∧ ∀ i, i < k → m.testBit i = c.testBit i
def b_cf (fr : Nat) (cf : Nat → Nat) : Prop := (∀ i, fr.testBit i = true → i < 16) ∧ (∀ i j, fr.testBit i = true → fr.testBit j = true → (cf i).testBit j = (cf j).testBit i) ∧ ∀ i, fr.testBit i = true → (cf i).testBit i = false
theorem b_cf.lt {fr : Nat} {cf : Nat → Nat} (h : b_cf fr cf) : ∀ i, fr.testBit i = true → i < 16 := h.1
theorem b_cf.sy {fr : Nat} {cf : Nat → Nat} (h : b_cf fr cf) : ∀ i j, fr.testBit i = true → fr.testBit j = true → (cf i).testBit j = (cf j).testBit i := h.2.1
theorem b_cf.ir {fr : Nat} {cf : Nat → Nat} (h : b_cf fr cf) : ∀ i, fr.testBit i = true → (cf i).testBit i = false := h.2.2
def b_in (fr : Nat) (cf : Nat → Nat) (k c L : Nat) : Prop := k ≤ 16 ∧ c < 2 ^ k ∧ b_ok fr cf c ∧ ∀ i, L.testBit i = true ↔ (k ≤ i ∧ fr.testBit i = true ∧ ∀ j, c.testBit j = true → (cf j).testBit i = false)
/-- what a search leaves: b' out of b and the sets below -/
def b_res (w : Nat → Nat) (fr : Nat) (cf : Nat → Nat) (k c b b' : Nat) : Prop := (b' = b ∨ b_S fr cf k c b') ∧ ¬ b_bt w b b' ∧ ∀ m, b_S fr cf k c m → ¬ b_bt w m b'
section BB
variable {w : Nat → Nat} {fr : Nat} {cf : Nat → Nat} {k c L m b b1 b2 : Nat}
theorem b_in.lt (h : b_in fr cf k c L) (hC : b_cf fr cf) : L < 2 ^ 16 := by
  refine Nat.lt_pow_two_of_testBit L fun i hi => ?_
  cases hc : L.testBit i with
  | false => rfl
  | true => exact absurd (hC.lt i ((h.2.2.2 i).mp hc).2.1) (by omega)
theorem b_in.clt (h : b_in fr cf k c L) : c < 2 ^ 16 := Nat.lt_of_lt_of_le h.2.1 (Nat.pow_le_pow_right (by decide) h.1)
theorem b_in.top (h : b_in fr cf k c L) (hC : b_cf fr cf) (hk : 16 ≤ k) : L = 0 := by
  refine Nat.eq_of_testBit_eq fun i => ?_
  rw [Nat.zero_testBit]
  cases hc : L.testBit i with
  | false => rfl
  | true => exact absurd (hC.lt i ((h.2.2.2 i).mp hc).2.1) (by have := ((h.2.2.2 i).mp hc).1; omega)
theorem b_in.start (hC : b_cf fr cf) : b_in fr cf 0 0 fr := ⟨Nat.zero_le _, by decide, b_ok0 _ _, fun i => ⟨fun h => ⟨Nat.zero_le _, h, fun j hj => by rw [Nat.zero_testBit] at hj; exact Bool.noConfusion hj⟩, fun h => h.2.1⟩⟩
theorem b_in.cbit (h : b_in fr cf k c L) {i : Nat} (hi : c.testBit i = true) : i < k := by
  refine Nat.lt_of_not_le fun q => ?_
  rw [Nat.testBit_lt_two_pow (Nat.lt_of_lt_of_le h.2.1 (Nat.pow_le_pow_right (by decide) q))] at hi
  exact nomatch hi
theorem b_sub (h : b_in fr cf k c L) (hm : b_S fr cf k c m) {i : Nat} (hi : m.testBit i = true) : c.testBit i = true ∨ L.testBit i = true := by
  by_cases hk : i < k
  · exact Or.inl ((hm.2 i hk).symm.trans hi)
  · refine Or.inr ((h.2.2.2 i).mpr ⟨by omega, hm.1.1 i hi, fun j hj => ?_⟩)
    exact hm.1.2 j i ((hm.2 j (h.cbit hj)).trans hj) hi
theorem b_Ws (m n : Nat) : b_W w m (n + 1) = b_W w m n + (if m.testBit n = true then w n else 0) := by
  show (if m.testBit n then b_W w m n + w n else b_W w m n) = _
  cases m.testBit n <;> simp
theorem b_W_le (h : ∀ i, m.testBit i = true → c.testBit i = true ∨ L.testBit i = true) : ∀ n, b_W w m n ≤ b_W w c n + b_W w L n
  | 0 => Nat.zero_le _
  | n + 1 => by
    have ih := b_W_le h n
    rw [b_Ws, b_Ws, b_Ws]
    cases h1 : m.testBit n with
    | false => rw [if_neg (by decide)]; omega
    | true =>
      rw [if_pos rfl]
      rcases h n h1 with h2 | h2
      · rw [h2, if_pos rfl]; omega
      · rw [h2, if_pos rfl]; omega
theorem b_W_or (h : c < 2 ^ k) : ∀ n, b_W w (c ||| 2 ^ k) n = b_W w c n + (if k < n then w k else 0)
  | 0 => rfl
  | n + 1 => by
    have ih := b_W_or h n
    rw [b_Ws, b_Ws, ih]
    by_cases hk : n = k
    · subst hk
      rw [f_or_bit, if_pos rfl, show c.testBit n = false from Nat.testBit_lt_two_pow h, if_neg (Nat.lt_irrefl _), if_neg (by decide), if_pos (Nat.lt_succ_self _)]
    · rw [f_or_other hk]
      by_cases hl : k < n
      · have hl2 : k < n + 1 := by omega
        simp only [hl, hl2, if_true]; omega
      · have hl2 : ¬ k < n + 1 := by omega
        simp only [hl, hl2, if_false]; omega
theorem b_W_0 : ∀ n, b_W w 0 n = 0
  | 0 => rfl
  | n + 1 => by unfold b_W; rw [Nat.zero_testBit]; exact b_W_0 n
theorem b_W_mono (m : Nat) : ∀ {n k : Nat}, k ≤ n → b_W w m k ≤ b_W w m n := by
  intro n
  induction n with
  | zero => intro k hk; rw [Nat.le_zero.mp hk]; exact Nat.le_refl _
  | succ n ih =>
    intro k hk
    rcases Nat.lt_or_ge n k with h | h
    · rw [show k = n + 1 by omega]; exact Nat.le_refl _
    · refine Nat.le_trans (ih h) ?_
      show _ ≤ (if m.testBit n then b_W w m n + w n else b_W w m n)
      split <;> omega
theorem b_W_lim (hw : ∀ i, m.testBit i = true → w i ≤ 5400) : ∀ n, b_W w m n ≤ 5400 * n
  | 0 => Nat.le_refl _
  | n + 1 => by
    have ih := b_W_lim hw n
    unfold b_W
    split
    · rename_i h; have := hw n h; omega
    · omega
/-- a leaf -/
theorem b_leaf (h : b_in fr cf k c L) (hL : L = 0) (ho : (b_bt w c b ∧ b1 = c) ∨ (¬ b_bt w c b ∧ b1 = b)) : b_res w fr cf k c b b1 := by
  have hone : ∀ m, b_S fr cf k c m → m = c := fun m hm => by
    refine Nat.eq_of_testBit_eq fun i => ?_
    cases hi : m.testBit i with
    | true =>
      rcases b_sub h hm hi with z | z
      · exact z.symm
      · rw [hL, Nat.zero_testBit] at z; exact nomatch z
    | false =>
      cases hc : c.testBit i with
      | false => rfl
      | true => exact absurd ((hm.2 i (h.cbit hc)).trans hc) (by rw [hi]; decide)
  have hS : b_S fr cf k c c := ⟨h.2.2.1, fun _ _ => rfl⟩
  rcases ho with ⟨z, rfl⟩ | ⟨z, rfl⟩
  · exact ⟨Or.inr hS, b_bt_asym z, fun m hm => by rw [hone m hm]; exact b_bt_irr⟩
  · exact ⟨Or.inl rfl, b_bt_irr, fun m hm => by rw [hone m hm]; exact z⟩
/-- nothing below is better -/
theorem b_prune (h : b_in fr cf k c L) (hb : b_W w c 16 + b_W w L 16 < b_W w b 16) : b_res w fr cf k c b b := by
  refine ⟨Or.inl rfl, b_bt_irr, fun m hm => ?_⟩
  have := b_W_le (w := w) (fun i hi => b_sub h hm hi) 16
  unfold b_bt
  omega
def b_del (L x : Nat) : Nat := L &&& (x ^^^ (2 ^ 32 - 1))
theorem b_del_bit (hL : L < 2 ^ 16) (x i : Nat) : (b_del L x).testBit i = (L.testBit i && !x.testBit i) := by
  unfold b_del
  rw [Nat.testBit_and, Nat.testBit_xor, Nat.testBit_two_pow_sub_one]
  by_cases hi : i < 32
  · simp [hi]
  · have : L.testBit i = false := Nat.testBit_lt_two_pow (Nat.lt_of_lt_of_le hL (Nat.pow_le_pow_right (by decide) (by omega)))
    simp [this]
theorem b_del_I (L x : Nat) : nI L &&& (nI x ^^^ (-1)) = nI (b_del L x) := by
  have h1 : nI x ^^^ (-1) = nI (x ^^^ (2 ^ 32 - 1)) := by
    apply Int32.toBitVec_inj.1
    show BitVec.ofNat 32 x ^^^ BitVec.ofInt 32 (-1) = BitVec.ofNat 32 (x ^^^ (2 ^ 32 - 1))
    apply BitVec.eq_of_getLsbD_eq
    intro i hi
    rw [show BitVec.ofInt 32 (-1) = BitVec.ofNat 32 (2 ^ 32 - 1) from by decide]
    simp [hi]
  rw [h1, fa_and]; rfl
theorem b_pbit (k i : Nat) : (2 ^ k).testBit i = decide (k = i) := by rw [Nat.testBit_two_pow]
theorem b_in.skip (h : b_in fr cf k c L) (hC : b_cf fr cf) (hk : k < 16) : b_in fr cf (k + 1) c (b_del L (2 ^ k)) := by
  refine ⟨hk, Nat.lt_trans h.2.1 (Nat.pow_lt_pow_right (by decide) (Nat.lt_succ_self _)), h.2.2.1, fun i => ?_⟩
  rw [b_del_bit (h.lt hC), b_pbit, Bool.and_eq_true, h.2.2.2 i]
  constructor
  · intro q
    have : ¬ k = i := by simpa using q.2
    exact ⟨by omega, q.1.2⟩
  · intro q
    refine ⟨⟨by omega, q.2⟩, ?_⟩
    have : ¬ k = i := by omega
    simpa using this
theorem b_in.keep (h : b_in fr cf k c L) (hC : b_cf fr cf) (hL : L.testBit k = true) : b_in fr cf (k + 1) (c ||| 2 ^ k) (b_del (b_del L (2 ^ k)) (cf k)) := by
  have hk9 := (h.2.2.2 k).mp hL
  have hk : k < 16 := hC.lt _ hk9.2.1
  have hbit : ∀ i, (c ||| 2 ^ k).testBit i = true ↔ c.testBit i = true ∨ k = i := fun i => by
    rw [Nat.testBit_or, b_pbit, Bool.or_eq_true]; simp
  have hd : b_del L (2 ^ k) < 2 ^ 16 := (h.skip hC hk).lt hC
  refine ⟨hk, ?_, ⟨fun i hi => ?_, fun i j hi hj => ?_⟩, fun i => ?_⟩
  · exact Nat.or_lt_two_pow (Nat.lt_trans h.2.1 (Nat.pow_lt_pow_right (by decide) (Nat.lt_succ_self _))) (Nat.pow_lt_pow_right (by decide) (Nat.lt_succ_self _))
  · rcases (hbit i).mp hi with z | z
    · exact h.2.2.1.1 i z
    · rw [← z]; exact hk9.2.1
  · rcases (hbit i).mp hi with z | z <;> rcases (hbit j).mp hj with y | y
    · exact h.2.2.1.2 i j z y
    · rw [← y]; exact hk9.2.2 i z
    · rw [← z, hC.sy k j hk9.2.1 (h.2.2.1.1 j y)]; exact hk9.2.2 j y
    · rw [← z, ← y]; exact hC.ir k hk9.2.1
  · rw [b_del_bit hd, Bool.and_eq_true, (h.skip hC hk).2.2.2 i]
    constructor
    · intro q
      refine ⟨q.1.1, q.1.2.1, fun j hj => ?_⟩
      rcases (hbit j).mp hj with z | z
      · exact q.1.2.2 j z
      · rw [← z]; simpa using q.2
    · intro q
      refine ⟨⟨q.1, q.2.1, fun j hj => q.2.2 j ((hbit j).mpr (Or.inl hj))⟩, ?_⟩
      have := q.2.2 k ((hbit k).mpr (Or.inr rfl))
      simp [this]
theorem b_S.skip (hm : b_S fr cf k c m) (h0 : m.testBit k = c.testBit k) : b_S fr cf (k + 1) c m := ⟨hm.1, fun i hi => by
  rcases Nat.lt_or_ge i k with z | z
  · exact hm.2 i z
  · rw [show i = k by omega]; exact h0⟩
theorem b_S.keep (hm : b_S fr cf k c m) (h0 : m.testBit k = true) : b_S fr cf (k + 1) (c ||| 2 ^ k) m := ⟨hm.1, fun i hi => by
  rcases Nat.lt_or_ge i k with z | z
  · rw [f_or_other (by omega)]; exact hm.2 i z
  · rw [show i = k by omega, f_or_bit]; exact h0⟩
theorem b_in.c0 (h : b_in fr cf k c L) : c.testBit k = false := Nat.testBit_lt_two_pow h.2.1
/-- both branches -/
theorem b_both (h : b_in fr cf k c L) (h1 : b_res w fr cf (k + 1) (c ||| 2 ^ k) b b1) (h2 : b_res w fr cf (k + 1) c b1 b2) : b_res w fr cf k c b b2 := by
  refine ⟨?_, b_nbt_tr h1.2.1 h2.2.1, fun m hm => ?_⟩
  · rcases h2.1 with z | z
    · rw [z]
      rcases h1.1 with y | y
      · exact Or.inl y
      · exact Or.inr ⟨y.1, fun i hi => (y.2 i (by omega)).trans (f_or_other (by omega))⟩
    · exact Or.inr ⟨z.1, fun i hi => z.2 i (by omega)⟩
  · cases hk : m.testBit k with
    | true => exact b_nbt_tr (h1.2.2 m (hm.keep hk)) h2.2.1
    | false => exact h2.2.2 m (hm.skip (hk.trans h.c0.symm))
/-- the one branch -/
theorem b_one (h : b_in fr cf k c L) (hL : L.testBit k = false) (h2 : b_res w fr cf (k + 1) c b b2) : b_res w fr cf k c b b2 := by
  refine ⟨h2.1.imp id (fun z => ⟨z.1, fun i hi => z.2 i (by omega)⟩), h2.2.1, fun m hm => ?_⟩
  cases hk : m.testBit k with
  | true =>
    rcases b_sub h hm hk with z | z
    · rw [h.c0] at z; exact nomatch z
    · rw [hL] at z; exact nomatch z
  | false => exact h2.2.2 m (hm.skip (hk.trans h.c0.symm))
theorem b_end (h2 : b_res w fr cf 0 0 0 b) : b_best w fr cf b :=
  ⟨h2.1.elim (fun z => by rw [z]; exact b_ok0 _ _) (fun z => z.1), fun m hm => h2.2.2 m ⟨hm, fun i hi => absurd hi (Nat.not_lt_zero _)⟩⟩
end BB
