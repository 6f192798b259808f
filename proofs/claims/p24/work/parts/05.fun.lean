/-! What the desk's methods answer, said of its value. -/
def v_in (x y z : Int32) : Bool := decide (y ≤ x) && decide (x ≤ z)
def v_ix (x : Int32) (n : Nat) : Bool := decide (0 ≤ x) && decide (x < nI n)
theorem v_ix_of {x : Int32} {n : Nat} (h : v_ix x n = true) : ∃ k, k < n ∧ x = nI k := by
  simp only [v_ix, Bool.and_eq_true, decide_eq_true_eq] at h
  obtain ⟨j, hj, e⟩ := nI_of (Int32.not_lt.mpr h.1)
  subst e
  refine ⟨j, ?_, rfl⟩
  rcases Nat.lt_or_ge j n with q | q
  · exact q
  · exact absurd h.2 (Int32.not_lt.mpr (nI_le q hj))
theorem v_ix_nI {k n : Nat} (h : k < n) (hn : n < 2 ^ 31) : v_ix (nI k) n = true := by
  simp only [v_ix, Bool.and_eq_true, decide_eq_true_eq]
  exact ⟨nI_pos' (by omega), nI_lt h hn⟩
theorem v_in_of {x z : Int32} {n : Nat} (h : v_in x 0 z = true) (hz : z.toInt = n) : ∃ k, k ≤ n ∧ x = nI k := by
  simp only [v_in, Bool.and_eq_true, decide_eq_true_eq] at h
  exact nI_of2 hz (Int32.not_lt.mpr h.1) h.2
theorem v_out {x z : Int32} {n : Int} (h : v_in x 0 z = false) (hz : z.toInt = n) : x.toInt < 0 ∨ n < x.toInt := by
  simp only [v_in, Bool.and_eq_false_iff, decide_eq_false_iff_not, Int32.le_iff_toInt_le] at h
  rw [hz, show (0 : Int32).toInt = 0 from rfl] at h
  omega
def f_any (p : Nat → Bool) : Nat → Bool | 0 => false | n + 1 => f_any p n || p n
theorem f_any_iff (p : Nat → Bool) : ∀ n, f_any p n = true ↔ ∃ k, k < n ∧ p k = true
  | 0 => ⟨(fun h => nomatch h), (fun ⟨k, h, _⟩ => absurd h (Nat.not_lt_zero k))⟩
  | n + 1 => by
    show (f_any p n || p n) = true ↔ _
    rw [Bool.or_eq_true, f_any_iff p n]
    exact ⟨fun h => h.elim (fun ⟨k, h1, h2⟩ => ⟨k, by omega, h2⟩) (fun h => ⟨n, by omega, h⟩), fun ⟨k, h1, h2⟩ => by
      rcases Nat.lt_or_ge k n with q | q
      · exact Or.inl ⟨k, q, h2⟩
      · exact Or.inr (by rw [show n = k by omega]; exact h2)⟩
theorem f_any_yes {p : Nat → Bool} {n k : Nat} (h : k < n) (hp : p k = true) : f_any p n = true := (f_any_iff p n).mpr ⟨k, h, hp⟩
theorem f_any_no {p : Nat → Bool} {n : Nat} (h : ∀ k, k < n → p k = false) : f_any p n = false := by
  cases hc : f_any p n with
  | false => rfl
  | true =>
    obtain ⟨k, h1, h2⟩ := (f_any_iff p n).mp hc
    rw [h k h1] at h2
    cases h2
theorem f_any_step {p : Nat → Bool} {n : Nat} (h : f_any p n = false) (hp : p n = false) : f_any p (n + 1) = false := by show (f_any p n || p n) = false; rw [h, hp]; rfl
theorem f_any_at {p : Nat → Bool} {n k : Nat} (h : f_any p n = false) (hk : k < n) : p k = false := by
  cases hc : p k with
  | false => rfl
  | true => rw [f_any_yes hk hc] at h; cases h
theorem f_any_cong {p q : Nat → Bool} {n : Nat} (h : ∀ k, k < n → p k = q k) : f_any p n = f_any q n := by
  induction n with
  | zero => rfl
  | succ n ih => show (f_any p n || p n) = (f_any q n || q n); rw [ih (fun k hk => h k (by omega)), h n (by omega)]
/-- the set of the numbers below n that p takes -/
def f_set (p : Nat → Bool) : Nat → Nat | 0 => 0 | n + 1 => if p n then f_set p n ||| 2 ^ n else f_set p n
theorem f_set_lt (p : Nat → Bool) : ∀ n, f_set p n < 2 ^ n
  | 0 => Nat.lt_succ_self 0
  | n + 1 => by
    have ih := f_set_lt p n
    have h2 : 2 ^ (n + 1) = 2 ^ n + 2 ^ n := by rw [Nat.pow_succ]; omega
    show (if p n then f_set p n ||| 2 ^ n else f_set p n) < 2 ^ (n + 1)
    split
    · exact Nat.or_lt_two_pow (by omega) (by omega)
    · omega
theorem f_set_bit (p : Nat → Bool) : ∀ n k, (f_set p n).testBit k = (decide (k < n) && p k)
  | 0, k => by simp [f_set]
  | n + 1, k => by
    have ih := f_set_bit p n k
    show (if p n then f_set p n ||| 2 ^ n else f_set p n).testBit k = _
    by_cases hk : k = n
    · subst hk
      have h0 : (f_set p k).testBit k = false := Nat.testBit_lt_two_pow (f_set_lt p k)
      cases hp : p k <;> simp [h0, Nat.testBit_two_pow_self]
    · have h1 : (2 ^ n).testBit k = false := by rw [Nat.testBit_two_pow]; simp; omega
      have h3 : decide (k < n + 1) = decide (k < n) := by apply decide_eq_decide.mpr; omega
      split <;> simp [ih, h1, h3]
theorem f_set_cong {p q : Nat → Bool} {n : Nat} (h : ∀ k, k < n → p k = q k) : f_set p n = f_set q n := by
  induction n with
  | zero => rfl
  | succ n ih => show (if p n then f_set p n ||| 2 ^ n else f_set p n) = (if q n then f_set q n ||| 2 ^ n else f_set q n); rw [ih (fun k hk => h k (by omega)), h n (by omega)]
theorem f_set_self {m n : Nat} (h : m < 2 ^ n) : f_set (fun k => m.testBit k) n = m := by
  apply Nat.eq_of_testBit_eq
  intro k
  rw [f_set_bit]
  by_cases hk : k < n
  · simp [hk]
  · have : m.testBit k = false := Nat.testBit_lt_two_pow (Nat.lt_of_lt_of_le h (Nat.pow_le_pow_right (by omega) (by omega)))
    simp [hk, this]
def f_earl (σ : z_S) (i j : Nat) : Bool := if z_pb σ i = z_pb σ j then decide (i < j) else decide (z_pb σ i < z_pb σ j)
def f_worth (σ : z_S) (i : Nat) : Int32 := z_sp σ (z_pS σ i) * (z_pe σ i - z_pb σ i)
def f_max (x y : Int32) : Int32 := if x < y then y else x
def f_isBefore (σ : z_S) (i k : Nat) : Bool := z_tk σ k && (decide (z_pS σ k = z_pS σ i) && f_earl σ k i)
def f_startTo (σ : z_S) (i : Nat) : Nat → Int32 | 0 => z_pb σ i | k + 1 => if f_isBefore σ i k then f_max (f_startTo σ i k) (z_pe σ k) else f_startTo σ i k
def f_start (σ : z_S) (i : Nat) : Int32 := f_startTo σ i (z_n σ 2)
def f_conf2 (σ : z_S) (a b i j : Nat) : Bool := if z_pA σ i = z_pA σ j then decide (z_pb σ b < z_pe σ a + z_au σ (z_pA σ i)) else if z_pS σ i = z_pS σ j then decide (z_pe σ b ≤ z_pe σ a) || decide (z_ho σ < z_pe σ a - z_pb σ b) else false
def f_conf (σ : z_S) (i j : Nat) : Bool := if f_earl σ i j then f_conf2 σ i j i j else f_conf2 σ j i i j
def f_cfl (σ : z_S) (i : Nat) : Nat := f_set (fun k => !decide (k = i) && f_conf σ i k) (z_n σ 2)
def f_meets (σ : z_S) (k : Nat) (x y : Int32) : Bool := decide (z_of σ k < y) && decide (x < z_ot σ k)
def f_out (σ : z_S) (a : Nat) (x y : Int32) : Bool := f_any (fun k => decide (z_oA σ k = a) && f_meets σ k x y) (z_n σ 3)
def f_inc (σ : z_S) (i : Nat) : Bool := f_any (fun k => !decide (k = i) && (z_tk σ k && f_conf σ i k)) (z_n σ 2)
def f_free (σ : z_S) (i : Nat) : Bool := !z_tk σ i && (decide (z_now σ ≤ z_pb σ i) && (!f_out σ (z_pA σ i) (z_pb σ i) (z_pe σ i) && !f_inc σ i))
def f_notTog (σ : z_S) (m k : Nat) : Bool := m.testBit k && (!f_free σ k || !decide (f_cfl σ k &&& m = 0))
def f_tog (σ : z_S) (m : Nat) : Bool := !f_any (f_notTog σ m) (z_n σ 2)
def f_heard (σ : z_S) (i : Nat) : Bool := z_tk σ i && (decide (z_pb σ i ≤ z_now σ) && (decide (z_now σ < z_pe σ i) && decide (f_start σ i ≤ z_now σ)))
theorem z_Ok.mk {σ : z_S} (h : z_Ok σ) : z_mk σ < 2 ^ z_n σ 2 := h.2.2.2.2.2.2
theorem z_mklt {σ : z_S} (h : z_Ok σ) : z_mk σ < 2 ^ 31 := Nat.lt_of_lt_of_le h.mk (Nat.pow_le_pow_right (by decide) (Nat.le_trans h.n2 (by decide)))
theorem f_cfl_lt {σ : z_S} (h : z_Ok σ) (i : Nat) : f_cfl σ i < 2 ^ 31 := Nat.lt_of_lt_of_le (f_set_lt _ _) (Nat.pow_le_pow_right (by decide) (Nat.le_trans h.n2 (by decide)))
theorem f_earl_alt (σ : z_S) (i j : Nat) : f_earl σ i j = (decide (z_pb σ i < z_pb σ j) || (decide (z_pb σ i = z_pb σ j) && decide (i < j))) := by
  unfold f_earl
  by_cases h : z_pb σ i = z_pb σ j
  · rw [if_pos h]
    have h2 : ¬ z_pb σ i < z_pb σ j := by rw [h]; exact Int32.lt_irrefl
    simp [h]
  · rw [if_neg h]; simp [h]
theorem f_earl_self (σ : z_S) (i : Nat) : f_earl σ i i = false := by simp [f_earl]
theorem f_earl_not {σ : z_S} {i j : Nat} (h : ¬ i = j) : f_earl σ j i = !f_earl σ i j := by
  unfold f_earl
  by_cases e : z_pb σ i = z_pb σ j
  · rw [if_pos e, if_pos e.symm]
    by_cases q : i < j
    · simp [q, Nat.not_lt.mpr (Nat.le_of_lt q)]
    · simp [q, (by omega : j < i)]
  · rw [if_neg e, if_neg (fun q => e q.symm)]
    rw [fa_eq] at e
    by_cases q : z_pb σ i < z_pb σ j
    · have q2 : ¬ z_pb σ j < z_pb σ i := by rw [fa_lt] at q ⊢; omega
      simp [q, q2]
    · have q2 : z_pb σ j < z_pb σ i := by rw [fa_lt] at q ⊢; omega
      simp [q, q2]
theorem f_conf2_symm (σ : z_S) (a b i j : Nat) : f_conf2 σ a b i j = f_conf2 σ a b j i := by
  unfold f_conf2
  by_cases h : z_pA σ i = z_pA σ j
  · rw [if_pos h, if_pos h.symm, h]
  · rw [if_neg h, if_neg (show ¬ z_pA σ j = z_pA σ i from fun q => h q.symm)]
    by_cases h2 : z_pS σ i = z_pS σ j
    · rw [if_pos h2, if_pos h2.symm]
    · rw [if_neg h2, if_neg (show ¬ z_pS σ j = z_pS σ i from fun q => h2 q.symm)]
theorem f_conf_symm {σ : z_S} {i j : Nat} (h : ¬ i = j) : f_conf σ i j = f_conf σ j i := by
  unfold f_conf
  rw [f_earl_not h, f_conf2_symm σ j i i j, f_conf2_symm σ i j i j]
  cases f_earl σ i j <;> simp
theorem wk_s_l : ∀ n, n < 32 → ((nI n &&& 31).toBitVec.smod 32).toNat = n := by decide +kernel
theorem wk_shr {m k : Nat} (hm : m < 2 ^ 31) (hk : k < 31) : (nI m >>> (nI k &&& 31)) &&& 1 = nI (m / 2 ^ k % 2) := by
  rw [pk_shrN hm (nI k &&& 31) k (wk_s_l k (by omega))]
  show nI (m / 2 ^ k) &&& nI 1 = _
  rw [fa_and, Nat.and_one_is_mod]
theorem wk_sh1 {m k : Nat} (hm : m < 2 ^ 31) (hk : k < 31) (h : (nI m >>> (nI k &&& 31)) &&& 1 = 1) : m.testBit k = true := by
  rw [wk_shr hm hk] at h
  have h2 : m / 2 ^ k % 2 = 1 := wk_ceqt (by omega) (by decide) h
  rw [Nat.testBit_eq_decide_div_mod_eq, h2]; rfl
theorem wk_sh0 {m k : Nat} (hm : m < 2 ^ 31) (hk : k < 31) (h : ¬ (nI m >>> (nI k &&& 31)) &&& 1 = 1) : m.testBit k = false := by
  rw [wk_shr hm hk] at h
  have h2 : ¬ m / 2 ^ k % 2 = 1 := fun q => h (by rw [q]; rfl)
  rw [Nat.testBit_eq_decide_div_mod_eq]
  exact decide_eq_false h2
