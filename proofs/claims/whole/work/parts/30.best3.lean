/-! The best set as the reference looks for it: all subsets of the free ones, downwards. -/
theorem b_le_of {m fr : Nat} (h : ∀ i, m.testBit i = true → fr.testBit i = true) : m &&& fr = m := by
  refine Nat.eq_of_testBit_eq fun i => ?_
  rw [Nat.testBit_and]
  cases h1 : m.testBit i with
  | false => rfl
  | true => rw [h i h1]; rfl
theorem b_and_sub {m fr : Nat} (h : m &&& fr = m) : ∀ i, m.testBit i = true → fr.testBit i = true := fun i hi => by
  rw [← h, Nat.testBit_and, Bool.and_eq_true] at hi
  exact hi.2
theorem b_down : ∀ (n : Nat) {A S m : Nat}, S < 2 ^ n → S &&& A = S → m &&& A = m → m < S → m ≤ (S - 1) &&& A
  | 0, A, S, m, h, _, _, hm => by omega
  | n + 1, A, S, m, h, hS, hm, hlt => by
    have s2 : S / 2 &&& A / 2 = S / 2 := by rw [← Nat.and_div_two, hS]
    have m2 : m / 2 &&& A / 2 = m / 2 := by rw [← Nat.and_div_two, hm]
    have m3 : m % 2 = 1 → A % 2 = 1 := fun z => (Nat.and_mod_two_eq_one.mp (by rw [hm]; exact z)).2
    have x1 : ((S - 1) &&& A) / 2 = (S - 1) / 2 &&& A / 2 := Nat.and_div_two
    have x3 : (S - 1) % 2 = 1 → A % 2 = 1 → ((S - 1) &&& A) % 2 = 1 := fun z y => Nat.and_mod_two_eq_one.mpr ⟨z, y⟩
    rcases Nat.mod_two_eq_zero_or_one S with c | c
    · have hp : (S - 1) / 2 = S / 2 - 1 := by omega
      have hm1 : (S - 1) % 2 = 1 := by omega
      have hl : m / 2 < S / 2 := by omega
      have ih := b_down n (A := A / 2) (S := S / 2) (m := m / 2) (by rw [Nat.pow_succ] at h; omega) s2 m2 hl
      rw [hp] at x1
      rcases Nat.mod_two_eq_zero_or_one m with d | d
      · omega
      · have := x3 hm1 (m3 d)
        omega
    · have hp : (S - 1) / 2 = S / 2 := by omega
      rw [hp, s2] at x1
      omega
theorem b_next {A S m : Nat} (hS : ∀ i, S.testBit i = true → A.testBit i = true) (hm : ∀ i, m.testBit i = true → A.testBit i = true) (h : (S - 1) &&& A < m) : S ≤ m := by
  refine Nat.le_of_not_lt fun z => ?_
  have := b_down S (A := A) (S := S) (m := m) Nat.lt_two_pow_self (b_le_of hS) (b_le_of hm) z
  omega
theorem b_W_ext {w : Nat → Nat} {m n : Nat} (h : ∀ i, n ≤ i → m.testBit i = false) : ∀ {k : Nat}, n ≤ k → b_W w m k = b_W w m n := by
  intro k
  induction k with
  | zero => intro hk; rw [Nat.le_zero.mp hk]
  | succ k ih =>
    intro hk
    rcases Nat.lt_or_ge k n with z | z
    · rw [show n = k + 1 by omega]
    · rw [b_Ws, h k z, if_neg (by decide), Nat.add_zero]; exact ih z
theorem b_W_pos {w : Nat → Nat} {m i : Nat} (hi : m.testBit i = true) (hw : 1 ≤ w i) : ∀ {n : Nat}, i < n → 1 ≤ b_W w m n := by
  intro n hn
  refine Nat.le_trans ?_ (b_W_mono m (show i + 1 ≤ n from hn))
  rw [b_Ws, if_pos hi]; omega
def b_bad (σ : z_S) (S i : Nat) : Bool := S.testBit i && !decide (f_cfl σ i &&& S = 0)
section BM
variable {σ : z_S} {S b : Nat}
theorem b_okM (hI : z_Ok σ) (hS : ∀ i, S.testBit i = true → (b_fr σ).testBit i = true) (hf : f_any (b_bad σ S) (z_n σ 2) = false) : b_ok (b_fr σ) (f_cfl σ) S := by
  refine ⟨hS, fun i j hi hj => ?_⟩
  have h1 := f_any_at hf (b_fr_lt hI i (hS i hi))
  unfold b_bad at h1
  rw [hi, Bool.true_and, Bool.not_eq_false', decide_eq_true_iff] at h1
  cases hc : (f_cfl σ i).testBit j with
  | false => rfl
  | true =>
    have h2 : (f_cfl σ i &&& S).testBit j = true := by rw [Nat.testBit_and, hc, hj]; rfl
    rw [h1, Nat.zero_testBit] at h2
    exact nomatch h2
theorem b_noM {k : Nat} (hf : (!f_any (b_bad σ S) k) = false) : ¬ b_ok (b_fr σ) (f_cfl σ) S := by
  intro h
  rw [Bool.not_eq_false'] at hf
  obtain ⟨i, _, hb⟩ := (f_any_iff _ _).mp hf
  unfold b_bad at hb
  rw [Bool.and_eq_true, Bool.not_eq_true', decide_eq_false_iff_not] at hb
  refine hb.2 (Nat.eq_of_testBit_eq fun j => ?_)
  rw [Nat.testBit_and, Nat.zero_testBit]
  cases hj : S.testBit j with
  | false => rw [Bool.and_false]
  | true => rw [h.2 i j hb.1 hj]; rfl
theorem b_W16 (hI : z_Ok σ) (hS : ∀ i, S.testBit i = true → (b_fr σ).testBit i = true) : b_W (b_w σ) S 16 = b_W (b_w σ) S (z_n σ 2) := by
  refine b_W_ext (fun i hi => ?_) hI.n2
  cases hc : S.testBit i with
  | false => rfl
  | true => exact absurd (b_fr_lt hI i (hS i hc)) (by omega)
theorem b_wle (hI : z_Ok σ) : ∀ i, (b_fr σ).testBit i = true → b_w σ i ≤ 5400 := fun i hi => (f_worthN hI (b_fr_lt hI i hi)).2.2
theorem b_limM (hI : z_Ok σ) (hS : ∀ i, S.testBit i = true → (b_fr σ).testBit i = true) : b_W (b_w σ) S 16 ≤ 86400 := b_okW (b_wle hI) hS
theorem b_posM (hI : z_Ok σ) (hS : ∀ i, S.testBit i = true → (b_fr σ).testBit i = true) (h0 : ¬ S = 0) : 1 ≤ b_W (b_w σ) S 16 := by
  obtain ⟨i, hi⟩ : ∃ i, S.testBit i = true := Nat.exists_testBit_of_ne_zero h0
  have h1 := b_fr_lt hI i (hS i hi)
  exact b_W_pos hi (f_worthN hI h1).2.1 (Nat.lt_of_lt_of_le h1 hI.n2)
/-- the end -/
theorem b_endM (hI : z_Ok σ) (hb : b_ok (b_fr σ) (f_cfl σ) b) (hall : ∀ m, b_ok (b_fr σ) (f_cfl σ) m → 0 < m → ¬ b_bt (b_w σ) m b) : b_best (b_w σ) (b_fr σ) (f_cfl σ) b := by
  refine ⟨hb, fun m hm => ?_⟩
  rcases Nat.eq_zero_or_pos m with z | z
  · subst z
    by_cases c : b = 0
    · rw [c]; exact b_bt_irr
    · have h1 := b_posM hI hb.1 c
      unfold b_bt
      rw [b_W_0]; omega
  · exact hall m hm z
/-- one step down -/
theorem b_stepM (hS : ∀ i, S.testBit i = true → (b_fr σ).testBit i = true) (hall : ∀ m, b_ok (b_fr σ) (f_cfl σ) m → S < m → ¬ b_bt (b_w σ) m b) (hs : b_ok (b_fr σ) (f_cfl σ) S → ¬ b_bt (b_w σ) S b) : ∀ m, b_ok (b_fr σ) (f_cfl σ) m → (S - 1) &&& b_fr σ < m → ¬ b_bt (b_w σ) m b := by
  intro m hm hlt
  rcases Nat.lt_or_ge S m with z | z
  · exact hall m hm z
  · have h2 := b_next hS hm.1 hlt
    have h3 : m = S := by omega
    subst h3
    exact hs hm
theorem b_takeM (hS : ∀ i, S.testBit i = true → (b_fr σ).testBit i = true) (hbt : b_bt (b_w σ) S b) (hall : ∀ m, b_ok (b_fr σ) (f_cfl σ) m → S < m → ¬ b_bt (b_w σ) m b) : ∀ m, b_ok (b_fr σ) (f_cfl σ) m → (S - 1) &&& b_fr σ < m → ¬ b_bt (b_w σ) m S :=
  b_stepM hS (fun m hm hlt => b_nbt_tr (hall m hm hlt) (b_bt_asym hbt)) (fun _ => b_bt_irr)
theorem b_subM : ∀ i, ((S - 1) &&& b_fr σ).testBit i = true → (b_fr σ).testBit i = true := fun i hi => by
  rw [Nat.testBit_and, Bool.and_eq_true] at hi; exact hi.2
theorem b_ltM (h : ¬ S = 0) : (S - 1) &&& b_fr σ < S := Nat.lt_of_le_of_lt Nat.and_le_left (by omega)
/-- not better: less weight -/
theorem b_lessM {u v : Nat} (h1 : u = b_W (b_w σ) S 16) (h2 : v = b_W (b_w σ) b 16) (h : u < v) : ¬ b_bt (b_w σ) S b := by
  unfold b_bt; omega
theorem b_moreM {u v : Nat} (h1 : u = b_W (b_w σ) S 16) (h2 : v = b_W (b_w σ) b 16) (h : v ≤ u) (hn : ¬ u = v) : b_bt (b_w σ) S b := by
  unfold b_bt; omega
theorem b_evenM {u v : Nat} (h1 : u = b_W (b_w σ) S 16) (h2 : v = b_W (b_w σ) b 16) (h : u = v) (hc : ¬ f_bc (nI S) ≤ f_bc (nI b)) : ¬ b_bt (b_w σ) S b := by
  rw [fa_le] at hc
  unfold b_bt; omega
theorem b_fewM (hI : z_Ok σ) (hS : ∀ i, S.testBit i = true → (b_fr σ).testBit i = true) (h0 : ¬ S = 0) (hbs : b = 0 ∨ S < b) {u v : Nat} (h1 : u = b_W (b_w σ) S 16) (h2 : v = b_W (b_w σ) b 16) (h : u = v) (hc : f_bc (nI S) ≤ f_bc (nI b)) : b_bt (b_w σ) S b := by
  have hp := b_posM hI hS h0
  have hb : S < b := hbs.resolve_left (fun z => by subst z; rw [b_W_0] at h2; omega)
  rw [fa_le] at hc
  unfold b_bt; omega
theorem b_rowsM {fc fw : Nat → Int32} {k : Nat} (h : ∀ i, i < k → fc i = nI (f_cfl σ i) ∧ fw i = f_worth σ i) : ∀ i, i < k + 1 → upd fc k (nI (f_cfl σ k)) i = nI (f_cfl σ i) ∧ upd fw k (f_worth σ k) i = f_worth σ i := by
  intro i hi
  unfold upd
  by_cases c : i = k
  · subst c; rw [if_pos rfl, if_pos rfl]; exact ⟨rfl, rfl⟩
  · rw [if_neg c, if_neg c]; exact h i (by omega)
end BM
theorem b_bestI {σ : z_S} (hI : z_Ok σ) {x y : Nat} (h1 : b_best (b_w σ) (b_fr σ) (f_cfl σ) x) (h2 : b_best (b_w σ) (b_fr σ) (f_cfl σ) y) : x = y := b_best_one h1 h2
theorem lg_cmp0 {x y : Int64} : lg_cmp x y = 0 ↔ x = y := by
  constructor
  · intro h
    have h1 := (lg_cmp_ge x y).mp (by rw [h]; decide)
    have h2 := (lg_cmp_le x y).mp (by rw [h]; decide)
    exact Int64.le_antisymm h2 h1
  · intro h
    subst h
    unfold lg_cmp
    rw [if_neg (Int64.lt_irrefl), if_pos rfl]
theorem f_min_step (σ : z_S) : s1 (f_bringTo (f_gath σ) (z_n (f_gath σ) 2)).1 0 0 (z_now (f_bringTo (f_gath σ) (z_n (f_gath σ) 2)).1 + 1) = (f_min σ).1 := by
  show s1 (f_down (f_gath σ)).1 0 0 (z_now (f_down (f_gath σ)).1 + 1) = s1 (f_down (f_gath σ)).1 0 0 (z_now σ + 1)
  rw [f_down_now, f_gath_now]
theorem f_dig0m (σ : z_S) : ((7037 + (z_now σ).toInt64) * 31 + (z_ho σ).toInt64) * 31 + (nI (z_n σ 0)).toInt64 = f_dig0 σ := by
  unfold f_dig0
  rw [show (227 * 31 : Int64) = 7037 from by decide]
