theorem v_in_nI {w n : Nat} {z : Int32} (h : w ≤ n) (hz : z.toInt = n) : v_in (nI w) 0 z = true := by
  have h1 := fb_rng z
  have hw : (nI w).toInt = w := nI_toInt (by omega)
  unfold v_in
  rw [Bool.and_eq_true, decide_eq_true_iff, decide_eq_true_iff, fa_le, fa_le, hw, hz]
  exact ⟨Int.natCast_nonneg w, by omega⟩
theorem wk_pred {n : Nat} (h : n < 2 ^ 30) : nI (n + 1) - 1 = nI n := by
  rw [show (1 : Int32) = nI 1 from rfl, pk_sub (by omega), Nat.add_sub_cancel]
theorem f_giveI {σ : z_S} (hI : z_Ok σ) {i : Nat} (hi : i < z_n σ 2) (h : z_tk σ i = true) : nI (z_mk σ) &&& ((1 <<< (nI i &&& 31)) ^^^ (-1)) = nI (z_mk σ ^^^ 2 ^ i) := by
  have hn := hI.n2
  have hm : z_mk σ < 2 ^ 16 := Nat.lt_of_lt_of_le hI.mk (Nat.pow_le_pow_right (by decide) hn)
  rw [b_del1 _ _ (by omega)]
  congr 1
  refine Nat.eq_of_testBit_eq fun j => ?_
  rw [b_del_bit hm, Nat.testBit_xor, b_pbit]
  by_cases hj : i = j
  · subst hj
    have h2 : (z_mk σ).testBit i = true := h
    simp [h2]
  · simp [hj]
section VSP
variable {σ : z_S} {x y : Int32}
theorem v_spanU (h : v_span σ x y = true) : z_now σ ≤ x ∧ x < y ∧ y ≤ 9999 := by
  unfold v_span at h
  rw [Bool.and_eq_true, Bool.and_eq_true, decide_eq_true_iff, decide_eq_true_iff, decide_eq_true_iff] at h
  exact h
theorem v_span1 (h : v_span σ x y = true) : ¬ x < z_now σ := Int32.not_lt.mpr (v_spanU h).1
theorem v_span2 (h : v_span σ x y = true) : ¬ y ≤ x := Int32.not_le.mpr (v_spanU h).2.1
theorem v_span3 (h : v_span σ x y = true) : ¬ 9999 < y := Int32.not_lt.mpr (v_spanU h).2.2
theorem v_spanT (h1 : ¬ x < z_now σ) (h2 : ¬ y ≤ x) (h3 : ¬ 9999 < y) : ¬ v_span σ x y = false := by
  unfold v_span
  rw [decide_eq_true (Int32.not_lt.mp h1), decide_eq_true (Int32.not_le.mp h2), decide_eq_true (Int32.not_lt.mp h3)]
  decide
end VSP
/-- an outage's row is written, its number not yet -/
def f_outP (σ : z_S) (a : Nat) (x y : Int32) : z_S := s1 (s1 (s2 σ 4 (z_n σ 3) a) 40 (z_n σ 3) x) 41 (z_n σ 3) y
theorem f_outP_a (σ : z_S) (a : Nat) (x y : Int32) : z_oA (f_outP σ a x y) (z_n σ 3) = a := by simp [f_outP, s1, s2, z_oA, z_n]
theorem f_cntS (p : Nat → Bool) (n : Nat) : f_cnt p (n + 1) = if p n then f_cnt p n + 1 else f_cnt p n := rfl
theorem f_outP_m (σ : z_S) (a k : Nat) (x y : Int32) : (z_tk σ k && (decide (z_oA (f_outP σ a x y) (z_n σ 3) = z_pA σ k) && f_meets (f_outP σ a x y) (z_n σ 3) (z_pb σ k) (z_pe σ k))) = (decide (z_pA σ k = a) && (z_tk σ k && (decide (x < z_pe σ k) && decide (z_pb σ k < y)))) := by
  have e3 : z_of (f_outP σ a x y) (z_n σ 3) = x := by simp [f_outP, s1, s2, z_of, z_n]
  have e4 : z_ot (f_outP σ a x y) (z_n σ 3) = y := by simp [f_outP, s1, s2, z_ot, z_n]
  rw [f_outP_a, f_meets, e3, e4, decide_eq_decide.mpr (eq_comm (a := a) (b := z_pA σ k))]
  cases decide (z_pA σ k = a) <;> cases z_tk σ k <;> rfl
