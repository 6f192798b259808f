theorem v_in_nI {w n : Nat} {z : Int32} (h : w ≤ n) (hz : z.toInt = n) : v_in (nI w) 0 z = true := by
  have h1 := fb_rng z
  have hw : (nI w).toInt = w := nI_toInt (by omega)
  unfold v_in
  rw [Bool.and_eq_true, decide_eq_true_iff, decide_eq_true_iff, fa_le, fa_le, hw, hz]
  exact ⟨Int.natCast_nonneg w, by omega⟩
theorem wk_pred {n : Nat} (h : n < 2 ^ 30) : nI (n + 1) - 1 = nI n := by
  rw [show (1 : Int32) = nI 1 from rfl, pk_sub (by omega), Nat.add_sub_cancel]
theorem f_giveI {σ : z_S} (hI : z_Ok σ) {i : Nat} (hi : i < z_n σ 2) (h : z_tk σ i = true) : nI (z_mk σ) &&& ((1 <<< (nI i &&& 31)) ^^^ (-1)) = nI (z_mk σ ^^^ 2 ^ i) := by
  have hn := hI.n2
  have hm : z_mk σ < 2 ^ 16 := Nat.lt_of_lt_of_le hI.mk (Nat.pow_le_pow_right (by decide) hn)
  rw [b_del1 _ _ (by omega)]
  congr 1
  refine Nat.eq_of_testBit_eq fun j => ?_
  rw [b_del_bit hm, Nat.testBit_xor, b_pbit]
  by_cases hj : i = j
  · subst hj
    have h2 : (z_mk σ).testBit i = true := h
    simp [h2]
  · simp [hj]
section VSP
variable {σ : z_S} {x y : Int32}
theorem v_spanU (h : v_span σ x y = true) : z_now σ ≤ x ∧ x < y ∧ y ≤ 9999 := by
  unfold v_span at h
  rw [Bool.and_eq_true, Bool.and_eq_true, decide_eq_true_iff, decide_eq_true_iff, decide_eq_true_iff] at h
  exact h
theorem v_span1 (h : v_span σ x y = true) : ¬ x < z_now σ := Int32.not_lt.mpr (v_spanU h).1
theorem v_span2 (h : v_span σ x y = true) : ¬ y ≤ x := Int32.not_le.mpr (v_spanU h).2.1
theorem v_span3 (h : v_span σ x y = true) : ¬ 9999 < y := Int32.not_lt.mpr (v_spanU h).2.2
theorem v_spanT (h1 : ¬ x < z_now σ) (h2 : ¬ y ≤ x) (h3 : ¬ 9999 < y) : ¬ v_span σ x y = false := by
  unfold v_span
  rw [decide_eq_true (Int32.not_lt.mp h1), decide_eq_true (Int32.not_le.mp h2), decide_eq_true (Int32.not_lt.mp h3)]
  decide
end VSP
