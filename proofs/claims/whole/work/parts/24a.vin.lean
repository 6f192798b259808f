theorem v_in_nI {w n : Nat} {z : Int32} (h : w ≤ n) (hz : z.toInt = n) : v_in (nI w) 0 z = true := by
  have h1 := fb_rng z
  have hw : (nI w).toInt = w := nI_toInt (by omega)
  unfold v_in
  rw [Bool.and_eq_true, decide_eq_true_iff, decide_eq_true_iff, fa_le, fa_le, hw, hz]
  exact ⟨Int.natCast_nonneg w, by omega⟩
theorem wk_pred {n : Nat} (h : n < 2 ^ 30) : nI (n + 1) - 1 = nI n := by
  rw [show (1 : Int32) = nI 1 from rfl, pk_sub (by omega), Nat.add_sub_cancel]
