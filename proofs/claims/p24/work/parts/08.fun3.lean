/-! Where class and reference compute one thing in two ways. -/
theorem v_ix_in {x : Int32} {n : Nat} (hn : n < 2 ^ 30) : v_in x 0 (nI n - 1) = v_ix x n := by
  unfold v_in v_ix
  congr 1
  apply decide_eq_decide.mpr
  have h1 := nI_toInt (n := n) (by omega)
  have e : (nI n - 1).toInt = (n : Int) - 1 := by rw [fb_subI (by rw [wk_t1]; omega) (by rw [wk_t1]; omega), h1, wk_t1]
  rw [fa_le, fa_lt, e, h1]
  omega
theorem v_set_31 {w n : Nat} (hn : n ≤ 16) (h : w < 2 ^ n) : w < 2 ^ 31 := by
  have : 2 ^ n ≤ 2 ^ 16 := Nat.pow_le_pow_right (by decide) hn
  omega
theorem v_set_in {x : Int32} {n : Nat} (hn : n ≤ 16) : v_in x 0 ((1 : Int32) <<< (nI n &&& 31) - 1) = v_set x n := by
  have h16 : 2 ^ n ≤ 2 ^ 16 := Nat.pow_le_pow_right (by decide) hn
  have h0 : 0 < 2 ^ n := Nat.two_pow_pos n
  rw [wk_shl1 n (by omega), v_ix_in (by omega)]
  cases h : v_ix x (2 ^ n) with
  | true =>
    obtain ⟨k, hk, rfl⟩ := v_ix_of h
    exact (v_set_nI hn hk).symm
  | false =>
    cases h2 : v_set x n with
    | false => rfl
    | true =>
      obtain ⟨w, hw, rfl⟩ := v_set_of h2
      rw [v_ix_nI hw (by omega)] at h
      cases h
theorem wk_nI_m1 {b : Nat} (h : b < 2 ^ 31) : ¬ nI b = -1 := by
  intro q
  have h1 := nI_toInt h
  rw [q] at h1
  have : (-1 : Int32).toInt = -1 := rfl
  omega
theorem f_next_none {σ : z_S} {a k : Nat} (h : f_isNext σ a k = true) (e : f_nextTo σ a k = none) : f_nextTo σ a (k + 1) = some k := by simp [f_nextTo, h, e]
theorem f_next_some {σ : z_S} {a k b : Nat} (h : f_isNext σ a k = true) (e : f_nextTo σ a k = some b) (h2 : ¬ z_pb σ b ≤ z_pb σ k) : f_nextTo σ a (k + 1) = some k := by
  have h3 := Int32.not_le.mp h2
  simp [f_nextTo, h, e, h3]
theorem f_next_same {σ : z_S} {a k b : Nat} (h : f_isNext σ a k = true) (e : f_nextTo σ a k = some b) (h2 : z_pb σ b ≤ z_pb σ k) : f_nextTo σ a (k + 1) = some b := by
  have h3 : ¬ z_pb σ k < z_pb σ b := Int32.not_lt.mpr h2
  simp [f_nextTo, h, e, h3]
theorem f_full_no {σ : z_S} (hI : z_Ok σ) (hS : z_Sm σ) {k : Nat} (hk : k < z_n σ 1) (h : z_su σ k = z_sm σ k ∨ z_sg σ k = 0) : f_full σ k = -1 := by
  unfold f_full
  rcases h with h | h
  · rw [if_pos (by rw [h, fa_le, Int32.sub_self]; decide)]
  · split
    · rfl
    · rw [if_pos (by rw [h]; exact Int32.le_refl 0)]
theorem wk_nat {x : Int32} (h : 0 ≤ x.toInt) : ∃ n : Nat, n < 2 ^ 31 ∧ x = nI n ∧ x.toInt = n := by
  have h1 := fb_rng x
  obtain ⟨n, hn, e⟩ := nI_of (x := x) (by rw [fa_lt]; exact Int.not_lt.mpr h)
  exact ⟨n, hn, e, by rw [e]; exact nI_toInt hn⟩
theorem f_full_eq {σ : z_S} (hI : z_Ok σ) (hS : z_Sm σ) {k : Nat} (hk : k < z_n σ 1) (h1 : ¬ z_su σ k = z_sm σ k) (h2 : ¬ z_sg σ k = 0) : f_full σ k = z_now σ + (z_sm σ k - z_su σ k + z_sg σ k - 1) / z_sg σ k - 1 := by
  have hs := hI.s hk
  have hm := hS k hk
  have ht := hI.t
  obtain ⟨g, hg, eg, ig⟩ := wk_nat hs.2.2.2.1
  obtain ⟨u, hu, eu, iu⟩ := wk_nat hm.1
  obtain ⟨w, hw, ew, iw⟩ := wk_nat (x := z_sm σ k) (by omega)
  obtain ⟨t, htl, et, it⟩ := wk_nat ht.1
  have hg0 : g ≠ 0 := fun q => h2 (by rw [eg, q]; rfl)
  have huw : u < w := by
    have : ¬ u = w := fun q => h1 (by rw [eu, ew, q])
    omega
  unfold f_full
  rw [eg, eu, ew, et]
  have e1 : nI w - nI u = nI (w - u) := pk_sub (by omega)
  rw [e1]
  have e2 : nI (w - u) - 1 = nI (w - u - 1) := by
    have := pk_sub (a := w - u) (b := 1) (by omega)
    exact this
  have e3 : nI (w - u) + nI g = nI (w - u + g) := nI_add _ _
  have e4 : nI (w - u + g) - 1 = nI (w - u + g - 1) := pk_sub (a := w - u + g) (b := 1) (by omega)
  rw [e2, e3, e4, pk_div (by omega) (by omega) (by omega), pk_div (by omega) (by omega) (by omega), nI_add, nI_add]
  have hq : (w - u + g - 1) / g = (w - u - 1) / g + 1 := by
    rw [show w - u + g - 1 = (w - u - 1) + g by omega, Nat.add_div_right _ (by omega)]
  rw [hq]
  rw [if_neg (by rw [show (0 : Int32) = nI 0 from rfl]; exact nI_nle (by omega) (by omega)), if_neg (by rw [show (0 : Int32) = nI 0 from rfl]; exact nI_nle (by omega) (by omega))]
  have e5 : nI (t + ((w - u - 1) / g + 1)) - 1 = nI (t + (w - u - 1) / g) := by
    rw [show t + ((w - u - 1) / g + 1) = (t + (w - u - 1) / g) + 1 by omega]
    exact nI_pred _
  exact e5.symm
