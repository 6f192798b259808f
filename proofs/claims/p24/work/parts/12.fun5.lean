/-! Taking and giving up; minutes. -/
theorem f_gath_now (σ : z_S) : z_now (f_gath σ) = z_now σ := f_gatherTo_now σ _
theorem f_down_now (σ : z_S) : z_now (f_down σ).1 = z_now σ := f_bringTo_now σ _
theorem f_run_step (σ : z_S) (k : Nat) : s1 (f_down (f_gath (f_run σ k).1)).1 0 0 (z_now (f_down (f_gath (f_run σ k).1)).1 + 1) = (f_run σ (k + 1)).1 := by
  show _ = s1 (f_down (f_gath (f_run σ k).1)).1 0 0 (z_now (f_run σ k).1 + 1)
  rw [f_down_now, f_gath_now]
theorem wk_runle {σ : z_S} (hI : z_Ok σ) {n : Nat} (hn : n ≤ 500) (h : (z_now σ).toInt + n ≤ 9999) : z_now σ + nI n ≤ 9999 := by
  have ht := hI.t
  have e : (nI n).toInt = n := nI_toInt (by omega)
  rw [fa_le, fb_addI (by omega) (by omega), e]
  exact h
def f_take (σ : z_S) (w : Nat) : z_S := s2 σ 1 0 (z_mk σ ||| w)
def f_give (σ : z_S) (i : Nat) : z_S := s2 σ 1 0 (z_mk σ ^^^ 2 ^ i)
theorem f_give_bit {σ : z_S} {i : Nat} (h : z_tk σ i = true) : (z_mk σ ^^^ 2 ^ i).testBit i = false := by
  have h2 : (z_mk σ).testBit i = true := h
  rw [Nat.testBit_xor, h2, Nat.testBit_two_pow_self]; rfl
theorem f_pow_other {i j : Nat} (h : ¬ j = i) : (2 ^ i).testBit j = false := by
  rw [Nat.testBit_two_pow]
  exact decide_eq_false (fun q => h q.symm)
theorem f_give_other {σ : z_S} {i j : Nat} (h : ¬ j = i) : (z_mk σ ^^^ 2 ^ i).testBit j = (z_mk σ).testBit j := by
  rw [Nat.testBit_xor, f_pow_other h, Bool.xor_false]
theorem f_pow_lt {i n : Nat} (h : i < n) : 2 ^ i < 2 ^ n := Nat.pow_lt_pow_right (by decide) h
theorem f_give_lt {σ : z_S} (hI : z_Ok σ) {i : Nat} (hi : i < z_n σ 2) : z_mk σ ^^^ 2 ^ i < 2 ^ z_n σ 2 := Nat.xor_lt_two_pow hI.mk (f_pow_lt hi)
theorem f_or_bit (m k : Nat) : (m ||| 2 ^ k).testBit k = true := by rw [Nat.testBit_or, Nat.testBit_two_pow_self, Bool.or_true]
theorem f_or_other {m k j : Nat} (h : ¬ j = k) : (m ||| 2 ^ k).testBit j = m.testBit j := by rw [Nat.testBit_or, f_pow_other h, Bool.or_false]
theorem f_or_lt {σ : z_S} (hI : z_Ok σ) {i : Nat} (hi : i < z_n σ 2) : z_mk σ ||| 2 ^ i < 2 ^ z_n σ 2 := Nat.or_lt_two_pow hI.mk (f_pow_lt hi)
theorem s2_s2 (σ : z_S) (f k a b : Nat) : s2 (s2 σ f k a) f k b = s2 σ f k b := by
  unfold s2
  congr 1
  funext f' k'
  by_cases h : f' = f ∧ k' = k
  · simp [h]
  · simp [h]
theorem s2_mk (σ : z_S) (m : Nat) : z_mk (s2 σ 1 0 m) = m := rfl
theorem f_take_step {σ : z_S} {w k : Nat} (h : w.testBit k = true) : s2 (s2 σ 1 0 (z_mk σ ||| f_set (fun i => w.testBit i) k)) 1 0 (z_mk (s2 σ 1 0 (z_mk σ ||| f_set (fun i => w.testBit i) k)) ||| 2 ^ k) = s2 σ 1 0 (z_mk σ ||| f_set (fun i => w.testBit i) (k + 1)) := by
  rw [s2_s2, s2_mk, Nat.or_assoc]
  simp [f_set, h]
theorem f_take_skip {σ : z_S} {w k : Nat} (h : w.testBit k = false) : s2 σ 1 0 (z_mk σ ||| f_set (fun i => w.testBit i) k) = s2 σ 1 0 (z_mk σ ||| f_set (fun i => w.testBit i) (k + 1)) := by simp [f_set, h]
theorem f_take_end {σ : z_S} {w n : Nat} (h : w < 2 ^ n) : s2 σ 1 0 (z_mk σ ||| f_set (fun i => w.testBit i) n) = f_take σ w := by rw [f_set_self h]; rfl
theorem f_take_0 (σ : z_S) (w : Nat) : σ = s2 σ 1 0 (z_mk σ ||| f_set (fun i => w.testBit i) 0) := by
  show σ = s2 σ 1 0 (z_mk σ ||| 0)
  rw [Nat.or_zero]
  unfold s2
  refine Prod.ext rfl ?_
  funext f k
  by_cases h : f = 1 ∧ k = 0
  · show σ.2 f k = if f = 1 ∧ k = 0 then z_mk σ else σ.2 f k
    rw [if_pos h, h.1, h.2]
  · show σ.2 f k = if f = 1 ∧ k = 0 then z_mk σ else σ.2 f k
    rw [if_neg h]
