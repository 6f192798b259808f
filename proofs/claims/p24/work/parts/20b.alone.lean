/-! A pass of a positive weight that is in no other one's way is in every best set: the search without it may be left out. -/
theorem b_W_add {w : Nat → Nat} {m k : Nat} (h : m.testBit k = false) : ∀ n, b_W w (m ||| 2 ^ k) n = b_W w m n + (if k < n then w k else 0)
  | 0 => rfl
  | n + 1 => by
    have ih := b_W_add (w := w) h n
    rw [b_Ws, b_Ws, ih]
    by_cases hk : n = k
    · subst hk
      rw [f_or_bit, if_pos rfl, h, if_neg (Nat.lt_irrefl _), if_neg (by decide), if_pos (Nat.lt_succ_self _)]
    · rw [f_or_other hk]
      by_cases hl : k < n
      · have hl2 : k < n + 1 := by omega
        simp only [hl, hl2, if_true]; omega
      · have hl2 : ¬ k < n + 1 := by omega
        simp only [hl, hl2, if_false]; omega
theorem b_nz0 {fr k c L m : Nat} {cf : Nat → Nat} (h : b_in fr cf k c L) (hC : b_cf fr cf) (hz : nI (L &&& m) = 0) : L &&& m = 0 := by
  have h1 : L &&& m < 2 ^ 16 := Nat.lt_of_le_of_lt Nat.and_le_left (h.lt hC)
  exact (nI_eq (by omega) (by omega)).mp (hz.trans nI_0.symm)
theorem b_alone {w : Nat → Nat} {fr k c L b b1 : Nat} {cf : Nat → Nat} (h : b_in fr cf k c L) (hC : b_cf fr cf) (hL : L.testBit k = true) (hz : b_del L (2 ^ k) &&& cf k = 0) (hw : 1 ≤ w k)
    (h1 : b_res w fr cf (k + 1) (c ||| 2 ^ k) b b1) : b_res w fr cf k c b b1 := by
  have hk9 := (h.2.2.2 k).mp hL
  have hk : k < 16 := hC.lt _ hk9.2.1
  refine ⟨?_, h1.2.1, fun m hm => ?_⟩
  · rcases h1.1 with y | y
    · exact Or.inl y
    · exact Or.inr ⟨y.1, fun i hi => (y.2 i (by omega)).trans (f_or_other (by omega))⟩
  · cases hmk : m.testBit k with
    | true => exact h1.2.2 m (hm.keep hmk)
    | false =>
      have hbit : ∀ i, (m ||| 2 ^ k).testBit i = true ↔ m.testBit i = true ∨ k = i := fun i => by
        rw [Nat.testBit_or, b_pbit, Bool.or_eq_true]; simp
      have hno : ∀ i, m.testBit i = true → (cf i).testBit k = false := fun i hi => by
        have hik : ¬ k = i := fun z => by rw [← z, hmk] at hi; exact nomatch hi
        rcases b_sub h hm hi with z | z
        · exact hk9.2.2 i z
        · rw [hC.sy i k (hm.1.1 i hi) hk9.2.1]
          cases hc : (cf k).testBit i with
          | false => rfl
          | true =>
            have h3 : (b_del L (2 ^ k) &&& cf k).testBit i = true := by
              rw [Nat.testBit_and, b_del_bit (h.lt hC), b_pbit, z, hc]; simp [hik]
            rw [hz, Nat.zero_testBit] at h3; exact nomatch h3
      have hok : b_ok fr cf (m ||| 2 ^ k) := by
        refine ⟨fun i hi => ?_, fun i j hi hj => ?_⟩
        · rcases (hbit i).mp hi with z | z
          · exact hm.1.1 i z
          · rw [← z]; exact hk9.2.1
        · rcases (hbit i).mp hi with z | z <;> rcases (hbit j).mp hj with y | y
          · exact hm.1.2 i j z y
          · rw [← y]; exact hno i z
          · rw [← z, hC.sy k j hk9.2.1 (hm.1.1 j y)]; exact hno j y
          · rw [← z, ← y]; exact hC.ir k hk9.2.1
      have hS : b_S fr cf (k + 1) (c ||| 2 ^ k) (m ||| 2 ^ k) := ⟨hok, fun i hi => by
        rcases Nat.lt_or_ge i k with z | z
        · rw [f_or_other (by omega), f_or_other (by omega)]; exact hm.2 i z
        · rw [show i = k by omega, f_or_bit, f_or_bit]⟩
      have h4 := h1.2.2 _ hS
      have h5 := b_W_add (w := w) hmk 16
      rw [if_pos hk] at h5
      unfold b_bt at *
      omega
