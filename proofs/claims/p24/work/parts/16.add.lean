/-! A thing more on the desk. -/
def z_Xadd (X : z_X) (j n o q : Nat) (mo : Int32) (cap : Nat) : z_X := (fun i k => if i = 5 + j ∧ k = n then o else if i = 2 ∧ k = j then q else X.1 i k, fun f k => if f = 0 ∧ k = j then mo else X.2.1 f k, fun k => if k = j then cap else X.2.2 k)
def z_Tadd (T : Nat → Nat × Nat) (j n o q : Nat) : Nat → Nat × Nat := fun a => if a = o then (5 + j, n) else if a = q then (2, j) else T a
theorem DA.add {E : wk_E} {T : Nat → Nat × Nat} {X : z_X} {σ σ' : z_S} {H H1 : Heap} {j o q cap : Nat} {mo : Int32} {e : va_E} (h : DA E T X σ H) (hj : j < 4) (hb : E.2.2.1 ≤ H.size) (hdE : E.2.2.2 < E.2.2.1) (ho : H.size ≤ o) (hq : (q = X.1 2 j ∧ 0 < z_n σ j) ∨ (H.size ≤ q ∧ ¬ q = o)) (hcap : z_n σ j + 1 ≤ cap ∧ 2 ≤ cap ∧ cap ≤ 1000)
    (hnew : va_at E.1 vwCl (o, e) H1) (hrow : va_at E.1 vwCl (q, .inl (E.2.1.2.1, cap, .inr (.inr (.inr (.inr (z_lc (z_n σ j + 1) (va_up (X.1 (5 + j)) (z_n σ j) o))))))) H1) (hlist : va_at E.1 vwCl (X.1 1 j, .inr (0, [.int mo, .ref q, .int (nI (z_n σ j + 1))])) H1)
    (hk : ∀ a : Nat, a < H.size → ¬ (a = X.1 1 j ∨ (a = X.1 2 j ∧ E.2.2.1 ≤ a)) → H1[a]? = H[a]?)
    (hc : z_cell E (z_Xadd X j (z_n σ j) o q mo cap) σ' (5 + j) (z_n σ j) = some (o, e))
    (hcells : ∀ i k : Nat, ¬ (i = 5 + j ∧ k = z_n σ j) → ¬ (i = 1 ∧ k = j) → ¬ (i = 2 ∧ k = j) → z_cell E (z_Xadd X j (z_n σ j) o q mo cap) σ' i k = z_cell E X σ i k)
    (hnn : ∀ i, z_n σ' i = if i = j then z_n σ j + 1 else z_n σ i) :
    ∃ (T' : Nat → Nat × Nat) (X' : z_X), (∀ a, a < H.size → T' a = T a) ∧ X'.1 0 0 = X.1 0 0 ∧ X'.1 (5 + j) (z_n σ j) = o ∧ DA E T' X' σ' H1 := by
  have hqT : ∀ a, a < H.size → a = q → T a = (2, j) := by
    intro a ha e9
    rcases hq with ⟨e8, hp⟩ | ⟨z, -⟩
    · rw [e9, e8]; exact (h.1 2 j _ (if_pos ⟨hj, hp⟩)).1
    · omega
  have hTT : ∀ a, a < H.size → z_Tadd T j (z_n σ j) o q a = T a := by
    intro a ha
    unfold z_Tadd
    rw [if_neg (by omega)]
    split
    · rename_i z; exact (hqT a ha z).symm
    · rfl
  refine ⟨z_Tadd T j (z_n σ j) o q, z_Xadd X j (z_n σ j) o q mo cap, hTT, ?_, if_pos ⟨rfl, rfl⟩, ?_, ?_, ?_⟩
  · show (if 0 = 5 + j ∧ 0 = z_n σ j then o else if 0 = 2 ∧ 0 = j then q else X.1 0 0) = X.1 0 0
    rw [if_neg (by omega), if_neg (by omega)]
  · intro i k ae hae
    by_cases c1 : i = 5 + j ∧ k = z_n σ j
    · obtain ⟨rfl, rfl⟩ := c1
      cases hc.symm.trans hae
      exact ⟨if_pos rfl, hnew⟩
    · by_cases c2 : i = 1 ∧ k = j
      · obtain ⟨rfl, rfl⟩ := c2
        have e1 : z_cell E (z_Xadd X k (z_n σ k) o q mo cap) σ' 1 k = some (X.1 1 k, .inr (0, [.int mo, .ref q, .int (nI (z_n σ k + 1))])) := by
          show (if k < 4 then _ else _) = _
          rw [if_pos hj, hnn k, if_pos rfl]
          have a1 : (z_Xadd X k (z_n σ k) o q mo cap).1 1 k = X.1 1 k := by
            show (if 1 = 5 + k ∧ k = z_n σ k then o else if 1 = 2 ∧ k = k then q else X.1 1 k) = _
            rw [if_neg (by omega), if_neg (by omega)]
          have a2 : (z_Xadd X k (z_n σ k) o q mo cap).1 2 k = q := by
            show (if 2 = 5 + k ∧ k = z_n σ k then o else if 2 = 2 ∧ k = k then q else X.1 2 k) = _
            rw [if_neg (by omega), if_pos ⟨rfl, rfl⟩]
          have a3 : (z_Xadd X k (z_n σ k) o q mo cap).2.1 0 k = mo := if_pos ⟨rfl, rfl⟩
          rw [a1, a2, a3]
        cases e1.symm.trans hae
        have hL := h.list hj
        refine ⟨?_, hlist⟩
        rw [hTT _ hL.lt]
        exact (h.1 1 k _ (if_pos hj)).1
      · by_cases c3 : i = 2 ∧ k = j
        · obtain ⟨rfl, rfl⟩ := c3
          have e1 : z_cell E (z_Xadd X k (z_n σ k) o q mo cap) σ' 2 k = some (q, .inl (E.2.1.2.1, cap, .inr (.inr (.inr (.inr (z_lc (z_n σ k + 1) (va_up (X.1 (5 + k)) (z_n σ k) o))))))) := by
            show (if k < 4 ∧ 0 < z_n σ' k then _ else _) = _
            rw [hnn k, if_pos rfl, if_pos ⟨hj, Nat.succ_pos _⟩]
            have a2 : (z_Xadd X k (z_n σ k) o q mo cap).1 2 k = q := by
              show (if 2 = 5 + k ∧ k = z_n σ k then o else if 2 = 2 ∧ k = k then q else X.1 2 k) = _
              rw [if_neg (by omega), if_pos ⟨rfl, rfl⟩]
            have a3 : (z_Xadd X k (z_n σ k) o q mo cap).2.2 k = cap := if_pos rfl
            have a4 : (fun i => if i < z_n σ k + 1 then some ((z_Xadd X k (z_n σ k) o q mo cap).1 (5 + k) i) else none) = z_lc (z_n σ k + 1) (va_up (X.1 (5 + k)) (z_n σ k) o) := by
              funext i
              unfold z_lc
              split
              · congr 1
                show (if 5 + k = 5 + k ∧ i = z_n σ k then o else if 5 + k = 2 ∧ i = k then q else X.1 (5 + k) i) = va_up (X.1 (5 + k)) (z_n σ k) o i
                unfold va_up
                by_cases hi : i = z_n σ k
                · rw [if_pos ⟨rfl, hi⟩, if_pos hi]
                · rw [if_neg (fun z => hi z.2), if_neg (by omega), if_neg hi]
              · rfl
            rw [a2, a3, a4]
          cases e1.symm.trans hae
          refine ⟨?_, hrow⟩
          show (if q = o then (5 + k, z_n σ k) else if q = q then (2, k) else T q) = (2, k)
          have hqo : ¬ q = o := by
            rcases hq with ⟨e8, hp⟩ | ⟨-, z⟩
            · have := (h.row hj hp).lt
              have e7 : X.1 2 k < H.size := this
              omega
            · exact z
          rw [if_neg hqo, if_pos rfl]
        · rw [hcells i k c1 c2 c3] at hae
          obtain ⟨h1, h2⟩ := h.1 i k ae hae
          refine ⟨by rw [hTT _ h2.lt]; exact h1, h2.kept (hk _ h2.lt ?_)⟩
          rintro (z | ⟨z, zb⟩)
          · rw [z, (h.1 1 j _ (if_pos hj)).1] at h1
            exact c2 ⟨(Prod.mk.inj h1).1.symm, (Prod.mk.inj h1).2.symm⟩
          · rcases Nat.eq_zero_or_pos (z_n σ j) with hz | hz
            · have := (h.2.2 j hj).1 hz
              rw [z, this] at zb
              omega
            · rw [z, (h.1 2 j _ (if_pos ⟨hj, hz⟩)).1] at h1
              exact c3 ⟨(Prod.mk.inj h1).1.symm, (Prod.mk.inj h1).2.symm⟩
  · intro a ha
    rw [hTT a (Nat.lt_of_lt_of_le ha hb)]; exact h.2.1 a ha
  · intro i hi
    show (z_n σ' i = 0 → (if 2 = 5 + j ∧ i = z_n σ j then o else if 2 = 2 ∧ i = j then q else X.1 2 i) = E.2.2.2) ∧ (0 < z_n σ' i → z_n σ' i ≤ (if i = j then cap else X.2.2 i) ∧ 2 ≤ (if i = j then cap else X.2.2 i) ∧ (if i = j then cap else X.2.2 i) ≤ 1000)
    have e2 : ¬ (2 = 5 + j ∧ i = z_n σ j) := by omega
    rw [hnn i, if_neg e2]
    by_cases hij : i = j
    · simp only [if_pos hij]
      exact ⟨fun z => absurd z (Nat.succ_ne_zero _), fun _ => hcap⟩
    · have e3 : ¬ (2 = 2 ∧ i = j) := fun z => hij z.2
      rw [if_neg e3, if_neg hij, if_neg hij]
      exact h.2.2 i hi
