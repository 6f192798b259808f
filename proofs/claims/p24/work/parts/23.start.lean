/-! The empty desk. -/
def z_0 : z_S := (fun f _ => if f = 1 then 5 else 0, fun _ _ => 0)
theorem z_0Ok : z_Ok z_0 := ⟨⟨by decide, by decide, by decide, by decide⟩, fun k h => absurd h (Nat.not_lt_zero _), fun k h => absurd h (Nat.not_lt_zero _), fun k h => absurd h (Nat.not_lt_zero _), fun k h => absurd h (Nat.not_lt_zero _), by decide, by decide⟩
theorem z_0Sm : z_Sm z_0 := fun k h => absurd h (Nat.not_lt_zero _)
theorem z_0Zr : z_Zr z_0 := ⟨fun k _ => rfl, fun k _ => ⟨rfl, rfl, rfl⟩, fun k _ => rfl⟩
def z_X0 (E : wk_E) (o l0 l1 l2 l3 sc a1 a2 : Nat) : z_X := (fun i k => match i with
  | 0 => o
  | 1 => (match k with | 0 => l0 | 1 => l1 | 2 => l2 | _ => l3)
  | 2 => E.2.2.2
  | 3 => sc
  | _ => (match k with | 0 => a1 | _ => a2), fun _ _ => 0, fun _ => 0)
def z_T0 (o l0 l1 l2 l3 sc a1 a2 : Nat) : Nat → Nat × Nat := fun a => if a = o then (0, 0) else if a = l0 then (1, 0) else if a = l1 then (1, 1) else if a = l2 then (1, 2) else if a = l3 then (1, 3) else if a = sc then (3, 0) else if a = a1 then (4, 0) else if a = a2 then (4, 1) else (99, 0)
section CLN
variable {E : wk_E} {X : z_X} {σ : z_S} {k : Nat}
theorem z_clN1 (h : ¬ k < 4) : z_cell E X σ 1 k = none := if_neg h
theorem z_clN4 (h : ¬ k < 2) : z_cell E X σ 4 k = none := if_neg h
theorem z_clN5 (h : ¬ k < z_n σ 0) : z_cell E X σ 5 k = none := if_neg h
theorem z_clN6 (h : ¬ k < z_n σ 1) : z_cell E X σ 6 k = none := if_neg h
theorem z_clN7 (h : ¬ k < z_n σ 2) : z_cell E X σ 7 k = none := if_neg h
theorem z_clN8 (h : ¬ k < z_n σ 3) : z_cell E X σ 8 k = none := if_neg h
end CLN
theorem DA.start {E : wk_E} {H : Heap} {o l0 l1 l2 l3 sc a1 a2 : Nat} (hob : E.2.2.1 ≤ o) (hlt : o < l0 ∧ l0 < l1 ∧ l1 < l2 ∧ l2 < l3 ∧ l3 < sc ∧ sc < a1 ∧ a1 < a2)
    (ho : va_at E.1 vwCl (o, .inr (6, [.ref l0, .ref l1, .ref l2, .ref l3, .ref sc, .int 0, .int 5])) H) (h0 : va_at E.1 vwCl (l0, .inr (0, [.int 0, .ref E.2.2.2, .int 0])) H) (h1 : va_at E.1 vwCl (l1, .inr (0, [.int 0, .ref E.2.2.2, .int 0])) H) (h2 : va_at E.1 vwCl (l2, .inr (0, [.int 0, .ref E.2.2.2, .int 0])) H) (h3 : va_at E.1 vwCl (l3, .inr (0, [.int 0, .ref E.2.2.2, .int 0])) H)
    (hs : va_at E.1 vwCl (sc, .inr (5, [.ref a1, .ref a2, .int 0, .int 0])) H) (g1 : va_at E.1 vwCl (a1, .inl (E.2.1.1, 16, .inl (fun _ => 0))) H) (g2 : va_at E.1 vwCl (a2, .inl (E.2.1.1, 16, .inl (fun _ => 0))) H) :
    DA E (z_T0 o l0 l1 l2 l3 sc a1 a2) (z_X0 E o l0 l1 l2 l3 sc a1 a2) z_0 H := by
  obtain ⟨q0, q1, q2, q3, q4, q5, q6⟩ := hlt
  have t_l0 : z_T0 o l0 l1 l2 l3 sc a1 a2 l0 = (1, 0) := by unfold z_T0; rw [if_neg (by omega), if_pos rfl]
  have t_l1 : z_T0 o l0 l1 l2 l3 sc a1 a2 l1 = (1, 1) := by unfold z_T0; rw [if_neg (by omega), if_neg (by omega), if_pos rfl]
  have t_l2 : z_T0 o l0 l1 l2 l3 sc a1 a2 l2 = (1, 2) := by unfold z_T0; rw [if_neg (by omega), if_neg (by omega), if_neg (by omega), if_pos rfl]
  have t_l3 : z_T0 o l0 l1 l2 l3 sc a1 a2 l3 = (1, 3) := by unfold z_T0; rw [if_neg (by omega), if_neg (by omega), if_neg (by omega), if_neg (by omega), if_pos rfl]
  have t_sc : z_T0 o l0 l1 l2 l3 sc a1 a2 sc = (3, 0) := by unfold z_T0; rw [if_neg (by omega), if_neg (by omega), if_neg (by omega), if_neg (by omega), if_neg (by omega), if_pos rfl]
  have t_a1 : z_T0 o l0 l1 l2 l3 sc a1 a2 a1 = (4, 0) := by unfold z_T0; rw [if_neg (by omega), if_neg (by omega), if_neg (by omega), if_neg (by omega), if_neg (by omega), if_neg (by omega), if_pos rfl]
  have t_a2 : z_T0 o l0 l1 l2 l3 sc a1 a2 a2 = (4, 1) := by unfold z_T0; rw [if_neg (by omega), if_neg (by omega), if_neg (by omega), if_neg (by omega), if_neg (by omega), if_neg (by omega), if_neg (by omega), if_pos rfl]
  refine ⟨fun i k ae hae => ?_, fun q hq => ?_, fun j _ => ⟨fun _ => rfl, fun h => absurd h (Nat.not_lt_zero _)⟩⟩
  · match i, hae with
    | 0, hae =>
      by_cases hk : k = 0
      · subst hk; cases hae; exact ⟨if_pos rfl, ho⟩
      · rw [show z_cell E (z_X0 E o l0 l1 l2 l3 sc a1 a2) z_0 0 k = none from if_neg hk] at hae; exact nomatch hae
    | 1, hae =>
      match k, hae with
      | 0, hae => cases hae; exact ⟨t_l0, h0⟩
      | 1, hae => cases hae; exact ⟨t_l1, h1⟩
      | 2, hae => cases hae; exact ⟨t_l2, h2⟩
      | 3, hae => cases hae; exact ⟨t_l3, h3⟩
      | k + 4, hae => rw [z_clN1 (by omega)] at hae; exact nomatch hae
    | 2, hae => rw [show z_cell E (z_X0 E o l0 l1 l2 l3 sc a1 a2) z_0 2 k = none from if_neg (fun z => absurd z.2 (Nat.not_lt_zero _))] at hae; exact nomatch hae
    | 3, hae =>
      by_cases hk : k = 0
      · subst hk; cases hae; exact ⟨t_sc, hs⟩
      · rw [show z_cell E (z_X0 E o l0 l1 l2 l3 sc a1 a2) z_0 3 k = none from if_neg hk] at hae; exact nomatch hae
    | 4, hae =>
      match k, hae with
      | 0, hae => cases hae; exact ⟨t_a1, g1⟩
      | 1, hae => cases hae; exact ⟨t_a2, g2⟩
      | k + 2, hae => rw [z_clN4 (by omega)] at hae; exact nomatch hae
    | 5, hae => rw [z_clN5 (Nat.not_lt_zero _)] at hae; exact nomatch hae
    | 6, hae => rw [z_clN6 (Nat.not_lt_zero _)] at hae; exact nomatch hae
    | 7, hae => rw [z_clN7 (Nat.not_lt_zero _)] at hae; exact nomatch hae
    | 8, hae => rw [z_clN8 (Nat.not_lt_zero _)] at hae; exact nomatch hae
    | i + 9, hae => exact nomatch hae
  · unfold z_T0
    rw [if_neg (by omega), if_neg (by omega), if_neg (by omega), if_neg (by omega), if_neg (by omega), if_neg (by omega), if_neg (by omega), if_neg (by omega)]
