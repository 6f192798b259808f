/-! The empty reference. -/
def z_YM (o y0 y1 y2 y3 y4 y5 y6 y7 y8 y9 y10 y11 y12 y13 y14 y15 y16 : Nat) : Nat → Nat → Nat := fun i k => match i with
  | 10 => o
  | _ => (match k with | 0 => y0 | 1 => y1 | 2 => y2 | 3 => y3 | 4 => y4 | 5 => y5 | 6 => y6 | 7 => y7 | 8 => y8 | 9 => y9 | 10 => y10 | 11 => y11 | 12 => y12 | 13 => y13 | 14 => y14 | 15 => y15 | _ => y16)
def z_TM (T : Nat → Nat × Nat) (o y0 y1 y2 y3 y4 y5 y6 y7 y8 y9 y10 y11 y12 y13 y14 y15 y16 : Nat) : Nat → Nat × Nat := fun a => if a = o then (10, 0) else if a = y0 then (11, 0) else if a = y1 then (11, 1) else if a = y2 then (11, 2) else if a = y3 then (11, 3) else if a = y4 then (11, 4) else if a = y5 then (11, 5) else if a = y6 then (11, 6) else if a = y7 then (11, 7) else if a = y8 then (11, 8) else if a = y9 then (11, 9) else if a = y10 then (11, 10) else if a = y11 then (11, 11) else if a = y12 then (11, 12) else if a = y13 then (11, 13) else if a = y14 then (11, 14) else if a = y15 then (11, 15) else if a = y16 then (11, 16) else T a
theorem z_outs_0 : (fun j => z_outs z_0 j) = fun _ => (0 : Int32) := by
  funext j
  unfold z_outs
  split
  · rfl
  · split <;> rfl
theorem MA.start {E : wk_E} {T : Nat → Nat × Nat} {H : Heap} {o y0 y1 y2 y3 y4 y5 y6 y7 y8 y9 y10 y11 y12 y13 y14 y15 y16 : Nat} (hT : ∀ q, q < E.2.2.1 → T q = (99, 0)) (hob : E.2.2.1 ≤ o) (hlt : o < y0 ∧ y0 < y1 ∧ y1 < y2 ∧ y2 < y3 ∧ y3 < y4 ∧ y4 < y5 ∧ y5 < y6 ∧ y6 < y7 ∧ y7 < y8 ∧ y8 < y9 ∧ y9 < y10 ∧ y10 < y11 ∧ y11 < y12 ∧ y12 < y13 ∧ y13 < y14 ∧ y14 < y15 ∧ y15 < y16) (ho : va_at E.1 vwCl (o, .inr (7, [.int 0, .int 0, .int 5, .int 0, .ref y0, .ref y1, .ref y2, .ref y3, .int 0, .ref y4, .int 0, .ref y5, .ref y6, .ref y7, .ref y8, .ref y9, .ref y10, .ref y11, .int 0, .ref y12, .ref y13, .ref y14, .ref y15, .ref y16, .int 0, .long 0])) H) (h0 : va_at E.1 vwCl (y0, .inl (E.2.1.1, 5, .inl (fun _ => 0))) H) (h1 : va_at E.1 vwCl (y1, .inl (E.2.1.1, 5, .inl (fun _ => 0))) H) (h2 : va_at E.1 vwCl (y2, .inl (E.2.1.1, 5, .inl (fun _ => 0))) H) (h3 : va_at E.1 vwCl (y3, .inl (E.2.1.1, 5, .inl (fun _ => 0))) H) (h4 : va_at E.1 vwCl (y4, .inl (E.2.1.1, 18, .inl (fun _ => 0))) H) (h5 : va_at E.1 vwCl (y5, .inl (E.2.1.1, 8, .inl (fun _ => 0))) H) (h6 : va_at E.1 vwCl (y6, .inl (E.2.1.1, 8, .inl (fun _ => 0))) H) (h7 : va_at E.1 vwCl (y7, .inl (E.2.1.1, 8, .inl (fun _ => 0))) H) (h8 : va_at E.1 vwCl (y8, .inl (E.2.1.1, 8, .inl (fun _ => 0))) H) (h9 : va_at E.1 vwCl (y9, .inl (E.2.1.1, 8, .inl (fun _ => 0))) H) (h10 : va_at E.1 vwCl (y10, .inl (E.2.1.1, 8, .inl (fun _ => 0))) H) (h11 : va_at E.1 vwCl (y11, .inl (E.2.1.1, 8, .inl (fun _ => 0))) H) (h12 : va_at E.1 vwCl (y12, .inl (E.2.1.1, 16, .inl (fun _ => 0))) H) (h13 : va_at E.1 vwCl (y13, .inl (E.2.1.1, 16, .inl (fun _ => 0))) H) (h14 : va_at E.1 vwCl (y14, .inl (E.2.1.1, 16, .inl (fun _ => 0))) H) (h15 : va_at E.1 vwCl (y15, .inl (E.2.1.1, 16, .inl (fun _ => 0))) H) (h16 : va_at E.1 vwCl (y16, .inl (E.2.1.1, 16, .inl (fun _ => 0))) H) :
    MA E (z_TM T o y0 y1 y2 y3 y4 y5 y6 y7 y8 y9 y10 y11 y12 y13 y14 y15 y16) (z_YM o y0 y1 y2 y3 y4 y5 y6 y7 y8 y9 y10 y11 y12 y13 y14 y15 y16) z_0 0 0 H ∧ ∀ q, q < o → z_TM T o y0 y1 y2 y3 y4 y5 y6 y7 y8 y9 y10 y11 y12 y13 y14 y15 y16 q = T q := by
  obtain ⟨q0, q1, q2, q3, q4, q5, q6, q7, q8, q9, q10, q11, q12, q13, q14, q15, q16⟩ := hlt
  have t0 : z_TM T o y0 y1 y2 y3 y4 y5 y6 y7 y8 y9 y10 y11 y12 y13 y14 y15 y16 y0 = (11, 0) := by unfold z_TM; rw [if_neg (by omega), if_pos rfl]
  have t1 : z_TM T o y0 y1 y2 y3 y4 y5 y6 y7 y8 y9 y10 y11 y12 y13 y14 y15 y16 y1 = (11, 1) := by unfold z_TM; rw [if_neg (by omega), if_neg (by omega), if_pos rfl]
  have t2 : z_TM T o y0 y1 y2 y3 y4 y5 y6 y7 y8 y9 y10 y11 y12 y13 y14 y15 y16 y2 = (11, 2) := by unfold z_TM; rw [if_neg (by omega), if_neg (by omega), if_neg (by omega), if_pos rfl]
  have t3 : z_TM T o y0 y1 y2 y3 y4 y5 y6 y7 y8 y9 y10 y11 y12 y13 y14 y15 y16 y3 = (11, 3) := by unfold z_TM; rw [if_neg (by omega), if_neg (by omega), if_neg (by omega), if_neg (by omega), if_pos rfl]
  have t4 : z_TM T o y0 y1 y2 y3 y4 y5 y6 y7 y8 y9 y10 y11 y12 y13 y14 y15 y16 y4 = (11, 4) := by unfold z_TM; rw [if_neg (by omega), if_neg (by omega), if_neg (by omega), if_neg (by omega), if_neg (by omega), if_pos rfl]
  have t5 : z_TM T o y0 y1 y2 y3 y4 y5 y6 y7 y8 y9 y10 y11 y12 y13 y14 y15 y16 y5 = (11, 5) := by unfold z_TM; rw [if_neg (by omega), if_neg (by omega), if_neg (by omega), if_neg (by omega), if_neg (by omega), if_neg (by omega), if_pos rfl]
  have t6 : z_TM T o y0 y1 y2 y3 y4 y5 y6 y7 y8 y9 y10 y11 y12 y13 y14 y15 y16 y6 = (11, 6) := by unfold z_TM; rw [if_neg (by omega), if_neg (by omega), if_neg (by omega), if_neg (by omega), if_neg (by omega), if_neg (by omega), if_neg (by omega), if_pos rfl]
  have t7 : z_TM T o y0 y1 y2 y3 y4 y5 y6 y7 y8 y9 y10 y11 y12 y13 y14 y15 y16 y7 = (11, 7) := by unfold z_TM; rw [if_neg (by omega), if_neg (by omega), if_neg (by omega), if_neg (by omega), if_neg (by omega), if_neg (by omega), if_neg (by omega), if_neg (by omega), if_pos rfl]
  have t8 : z_TM T o y0 y1 y2 y3 y4 y5 y6 y7 y8 y9 y10 y11 y12 y13 y14 y15 y16 y8 = (11, 8) := by unfold z_TM; rw [if_neg (by omega), if_neg (by omega), if_neg (by omega), if_neg (by omega), if_neg (by omega), if_neg (by omega), if_neg (by omega), if_neg (by omega), if_neg (by omega), if_pos rfl]
  have t9 : z_TM T o y0 y1 y2 y3 y4 y5 y6 y7 y8 y9 y10 y11 y12 y13 y14 y15 y16 y9 = (11, 9) := by unfold z_TM; rw [if_neg (by omega), if_neg (by omega), if_neg (by omega), if_neg (by omega), if_neg (by omega), if_neg (by omega), if_neg (by omega), if_neg (by omega), if_neg (by omega), if_neg (by omega), if_pos rfl]
  have t10 : z_TM T o y0 y1 y2 y3 y4 y5 y6 y7 y8 y9 y10 y11 y12 y13 y14 y15 y16 y10 = (11, 10) := by unfold z_TM; rw [if_neg (by omega), if_neg (by omega), if_neg (by omega), if_neg (by omega), if_neg (by omega), if_neg (by omega), if_neg (by omega), if_neg (by omega), if_neg (by omega), if_neg (by omega), if_neg (by omega), if_pos rfl]
  have t11 : z_TM T o y0 y1 y2 y3 y4 y5 y6 y7 y8 y9 y10 y11 y12 y13 y14 y15 y16 y11 = (11, 11) := by unfold z_TM; rw [if_neg (by omega), if_neg (by omega), if_neg (by omega), if_neg (by omega), if_neg (by omega), if_neg (by omega), if_neg (by omega), if_neg (by omega), if_neg (by omega), if_neg (by omega), if_neg (by omega), if_neg (by omega), if_pos rfl]
  have t12 : z_TM T o y0 y1 y2 y3 y4 y5 y6 y7 y8 y9 y10 y11 y12 y13 y14 y15 y16 y12 = (11, 12) := by unfold z_TM; rw [if_neg (by omega), if_neg (by omega), if_neg (by omega), if_neg (by omega), if_neg (by omega), if_neg (by omega), if_neg (by omega), if_neg (by omega), if_neg (by omega), if_neg (by omega), if_neg (by omega), if_neg (by omega), if_neg (by omega), if_pos rfl]
  have t13 : z_TM T o y0 y1 y2 y3 y4 y5 y6 y7 y8 y9 y10 y11 y12 y13 y14 y15 y16 y13 = (11, 13) := by unfold z_TM; rw [if_neg (by omega), if_neg (by omega), if_neg (by omega), if_neg (by omega), if_neg (by omega), if_neg (by omega), if_neg (by omega), if_neg (by omega), if_neg (by omega), if_neg (by omega), if_neg (by omega), if_neg (by omega), if_neg (by omega), if_neg (by omega), if_pos rfl]
  have t14 : z_TM T o y0 y1 y2 y3 y4 y5 y6 y7 y8 y9 y10 y11 y12 y13 y14 y15 y16 y14 = (11, 14) := by unfold z_TM; rw [if_neg (by omega), if_neg (by omega), if_neg (by omega), if_neg (by omega), if_neg (by omega), if_neg (by omega), if_neg (by omega), if_neg (by omega), if_neg (by omega), if_neg (by omega), if_neg (by omega), if_neg (by omega), if_neg (by omega), if_neg (by omega), if_neg (by omega), if_pos rfl]
  have t15 : z_TM T o y0 y1 y2 y3 y4 y5 y6 y7 y8 y9 y10 y11 y12 y13 y14 y15 y16 y15 = (11, 15) := by unfold z_TM; rw [if_neg (by omega), if_neg (by omega), if_neg (by omega), if_neg (by omega), if_neg (by omega), if_neg (by omega), if_neg (by omega), if_neg (by omega), if_neg (by omega), if_neg (by omega), if_neg (by omega), if_neg (by omega), if_neg (by omega), if_neg (by omega), if_neg (by omega), if_neg (by omega), if_pos rfl]
  have t16 : z_TM T o y0 y1 y2 y3 y4 y5 y6 y7 y8 y9 y10 y11 y12 y13 y14 y15 y16 y16 = (11, 16) := by unfold z_TM; rw [if_neg (by omega), if_neg (by omega), if_neg (by omega), if_neg (by omega), if_neg (by omega), if_neg (by omega), if_neg (by omega), if_neg (by omega), if_neg (by omega), if_neg (by omega), if_neg (by omega), if_neg (by omega), if_neg (by omega), if_neg (by omega), if_neg (by omega), if_neg (by omega), if_neg (by omega), if_pos rfl]
  have tlow : ∀ q, q < o → z_TM T o y0 y1 y2 y3 y4 y5 y6 y7 y8 y9 y10 y11 y12 y13 y14 y15 y16 q = T q := fun q hq => by unfold z_TM; rw [if_neg (by omega), if_neg (by omega), if_neg (by omega), if_neg (by omega), if_neg (by omega), if_neg (by omega), if_neg (by omega), if_neg (by omega), if_neg (by omega), if_neg (by omega), if_neg (by omega), if_neg (by omega), if_neg (by omega), if_neg (by omega), if_neg (by omega), if_neg (by omega), if_neg (by omega), if_neg (by omega)]
  refine ⟨⟨fun i k ae hae => ?_, fun q hq => (tlow q (by omega)).trans (hT q hq)⟩, tlow⟩
  match i, hae with
  | 10, hae =>
    by_cases hk : k = 0
    · subst hk; cases hae; exact ⟨if_pos rfl, ho⟩
    · rw [show z_cellM E (z_YM o y0 y1 y2 y3 y4 y5 y6 y7 y8 y9 y10 y11 y12 y13 y14 y15 y16) z_0 0 0 10 k = none from if_neg hk] at hae; exact nomatch hae
  | 11, hae =>
    match k, hae with
    | 0, hae => cases hae; exact ⟨t0, h0⟩
    | 1, hae => cases hae; exact ⟨t1, h1⟩
    | 2, hae => cases hae; exact ⟨t2, h2⟩
    | 3, hae => cases hae; exact ⟨t3, h3⟩
    | 4, hae => cases hae; exact ⟨t4, by rw [← z_outs_0] at h4; exact h4⟩
    | 5, hae => cases hae; exact ⟨t5, h5⟩
    | 6, hae => cases hae; exact ⟨t6, h6⟩
    | 7, hae => cases hae; exact ⟨t7, h7⟩
    | 8, hae => cases hae; exact ⟨t8, h8⟩
    | 9, hae => cases hae; exact ⟨t9, h9⟩
    | 10, hae => cases hae; exact ⟨t10, h10⟩
    | 11, hae => cases hae; exact ⟨t11, h11⟩
    | 12, hae => cases hae; exact ⟨t12, h12⟩
    | 13, hae => cases hae; exact ⟨t13, h13⟩
    | 14, hae => cases hae; exact ⟨t14, h14⟩
    | 15, hae => cases hae; exact ⟨t15, h15⟩
    | 16, hae => cases hae; exact ⟨t16, h16⟩
    | k + 17, hae => exact nomatch hae
  | 0, hae | 1, hae | 2, hae | 3, hae | 4, hae | 5, hae | 6, hae | 7, hae | 8, hae | 9, hae => exact nomatch hae
  | i + 12, hae => exact nomatch hae
