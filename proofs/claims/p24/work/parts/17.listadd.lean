/-! The list's add, as the desk sees it. -/
theorem DA.low {E : wk_E} {T : Nat → Nat × Nat} {X : z_X} {σ : z_S} {H : Heap} (h : DA E T X σ H) {i k : Nat} {ae : Nat × va_E} (hc : z_cell E X σ i k = some ae) : E.2.2.1 ≤ ae.1 := by
  rcases Nat.lt_or_ge ae.1 E.2.2.1 with q | q
  · exact absurd (h.tag hc) (z_FDb h.2.1 q)
  · exact q
abbrev rme_listadd : Room := { frames := 12, cells := 1, slots := 22, locals := 400 }
theorem e_listadd (l : Launch) (E : wk_E) {T : Nat → Nat × Nat} {X : z_X} {σ : z_S} {H : Heap} (hA : DA E T X σ H) {j : Nat} (hj : j < 4) {x : Nat} {vs : List Value} {ci : Nat} {r : vw_C} (hci : vwCl[ci]? = some r) (hel9 : r.1 ∈ wk_els) (hx9 : va_at E.1 vwCl (x, .inr (ci, vs)) H) (hxs : ∀ (i k : Nat) (ae : Nat × va_E), z_cell E X σ i k = some ae → ¬ x = ae.1) (hn15 : z_n σ j ≤ 15) (hel : ∀ i, i < z_n σ j → ∃ vs, va_at E.1 vwCl (X.1 (5 + j) i, .inr (ci, vs)) H) (hgL : ∀ i, i < z_n σ j → ¬ X.1 (5 + j) i = X.1 1 j) :
    we_Met l yJx4a65c_add_9ea2d wsJx4a65c_add_9ea2d rme_listadd E H [.ref (X.1 1 j), .ref x] (fun q => q = X.1 1 j ∨ (q = X.1 2 j ∧ E.2.2.1 ≤ q)) 1 22 (fun v H1 => v = some (.int 1) ∧ ∃ q cap mo, ((q = X.1 2 j ∧ 0 < z_n σ j) ∨ H.size ≤ q) ∧ (z_n σ j + 1 ≤ cap ∧ 2 ≤ cap ∧ cap ≤ 1000) ∧ va_at E.1 vwCl (q, .inl (E.2.1.2.1, cap, .inr (.inr (.inr (.inr (z_lc (z_n σ j + 1) (va_up (X.1 (5 + j)) (z_n σ j) x))))))) H1 ∧ va_at E.1 vwCl (X.1 1 j, .inr (0, [.int mo, .ref q, .int (nI (z_n σ j + 1))])) H1) := by
  have hL := hA.list hj
  have hLb : E.2.2.1 ≤ X.1 1 j := hA.low (i := 1) (k := j) (if_pos hj)
  have hLx : ¬ x = X.1 1 j := hxs 1 j _ (if_pos hj)
  rcases Nat.eq_zero_or_pos (z_n σ j) with hn | hn
  · have har : X.1 2 j = E.2.2.2 := (hA.2.2 j hj).1 hn
    rw [hn] at hL ⊢
    rw [har] at hL ⊢
    intro p e h1 h2 h3 s m args below h4 h5 h6 h7
    obtain ⟨t, o, q1, q2, q3, ⟨⟨v, e1, hv, q, cap, w1, w2, w3, w4⟩, q5⟩, q6⟩ := eA_Jx4a65c_add_9ea2d l E hL hLb hci hel9 hx9 hLx (g := X.1 (5 + j)) p e h1 h2 h3 s m args below h4 h5 h6 h7
    exact ⟨t, o, q1, q2, q3, ⟨⟨v, e1, hv, q, cap, _, w1, w2, w3, w4⟩, q5⟩, q6⟩
  · have hR := hA.row hj hn
    have hab : E.2.2.1 ≤ X.1 2 j := hA.low (i := 2) (k := j) (if_pos ⟨hj, hn⟩)
    have hxa : ¬ x = X.1 2 j := hxs 2 j _ (if_pos ⟨hj, hn⟩)
    have hLar : ¬ X.1 1 j = X.1 2 j := by
      intro z
      have t1 := (hA.1 1 j _ (if_pos hj)).1
      have t2 := (hA.1 2 j _ (if_pos ⟨hj, hn⟩)).1
      have t3 : T (X.1 1 j) = (1, j) := t1
      have t4 : T (X.1 2 j) = (2, j) := t2
      rw [z, t4] at t3
      exact absurd (Prod.mk.inj t3).1 (by decide)
    obtain ⟨hc1, hc2, hc3⟩ := hA.cap hj hn
    rcases Nat.lt_or_ge (z_n σ j) (X.2.2 j) with hlt | hge
    · intro p e h1 h2 h3 s m args below h4 h5 h6 h7
      obtain ⟨t, o, q1, q2, q3, ⟨⟨v, e1, hv, q, cap, w1, w2, w3, w4⟩, q5⟩, q6⟩ := eC_Jx4a65c_add_9ea2d l E hL hLb hR hab hLar hn hc2 hlt hc3 hci hel9 hx9 hLx hxa p e h1 h2 h3 s m args below h4 h5 h6 h7
      exact ⟨t, o, q1, q2, q3, ⟨⟨v, e1, hv, q, cap, _, w1, w2, w3, w4⟩, q5⟩, q6⟩
    · have hcap : X.2.2 j = z_n σ j := by omega
      rw [hcap] at hR
      intro p e h1 h2 h3 s m args below h4 h5 h6 h7
      obtain ⟨t, o, q1, q2, q3, ⟨⟨v, e1, hv, q, cap, w1, w2, w3, w4⟩, q5⟩, q6⟩ := eB_Jx4a65c_add_9ea2d l E hL hLb hR hab hLar (by omega) hn15 hci hel9 hx9 hLx hxa hel hgL p e h1 h2 h3 s m args below h4 h5 h6 h7
      exact ⟨t, o, q1, q2, q3, ⟨⟨v, e1, hv, q, cap, _, w1, w2, w3, w4⟩, q5⟩, q6⟩
