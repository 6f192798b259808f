/-! What a thing more makes of the desk's value. -/
def f_addA (σ : z_S) (x y z : Int32) : z_S := s2 (s1 (s1 (s1 σ 10 (z_n σ 0) x) 11 (z_n σ 0) y) 12 (z_n σ 0) z) 0 0 (z_n σ 0 + 1)
def f_addS (σ : z_S) (w x y z : Int32) : z_S := s2 (s1 (s1 (s1 (s1 σ 20 (z_n σ 1) w) 21 (z_n σ 1) x) 22 (z_n σ 1) y) 23 (z_n σ 1) z) 0 1 (z_n σ 1 + 1)
def f_addP (σ : z_S) (i a : Nat) (x y : Int32) : z_S := s2 (s2 (s2 (s1 (s1 σ 30 (z_n σ 2) x) 31 (z_n σ 2) y) 2 (z_n σ 2) i) 3 (z_n σ 2) a) 0 2 (z_n σ 2 + 1)
def f_addO (σ : z_S) (a : Nat) (x y : Int32) : z_S := s2 (s2 (s1 (s1 σ 40 (z_n σ 3) x) 41 (z_n σ 3) y) 4 (z_n σ 3) a) 0 3 (z_n σ 3 + 1)
/-- nothing is counted yet of what isn't there -/
def z_Zr (σ : z_S) : Prop := (∀ k, z_n σ 0 ≤ k → z_ad σ k = 0) ∧ (∀ k, z_n σ 1 ≤ k → z_su σ k = 0 ∧ z_sl σ k = 0 ∧ z_sd σ k = 0) ∧ (∀ k, z_n σ 2 ≤ k → z_pd σ k = 0)
theorem v_int {x y z : Int32} (h : v_in x y z = true) : y.toInt ≤ x.toInt ∧ x.toInt ≤ z.toInt := by
  simp only [v_in, Bool.and_eq_true, decide_eq_true_eq, Int32.le_iff_toInt_le] at h
  exact h
theorem v_spanI {σ : z_S} {x y : Int32} (hI : z_Ok σ) (h : v_span σ x y = true) : 0 ≤ x.toInt ∧ (z_now σ).toInt ≤ x.toInt ∧ x.toInt < y.toInt ∧ y.toInt ≤ 9999 := by
  have ht := hI.t
  simp only [v_span, Bool.and_eq_true, decide_eq_true_eq, Int32.le_iff_toInt_le, Int32.lt_iff_toInt_lt] at h
  have : (9999 : Int32).toInt = 9999 := rfl
  omega
def v_ant (x y z : Int32) : Bool := v_in x 1 15 && (v_in y 0 30 && v_in z 1 100)
def v_sat (w x y z : Int32) : Bool := v_in w 0 3 && (v_in x 1 9 && (v_in y 0 50 && v_in z 1 100000))
theorem z_Ok.addA {σ : z_S} (h : z_Ok σ) {x y z : Int32} (hn : z_n σ 0 < 5) (hv : v_ant x y z = true) : z_Ok (f_addA σ x y z) := by
  simp only [v_ant, Bool.and_eq_true] at hv
  have h1 := v_int hv.1
  have h2 := v_int hv.2.1
  have h3 := v_int hv.2.2
  have c1 : (1 : Int32).toInt = 1 := rfl
  have c15 : (15 : Int32).toInt = 15 := rfl
  have c0 : (0 : Int32).toInt = 0 := rfl
  have c30 : (30 : Int32).toInt = 30 := rfl
  have c100 : (100 : Int32).toInt = 100 := rfl
  refine ⟨⟨by show z_n σ 0 + 1 ≤ 5; omega, h.n1, h.n2, h.n3⟩, fun k hk => ⟨(h.p hk).1, Nat.lt_succ_of_lt (h.p hk).2.1, (h.p hk).2.2⟩, fun k hk => ⟨Nat.lt_succ_of_lt (h.o hk).1, (h.o hk).2⟩, h.2.2.2.1, fun k hk => ?_, h.t, h.mk⟩
  have hk' : k < z_n σ 0 + 1 := hk
  by_cases e : k = z_n σ 0
  · subst e
    have e1 : z_ab (f_addA σ x y z) (z_n σ 0) = x := by simp [f_addA, s1, s2, z_ab, z_n]
    have e2 : z_au (f_addA σ x y z) (z_n σ 0) = y := by simp [f_addA, s1, s2, z_au, z_n]
    have e3 : z_ar (f_addA σ x y z) (z_n σ 0) = z := by simp [f_addA, s1, s2, z_ar, z_n]
    rw [e1, e2, e3]
    omega
  · have e1 : z_ab (f_addA σ x y z) k = z_ab σ k := by simp [f_addA, s1, s2, z_ab, z_n, e]
    have e2 : z_au (f_addA σ x y z) k = z_au σ k := by simp [f_addA, s1, s2, z_au, z_n, e]
    have e3 : z_ar (f_addA σ x y z) k = z_ar σ k := by simp [f_addA, s1, s2, z_ar, z_n, e]
    rw [e1, e2, e3]
    exact h.a (by omega)
theorem z_Ok.addS {σ : z_S} (h : z_Ok σ) {w x y z : Int32} (hn : z_n σ 1 < 8) (hv : v_sat w x y z = true) : z_Ok (f_addS σ w x y z) := by
  simp only [v_sat, Bool.and_eq_true] at hv
  have h1 := v_int hv.1
  have h2 := v_int hv.2.1
  have h3 := v_int hv.2.2.1
  have h4 := v_int hv.2.2.2
  have c0 : (0 : Int32).toInt = 0 := rfl
  have c3 : (3 : Int32).toInt = 3 := rfl
  have c1 : (1 : Int32).toInt = 1 := rfl
  have c9 : (9 : Int32).toInt = 9 := rfl
  have c50 : (50 : Int32).toInt = 50 := rfl
  have c5 : (100000 : Int32).toInt = 100000 := rfl
  refine ⟨⟨h.n0, by show z_n σ 1 + 1 ≤ 8; omega, h.n2, h.n3⟩, fun k hk => ⟨Nat.lt_succ_of_lt (h.p hk).1, (h.p hk).2⟩, h.2.2.1, fun k hk => ?_, h.2.2.2.2.1, h.t, h.mk⟩
  have hk' : k < z_n σ 1 + 1 := hk
  by_cases e : k = z_n σ 1
  · subst e
    have e1 : z_sb (f_addS σ w x y z) (z_n σ 1) = w := by simp [f_addS, s1, s2, z_sb, z_n]
    have e2 : z_sp (f_addS σ w x y z) (z_n σ 1) = x := by simp [f_addS, s1, s2, z_sp, z_n]
    have e3 : z_sg (f_addS σ w x y z) (z_n σ 1) = y := by simp [f_addS, s1, s2, z_sg, z_n]
    have e4 : z_sm (f_addS σ w x y z) (z_n σ 1) = z := by simp [f_addS, s1, s2, z_sm, z_n]
    rw [e1, e2, e3, e4]
    omega
  · have e1 : z_sb (f_addS σ w x y z) k = z_sb σ k := by simp [f_addS, s1, s2, z_sb, z_n, e]
    have e2 : z_sp (f_addS σ w x y z) k = z_sp σ k := by simp [f_addS, s1, s2, z_sp, z_n, e]
    have e3 : z_sg (f_addS σ w x y z) k = z_sg σ k := by simp [f_addS, s1, s2, z_sg, z_n, e]
    have e4 : z_sm (f_addS σ w x y z) k = z_sm σ k := by simp [f_addS, s1, s2, z_sm, z_n, e]
    rw [e1, e2, e3, e4]
    exact h.s (by omega)
theorem z_Ok.addP {σ : z_S} (h : z_Ok σ) {i a : Nat} {x y : Int32} (hn : z_n σ 2 < 16) (hi : i < z_n σ 1) (ha : a < z_n σ 0) (hv : v_span σ x y = true) (hl : y.toInt - x.toInt ≤ 600) : z_Ok (f_addP σ i a x y) := by
  have hs := v_spanI h hv
  refine ⟨⟨h.n0, h.n1, by show z_n σ 2 + 1 ≤ 16; omega, h.n3⟩, fun k hk => ?_, h.2.2.1, h.2.2.2.1, h.2.2.2.2.1, h.t, ?_⟩
  · have hk' : k < z_n σ 2 + 1 := hk
    by_cases e : k = z_n σ 2
    · subst e
      have e1 : z_pS (f_addP σ i a x y) (z_n σ 2) = i := by simp [f_addP, s1, s2, z_pS, z_n]
      have e2 : z_pA (f_addP σ i a x y) (z_n σ 2) = a := by simp [f_addP, s1, s2, z_pA, z_n]
      have e3 : z_pb (f_addP σ i a x y) (z_n σ 2) = x := by simp [f_addP, s1, s2, z_pb, z_n]
      have e4 : z_pe (f_addP σ i a x y) (z_n σ 2) = y := by simp [f_addP, s1, s2, z_pe, z_n]
      rw [e1, e2, e3, e4]
      exact ⟨hi, ha, hs.1, hs.2.2.1, hs.2.2.2, hl⟩
    · have e1 : z_pS (f_addP σ i a x y) k = z_pS σ k := by simp [f_addP, s1, s2, z_pS, z_n, e]
      have e2 : z_pA (f_addP σ i a x y) k = z_pA σ k := by simp [f_addP, s1, s2, z_pA, z_n, e]
      have e3 : z_pb (f_addP σ i a x y) k = z_pb σ k := by simp [f_addP, s1, s2, z_pb, z_n, e]
      have e4 : z_pe (f_addP σ i a x y) k = z_pe σ k := by simp [f_addP, s1, s2, z_pe, z_n, e]
      rw [e1, e2, e3, e4]
      exact h.p (by omega)
  · show z_mk σ < 2 ^ (z_n σ 2 + 1)
    exact Nat.lt_of_lt_of_le h.mk (Nat.pow_le_pow_right (by decide) (Nat.le_succ _))
section ZADD
variable {E : wk_E} {X : z_X} {σ : z_S} {o q cap : Nat} {mo : Int32}
theorem z_cellA (hZ : z_Zr σ) {x y z : Int32} : z_cell E (z_Xadd X 0 (z_n σ 0) o q mo cap) (f_addA σ x y z) (5 + 0) (z_n σ 0) = some (o, .inr (1, [.int (nI (z_n σ 0)), .int x, .int y, .int z, .int 0])) := by
  have h0 := hZ.1 (z_n σ 0) (Nat.le_refl _)
  simp only [z_n, z_ad] at h0
  simp [z_cell, z_Xadd, f_addA, s1, s2, z_n, z_ab, z_au, z_ar, z_ad, h0]
theorem z_cellS (hZ : z_Zr σ) {w x y z : Int32} : z_cell E (z_Xadd X 1 (z_n σ 1) o q mo cap) (f_addS σ w x y z) (5 + 1) (z_n σ 1) = some (o, .inr (4, [.int (nI (z_n σ 1)), .int w, .int x, .int y, .int z, .int 0, .int 0, .int 0])) := by
  have h0 := hZ.2.1 (z_n σ 1) (Nat.le_refl _)
  simp only [z_n, z_su, z_sl, z_sd] at h0
  simp [z_cell, z_Xadd, f_addS, s1, s2, z_n, z_sb, z_sp, z_sg, z_sm, z_su, z_sl, z_sd, h0]
theorem z_cellP (hI : z_Ok σ) (hZ : z_Zr σ) {i a : Nat} {x y : Int32} : z_cell E (z_Xadd X 2 (z_n σ 2) o q mo cap) (f_addP σ i a x y) (5 + 2) (z_n σ 2) = some (o, .inr (3, [.int (nI (z_n σ 2)), .ref (X.1 6 i), .ref (X.1 5 a), .int x, .int y, .int 0, .int 0])) := by
  have h0 := hZ.2.2 (z_n σ 2) (Nat.le_refl _)
  have h1 : (z_mk σ).testBit (z_n σ 2) = false := Nat.testBit_lt_two_pow hI.mk
  simp only [z_n, z_pd, z_mk] at h0 h1
  simp [z_cell, z_Xadd, f_addP, s1, s2, z_n, z_pS, z_pA, z_pb, z_pe, z_tk, z_mk, z_pd, h0, h1, wk_b]
theorem z_cellO {a : Nat} {x y : Int32} : z_cell E (z_Xadd X 3 (z_n σ 3) o q mo cap) (f_addO σ a x y) (5 + 3) (z_n σ 3) = some (o, .inr (2, [.ref (X.1 5 a), .int x, .int y])) := by
  simp [z_cell, z_Xadd, f_addO, s1, s2, z_n, z_oA, z_of, z_ot]
end ZADD
