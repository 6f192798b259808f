/-! The best set of the desk, and the search's rows. -/
def b_btb (w : Nat → Nat) (m b : Nat) : Bool := if b_W w m 16 = b_W w b 16 then (if f_bc (nI m) = f_bc (nI b) then decide (m < b) else decide (f_bc (nI m) < f_bc (nI b))) else decide (b_W w b 16 < b_W w m 16)
theorem b_btb_eq (w : Nat → Nat) (m b : Nat) : b_btb w m b = true ↔ b_bt w m b := by
  unfold b_btb b_bt
  have a1 : f_bc (nI m) < f_bc (nI b) ↔ (f_bc (nI m)).toInt < (f_bc (nI b)).toInt := fa_lt _ _
  have a2 : f_bc (nI m) = f_bc (nI b) ↔ (f_bc (nI m)).toInt = (f_bc (nI b)).toInt := fa_eq _ _
  split
  · rename_i h1
    split
    · rename_i h2
      have h3 := a2.mp h2
      rw [decide_eq_true_iff]; omega
    · rename_i h2
      have h3 : ¬ (f_bc (nI m)).toInt = (f_bc (nI b)).toInt := fun z => h2 (a2.mpr z)
      rw [decide_eq_true_iff, a1]; omega
  · rename_i h1
    rw [decide_eq_true_iff]; omega
theorem b_btb_t {w : Nat → Nat} {m b : Nat} (h : b_btb w m b = true) : b_bt w m b := (b_btb_eq w m b).mp h
theorem b_btb_f {w : Nat → Nat} {m b : Nat} (h : b_btb w m b = false) : ¬ b_bt w m b := fun z => by rw [(b_btb_eq w m b).mpr z] at h; exact Bool.noConfusion h
/-- the rows hold the weights and conflicts of the free ones; the best so far is b -/
def b_SX (w cf : Nat → Nat) (fr : Nat) (X : z_X) (b : Nat) : Prop := (∀ i, fr.testBit i = true → X.2.1 2 i = nI (w i) ∧ X.2.1 3 i = nI (cf i) ∧ w i ≤ 5400 ∧ 1 ≤ w i) ∧ X.2.1 1 0 = nI b ∧ X.2.1 1 1 = nI (b_W w b 16) ∧ b_ok fr cf b
section BX
variable {E : wk_E} {T : Nat → Nat × Nat} {X : z_X} {σ : z_S} {H H1 : Heap} {w cf : Nat → Nat} {fr b c o : Nat}
theorem b_okW (hw : ∀ i, fr.testBit i = true → w i ≤ 5400) {m : Nat} (hm : ∀ i, m.testBit i = true → fr.testBit i = true) : b_W w m 16 ≤ 86400 := b_W_lim (fun i hi => hw i (hm i hi)) 16
theorem b_SX.wl (h : b_SX w cf fr X b) : ∀ i, fr.testBit i = true → w i ≤ 5400 := fun i hi => (h.1 i hi).2.2.1
theorem b_SX.lim (h : b_SX w cf fr X b) : b_W w b 16 ≤ 86400 := b_okW h.wl h.2.2.2.1
theorem b_lt16 (hC : b_cf fr cf) {m : Nat} (hm : ∀ i, m.testBit i = true → fr.testBit i = true) : m < 2 ^ 16 := by
  refine Nat.lt_pow_two_of_testBit m fun i hi => ?_
  cases hc : m.testBit i with
  | false => rfl
  | true => exact absurd (hC.lt i (hm i hc)) (by omega)
theorem b_SX.cell (h : b_SX w cf fr X b) (hA : DA E T X σ H) (ho : o = X.1 3 0) : va_at E.1 vwCl (o, .inr (5, [.ref (X.1 4 0), .ref (X.1 4 1), .int (nI b), .int (nI (b_W w b 16))])) H := by
  rw [ho, ← h.2.1, ← h.2.2.1]; exact hA.search
theorem b_SX.put (h : b_SX w cf fr X b) (hc : b_ok fr cf c) : b_SX w cf fr (x1 (x1 X 1 0 (nI c)) 1 1 (nI (b_W w c 16))) c :=
  ⟨fun i hi => by simp only [x1]; exact h.1 i hi, by simp [x1], by simp [x1], hc⟩
theorem b_sr1 {v : Int32} (hA : DA E T (x1 X 1 0 v) σ H) : va_at E.1 vwCl (X.1 3 0, .inr (5, [.ref (X.1 4 0), .ref (X.1 4 1), .int v, .int (X.2.1 1 1)])) H := by
  have := hA.search
  simpa [x1] using this
theorem b_sr2 {v u : Int32} (hA : DA E T (x1 X 1 0 v) σ H) (he : va_at E.1 vwCl (X.1 3 0, .inr (5, [.ref (X.1 4 0), .ref (X.1 4 1), .int v, .int u])) H1) (hk : ∀ q : Nat, q ≠ X.1 3 0 → H1[q]? = H[q]?) : DA E T (x1 (x1 X 1 0 v) 1 1 u) σ H1 := by
  refine hA.setBw (v := u) ?_ hk
  simpa [x1] using he
theorem b_del1 (L k : Nat) (hk : k < 31) : nI L &&& ((1 <<< (nI k &&& 31)) ^^^ (-1)) = nI (b_del L (2 ^ k)) := by rw [wk_shl1 k hk, b_del_I]
/-- the desk's weights, and the free ones -/
def b_w (σ : z_S) (i : Nat) : Nat := (f_worth σ i).toNatClampNeg
def b_fr (σ : z_S) : Nat := f_set (f_free σ) (z_n σ 2)
theorem f_worthN (hI : z_Ok σ) {i : Nat} (hi : i < z_n σ 2) : f_worth σ i = nI (b_w σ i) ∧ 1 ≤ b_w σ i ∧ b_w σ i ≤ 5400 := by
  have h := hI.2.1 i hi
  have h4 := (hI.2.2.2.1 _ h.1)
  have e1 : (z_pe σ i - z_pb σ i).toInt = (z_pe σ i).toInt - (z_pb σ i).toInt := fb_subI (by omega) (by omega)
  have hp : 1 * 1 ≤ (z_sp σ (z_pS σ i)).toInt * ((z_pe σ i).toInt - (z_pb σ i).toInt) := Int.mul_le_mul h4.2.1 (by omega) (by decide) (by omega)
  have hq : (z_sp σ (z_pS σ i)).toInt * ((z_pe σ i).toInt - (z_pb σ i).toInt) ≤ 9 * 600 := Int.mul_le_mul h4.2.2.1 (by omega) (by omega) (by decide)
  have e2 : (f_worth σ i).toInt = (z_sp σ (z_pS σ i)).toInt * ((z_pe σ i).toInt - (z_pb σ i).toInt) := by
    unfold f_worth
    rw [fb_mulI (by rw [e1]; omega) (by rw [e1]; omega), e1]
  obtain ⟨n, n1, n2, n3⟩ := wk_nat (x := f_worth σ i) (by omega)
  have : b_w σ i = n := by unfold b_w; rw [n2, nI_clamp n1]
  rw [this]
  exact ⟨n2, by omega, by omega⟩
theorem b_fr_lt (hI : z_Ok σ) : ∀ i, (b_fr σ).testBit i = true → i < z_n σ 2 := fun i hi => by
  rw [b_fr, f_set_bit, Bool.and_eq_true] at hi
  exact of_decide_eq_true hi.1
theorem b_cfσ (hI : z_Ok σ) : b_cf (b_fr σ) (f_cfl σ) := by
  refine ⟨fun i hi => Nat.lt_of_lt_of_le (b_fr_lt hI i hi) hI.n2, fun i j hi hj => ?_, fun i hi => ?_⟩
  · have h1 := b_fr_lt hI i hi
    have h2 := b_fr_lt hI j hj
    rw [f_cfl, f_cfl, f_set_bit, f_set_bit]
    by_cases hij : i = j
    · subst hij; rfl
    · have h3 : ¬ j = i := fun z => hij z.symm
      simp [h1, h2, hij, h3, f_conf_symm hij]
  · rw [f_cfl, f_set_bit]; simp
end BX
theorem b_in.L {fr k c L : Nat} {cf : Nat → Nat} (h : b_in fr cf k c L) : ∀ i, L.testBit i = true → fr.testBit i = true := fun i hi => ((h.2.2.2 i).mp hi).2.1
/-- the room of the search, by its depth -/
def rmS (d : Nat) : Room := { frames := d + 12, cells := 0, slots := 0, locals := d * 30 + 400 }
theorem rmS_lf {ws : List Cond} (d : Nat) : (rmS d).frames + 1 ≤ (headSpec ws (rmS (d + 1))).room.frames := Nat.le_of_eq (Nat.succ_add d 12).symm
theorem rmS_le {ws : List Cond} (d : Nat) : 8 + (6 + 11) + (rmS d).locals ≤ (headSpec ws (rmS (d + 1))).room.locals := by
  show 8 + (6 + 11) + (d * 30 + 400) ≤ (d + 1) * 30 + 400
  omega
theorem z_cl4 {E : wk_E} {X : z_X} {σ : z_S} {j : Nat} (hj : j < 2) : z_cell E X σ 4 j = some (X.1 4 j, .inl (E.2.1.1, 16, .inl (X.2.1 (2 + j)))) := if_pos hj
theorem b_rows {a : Nat → Nat → Nat} {U : (Nat → Nat → Int32) × (Nat → Nat)} {σ : z_S} {k : Nat} (h : ∀ i, i < k → U.1 2 i = f_worth σ i ∧ U.1 3 i = nI (f_cfl σ i)) :
    ∀ i, i < k + 1 → (x1 (x1 (a, U) (2 + 0) k (f_worth σ k)) (2 + 1) k (nI (f_cfl σ k))).2.1 2 i = f_worth σ i ∧ (x1 (x1 (a, U) (2 + 0) k (f_worth σ k)) (2 + 1) k (nI (f_cfl σ k))).2.1 3 i = nI (f_cfl σ i) := by
  intro i hi
  by_cases hk : i = k
  · subst hk; simp [x1]
  · have := h i (by omega)
    simp [x1, hk, this]
theorem b_SX0 {a : Nat → Nat → Nat} {U : (Nat → Nat → Int32) × (Nat → Nat)} {σ : z_S} (hI : z_Ok σ) (h : ∀ i, i < z_n σ 2 → U.1 2 i = f_worth σ i ∧ U.1 3 i = nI (f_cfl σ i)) : b_SX (b_w σ) (f_cfl σ) (b_fr σ) (x1 (x1 (a, U) 1 0 0) 1 1 0) 0 := by
  refine ⟨fun i hi => ?_, by simp [x1, nI_0], by simp [x1, nI_0, b_W_0], b_ok0 _ _⟩
  have h1 := b_fr_lt hI i hi
  have h2 := h i h1
  have h3 := f_worthN hI h1
  simp only [x1]
  exact ⟨h2.1.trans h3.1, h2.2, h3.2.2, h3.2.1⟩
