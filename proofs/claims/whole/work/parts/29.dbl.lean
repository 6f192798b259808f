/-! Doubles out of whole numbers: no quotient by one above 0 is not a number. -/
theorem d_t : FP.Core.b64.tails = 4503599627370496 := by decide
theorem d_e : FP.Core.b64.exps = 2048 := by decide
theorem d_p : 2 ^ FP.Core.b64.p = 9007199254740992 := by decide
theorem d_p1 : ((FP.Core.b64.p : Nat) : Int) - 1 = 52 := by decide
theorem d_qn : FP.Core.b64.qmin = -1074 := by decide
theorem d_qx : FP.Core.b64.qmax = 971 := by decide
def d_ok (n : Nat) : Prop := n < 18446744073709551616 ∧ n % 9223372036854775808 ≤ 9218868437227405312
theorem d_asm (s : Bool) {E t : Nat} (hE : E < 2047) (ht : t < 4503599627370496) : d_ok (FP.Core.assemble FP.Core.b64 s E t) := by
  unfold FP.Core.assemble d_ok
  rw [d_t, d_e]
  cases s
  · simp only [Bool.toNat_false]; omega
  · simp only [Bool.toNat_true]; omega
theorem d_inf (s : Bool) : d_ok (FP.Core.encode FP.Core.b64 (.inf s)) := by
  show d_ok (FP.Core.assemble FP.Core.b64 s (FP.Core.b64.exps - 1) 0)
  unfold FP.Core.assemble d_ok
  rw [d_t, d_e]
  cases s
  · simp only [Bool.toNat_false]; omega
  · simp only [Bool.toNat_true]; omega
theorem d_bound (s : Bool) {c : Nat} (q : Int) (hc : c < 9007199254740992) : d_ok (FP.Core.encode FP.Core.b64 (FP.Core.bound FP.Core.b64 s c q)) := by
  unfold FP.Core.bound
  rw [d_qx]
  split
  · rename_i hq
    show d_ok (if c < FP.Core.b64.tails then FP.Core.assemble FP.Core.b64 s 0 c else FP.Core.assemble FP.Core.b64 s ((q - FP.Core.b64.qmin).toNat + 1) (c - FP.Core.b64.tails))
    rw [d_t, d_qn]
    split
    · rename_i h; exact d_asm s (by decide) h
    · exact d_asm s (by omega) (by omega)
  · exact d_inf s
theorem d_round (s : Bool) (A B : Nat) (e : Int) : d_ok (FP.Core.encode FP.Core.b64 (FP.Core.roundRatio FP.Core.b64 s A B e)) := by
  unfold FP.Core.roundRatio
  split
  · show d_ok (if 0 < FP.Core.b64.tails then FP.Core.assemble FP.Core.b64 s 0 0 else FP.Core.assemble FP.Core.b64 s ((FP.Core.b64.qmin - FP.Core.b64.qmin).toNat + 1) (0 - FP.Core.b64.tails))
    rw [d_t, if_pos (by decide)]
    exact d_asm s (by decide) (by decide)
  · unfold FP.Core.roundAt FP.Core.settle
    rw [d_p]
    split
    · rename_i h; exact d_bound s _ h
    · exact d_bound s _ (by rw [d_t]; decide)
theorem d_from (i : Int) : d_ok (FP.Core.fromInt FP.Core.b64 i) := d_round _ _ _ _
theorem d_dec {n : Nat} (h : d_ok n) : ¬ FP.Core.decode FP.Core.b64 n = .nan := by
  unfold d_ok at h
  unfold FP.Core.decode FP.Core.fieldE FP.Core.fieldT
  rw [d_t, d_e]
  intro hn
  split at hn
  · rename_i h1
    split at hn
    · exact nomatch hn
    · rename_i h2; omega
  · split at hn
    · exact nomatch hn
    · exact nomatch hn
theorem d_quot {x y : Nat} (hx : d_ok x) {s : Bool} {c : Nat} {q : Int} (hy : FP.Core.decode FP.Core.b64 y = .fin s c q) (hc : ¬ c = 0) : d_ok (FP.Core.div FP.Core.b64 x y) := by
  unfold FP.Core.div
  rw [hy]
  cases hd : FP.Core.decode FP.Core.b64 x with
  | nan => exact absurd hd (d_dec hx)
  | inf t => exact d_inf _
  | fin t a r =>
    show d_ok (FP.Core.encode FP.Core.b64 (if c = 0 then (if a = 0 then .nan else .inf (t != s)) else FP.Core.roundRatio FP.Core.b64 (t != s) a c (r - q)))
    rw [if_neg hc]
    exact d_round _ _ _ _
theorem d_toNat {n : Nat} (h : d_ok n) : (UInt64.ofNat n).toNat = n := UInt64.toNat_ofNat_of_lt' h.1
theorem d_n64 {n : Nat} (h : d_ok n) : vf_n64 (UInt64.ofNat n) := by
  unfold vf_n64
  rw [UInt64.le_iff_toNat_le, UInt64.toNat_and, d_toNat h]
  have e2 : n &&& 9223372036854775807 = n % 9223372036854775808 := Nat.and_two_pow_sub_one_eq_mod n 63
  show n &&& 9223372036854775807 ≤ 9218868437227405312
  rw [e2]; exact h.2
theorem d_lead {v : Nat} (h0 : ¬ v = 0) : FP.Core.leading v 1 = (v.log2 : Int) := by
  have hl1 : 2 ^ v.log2 ≤ v := Nat.log2_self_le h0
  have e1 : Nat.log2 1 = 0 := by decide
  unfold FP.Core.leading
  show (if 1 * 2 ^ ((v.log2 : Int) - (Nat.log2 1 : Int)).toNat ≤ v * 2 ^ (-((v.log2 : Int) - (Nat.log2 1 : Int))).toNat then (v.log2 : Int) - (Nat.log2 1 : Int) else (v.log2 : Int) - (Nat.log2 1 : Int) - 1) = _
  rw [e1]
  have e2 : ((v.log2 : Int) - ((0 : Nat) : Int)).toNat = v.log2 := by omega
  have e3 : (-((v.log2 : Int) - ((0 : Nat) : Int))).toNat = 0 := by omega
  rw [e2, e3, if_pos (by rw [Nat.one_mul, Nat.pow_zero, Nat.mul_one]; exact hl1)]
  omega
theorem d_near (n : Nat) : FP.Core.nearest n 1 = n := by
  unfold FP.Core.nearest
  rw [if_pos (by omega), Nat.div_one]
theorem d_int {v : Nat} (h0 : ¬ v = 0) (h1 : v < 9007199254740992) : ∃ (s : Bool) (c : Nat) (q : Int), FP.Core.decode FP.Core.b64 (FP.Core.fromInt FP.Core.b64 (v : Int)) = .fin s c q ∧ ¬ c = 0 := by
  have hl1 : 2 ^ v.log2 ≤ v := Nat.log2_self_le h0
  have hl2 : v < 2 ^ (v.log2 + 1) := Nat.lt_log2_self
  have hL : v.log2 ≤ 52 := Nat.le_of_not_lt fun q => by
    have h3 : 2 ^ 53 ≤ 2 ^ v.log2 := Nat.pow_le_pow_right (by decide) q
    have h4 : (2 : Nat) ^ 53 = 9007199254740992 := by decide
    omega
  have hq : FP.Core.quantum FP.Core.b64 v 1 0 = (v.log2 : Int) - 52 := by
    unfold FP.Core.quantum
    rw [d_lead h0, d_qn, d_p1, Int.max_eq_right (by omega)]
    omega
  have hu : FP.Core.unitsNum v 0 ((v.log2 : Int) - 52) = v * 2 ^ (52 - v.log2) := by
    unfold FP.Core.unitsNum
    rw [show (0 - ((v.log2 : Int) - 52)).toNat = 52 - v.log2 by omega]
  have hdn : FP.Core.unitsDen 1 0 ((v.log2 : Int) - 52) = 1 := by
    unfold FP.Core.unitsDen
    rw [show ((v.log2 : Int) - 52 - 0).toNat = 0 by omega]
  have p2 : 2 ^ v.log2 * 2 ^ (52 - v.log2) = 4503599627370496 := by
    rw [← Nat.pow_add, show v.log2 + (52 - v.log2) = 52 by omega]
  have hc1 : 4503599627370496 ≤ v * 2 ^ (52 - v.log2) := by
    rw [← p2]; exact Nat.mul_le_mul_right _ hl1
  have hc2 : v * 2 ^ (52 - v.log2) < 9007199254740992 := by
    have h3 := Nat.mul_lt_mul_of_pos_right hl2 (Nat.two_pow_pos (52 - v.log2))
    rw [Nat.pow_succ, Nat.mul_right_comm, p2] at h3
    omega
  generalize hc : v * 2 ^ (52 - v.log2) = c at hu hc1 hc2
  have hfrom : FP.Core.fromInt FP.Core.b64 (v : Int) = FP.Core.assemble FP.Core.b64 false (v.log2 + 1023) (c - 4503599627370496) := by
    show FP.Core.encode FP.Core.b64 (FP.Core.roundRatio FP.Core.b64 (decide ((v : Int) < 0)) v 1 0) = _
    rw [show decide ((v : Int) < 0) = false from decide_eq_false (by omega)]
    unfold FP.Core.roundRatio
    rw [if_neg h0, hq]
    unfold FP.Core.roundAt
    rw [hu, hdn, d_near]
    unfold FP.Core.settle
    rw [d_p, if_pos hc2]
    unfold FP.Core.bound
    rw [d_qx, if_pos (by omega)]
    show (if c < FP.Core.b64.tails then FP.Core.assemble FP.Core.b64 false 0 c else FP.Core.assemble FP.Core.b64 false (((v.log2 : Int) - 52 - FP.Core.b64.qmin).toNat + 1) (c - FP.Core.b64.tails)) = _
    rw [d_t, d_qn, if_neg (by omega), show ((v.log2 : Int) - 52 - -1074).toNat + 1 = v.log2 + 1023 by omega]
  have hN : FP.Core.assemble FP.Core.b64 false (v.log2 + 1023) (c - 4503599627370496) = (v.log2 + 1023) * 4503599627370496 + (c - 4503599627370496) := by
    unfold FP.Core.assemble
    rw [d_t, d_e]
    simp only [Bool.toNat_false]; omega
  have hE : FP.Core.fieldE FP.Core.b64 (FP.Core.fromInt FP.Core.b64 (v : Int)) = v.log2 + 1023 := by
    unfold FP.Core.fieldE
    rw [hfrom, hN, d_t, d_e]
    omega
  unfold FP.Core.decode
  rw [hE, d_e, if_neg (by omega), if_neg (by omega)]
  exact ⟨_, _, _, rfl, by rw [d_t]; omega⟩
theorem d_l2d (x : Int64) {y : Int64} (h0 : 0 < y.toInt) (h1 : y.toInt < 9007199254740992) : vf_n64 (FP.ddiv (FP.l2d x) (FP.l2d y)) := by
  obtain ⟨v, hv⟩ : ∃ v : Nat, y.toInt = (v : Int) := ⟨y.toInt.toNat, by omega⟩
  obtain ⟨s, c, q, h, hc⟩ := d_int (v := v) (by omega) (by omega)
  show vf_n64 (UInt64.ofNat (FP.Core.div FP.Core.b64 (UInt64.ofNat (FP.Core.fromInt FP.Core.b64 x.toInt)).toNat (UInt64.ofNat (FP.Core.fromInt FP.Core.b64 y.toInt)).toNat))
  rw [d_toNat (d_from _), d_toNat (d_from _), hv]
  exact d_n64 (d_quot (d_from _) h hc)
theorem d_il {a : Int32} {b : Int64} (h : a.toInt = b.toInt) : FP.i2d a = FP.l2d b := by
  show UInt64.ofNat (FP.Core.fromInt FP.Core.b64 a.toInt) = UInt64.ofNat (FP.Core.fromInt FP.Core.b64 b.toInt)
  rw [h]
/-! The share. -/
def f_gi (σ : z_S) : Nat → Int32 | 0 => 0 | n + 1 => f_gi σ n + (z_su σ n + z_sl σ n + z_sd σ n)
def f_di (σ : z_S) : Nat → Int32 | 0 => 0 | n + 1 => f_di σ n + z_sd σ n
def f_dl (σ : z_S) : Nat → Int64 | 0 => 0 | n + 1 => f_dl σ n + (z_sd σ n).toInt64
def f_dt (σ : z_S) : Nat → Int | 0 => 0 | n + 1 => f_dt σ n + (z_sd σ n).toInt
def f_share (σ : z_S) (gt : Int64) : UInt64 := if gt = 0 then FP.dconst1 else FP.ddiv (FP.l2d (f_dl σ (z_n σ 1))) (FP.l2d gt)
def f_shareI (σ : z_S) : UInt64 := if f_gi σ (z_n σ 1) = 0 then FP.dconst1 else FP.ddiv (FP.i2d (f_di σ (z_n σ 1))) (FP.i2d (f_gi σ (z_n σ 1)))
section SHA
variable {σ : z_S}
theorem f_dtI (hI : z_Ok σ) (hS : z_Sm σ) : ∀ n, n ≤ z_n σ 1 → 0 ≤ f_dt σ n ∧ f_dt σ n ≤ 499950 * n
  | 0, _ => ⟨Int.le_refl _, Int.le_refl _⟩
  | n + 1, hn => by
    have ih := f_dtI hI hS n (by omega)
    have hs := hS n (by omega)
    have ht := hI.t
    show 0 ≤ f_dt σ n + (z_sd σ n).toInt ∧ f_dt σ n + (z_sd σ n).toInt ≤ 499950 * ((n + 1 : Nat) : Int)
    omega
theorem f_diI (hI : z_Ok σ) (hS : z_Sm σ) : ∀ n, n ≤ z_n σ 1 → (f_di σ n).toInt = f_dt σ n ∧ (f_dl σ n).toInt = f_dt σ n ∧ (f_gi σ n).toInt = f_tot σ n
  | 0, _ => ⟨rfl, rfl, rfl⟩
  | n + 1, hn => by
    have ih := f_diI hI hS n (by omega)
    have hs := hS n (by omega)
    have ht := hI.t
    have h1 := f_dtI hI hS n (by omega)
    have h2 := f_totI hI hS n (by omega)
    have h8 := hI.n1
    have e : (z_sd σ n).toInt64.toInt = (z_sd σ n).toInt := Int32.toInt_toInt64 _
    have e1 : (z_su σ n + z_sl σ n).toInt = (z_su σ n).toInt + (z_sl σ n).toInt := fb_addI (by omega) (by omega)
    have e2 : (z_su σ n + z_sl σ n + z_sd σ n).toInt = (z_su σ n).toInt + (z_sl σ n).toInt + (z_sd σ n).toInt := by rw [fb_addI (by omega) (by omega), e1]
    refine ⟨?_, ?_, ?_⟩
    · show (f_di σ n + z_sd σ n).toInt = f_dt σ n + (z_sd σ n).toInt
      rw [fb_addI (by omega) (by omega), ih.1]
    · show (f_dl σ n + (z_sd σ n).toInt64).toInt = f_dt σ n + (z_sd σ n).toInt
      rw [fb_addL (by omega) (by omega), ih.2.1, e]
    · show (f_gi σ n + (z_su σ n + z_sl σ n + z_sd σ n)).toInt = f_tot σ n + ((z_su σ n).toInt + (z_sl σ n).toInt + (z_sd σ n).toInt)
      rw [fb_addI (by omega) (by omega), ih.2.2, e2]
theorem f_share_eq {gt : Int64} (h : z_Iv σ gt) : f_shareI σ = f_share σ gt := by
  have hd := f_diI h.1 h.2.1 (z_n σ 1) (Nat.le_refl _)
  have hg : (f_gi σ (z_n σ 1)).toInt = gt.toInt := hd.2.2.trans h.2.2.2.symm
  unfold f_share f_shareI
  by_cases c : gt = 0
  · have c2 : f_gi σ (z_n σ 1) = 0 := by rw [fa_eq, hg, c]; rfl
    rw [if_pos c, if_pos c2]
  · have c2 : ¬ f_gi σ (z_n σ 1) = 0 := fun z => c (Int64.toInt_inj.mp (by rw [← hg, z]; rfl))
    rw [if_neg c, if_neg c2, d_il hg, d_il (hd.1.trans hd.2.1.symm)]
theorem f_share_nL {gt : Int64} (hI : z_Ok σ) (hS : z_Sm σ) (hG : z_Gt σ gt) (c : ¬ gt = 0) (x : Int64) : vf_n64 (FP.ddiv (FP.l2d x) (FP.l2d gt)) := by
  have hl := hG.lim hI hS
  have : ¬ gt.toInt = 0 := fun z => c (Int64.toInt_inj.mp z)
  exact d_l2d x (by omega) (by omega)
theorem f_share_nI (hI : z_Ok σ) (hS : z_Sm σ) (c : ¬ f_gi σ (z_n σ 1) = 0) (x : Int32) : vf_n64 (FP.ddiv (FP.i2d x) (FP.i2d (f_gi σ (z_n σ 1)))) := by
  have hd := f_diI hI hS (z_n σ 1) (Nat.le_refl _)
  have ht := f_totI hI hS (z_n σ 1) (Nat.le_refl _)
  have h8 := hI.n1
  have h0 : ¬ (f_gi σ (z_n σ 1)).toInt = 0 := fun z => c (by rw [fa_eq, z]; rfl)
  have e : (f_gi σ (z_n σ 1)).toInt64.toInt = (f_gi σ (z_n σ 1)).toInt := Int32.toInt_toInt64 _
  rw [d_il (a := x) (b := x.toInt64) (Int32.toInt_toInt64 _).symm, d_il e.symm]
  exact d_l2d _ (by omega) (by omega)
end SHA
