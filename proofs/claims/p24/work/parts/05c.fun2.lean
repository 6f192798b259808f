/-! More of what is answered. -/
/-- the first number below n that p takes, -1 if none -/
def f_fst (p : Nat → Bool) : Nat → Int32 | 0 => -1 | n + 1 => if f_any p n then f_fst p n else if p n then nI n else -1
theorem f_fst_no {p : Nat → Bool} : ∀ {n : Nat}, f_any p n = false → f_fst p n = -1
  | 0, _ => rfl
  | n + 1, h => by
    have h1 : f_any p n = false := f_any_no (fun k hk => f_any_at h (by omega))
    have h2 : p n = false := f_any_at h (by omega)
    simp [f_fst, h1, h2]
theorem f_fst_yes {p : Nat → Bool} {k : Nat} (h : f_any p k = false) (hp : p k = true) : ∀ {n : Nat}, k < n → f_fst p n = nI k
  | 0, hk => absurd hk (Nat.not_lt_zero k)
  | n + 1, hk => by
    rcases Nat.lt_or_ge k n with q | q
    · simp [f_fst, f_any_yes q hp, f_fst_yes h hp q]
    · have e : k = n := by omega
      subst e
      simp [f_fst, h, hp]
def f_heardBy (σ : z_S) (a : Nat) : Int32 := f_fst (fun k => decide (z_pA σ k = a) && f_heard σ k) (z_n σ 2)
def f_isNext (σ : z_S) (a k : Nat) : Bool := decide (z_pA σ k = a) && (z_tk σ k && decide (z_now σ ≤ z_pb σ k))
def f_nextTo (σ : z_S) (a : Nat) : Nat → Option Nat | 0 => none | k + 1 => if f_isNext σ a k then (match f_nextTo σ a k with | none => some k | some b => if z_pb σ k < z_pb σ b then some k else some b) else f_nextTo σ a k
theorem f_nextTo_lt {σ : z_S} {a : Nat} : ∀ {n b : Nat}, f_nextTo σ a n = some b → b < n
  | 0, b, h => by simp [f_nextTo] at h
  | n + 1, b, h => by
    unfold f_nextTo at h
    split at h
    · split at h
      · cases h; omega
      · rename_i c hc
        have := f_nextTo_lt hc
        split at h <;> cases h <;> omega
    · have := f_nextTo_lt h; omega
def f_opt (o : Option Nat) : Int32 := match o with | none => -1 | some k => nI k
def f_optB (σ : z_S) (o : Option Nat) : Int32 := match o with | none => 9999 | some k => z_pb σ k
def f_nextOver (σ : z_S) (a : Nat) : Int32 := f_opt (f_nextTo σ a (z_n σ 2))
def f_full (σ : z_S) (k : Nat) : Int32 := if z_sm σ k - z_su σ k ≤ 0 then -1 else if z_sg σ k ≤ 0 then -1 else z_now σ + (z_sm σ k - z_su σ k - 1) / z_sg σ k
def f_cnt (p : Nat → Bool) : Nat → Int32 | 0 => 0 | n + 1 => if p n then f_cnt p n + 1 else f_cnt p n
def f_cntOut (σ : z_S) (a : Nat) (x y : Int32) : Int32 := f_cnt (fun k => decide (z_pA σ k = a) && (z_tk σ k && (decide (x < z_pe σ k) && decide (z_pb σ k < y)))) (z_n σ 2)
def f_hand (σ : z_S) (s : Nat) : Int32 := f_cnt (fun k => decide (z_pS σ k = s) && (z_tk σ k && !decide (f_start σ k = z_pb σ k))) (z_n σ 2)
def f_sumw (σ : z_S) (w : Nat) : Nat → Int32 | 0 => 0 | k + 1 => if w.testBit k then f_sumw σ w k + f_worth σ k else f_sumw σ w k
def f_weight (σ : z_S) (w : Nat) : Int32 := f_sumw σ w (z_n σ 2)
def f_pass (σ : z_S) (i w : Nat) : Int32 := match w with
  | 0 => nI (z_pS σ i) | 1 => nI (z_pA σ i) | 2 => z_pb σ i | 3 => z_pe σ i | 4 => f_worth σ i | 5 => wk_b (z_tk σ i) | 6 => z_pd σ i | _ => if z_tk σ i then f_start σ i else -1
def f_sat (σ : z_S) (k w : Nat) : Int32 := match w with | 0 => z_su σ k | 1 => z_sl σ k | 2 => z_sd σ k | _ => f_full σ k
def f_ant (σ : z_S) (a w : Nat) : Int32 := match w with | 0 => f_heardBy σ a | 1 => f_nextOver σ a | 2 => wk_b (f_out σ a (z_now σ) (z_now σ + 1)) | _ => z_ad σ a
def f_fold (g : Nat → Int32) (d : Int64) : Nat → Int64 | 0 => d | n + 1 => f_fold g d n * 31 + (g n).toInt64
def f_fold2 (g : Nat → Nat → Int32) (w : Nat) (d : Int64) : Nat → Int64 | 0 => d | n + 1 => f_fold (g n) (f_fold2 g w d n) w
def f_dig0 (σ : z_S) : Int64 := ((227 * 31 + (z_now σ).toInt64) * 31 + (z_ho σ).toInt64) * 31 + (nI (z_n σ 0)).toInt64
def f_dig1 (σ : z_S) : Int64 := f_fold2 (f_ant σ) 4 (f_dig0 σ) (z_n σ 0) * 31 + (nI (z_n σ 1)).toInt64
def f_dig2 (σ : z_S) : Int64 := f_fold2 (f_sat σ) 4 (f_dig1 σ) (z_n σ 1) * 31 + (nI (z_n σ 2)).toInt64
def f_digest (σ : z_S) : Int64 := f_fold2 (f_pass σ) 8 (f_dig2 σ) (z_n σ 2)
theorem wk_can0 {b x y : Bool} (h : (b && !x) = false) : wk_b (b && !(x || y)) = 0 := by cases b <;> cases x <;> cases y <;> simp_all [wk_b]
theorem wk_can1 {b x y : Bool} (h : (b && !x) = true) (h2 : y = false) : wk_b (b && !(x || y)) = 1 := by cases b <;> cases x <;> cases y <;> simp_all [wk_b]
theorem wk_can2 {b x y : Bool} (h2 : y = true) : wk_b (b && !(x || y)) = 0 := by cases b <;> cases x <;> cases y <;> simp_all [wk_b]
theorem wk_or0 {x y : Bool} (h : x = true) : wk_b (x || y) = 1 := by rw [h]; rfl
theorem wk_or2 {x y : Bool} (h2 : y = true) : wk_b (x || y) = 1 := by rw [h2, Bool.or_true]; rfl
theorem wk_or3 {x y : Bool} (h : x = false) (h2 : y = false) : wk_b (x || y) = 0 := by rw [h, h2]; rfl
theorem f_inc_cfl {σ : z_S} (hI : z_Ok σ) (i : Nat) : f_inc σ i = !decide (f_cfl σ i &&& z_mk σ = 0) := by
  cases h : f_inc σ i with
  | false =>
    have : f_cfl σ i &&& z_mk σ = 0 := by
      apply Nat.eq_of_testBit_eq
      intro k
      rw [Nat.testBit_and, Nat.zero_testBit, f_cfl, f_set_bit]
      by_cases hk : k < z_n σ 2
      · have := f_any_at h hk
        simp only [hk, decide_true, Bool.true_and]
        cases h1 : decide (k = i) <;> cases h2 : z_tk σ k <;> cases h3 : f_conf σ i k <;> simp_all
      · simp [hk]
    simp [this]
  | true =>
    obtain ⟨k, hk, hp⟩ := (f_any_iff _ _).mp h
    have : ¬ f_cfl σ i &&& z_mk σ = 0 := by
      intro q
      have h1 : (f_cfl σ i &&& z_mk σ).testBit k = false := by rw [q]; exact Nat.zero_testBit k
      rw [Nat.testBit_and, f_cfl, f_set_bit] at h1
      simp only [Bool.and_eq_true] at hp
      simp only [hk, decide_true, Bool.true_and, hp.1, hp.2.2] at h1
      have h2 := hp.2.1
      simp only [z_tk] at h2
      rw [h2] at h1
      simp at h1
    simp [this]
theorem f_max_ge (x y : Int32) : x ≤ f_max x y := by
  unfold f_max
  split
  · rename_i h; exact Int32.le_of_lt h
  · exact Int32.le_refl x
theorem f_startTo_ge (σ : z_S) (i : Nat) : ∀ k, z_pb σ i ≤ f_startTo σ i k
  | 0 => Int32.le_refl _
  | k + 1 => by
    unfold f_startTo
    split
    · exact Int32.le_trans (f_startTo_ge σ i k) (f_max_ge _ _)
    · exact f_startTo_ge σ i k
theorem f_start_ge (σ : z_S) (i : Nat) : z_pb σ i ≤ f_start σ i := f_startTo_ge σ i _
theorem z_Ok.t {σ : z_S} (h : z_Ok σ) : 0 ≤ (z_now σ).toInt ∧ (z_now σ).toInt ≤ 9999 ∧ 0 ≤ (z_ho σ).toInt ∧ (z_ho σ).toInt ≤ 60 := h.2.2.2.2.2.1
theorem z_Ok.o {σ : z_S} (h : z_Ok σ) {k : Nat} (hk : k < z_n σ 3) : z_oA σ k < z_n σ 0 ∧ 0 ≤ (z_of σ k).toInt ∧ (z_of σ k).toInt < (z_ot σ k).toInt ∧ (z_ot σ k).toInt ≤ 9999 := h.2.2.1 k hk
theorem z_Ok.p {σ : z_S} (h : z_Ok σ) {k : Nat} (hk : k < z_n σ 2) : z_pS σ k < z_n σ 1 ∧ z_pA σ k < z_n σ 0 ∧ 0 ≤ (z_pb σ k).toInt ∧ (z_pb σ k).toInt < (z_pe σ k).toInt ∧ (z_pe σ k).toInt ≤ 9999 ∧ (z_pe σ k).toInt - (z_pb σ k).toInt ≤ 600 := h.2.1 k hk
theorem z_Ok.s {σ : z_S} (h : z_Ok σ) {k : Nat} (hk : k < z_n σ 1) : (0 ≤ (z_sb σ k).toInt ∧ (z_sb σ k).toInt ≤ 3) ∧ 1 ≤ (z_sp σ k).toInt ∧ (z_sp σ k).toInt ≤ 9 ∧ 0 ≤ (z_sg σ k).toInt ∧ (z_sg σ k).toInt ≤ 50 ∧ 1 ≤ (z_sm σ k).toInt ∧ (z_sm σ k).toInt ≤ 100000 := h.2.2.2.1 k hk
theorem z_Ok.a {σ : z_S} (h : z_Ok σ) {k : Nat} (hk : k < z_n σ 0) : (1 ≤ (z_ab σ k).toInt ∧ (z_ab σ k).toInt ≤ 15) ∧ 0 ≤ (z_au σ k).toInt ∧ (z_au σ k).toInt ≤ 30 ∧ 1 ≤ (z_ar σ k).toInt ∧ (z_ar σ k).toInt ≤ 100 := h.2.2.2.2.1 k hk
theorem wk_t1 : (1 : Int32).toInt = 1 := rfl
theorem wk_t0 : (0 : Int32).toInt = 0 := rfl
theorem f_meets_now {σ : z_S} (hI : z_Ok σ) {k : Nat} (hk : k < z_n σ 3) : f_meets σ k (z_now σ) (z_now σ + 1) = (decide (z_of σ k ≤ z_now σ) && decide (z_now σ ≤ z_ot σ k - 1)) := by
  have h1 := hI.t
  have h2 := hI.o hk
  have e1 : (z_now σ + 1).toInt = (z_now σ).toInt + 1 := fb_addI (by rw [wk_t1]; omega) (by rw [wk_t1]; omega)
  have e2 : (z_ot σ k - 1).toInt = (z_ot σ k).toInt - 1 := fb_subI (by rw [wk_t1]; omega) (by rw [wk_t1]; omega)
  unfold f_meets
  have a1 : (z_of σ k < z_now σ + 1) ↔ (z_of σ k ≤ z_now σ) := by rw [fa_lt, fa_le, e1]; omega
  have a2 : (z_now σ < z_ot σ k) ↔ (z_now σ ≤ z_ot σ k - 1) := by rw [fa_lt, fa_le, e2]; omega
  rw [decide_eq_decide.mpr a1, decide_eq_decide.mpr a2]
def v_span (σ : z_S) (x y : Int32) : Bool := decide (z_now σ ≤ x) && (decide (x < y) && decide (y ≤ 9999))
def v_set (x : Int32) (n : Nat) : Bool := decide (x.toBitVec.toNat < 2 ^ n)
theorem wk_s_u : ∀ n, n < 32 → (((nI n).toUInt32 &&& Int32.toUInt32 31).toBitVec % 32).toNat = n := by decide +kernel
theorem wk_us0 {x : Int32} {n : Nat} (hn : n < 32) : (x.toUInt32 >>> ((nI n).toUInt32 &&& Int32.toUInt32 31)).toInt32 = 0 ↔ v_set x n = true := by
  have h := pk_ushr x (nI n) n (wk_s_u n hn)
  unfold v_set
  rw [decide_eq_true_eq]
  constructor
  · intro q
    rw [q] at h
    have h0 : x.toBitVec.toNat / 2 ^ n = 0 := h.symm
    rcases (Nat.div_eq_zero_iff).mp h0 with z | z
    · exact absurd z (Nat.pos_iff_ne_zero.mp (Nat.two_pow_pos n))
    · exact z
  · intro q
    rw [Nat.div_eq_of_lt q] at h
    apply Int32.toBitVec_inj.mp
    apply BitVec.eq_of_toNat_eq
    rw [h]; rfl
theorem v_set_nI {w n : Nat} (hn : n ≤ 16) (h : w < 2 ^ n) : v_set (nI w) n = true := by
  unfold v_set
  have : 2 ^ n ≤ 2 ^ 16 := Nat.pow_le_pow_right (by decide) hn
  rw [decide_eq_true_eq, pk_tn (by omega)]; exact h
theorem v_set_of {x : Int32} {n : Nat} (h : v_set x n = true) : ∃ w, w < 2 ^ n ∧ x = nI w := by
  unfold v_set at h
  rw [decide_eq_true_eq] at h
  refine ⟨_, h, ?_⟩
  apply Int32.toBitVec_inj.mp
  show x.toBitVec = BitVec.ofNat 32 x.toBitVec.toNat
  simp
theorem f_optB_lt {σ : z_S} (hI : z_Ok σ) {k : Nat} (hk : k < z_n σ 2) : z_pb σ k < 9999 := by
  have := hI.p hk
  rw [fa_lt]
  show _ < (9999 : Int)
  omega
theorem f_next_not {σ : z_S} {a k : Nat} (h : f_isNext σ a k = false) : f_nextTo σ a (k + 1) = f_nextTo σ a k := by simp [f_nextTo, h]
theorem f_next_yes {σ : z_S} (hI : z_Ok σ) {a k : Nat} (hk : k < z_n σ 2) (h : f_isNext σ a k = true) (h2 : ¬ f_optB σ (f_nextTo σ a k) ≤ z_pb σ k) : f_nextTo σ a (k + 1) = some k := by
  have h3 := Int32.not_le.mp h2
  cases e : f_nextTo σ a k with
  | none => simp [f_nextTo, h, e]
  | some b =>
    rw [e] at h3
    have h4 : z_pb σ k < z_pb σ b := h3
    simp [f_nextTo, h, e, h4]
theorem f_next_keep {σ : z_S} (hI : z_Ok σ) {a k : Nat} (hk : k < z_n σ 2) (h : f_isNext σ a k = true) (h2 : f_optB σ (f_nextTo σ a k) ≤ z_pb σ k) : f_nextTo σ a (k + 1) = f_nextTo σ a k := by
  cases e : f_nextTo σ a k with
  | none =>
    rw [e] at h2
    exact absurd (f_optB_lt hI hk) (Int32.not_lt.mpr h2)
  | some b =>
    rw [e] at h2
    have h4 : ¬ z_pb σ k < z_pb σ b := Int32.not_lt.mpr h2
    simp [f_nextTo, h, e, h4]
