/-! The law's property, said of the desk's value. -/
theorem q_ite (c d : Bool) {x y z : Nat} (v : Nat) (h : x + y = z) : (x + (if (c && !d) = true then v else 0)) + (if (c && d) = true then y + v else y) = z + (if c = true then v else 0) := by
  cases c <;> cases d <;> simp <;> omega
theorem q_ite2 (c d : Bool) (x y v : Nat) (h : c = true → d = false) : x + y + (if (c || d) = true then v else 0) = (x + (if c = true then v else 0)) + (y + (if d = true then v else 0)) := by
  cases c <;> cases d <;> simp_all <;> omega
section QS
variable {w : Nat → Nat} {fr fr2 : Nat} {cf : Nat → Nat} {b m a p i : Nat}
theorem q_le (h : b_best w fr cf b) (hm : b_ok fr cf m) : b_W w m 16 ≤ b_W w b 16 := by
  have h2 := h.2 m hm
  unfold b_bt at h2
  omega
theorem q_orbit (m i k : Nat) : (m ||| 2 ^ i).testBit k = true ↔ m.testBit k = true ∨ i = k := by
  rw [Nat.testBit_or, b_pbit, Bool.or_eq_true]; simp
theorem q_okadd (hC : b_cf fr cf) (hm : b_ok fr cf m) (hi : fr.testBit i = true) (hc : ∀ k, m.testBit k = true → (cf i).testBit k = false) : b_ok fr cf (m ||| 2 ^ i) := by
  refine ⟨fun k hk => ?_, fun k j hk hj => ?_⟩
  · rcases (q_orbit m i k).mp hk with z | z
    · exact hm.1 k z
    · rw [← z]; exact hi
  · rcases (q_orbit m i k).mp hk with z | z <;> rcases (q_orbit m i j).mp hj with y | y
    · exact hm.2 k j z y
    · rw [← y, hC.sy k i (hm.1 k z) hi]; exact hc k z
    · rw [← z]; exact hc j y
    · rw [← z, ← y]; exact hC.ir i hi
theorem q_single (hC : b_cf fr cf) (hi : fr.testBit i = true) : b_ok fr cf (2 ^ i) := by
  have h := q_okadd hC (b_ok0 fr cf) hi (fun k hk => by rw [Nat.zero_testBit] at hk; exact Bool.noConfusion hk)
  rw [Nat.zero_or] at h
  exact h
theorem q_W1 (hi : i < 16) : b_W w (2 ^ i) 16 = w i := by
  have h := b_W_add (w := w) (m := 0) (k := i) (Nat.zero_testBit i) 16
  rw [Nat.zero_or, b_W_0, if_pos hi, Nat.zero_add] at h
  exact h
theorem q_one (hC : b_cf fr cf) (hb : b_best w fr cf b) (hi : fr.testBit i = true) : w i ≤ b_W w b 16 := by
  have h := q_le hb (q_single hC hi)
  rw [q_W1 (hC.lt i hi)] at h
  exact h
theorem q_full (hC : b_cf fr cf) (hb : b_best w fr cf b) (hi : fr.testBit i = true) (hn : b.testBit i = false) (hw : 1 ≤ w i) (hc : ∀ k, b.testBit k = true → (cf i).testBit k = false) : False := by
  have h := q_le hb (q_okadd hC hb.1 hi hc)
  have h2 := b_W_add (w := w) hn 16
  rw [if_pos (hC.lt i hi)] at h2
  omega
theorem q_none (hb : b_best w 0 cf b) : b = 0 := by
  refine Nat.eq_of_testBit_eq fun i => ?_
  rw [Nat.zero_testBit]
  cases h : b.testBit i with
  | false => rfl
  | true =>
    have h2 := hb.1.1 i h
    rw [Nat.zero_testBit] at h2
    exact Bool.noConfusion h2
/-- the weights of those of b that are in conflict with p, up to n -/
def q_oth (w : Nat → Nat) (cf : Nat → Nat) (b p : Nat) : Nat → Nat | 0 => 0 | n + 1 => if (b.testBit n && (cf p).testBit n) = true then q_oth w cf b p n + w n else q_oth w cf b p n
theorem q_split (w : Nat → Nat) (cf : Nat → Nat) (b p : Nat) : ∀ n, n ≤ 16 → b_W w (f_set (fun k => b.testBit k && !(cf p).testBit k) 16) n + q_oth w cf b p n = b_W w b n
  | 0, _ => rfl
  | n + 1, h => by
    have ih := q_split w cf b p n (by omega)
    have e9 : decide (n < 16) = true := decide_eq_true (by omega)
    rw [b_Ws, b_Ws, f_set_bit, e9, Bool.true_and]
    exact q_ite (b.testBit n) ((cf p).testBit n) (w n) ih
theorem q_others (hC : b_cf fr cf) (hb : b_best w fr cf b) (hp : fr.testBit p = true) (hn : b.testBit p = false) : w p ≤ q_oth w cf b p 16 := by
  have hbit : ∀ k, (f_set (fun k => b.testBit k && !(cf p).testBit k) 16).testBit k = true → b.testBit k = true ∧ (cf p).testBit k = false := fun k hk => by
    rw [f_set_bit] at hk
    simp only [Bool.and_eq_true, Bool.not_eq_true'] at hk
    exact hk.2
  have hN : b_ok fr cf (f_set (fun k => b.testBit k && !(cf p).testBit k) 16) := ⟨fun k hk => hb.1.1 k (hbit k hk).1, fun k j hk hj => hb.1.2 k j (hbit k hk).1 (hbit j hj).1⟩
  have h2 := q_le hb (q_okadd hC hN hp (fun k hk => (hbit k hk).2))
  have hNp : (f_set (fun k => b.testBit k && !(cf p).testBit k) 16).testBit p = false := by
    cases h : (f_set (fun k => b.testBit k && !(cf p).testBit k) 16).testBit p with
    | false => rfl
    | true => rw [(hbit p h).1] at hn; exact hn
  have h3 := b_W_add (w := w) hNp 16
  rw [if_pos (hC.lt p hp)] at h3
  have h4 := q_split w cf b p 16 (Nat.le_refl _)
  omega
theorem q_oth_le {n : Nat} (hb : ∀ k, b.testBit k = true → k < n) : ∀ k, n ≤ k → q_oth w cf b p k = q_oth w cf b p n := by
  intro k hk
  induction k with
  | zero => rw [Nat.le_zero.mp hk]
  | succ k ih =>
    rcases Nat.lt_or_ge k n with h | h
    · rw [show n = k + 1 by omega]
    · have hf : b.testBit k = false := by
        cases hc : b.testBit k with
        | false => rfl
        | true => exact absurd (hb k hc) (by omega)
      rw [← ih h]
      show (if (b.testBit k && (cf p).testBit k) = true then _ else _) = _
      rw [hf, Bool.false_and, if_neg Bool.false_ne_true]
theorem q_W_le {n : Nat} (hb : ∀ k, b.testBit k = true → k < n) : ∀ k, n ≤ k → b_W w b k = b_W w b n := by
  intro k hk
  induction k with
  | zero => rw [Nat.le_zero.mp hk]
  | succ k ih =>
    rcases Nat.lt_or_ge k n with h | h
    · rw [show n = k + 1 by omega]
    · have hf : b.testBit k = false := by
        cases hc : b.testBit k with
        | false => rfl
        | true => exact absurd (hb k hc) (by omega)
      rw [b_Ws, hf, if_neg Bool.false_ne_true, Nat.add_zero, ih h]
theorem q_Wu {x y : Nat} (h : ∀ k, x.testBit k = true → y.testBit k = false) : ∀ n, b_W w (x ||| y) n = b_W w x n + b_W w y n
  | 0 => rfl
  | n + 1 => by
    have ih := q_Wu h n
    rw [b_Ws, b_Ws, b_Ws, Nat.testBit_or, ih]
    exact q_ite2 _ _ _ _ _ (h n)
/-- p given up: the best set weighs as p does -/
theorem q_again (hb : b_best w fr cf b) (hp : b.testBit p = true) (hC2 : b_cf fr2 cf) (ha : b_best w fr2 cf a) (hp2 : fr2.testBit p = true)
    (h1 : ∀ q, fr2.testBit q = true → ¬ q = p → (cf p).testBit q = true)
    (h2 : ∀ q, fr2.testBit q = true → ¬ q = p → fr.testBit q = true ∧ b.testBit q = false ∧ ∀ k, b.testBit k = true → ¬ k = p → (cf q).testBit k = false ∧ (cf k).testBit q = false) : b_W w a 16 = w p := by
  have hlt := hC2.lt p hp2
  refine Nat.le_antisymm ?_ (q_one hC2 ha hp2)
  cases hap : a.testBit p with
  | true =>
    have e : a = 2 ^ p := by
      refine Nat.eq_of_testBit_eq fun k => ?_
      rw [b_pbit]
      by_cases hk : p = k
      · rw [← hk, hap, decide_eq_true rfl]
      · rw [decide_eq_false hk]
        cases hak : a.testBit k with
        | false => rfl
        | true =>
          have h3 := h1 k (ha.1.1 k hak) (fun z => hk z.symm)
          rw [ha.1.2 p k hap hak] at h3
          exact h3.symm
    rw [e, q_W1 hlt]; exact Nat.le_refl _
  | false =>
    have hx : ∀ k, (b ^^^ 2 ^ p).testBit k = true ↔ b.testBit k = true ∧ ¬ k = p := fun k => by
      rw [Nat.testBit_xor, b_pbit]
      by_cases hk : p = k
      · rw [← hk, hp]; simp
      · have hk2 : ¬ k = p := fun z => hk z.symm
        rw [decide_eq_false hk, Bool.xor_false]
        exact ⟨fun z => ⟨z, hk2⟩, fun z => z.1⟩
    have hxp : (b ^^^ 2 ^ p).testBit p = false := by
      cases h : (b ^^^ 2 ^ p).testBit p with
      | false => rfl
      | true => exact absurd rfl ((hx p).mp h).2
    have e1 : (b ^^^ 2 ^ p) ||| 2 ^ p = b := by
      refine Nat.eq_of_testBit_eq fun k => ?_
      rw [Nat.testBit_or, Nat.testBit_xor, b_pbit]
      by_cases hk : p = k
      · rw [← hk, hp]; simp
      · rw [decide_eq_false hk, Bool.xor_false, Bool.or_false]
    have h5 := b_W_add (w := w) hxp 16
    rw [e1, if_pos hlt] at h5
    have hna : ∀ k, a.testBit k = true → ¬ k = p := fun k hk z => by rw [z, hap] at hk; exact Bool.noConfusion hk
    have hdis : ∀ k, (b ^^^ 2 ^ p).testBit k = true → a.testBit k = false := fun k hk => by
      cases hak : a.testBit k with
      | false => rfl
      | true =>
        have h6 := (h2 k (ha.1.1 k hak) (hna k hak)).2.1
        rw [((hx k).mp hk).1] at h6
        exact h6
    have hor : ∀ k, ((b ^^^ 2 ^ p) ||| a).testBit k = true → (b ^^^ 2 ^ p).testBit k = true ∨ a.testBit k = true := fun k hk => by
      rw [Nat.testBit_or, Bool.or_eq_true] at hk; exact hk
    have hok : b_ok fr cf ((b ^^^ 2 ^ p) ||| a) := by
      refine ⟨fun k hk => ?_, fun k j hk hj => ?_⟩
      · rcases hor k hk with z | z
        · exact hb.1.1 k ((hx k).mp z).1
        · exact (h2 k (ha.1.1 k z) (hna k z)).1
      · rcases hor k hk with z | z <;> rcases hor j hj with y | y
        · exact hb.1.2 k j ((hx k).mp z).1 ((hx j).mp y).1
        · exact ((h2 j (ha.1.1 j y) (hna j y)).2.2 k ((hx k).mp z).1 ((hx k).mp z).2).2
        · exact ((h2 k (ha.1.1 k z) (hna k z)).2.2 j ((hx j).mp y).1 ((hx j).mp y).2).1
        · exact ha.1.2 k j z y
    have h7 := q_le hb hok
    rw [q_Wu hdis 16] at h7
    omega
end QS
section QD
variable {σ : z_S} {b p : Nat}
theorem q_out (hI : z_Ok σ) (a : Nat) (x y : Int32) : f_out σ a x y = false := by
  have h : z_n σ 3 = 0 := Nat.le_zero.mp hI.n3
  unfold f_out
  rw [h]
  rfl
theorem q_frI (hI : z_Ok σ) (i : Nat) : (b_fr σ).testBit i = true ↔ i < z_n σ 2 ∧ z_tk σ i = false ∧ z_now σ ≤ z_pb σ i ∧ ∀ k, k < z_n σ 2 → ¬ k = i → z_tk σ k = true → f_conf σ i k = false := by
  rw [b_fr, f_set_bit, Bool.and_eq_true, decide_eq_true_eq]
  refine and_congr_right fun hi => ?_
  unfold f_free f_inc
  rw [q_out hI]
  simp only [Bool.not_false, Bool.true_and, Bool.and_eq_true, Bool.not_eq_true', decide_eq_true_eq]
  refine and_congr_right fun _ => and_congr_right fun _ => ⟨fun h k hk hne ht => ?_, fun h => f_any_no fun k hk => ?_⟩
  · have h2 := f_any_at h hk
    simpa [hne, ht] using h2
  · by_cases hne : k = i
    · simp [hne]
    · cases ht : z_tk σ k with
      | false => simp
      | true => simp [h k hk hne ht]
theorem q_free (hI : z_Ok σ) {i : Nat} (hi : i < z_n σ 2) : f_free σ i = (b_fr σ).testBit i := by rw [b_fr, f_set_bit, decide_eq_true hi, Bool.true_and]
theorem q_cfl (σ : z_S) (i j : Nat) : (f_cfl σ i).testBit j = (decide (j < z_n σ 2) && (!decide (j = i) && f_conf σ i j)) := by rw [f_cfl, f_set_bit]
theorem q_cfl0 {i j : Nat} (h : (f_cfl σ i).testBit j = false) (hj : j < z_n σ 2) (hne : ¬ j = i) : f_conf σ i j = false := by
  rw [q_cfl, decide_eq_true hj, decide_eq_false hne, Bool.true_and, Bool.not_false, Bool.true_and] at h
  exact h
theorem q_cfl1 {i j : Nat} (h : f_conf σ i j = false) : (f_cfl σ i).testBit j = false := by rw [q_cfl, h, Bool.and_false, Bool.and_false]
theorem q_cflT {i j : Nat} (h : f_conf σ i j = true) (hj : j < z_n σ 2) (hne : ¬ j = i) : (f_cfl σ i).testBit j = true := by rw [q_cfl, h, decide_eq_true hj, decide_eq_false hne]; rfl
theorem q_blt (hI : z_Ok σ) (hb : b_ok (b_fr σ) (f_cfl σ) b) : b < 2 ^ z_n σ 2 := by
  refine Nat.lt_pow_two_of_testBit b fun i hi => ?_
  cases hc : b.testBit i with
  | false => rfl
  | true => exact absurd (b_fr_lt hI i (hb.1 i hc)) (by omega)
theorem q_bit_lt (hI : z_Ok σ) (hb : b_ok (b_fr σ) (f_cfl σ) b) : ∀ k, b.testBit k = true → k < z_n σ 2 := fun k hk => b_fr_lt hI k (hb.1 k hk)
theorem q_sumw (hI : z_Ok σ) (m : Nat) : ∀ k, k ≤ z_n σ 2 → f_sumw σ m k = nI (b_W (b_w σ) m k)
  | 0, _ => nI_0.symm
  | k + 1, h => by
    have ih := q_sumw hI m k (by omega)
    have hw := (f_worthN hI (show k < z_n σ 2 by omega)).1
    show (if m.testBit k then f_sumw σ m k + f_worth σ k else f_sumw σ m k) = nI (if m.testBit k then b_W (b_w σ) m k + b_w σ k else b_W (b_w σ) m k)
    split
    · rw [ih, hw, nI_add]
    · exact ih
theorem q_weight (hI : z_Ok σ) (hb : b_ok (b_fr σ) (f_cfl σ) b) : f_weight σ b = nI (b_W (b_w σ) b 16) := by
  unfold f_weight
  rw [q_sumw hI b _ (Nat.le_refl _), q_W_le (q_bit_lt hI hb) 16 hI.n2]
theorem q_tog (hI : z_Ok σ) (hb : b_ok (b_fr σ) (f_cfl σ) b) : f_tog σ b = true := by
  unfold f_tog
  have h : f_any (f_notTog σ b) (z_n σ 2) = false := f_any_no fun k hk => by
    unfold f_notTog
    cases hbk : b.testBit k with
    | false => rfl
    | true =>
      have h1 : f_free σ k = true := (q_free hI hk).trans (hb.1 k hbk)
      have h2 : f_cfl σ k &&& b = 0 := by
        refine Nat.eq_of_testBit_eq fun j => ?_
        rw [Nat.testBit_and, Nat.zero_testBit]
        cases hbj : b.testBit j with
        | false => rw [Bool.and_false]
        | true => rw [hb.2 k j hbk hbj]; rfl
      rw [h1, decide_eq_true h2]; rfl
  rw [h]; rfl
theorem q_takeOk (hI : z_Ok σ) (hb : b_ok (b_fr σ) (f_cfl σ) b) : z_Ok (f_take σ b) := hI.setMk (Nat.or_lt_two_pow hI.mk (q_blt hI hb))
theorem q_tkT (σ : z_S) (b k : Nat) : z_tk (f_take σ b) k = (z_tk σ k || b.testBit k) := Nat.testBit_or _ _ _
/-- nothing can be taken any more -/
theorem q_taken (hI : z_Ok σ) (hb : b_best (b_w σ) (b_fr σ) (f_cfl σ) b) : b_fr (f_take σ b) = 0 := by
  refine Nat.eq_of_testBit_eq fun i => ?_
  rw [Nat.zero_testBit]
  cases h : (b_fr (f_take σ b)).testBit i with
  | false => rfl
  | true =>
    have hC := b_cfσ hI
    obtain ⟨hi, ht, hn, hc⟩ := (q_frI (q_takeOk hI hb.1) i).mp h
    rw [q_tkT, Bool.or_eq_false_iff] at ht
    have hfi : (b_fr σ).testBit i = true := (q_frI hI i).mpr ⟨hi, ht.1, hn, fun k hk hne htk => hc k hk hne (by rw [q_tkT, htk]; rfl)⟩
    exact (q_full hC hb hfi ht.2 (f_worthN hI hi).2.1 (fun k hk => by
      have hne : ¬ k = i := fun z => by rw [z, ht.2] at hk; exact Bool.noConfusion hk
      exact q_cfl1 (hc k (q_bit_lt hI hb.1 k hk) hne (by rw [q_tkT, hk, Bool.or_true])))).elim
/-- what is just taken is in no conflict with what is taken -/
theorem q_clear (hI : z_Ok σ) (hb : b_ok (b_fr σ) (f_cfl σ) b) (hp : b.testBit p = true) {k : Nat} (hk : k < z_n σ 2) (hne : ¬ k = p) (ht : z_tk (f_take σ b) k = true) : f_conf σ p k = false := by
  rw [q_tkT, Bool.or_eq_true] at ht
  rcases ht with ht | ht
  · exact ((q_frI hI p).mp (hb.1 p hp)).2.2.2 k hk hne ht
  · exact q_cfl0 (hb.2 p k hp ht) hk hne
theorem q_giveOk (hI : z_Ok σ) (hb : b_ok (b_fr σ) (f_cfl σ) b) (hp : b.testBit p = true) : z_Ok (f_give (f_take σ b) p) := (q_takeOk hI hb).setMk (f_give_lt (q_takeOk hI hb) (q_bit_lt hI hb p hp))
theorem q_tkP (hp : b.testBit p = true) : z_tk (f_take σ b) p = true := by rw [q_tkT, hp, Bool.or_true]
theorem q_tkG (hp : b.testBit p = true) : z_tk (f_give (f_take σ b) p) p = false := f_give_bit (q_tkP hp)
theorem q_tkO {k : Nat} (hne : ¬ k = p) : z_tk (f_give (f_take σ b) p) k = z_tk (f_take σ b) k := f_give_other hne
/-- given up, it can be taken again -/
theorem q_givefr (hI : z_Ok σ) (hb : b_ok (b_fr σ) (f_cfl σ) b) (hp : b.testBit p = true) : (b_fr (f_give (f_take σ b) p)).testBit p = true :=
  (q_frI (q_giveOk hI hb hp) p).mpr ⟨q_bit_lt hI hb p hp, q_tkG hp, ((q_frI hI p).mp (hb.1 p hp)).2.2.1, fun k hk hne ht => q_clear hI hb hp hk hne (by rw [q_tkO hne] at ht; exact ht)⟩
/-- and the best set weighs as it does -/
theorem q_weighs (hI : z_Ok σ) (hb : b_best (b_w σ) (b_fr σ) (f_cfl σ) b) (hp : b.testBit p = true) {a : Nat} (ha : b_best (b_w (f_give (f_take σ b) p)) (b_fr (f_give (f_take σ b) p)) (f_cfl (f_give (f_take σ b) p)) a) : b_W (b_w σ) a 16 = b_w σ p := by
  have hI2 := q_giveOk hI hb.1 hp
  have hpl := q_bit_lt hI hb.1 p hp
  have hpf := (q_frI hI p).mp (hb.1.1 p hp)
  have key : ∀ q, (b_fr (f_give (f_take σ b) p)).testBit q = true → ¬ q = p → q < z_n σ 2 ∧ z_tk (f_take σ b) q = false ∧ z_now σ ≤ z_pb σ q ∧ ∀ k, k < z_n σ 2 → ¬ k = q → ¬ k = p → z_tk (f_take σ b) k = true → f_conf σ q k = false := fun q hq hne => by
    obtain ⟨h1, h2, h3, h4⟩ := (q_frI hI2 q).mp hq
    rw [q_tkO hne] at h2
    exact ⟨h1, h2, h3, fun k hk hkq hkp ht => h4 k hk hkq (by rw [q_tkO hkp]; exact ht)⟩
  refine q_again (fr2 := b_fr (f_give (f_take σ b) p)) hb hp (b_cfσ hI2) ha (q_givefr hI hb.1 hp) (fun q hq hne => ?_) (fun q hq hne => ?_)
  · obtain ⟨h1, h2, h3, h4⟩ := key q hq hne
    have hpq : ¬ p = q := fun z => hne z.symm
    cases hc : f_conf σ q p with
    | true =>
      rw [f_conf_symm hne] at hc
      exact q_cflT hc h1 hne
    | false =>
      have h5 : (b_fr (f_take σ b)).testBit q = true := (q_frI (q_takeOk hI hb.1) q).mpr ⟨h1, h2, h3, fun k hk hkq ht => by
        by_cases hkp : k = p
        · rw [hkp]; exact hc
        · exact h4 k hk hkq hkp ht⟩
      rw [q_taken hI hb, Nat.zero_testBit] at h5
      exact Bool.noConfusion h5
  · obtain ⟨h1, h2, h3, h4⟩ := key q hq hne
    rw [q_tkT, Bool.or_eq_false_iff] at h2
    refine ⟨(q_frI hI q).mpr ⟨h1, h2.1, h3, fun k hk hkq ht => h4 k hk hkq (fun z => by rw [z, hpf.2.1] at ht; exact Bool.noConfusion ht) (by rw [q_tkT, ht]; rfl)⟩, h2.2, fun k hk hkp => ?_⟩
    have hkl := q_bit_lt hI hb.1 k hk
    have hkq : ¬ k = q := fun z => by rw [z, h2.2] at hk; exact Bool.noConfusion hk
    have h6 := h4 k hkl hkq hkp (by rw [q_tkT, hk, Bool.or_true])
    exact ⟨q_cfl1 h6, q_cfl1 (by rw [f_conf_symm hkq]; exact h6)⟩
/-- taken again: all is as it was -/
theorem q_back (hp : b.testBit p = true) : f_take (f_give (f_take σ b) p) (2 ^ p) = f_take σ b := by
  show s2 (s2 (s2 σ 1 0 (z_mk σ ||| b)) 1 0 ((z_mk σ ||| b) ^^^ 2 ^ p)) 1 0 (((z_mk σ ||| b) ^^^ 2 ^ p) ||| 2 ^ p) = s2 σ 1 0 (z_mk σ ||| b)
  rw [s2_s2, s2_s2]
  congr 1
  refine Nat.eq_of_testBit_eq fun k => ?_
  rw [Nat.testBit_or, Nat.testBit_xor, b_pbit]
  by_cases hk : p = k
  · rw [← hk, Nat.testBit_or, hp]; simp
  · rw [decide_eq_false hk, Bool.xor_false, Bool.or_false]
/-- the start of one just taken -/
theorem q_startTo (hI : z_Ok σ) (hb : b_ok (b_fr σ) (f_cfl σ) b) (hp : b.testBit p = true) : ∀ k, k ≤ z_n σ 2 → (z_pb σ p).toInt ≤ (f_startTo (f_take σ b) p k).toInt ∧ (f_startTo (f_take σ b) p k).toInt < (z_pe σ p).toInt
  | 0, _ => ⟨Int.le_refl _, (hI.p (q_bit_lt hI hb p hp)).2.2.2.1⟩
  | k + 1, h => by
    have ih := q_startTo hI hb hp k (by omega)
    have hpl := q_bit_lt hI hb p hp
    have hkl : k < z_n σ 2 := by omega
    have hpp := hI.p hpl
    have hpk := hI.p hkl
    have ha := hI.a hpk.2.1
    show (z_pb σ p).toInt ≤ (if f_isBefore (f_take σ b) p k then f_max (f_startTo (f_take σ b) p k) (z_pe σ k) else f_startTo (f_take σ b) p k).toInt ∧ (if f_isBefore (f_take σ b) p k then f_max (f_startTo (f_take σ b) p k) (z_pe σ k) else f_startTo (f_take σ b) p k).toInt < (z_pe σ p).toInt
    split
    · rename_i hbf
      unfold f_isBefore at hbf
      rw [Bool.and_eq_true, Bool.and_eq_true, decide_eq_true_eq] at hbf
      obtain ⟨ht, hs, he⟩ := hbf
      have hs : z_pS σ k = z_pS σ p := hs
      have he : f_earl σ k p = true := he
      have hne : ¬ k = p := fun z => by rw [z, f_earl_self] at he; exact Bool.noConfusion he
      have hc := q_clear hI hb hp hkl hne ht
      rw [f_conf_symm (fun z => hne z.symm)] at hc
      unfold f_conf at hc
      rw [he, if_pos rfl] at hc
      unfold f_conf2 at hc
      have hlt : (z_pe σ k).toInt < (z_pe σ p).toInt := by
        by_cases hA : z_pA σ k = z_pA σ p
        · rw [if_pos hA, decide_eq_false_iff_not, fa_lt] at hc
          have e : (z_pe σ k + z_au σ (z_pA σ k)).toInt = (z_pe σ k).toInt + (z_au σ (z_pA σ k)).toInt := fb_addI (by omega) (by omega)
          rw [e] at hc
          omega
        · rw [if_neg hA, if_pos hs, Bool.or_eq_false_iff, decide_eq_false_iff_not, fa_le] at hc
          omega
      unfold f_max
      split
      · rename_i hm
        rw [fa_lt] at hm
        omega
      · exact ih
    · exact ih
theorem q_start (hI : z_Ok σ) (hb : b_ok (b_fr σ) (f_cfl σ) b) (hp : b.testBit p = true) : z_pb σ p ≤ f_start (f_take σ b) p ∧ f_start (f_take σ b) p < z_pe σ p := by
  have h := q_startTo hI hb hp (z_n σ 2) (Nat.le_refl _)
  rw [fa_le, fa_lt]
  exact h
/-- the set without one of it, in ints -/
theorem q_less {m p : Nat} (hm : m < 2 ^ 16) (hp : m.testBit p = true) : b_del m (2 ^ p) = m ^^^ 2 ^ p := by
  refine Nat.eq_of_testBit_eq fun k => ?_
  rw [b_del_bit hm, Nat.testBit_xor, b_pbit]
  by_cases hk : p = k
  · rw [← hk, hp]; simp
  · rw [decide_eq_false hk]; simp
end QD
