/-! Units, minute by minute. -/
theorem s1_comm (σ : z_S) {f g i j : Nat} {a b : Int32} (h : ¬ f = g) : s1 (s1 σ f i a) g j b = s1 (s1 σ g j b) f i a := by
  refine Prod.ext ?_ rfl
  funext f' k'
  show (if f' = g ∧ k' = j then b else if f' = f ∧ k' = i then a else σ.1 f' k') = (if f' = f ∧ k' = i then a else if f' = g ∧ k' = j then b else σ.1 f' k')
  by_cases h1 : f' = f ∧ k' = i
  · have h2 : ¬ (f' = g ∧ k' = j) := fun z => h (h1.1.symm.trans z.1)
    simp only [if_pos h1, if_neg h2]
  · simp only [if_neg h1]
theorem fb_addL {x y : Int64} (h1 : -9223372036854775808 ≤ x.toInt + y.toInt) (h2 : x.toInt + y.toInt < 9223372036854775808) : (x + y).toInt = x.toInt + y.toInt := by
  rw [Int64.toInt_add, Int.bmod_eq_of_le (by omega) (by omega)]
def f_all (σ : z_S) (k : Nat) : Int := (z_su σ k).toInt + (z_sl σ k).toInt + (z_sd σ k).toInt
def f_tot (σ : z_S) : Nat → Int | 0 => 0 | n + 1 => f_tot σ n + f_all σ n
def f_sgs (σ : z_S) : Nat → Int | 0 => 0 | n + 1 => f_sgs σ n + (z_sg σ n).toInt
def z_Sw (σ : z_S) (B : Int) : Prop := ∀ k, k < z_n σ 1 → 0 ≤ (z_su σ k).toInt ∧ (z_su σ k).toInt ≤ (z_sm σ k).toInt ∧ 0 ≤ (z_sl σ k).toInt ∧ 0 ≤ (z_sd σ k).toInt ∧ f_all σ k ≤ B
section FKP
variable {σ : z_S} {k : Nat}
theorem f_keptI (hI : z_Ok σ) (hk : k < z_n σ 1) (hu : 0 ≤ (z_su σ k).toInt ∧ (z_su σ k).toInt ≤ (z_sm σ k).toInt) : 0 ≤ (f_kept σ k).toInt ∧ (f_kept σ k).toInt ≤ (z_sg σ k).toInt ∧ (z_su σ k).toInt + (f_kept σ k).toInt ≤ (z_sm σ k).toInt := by
  have hs := hI.s hk
  have e3 : (z_sm σ k - z_su σ k).toInt = (z_sm σ k).toInt - (z_su σ k).toInt := fb_subI (by omega) (by omega)
  unfold f_kept
  split
  · rename_i c
    rw [fa_lt, e3] at c
    rw [e3]; omega
  · rename_i c
    rw [fa_lt, e3] at c
    omega
theorem f_over (hI : z_Ok σ) (hk : k < z_n σ 1) (hu : 0 ≤ (z_su σ k).toInt ∧ (z_su σ k).toInt ≤ (z_sm σ k).toInt) : (if 0 < z_su σ k + z_sg σ k - z_sm σ k then z_su σ k + z_sg σ k - z_sm σ k else 0) = z_sg σ k - f_kept σ k := by
  have hs := hI.s hk
  have e1 : (z_su σ k + z_sg σ k).toInt = (z_su σ k).toInt + (z_sg σ k).toInt := fb_addI (by omega) (by omega)
  have e2 : (z_su σ k + z_sg σ k - z_sm σ k).toInt = (z_su σ k).toInt + (z_sg σ k).toInt - (z_sm σ k).toInt := by rw [fb_subI (by omega) (by omega), e1]
  have e3 : (z_sm σ k - z_su σ k).toInt = (z_sm σ k).toInt - (z_su σ k).toInt := fb_subI (by omega) (by omega)
  unfold f_kept
  by_cases c : z_sm σ k - z_su σ k < z_sg σ k
  · have c2 : (0 : Int32) < z_su σ k + z_sg σ k - z_sm σ k := by
      rw [fa_lt, e3] at c
      rw [fa_lt, e2, wk_t0]; omega
    rw [if_pos c, if_pos c2, fa_eq, e2, fb_subI (by rw [e3]; omega) (by rw [e3]; omega), e3]
    omega
  · have c2 : ¬ (0 : Int32) < z_su σ k + z_sg σ k - z_sm σ k := by
      rw [fa_lt, e3] at c
      rw [fa_lt, e2, wk_t0]; omega
    rw [if_neg c, if_neg c2, Int32.sub_self]
theorem f_subkept (hI : z_Ok σ) (hk : k < z_n σ 1) (hu : 0 ≤ (z_su σ k).toInt ∧ (z_su σ k).toInt ≤ (z_sm σ k).toInt) : z_sg σ k - (z_sg σ k - f_kept σ k) = f_kept σ k := by
  have hs := hI.s hk
  have hp := f_keptI hI hk hu
  have e1 : (z_sg σ k - f_kept σ k).toInt = (z_sg σ k).toInt - (f_kept σ k).toInt := fb_subI (by omega) (by omega)
  rw [fa_eq, fb_subI (by rw [e1]; omega) (by rw [e1]; omega), e1]
  omega
end FKP
section GAT
variable {σ : z_S}
theorem g1_su {k j : Nat} : z_su (f_gather1 σ k) j = if j = k then z_su σ k + f_kept σ k else z_su σ j := by
  by_cases h : j = k
  · subst h; simp [f_gather1, s1, z_su]
  · simp [f_gather1, s1, z_su, h]
theorem g1_sl {k j : Nat} : z_sl (f_gather1 σ k) j = if j = k then z_sl σ k + (z_sg σ k - f_kept σ k) else z_sl σ j := by
  by_cases h : j = k
  · subst h; simp [f_gather1, s1, z_sl]
  · simp [f_gather1, s1, z_sl, h]
theorem gT_c (σ : z_S) : ∀ n j, z_sg (f_gatherTo σ n) j = z_sg σ j ∧ z_sm (f_gatherTo σ n) j = z_sm σ j ∧ z_sd (f_gatherTo σ n) j = z_sd σ j ∧ z_ad (f_gatherTo σ n) j = z_ad σ j ∧ z_pd (f_gatherTo σ n) j = z_pd σ j
  | 0, _ => ⟨rfl, rfl, rfl, rfl, rfl⟩
  | n + 1, j => gT_c σ n j
theorem gT_hi (σ : z_S) : ∀ n j, n ≤ j → z_su (f_gatherTo σ n) j = z_su σ j ∧ z_sl (f_gatherTo σ n) j = z_sl σ j
  | 0, _, _ => ⟨rfl, rfl⟩
  | n + 1, j, h => by
    have ih := gT_hi σ n j (by omega)
    have h1 : ¬ j = n := by omega
    show z_su (f_gather1 (f_gatherTo σ n) n) j = _ ∧ z_sl (f_gather1 (f_gatherTo σ n) n) j = _
    rw [g1_su, g1_sl, if_neg h1, if_neg h1]; exact ih
theorem gT_kept (σ : z_S) (n : Nat) : f_kept (f_gatherTo σ n) n = f_kept σ n := by
  unfold f_kept
  rw [(gT_c σ n n).1, (gT_c σ n n).2.1, (gT_hi σ n n (Nat.le_refl _)).1]
theorem gT_lo (σ : z_S) : ∀ n j, j < n → z_su (f_gatherTo σ n) j = z_su σ j + f_kept σ j ∧ z_sl (f_gatherTo σ n) j = z_sl σ j + (z_sg σ j - f_kept σ j)
  | 0, _, h => absurd h (Nat.not_lt_zero _)
  | n + 1, j, h => by
    show z_su (f_gather1 (f_gatherTo σ n) n) j = _ ∧ z_sl (f_gather1 (f_gatherTo σ n) n) j = _
    rw [g1_su, g1_sl]
    by_cases h1 : j = n
    · subst h1
      have hh := gT_hi σ j j (Nat.le_refl _)
      rw [if_pos rfl, if_pos rfl, gT_kept, hh.1, hh.2, (gT_c σ j j).1]
      exact ⟨rfl, rfl⟩
    · rw [if_neg h1, if_neg h1]; exact gT_lo σ n j (by omega)
theorem gT_u (hS : z_Sm σ) {k : Nat} (hk : k < z_n σ 1) : 0 ≤ (z_su (f_gatherTo σ k) k).toInt ∧ (z_su (f_gatherTo σ k) k).toInt ≤ (z_sm (f_gatherTo σ k) k).toInt := by
  rw [(gT_hi σ k k (Nat.le_refl _)).1, (gT_c σ k k).2.1]
  exact ⟨(hS k hk).1, (hS k hk).2.1⟩
theorem z_Sw.gath (hI : z_Ok σ) {B : Int} (hB : B ≤ 2000000000) (h : z_Sw σ B) : z_Sw (f_gath σ) (B + 50) ∧ ∀ k, k < z_n σ 1 → f_all (f_gath σ) k = f_all σ k + (z_sg σ k).toInt := by
  have hn : z_n (f_gath σ) 1 = z_n σ 1 := congrFun (congrFun (f_gath_2 σ) 0) 1
  have key : ∀ k, k < z_n σ 1 → (0 ≤ (z_su (f_gath σ) k).toInt ∧ (z_su (f_gath σ) k).toInt ≤ (z_sm (f_gath σ) k).toInt ∧ 0 ≤ (z_sl (f_gath σ) k).toInt ∧ 0 ≤ (z_sd (f_gath σ) k).toInt ∧ f_all (f_gath σ) k ≤ B + 50) ∧ f_all (f_gath σ) k = f_all σ k + (z_sg σ k).toInt := by
    intro k hk
    have hs := hI.s hk
    have hh := h k hk
    have hp := f_keptI hI hk ⟨hh.1, hh.2.1⟩
    have lo := gT_lo σ (z_n σ 1) k hk
    have cc := gT_c σ (z_n σ 1) k
    have h5 := hh.2.2.2.2
    unfold f_all at h5
    have e1 : (z_su σ k + f_kept σ k).toInt = (z_su σ k).toInt + (f_kept σ k).toInt := fb_addI (by omega) (by omega)
    have e2 : (z_sg σ k - f_kept σ k).toInt = (z_sg σ k).toInt - (f_kept σ k).toInt := fb_subI (by omega) (by omega)
    have e3 : (z_sl σ k + (z_sg σ k - f_kept σ k)).toInt = (z_sl σ k).toInt + ((z_sg σ k).toInt - (f_kept σ k).toInt) := by rw [fb_addI (by rw [e2]; omega) (by rw [e2]; omega), e2]
    have a1 : (z_su (f_gath σ) k).toInt = (z_su σ k).toInt + (f_kept σ k).toInt := by rw [← e1]; exact congrArg Int32.toInt lo.1
    have a2 : (z_sl (f_gath σ) k).toInt = (z_sl σ k).toInt + ((z_sg σ k).toInt - (f_kept σ k).toInt) := by rw [← e3]; exact congrArg Int32.toInt lo.2
    have a3 : z_sm (f_gath σ) k = z_sm σ k := cc.2.1
    have a4 : z_sd (f_gath σ) k = z_sd σ k := cc.2.2.1
    unfold f_all
    rw [a1, a2, a3, a4]
    omega
  exact ⟨fun k hk => (key k (by rw [hn] at hk; exact hk)).1, fun k hk => (key k hk).2⟩
theorem b1_su {i j : Nat} : z_su (f_bring1 σ i) j = if j = z_pS σ i then z_su σ (z_pS σ i) - f_come σ i else z_su σ j := by
  by_cases h : j = z_pS σ i
  · subst h; simp [f_bring1, s1, z_su]
  · simp [f_bring1, s1, z_su, h]
theorem b1_sd {i j : Nat} : z_sd (f_bring1 σ i) j = if j = z_pS σ i then z_sd σ (z_pS σ i) + f_come σ i else z_sd σ j := by
  by_cases h : j = z_pS σ i
  · subst h; simp [f_bring1, s1, z_sd]
  · simp [f_bring1, s1, z_sd, h]
theorem b1_ad {i j : Nat} (h : ¬ j = z_pA σ i) : z_ad (f_bring1 σ i) j = z_ad σ j := by simp [f_bring1, s1, z_ad, h]
theorem b1_pd {i j : Nat} (h : ¬ j = i) : z_pd (f_bring1 σ i) j = z_pd σ j := by simp [f_bring1, s1, z_pd, h]
theorem f_comeI (hI : z_Ok σ) {i : Nat} (hi : i < z_n σ 2) (hu : 0 ≤ (z_su σ (z_pS σ i)).toInt) : 0 ≤ (f_come σ i).toInt ∧ (f_come σ i).toInt ≤ (z_su σ (z_pS σ i)).toInt := by
  have ha := hI.a (hI.pA hi)
  unfold f_come
  split
  · omega
  · rename_i c
    rw [fa_lt] at c
    omega
theorem z_Sw.bring1 (hI : z_Ok σ) {B : Int} (hB : B ≤ 2000000000) (h : z_Sw σ B) {i : Nat} (hi : i < z_n σ 2) : z_Sw (f_bring1 σ i) B ∧ ∀ k, k < z_n σ 1 → f_all (f_bring1 σ i) k = f_all σ k := by
  have key : ∀ k, k < z_n σ 1 → (0 ≤ (z_su (f_bring1 σ i) k).toInt ∧ (z_su (f_bring1 σ i) k).toInt ≤ (z_sm σ k).toInt ∧ 0 ≤ (z_sl σ k).toInt ∧ 0 ≤ (z_sd (f_bring1 σ i) k).toInt ∧ f_all (f_bring1 σ i) k ≤ B) ∧ f_all (f_bring1 σ i) k = f_all σ k := by
    intro k hk
    have hs := hI.s hk
    have hh := h k hk
    have h5 := hh.2.2.2.2
    have a3 : z_sl (f_bring1 σ i) k = z_sl σ k := rfl
    unfold f_all at h5 ⊢
    rw [b1_su, b1_sd, a3]
    by_cases c : k = z_pS σ i
    · subst c
      have hp := f_comeI hI hi hh.1
      rw [if_pos rfl, if_pos rfl, fb_subI (by omega) (by omega), fb_addI (by omega) (by omega)]
      omega
    · rw [if_neg c, if_neg c]
      omega
  exact ⟨fun k hk => (key k hk).1, fun k hk => (key k hk).2⟩
theorem z_Sw.bringTo (hI : z_Ok σ) {B : Int} (hB : B ≤ 2000000000) (h : z_Sw σ B) : ∀ n, n ≤ z_n σ 2 → z_Sw (f_bringTo σ n).1 B ∧ ∀ k, k < z_n σ 1 → f_all (f_bringTo σ n).1 k = f_all σ k
  | 0, _ => ⟨h, fun _ _ => rfl⟩
  | n + 1, hn => by
    have ih := z_Sw.bringTo hI hB h n (by omega)
    have e2 := f_bringTo_2 σ n
    have n2 : z_n (f_bringTo σ n).1 2 = z_n σ 2 := congrFun (congrFun e2 0) 2
    have n1 : z_n (f_bringTo σ n).1 1 = z_n σ 1 := congrFun (congrFun e2 0) 1
    unfold f_bringTo
    split
    · have hb := z_Sw.bring1 (hI.bringTo n) hB ih.1 (i := n) (by rw [n2]; omega)
      exact ⟨hb.1, fun k hk => (hb.2 k (by rw [n1]; exact hk)).trans (ih.2 k hk)⟩
    · exact ih
theorem z_min (hI : z_Ok σ) (h9 : (z_now σ).toInt < 9999) (hS : z_Sm σ) : z_Sm (f_min σ).1 ∧ ∀ k, k < z_n σ 1 → f_all (f_min σ).1 k = f_all σ k + (z_sg σ k).toInt := by
  have ht := hI.t
  have hw : z_Sw σ (50 * (z_now σ).toInt) := hS
  have g := hw.gath hI (by omega)
  have n2 : z_n (f_gath σ) 2 = z_n σ 2 := congrFun (congrFun (f_gath_2 σ) 0) 2
  have n1 : z_n (f_gath σ) 1 = z_n σ 1 := congrFun (congrFun (f_gath_2 σ) 0) 1
  have hIg : z_Ok (f_gath σ) := hI.gatherTo _
  have d := g.1.bringTo hIg (by omega) (z_n (f_gath σ) 2) (Nat.le_refl _)
  have e : (z_now σ + 1).toInt = (z_now σ).toInt + 1 := fb_addI (by rw [wk_t1]; omega) (by rw [wk_t1]; omega)
  have m1 : z_n (f_min σ).1 1 = z_n σ 1 := congrFun (congrFun (f_min_2 σ) 0) 1
  refine ⟨fun k hk => ?_, fun k hk => (d.2 k (by rw [n1]; exact hk)).trans (g.2 k hk)⟩
  rw [m1] at hk
  have q := d.1 k (by rw [show z_n (f_bringTo (f_gath σ) (z_n (f_gath σ) 2)).1 1 = z_n (f_gath σ) 1 from congrFun (congrFun (f_bringTo_2 (f_gath σ) _) 0) 1, n1]; exact hk)
  have q5 := q.2.2.2.2
  unfold f_all at q5
  refine ⟨q.1, q.2.1, q.2.2.1, q.2.2.2.1, ?_⟩
  show (z_su (f_bringTo (f_gath σ) (z_n (f_gath σ) 2)).1 k).toInt + (z_sl (f_bringTo (f_gath σ) (z_n (f_gath σ) 2)).1 k).toInt + (z_sd (f_bringTo (f_gath σ) (z_n (f_gath σ) 2)).1 k).toInt ≤ 50 * (z_now σ + 1).toInt
  rw [e]
  omega
theorem z_Zr.gatherTo (h : z_Zr σ) : ∀ n, n ≤ z_n σ 1 → z_Zr (f_gatherTo σ n) := by
  intro n hn
  have e2 := f_gatherTo_2 σ n
  have n0 : z_n (f_gatherTo σ n) 0 = z_n σ 0 := congrFun (congrFun e2 0) 0
  have n1 : z_n (f_gatherTo σ n) 1 = z_n σ 1 := congrFun (congrFun e2 0) 1
  have n2 : z_n (f_gatherTo σ n) 2 = z_n σ 2 := congrFun (congrFun e2 0) 2
  refine ⟨fun k hk => ?_, fun k hk => ?_, fun k hk => ?_⟩
  · rw [n0] at hk; rw [(gT_c σ n k).2.2.2.1]; exact h.1 k hk
  · rw [n1] at hk
    have hh := gT_hi σ n k (by omega)
    rw [hh.1, hh.2, (gT_c σ n k).2.2.1]; exact h.2.1 k hk
  · rw [n2] at hk; rw [(gT_c σ n k).2.2.2.2]; exact h.2.2 k hk
theorem z_Zr.bring1 (hI : z_Ok σ) (h : z_Zr σ) {i : Nat} (hi : i < z_n σ 2) : z_Zr (f_bring1 σ i) := by
  have hp := hI.p hi
  refine ⟨fun k hk => ?_, fun k hk => ?_, fun k hk => ?_⟩
  · have hk' : z_n σ 0 ≤ k := hk
    rw [b1_ad (by omega)]; exact h.1 k hk'
  · have hk' : z_n σ 1 ≤ k := hk
    have c : ¬ k = z_pS σ i := by omega
    have a3 : z_sl (f_bring1 σ i) k = z_sl σ k := rfl
    rw [b1_su, b1_sd, if_neg c, if_neg c, a3]; exact h.2.1 k hk'
  · have hk' : z_n σ 2 ≤ k := hk
    rw [b1_pd (by omega)]; exact h.2.2 k hk'
theorem z_Zr.bringTo (hI : z_Ok σ) (h : z_Zr σ) : ∀ n, n ≤ z_n σ 2 → z_Zr (f_bringTo σ n).1
  | 0, _ => h
  | n + 1, hn => by
    have ih := z_Zr.bringTo hI h n (by omega)
    have n2 : z_n (f_bringTo σ n).1 2 = z_n σ 2 := congrFun (congrFun (f_bringTo_2 σ n) 0) 2
    unfold f_bringTo
    split
    · exact z_Zr.bring1 (hI.bringTo n) ih (by rw [n2]; omega)
    · exact ih
theorem z_Zr.min (hI : z_Ok σ) (h : z_Zr σ) : z_Zr (f_min σ).1 := by
  have hIg : z_Ok (f_gath σ) := hI.gatherTo _
  have a : z_Zr (f_gath σ) := h.gatherTo _ (Nat.le_refl _)
  have b : z_Zr (f_bringTo (f_gath σ) (z_n (f_gath σ) 2)).1 := a.bringTo hIg _ (Nat.le_refl _)
  exact b
end GAT
theorem f_bring1m (σ : z_S) (i : Nat) : s1 (s1 (s1 (s1 σ 24 (z_pS σ i) (z_su σ (z_pS σ i) - f_come σ i)) 26 (z_pS σ i) (z_sd σ (z_pS σ i) + f_come σ i)) 32 i (z_pd σ i + f_come σ i)) 13 (z_pA σ i) (z_ad σ (z_pA σ i) + f_come σ i) = f_bring1 σ i := s1_comm _ (by decide)
/-! All that was gathered, as a long. -/
def f_gsum (σ : z_S) (gt : Int64) : Nat → Int64 | 0 => gt | n + 1 => f_gsum σ gt n + (z_sg σ n).toInt64
def f_grun (σ : z_S) (gt : Int64) : Nat → Int64 | 0 => gt | n + 1 => f_gsum (f_run σ n).1 (f_grun σ gt n) (z_n (f_run σ n).1 1)
def z_Gt (σ : z_S) (gt : Int64) : Prop := gt.toInt = f_tot σ (z_n σ 1)
section GTS
variable {σ τ : z_S}
theorem f_sgsI (hI : z_Ok σ) : ∀ n, n ≤ z_n σ 1 → 0 ≤ f_sgs σ n ∧ f_sgs σ n ≤ 50 * n
  | 0, _ => ⟨Int.le_refl _, Int.le_refl _⟩
  | n + 1, hn => by
    have ih := f_sgsI hI n (by omega)
    have hs := hI.s (k := n) (by omega)
    show 0 ≤ f_sgs σ n + (z_sg σ n).toInt ∧ f_sgs σ n + (z_sg σ n).toInt ≤ 50 * ((n + 1 : Nat) : Int)
    omega
theorem f_gsumI (hI : z_Ok σ) {gt : Int64} (h0 : 0 ≤ gt.toInt) (h1 : gt.toInt ≤ 1000000000) : ∀ n, n ≤ z_n σ 1 → (f_gsum σ gt n).toInt = gt.toInt + f_sgs σ n
  | 0, _ => (Int.add_zero _).symm
  | n + 1, hn => by
    have ih := f_gsumI hI h0 h1 n (by omega)
    have hs := hI.s (k := n) (by omega)
    have hg := f_sgsI hI n (by omega)
    have h8 := hI.n1
    have e : (z_sg σ n).toInt64.toInt = (z_sg σ n).toInt := Int32.toInt_toInt64 _
    show (f_gsum σ gt n + (z_sg σ n).toInt64).toInt = gt.toInt + (f_sgs σ n + (z_sg σ n).toInt)
    rw [fb_addL (by rw [ih, e]; omega) (by rw [ih, e]; omega), ih, e]
    omega
theorem f_totI (hI : z_Ok σ) (hS : z_Sm σ) : ∀ n, n ≤ z_n σ 1 → 0 ≤ f_tot σ n ∧ f_tot σ n ≤ 499950 * n
  | 0, _ => ⟨Int.le_refl _, Int.le_refl _⟩
  | n + 1, hn => by
    have ih := f_totI hI hS n (by omega)
    have hs := hS n (by omega)
    have ht := hI.t
    show 0 ≤ f_tot σ n + ((z_su σ n).toInt + (z_sl σ n).toInt + (z_sd σ n).toInt) ∧ f_tot σ n + ((z_su σ n).toInt + (z_sl σ n).toInt + (z_sd σ n).toInt) ≤ 499950 * ((n + 1 : Nat) : Int)
    omega
theorem f_tot_add : ∀ {n : Nat}, (∀ k, k < n → f_all τ k = f_all σ k + (z_sg σ k).toInt) → f_tot τ n = f_tot σ n + f_sgs σ n
  | 0, _ => rfl
  | n + 1, h => by
    have ih := f_tot_add (n := n) (fun k hk => h k (by omega))
    have h1 := h n (Nat.lt_succ_self n)
    show f_tot τ n + f_all τ n = f_tot σ n + f_all σ n + (f_sgs σ n + (z_sg σ n).toInt)
    omega
theorem f_tot_same : ∀ {n : Nat}, (∀ k, k < n → f_all τ k = f_all σ k) → f_tot τ n = f_tot σ n
  | 0, _ => rfl
  | n + 1, h => by
    have ih := f_tot_same (n := n) (fun k hk => h k (by omega))
    have h1 := h n (Nat.lt_succ_self n)
    show f_tot τ n + f_all τ n = f_tot σ n + f_all σ n
    omega
theorem z_Gt.lim (hI : z_Ok σ) (hS : z_Sm σ) {gt : Int64} (h : z_Gt σ gt) : 0 ≤ gt.toInt ∧ gt.toInt ≤ 3999600 := by
  have h1 := f_totI hI hS (z_n σ 1) (Nat.le_refl _)
  have h8 := hI.n1
  unfold z_Gt at h
  omega
theorem z_Gt.min (hI : z_Ok σ) (h9 : (z_now σ).toInt < 9999) (hS : z_Sm σ) {gt : Int64} (h : z_Gt σ gt) : z_Gt (f_min σ).1 (f_gsum σ gt (z_n σ 1)) := by
  have hl := h.lim hI hS
  have m1 : z_n (f_min σ).1 1 = z_n σ 1 := congrFun (congrFun (f_min_2 σ) 0) 1
  unfold z_Gt at h ⊢
  rw [f_gsumI hI hl.1 (by omega) _ (Nat.le_refl _), m1, f_tot_add (z_min hI h9 hS).2, h]
end GTS
/-- what holds between two calls -/
def z_Iv (σ : z_S) (gt : Int64) : Prop := z_Ok σ ∧ z_Sm σ ∧ z_Zr σ ∧ z_Gt σ gt
theorem z_Iv.run {σ : z_S} {gt : Int64} (h : z_Iv σ gt) : ∀ {n : Nat}, (z_now σ).toInt + n ≤ 9999 → z_Iv (f_run σ n).1 (f_grun σ gt n)
  | 0, _ => h
  | n + 1, h1 => by
    have ih := h.run (n := n) (by omega)
    have ht := h.1.t
    have e : (nI n).toInt = n := nI_toInt (by omega)
    have h9 : (z_now (f_run σ n).1).toInt < 9999 := by
      rw [f_run_now, fb_addI (by omega) (by omega), e]; omega
    exact ⟨z_Ok.min ih.1 h9, (z_min ih.1 h9 ih.2.1).1, z_Zr.min ih.1 ih.2.2.1, ih.2.2.2.min ih.1 h9 ih.2.1⟩
theorem z_Iv.same {σ τ : z_S} {gt : Int64} (h : z_Iv σ gt) (hO : z_Ok τ) (h1 : τ.2 0 1 = σ.2 0 1) (hnow : z_now τ = z_now σ) (hs : ∀ k, z_su τ k = z_su σ k ∧ z_sl τ k = z_sl σ k ∧ z_sd τ k = z_sd σ k ∧ z_sm τ k = z_sm σ k) (hZ : z_Zr τ) : z_Iv τ gt := by
  have n1 : z_n τ 1 = z_n σ 1 := h1
  refine ⟨hO, fun k hk => ?_, hZ, ?_⟩
  · rw [(hs k).1, (hs k).2.1, (hs k).2.2.1, (hs k).2.2.2, hnow]
    exact h.2.1 k (by rw [← n1]; exact hk)
  · unfold z_Gt
    rw [n1, f_tot_same (σ := σ) (fun k _ => by unfold f_all; rw [(hs k).1, (hs k).2.1, (hs k).2.2.1])]
    exact h.2.2.2
section ZIV
variable {σ : z_S} {gt : Int64}
theorem z_Iv.addA (h : z_Iv σ gt) {x y z : Int32} (hn : z_n σ 0 < 5) (hv : v_ant x y z = true) : z_Iv (f_addA σ x y z) gt :=
  h.same (h.1.addA hn hv) rfl rfl (fun _ => ⟨rfl, rfl, rfl, rfl⟩) ⟨fun k hk => h.2.2.1.1 k (Nat.le_trans (Nat.le_succ _) hk), h.2.2.1.2.1, h.2.2.1.2.2⟩
theorem z_Iv.addP (h : z_Iv σ gt) {i a : Nat} {x y : Int32} (hn : z_n σ 2 < 16) (hi : i < z_n σ 1) (ha : a < z_n σ 0) (hv : v_span σ x y = true) (hl : y.toInt - x.toInt ≤ 600) : z_Iv (f_addP σ i a x y) gt :=
  h.same (h.1.addP hn hi ha hv hl) rfl rfl (fun _ => ⟨rfl, rfl, rfl, rfl⟩) ⟨h.2.2.1.1, h.2.2.1.2.1, fun k hk => h.2.2.1.2.2 k (Nat.le_trans (Nat.le_succ _) hk)⟩
theorem z_Iv.addO (h : z_Iv σ gt) {a : Nat} {x y : Int32} (hn : z_n σ 3 < 6) (ha : a < z_n σ 0) (hv : v_span σ x y = true) : z_Iv (f_addO σ a x y) gt :=
  h.same (h.1.addO hn ha hv) rfl rfl (fun _ => ⟨rfl, rfl, rfl, rfl⟩) h.2.2.1
theorem z_Iv.setHo (h : z_Iv σ gt) {v : Int32} (hv : v_in v 0 60 = true) : z_Iv (s1 σ 1 0 v) gt :=
  have hi := v_int hv
  h.same (h.1.setHo hi.1 hi.2) rfl rfl (fun _ => ⟨rfl, rfl, rfl, rfl⟩) h.2.2.1
theorem z_Iv.setMk (h : z_Iv σ gt) {mm : Nat} (hm : mm < 2 ^ z_n σ 2) : z_Iv (s2 σ 1 0 mm) gt :=
  h.same (h.1.setMk hm) rfl rfl (fun _ => ⟨rfl, rfl, rfl, rfl⟩) h.2.2.1
theorem z_Iv.give (h : z_Iv σ gt) {i : Nat} (hi : i < z_n σ 2) : z_Iv (f_give σ i) gt := h.setMk (f_give_lt h.1 hi)
theorem z_Iv.take (h : z_Iv σ gt) {w : Nat} (hw : w < 2 ^ z_n σ 2) : z_Iv (f_take σ w) gt := h.setMk (Nat.or_lt_two_pow h.1.mk hw)
theorem z_Iv.addS (h : z_Iv σ gt) {w x y z : Int32} (hn : z_n σ 1 < 8) (hv : v_sat w x y z = true) : z_Iv (f_addS σ w x y z) gt := by
  have hO := h.1.addS hn hv
  have ht := h.1.t
  have hz := h.2.2.1.2.1 (z_n σ 1) (Nat.le_refl _)
  have n1 : z_n (f_addS σ w x y z) 1 = z_n σ 1 + 1 := rfl
  have hu : ∀ k, z_su (f_addS σ w x y z) k = z_su σ k ∧ z_sl (f_addS σ w x y z) k = z_sl σ k ∧ z_sd (f_addS σ w x y z) k = z_sd σ k := fun _ => ⟨rfl, rfl, rfl⟩
  refine ⟨hO, fun k hk => ?_, ⟨h.2.2.1.1, fun k hk => h.2.2.1.2.1 k (Nat.le_trans (Nat.le_succ _) hk), h.2.2.1.2.2⟩, ?_⟩
  · rw [n1] at hk
    have hs := hO.s (k := k) (by rw [n1]; exact hk)
    rw [(hu k).1, (hu k).2.1, (hu k).2.2, show z_now (f_addS σ w x y z) = z_now σ from rfl]
    by_cases e : k = z_n σ 1
    · subst e
      rw [hz.1, hz.2.1, hz.2.2, wk_t0]
      omega
    · have h3 : z_sm (f_addS σ w x y z) k = z_sm σ k := by simp [f_addS, s1, s2, z_sm, z_n, e]
      rw [h3]
      exact h.2.1 k (by omega)
  · unfold z_Gt
    rw [n1]
    have e1 : f_tot (f_addS σ w x y z) (z_n σ 1) = f_tot σ (z_n σ 1) := f_tot_same (fun _ _ => rfl)
    have e2 : f_all (f_addS σ w x y z) (z_n σ 1) = 0 := by
      show (z_su σ (z_n σ 1)).toInt + (z_sl σ (z_n σ 1)).toInt + (z_sd σ (z_n σ 1)).toInt = 0
      rw [hz.1, hz.2.1, hz.2.2]; rfl
    have hg := h.2.2.2
    unfold z_Gt at hg
    show gt.toInt = f_tot (f_addS σ w x y z) (z_n σ 1) + f_all (f_addS σ w x y z) (z_n σ 1)
    rw [e1, e2, hg, Int.add_zero]
end ZIV
theorem z_Iv0 : z_Iv z_0 0 := ⟨z_0Ok, z_0Sm, z_0Zr, rfl⟩
