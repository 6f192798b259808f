/-! A minute, as the desk's value sees it. -/
theorem wk_fz (b : Bool) : fits .boolean (.int (wk_b b)) = true := by cases b <;> rfl
theorem z_FDb {T : Nat → Nat × Nat} {b q : Nat} (h : ∀ q, q < b → T q = (99, 0)) (hq : q < b) : ¬ z_FD T q := by
  unfold z_FD; rw [h q hq]; decide
theorem z_FMb {T : Nat → Nat × Nat} {b q : Nat} (h : ∀ q, q < b → T q = (99, 0)) (hq : q < b) : ¬ z_FM T q := by
  unfold z_FM; rw [h q hq]; decide
def f_kept (σ : z_S) (k : Nat) : Int32 := if z_sm σ k - z_su σ k < z_sg σ k then z_sm σ k - z_su σ k else z_sg σ k
def f_gather1 (σ : z_S) (k : Nat) : z_S := s1 (s1 σ 24 k (z_su σ k + f_kept σ k)) 25 k (z_sl σ k + (z_sg σ k - f_kept σ k))
def f_gatherTo (σ : z_S) : Nat → z_S | 0 => σ | k + 1 => f_gather1 (f_gatherTo σ k) k
def f_come (σ : z_S) (i : Nat) : Int32 := if z_su σ (z_pS σ i) < z_ar σ (z_pA σ i) then z_su σ (z_pS σ i) else z_ar σ (z_pA σ i)
def f_bring1 (σ : z_S) (i : Nat) : z_S := s1 (s1 (s1 (s1 σ 24 (z_pS σ i) (z_su σ (z_pS σ i) - f_come σ i)) 26 (z_pS σ i) (z_sd σ (z_pS σ i) + f_come σ i)) 13 (z_pA σ i) (z_ad σ (z_pA σ i) + f_come σ i)) 32 i (z_pd σ i + f_come σ i)
def f_brings (σ : z_S) (i : Nat) : Bool := f_heard σ i && !f_out σ (z_pA σ i) (z_now σ) (z_now σ + 1)
def f_bringTo (σ : z_S) : Nat → z_S × Int32 | 0 => (σ, 0) | k + 1 => if f_brings (f_bringTo σ k).1 k then (f_bring1 (f_bringTo σ k).1 k, (f_bringTo σ k).2 + f_come (f_bringTo σ k).1 k) else f_bringTo σ k
def f_down (σ : z_S) : z_S × Int32 := f_bringTo σ (z_n σ 2)
def f_gath (σ : z_S) : z_S := f_gatherTo σ (z_n σ 1)
def f_min (σ : z_S) : z_S × Int32 := (s1 (f_down (f_gath σ)).1 0 0 (z_now σ + 1), (f_down (f_gath σ)).2)
def f_run (σ : z_S) : Nat → z_S × Int32 | 0 => (σ, 0) | n + 1 => ((f_min (f_run σ n).1).1, (f_run σ n).2 + (f_min (f_run σ n).1).2)
section ZOKS
variable {σ : z_S} {k : Nat} {v : Int32}
theorem z_Ok.s13 (h : z_Ok σ) : z_Ok (s1 σ 13 k v) := h
theorem z_Ok.s24 (h : z_Ok σ) : z_Ok (s1 σ 24 k v) := h
theorem z_Ok.s25 (h : z_Ok σ) : z_Ok (s1 σ 25 k v) := h
theorem z_Ok.s26 (h : z_Ok σ) : z_Ok (s1 σ 26 k v) := h
theorem z_Ok.s32 (h : z_Ok σ) : z_Ok (s1 σ 32 k v) := h
theorem z_Ok.gather1 (h : z_Ok σ) : z_Ok (f_gather1 σ k) := h
theorem z_Ok.bring1 (h : z_Ok σ) : z_Ok (f_bring1 σ k) := h
end ZOKS
theorem z_Ok.gatherTo {σ : z_S} (h : z_Ok σ) : ∀ k, z_Ok (f_gatherTo σ k)
  | 0 => h
  | k + 1 => z_Ok.gather1 (h.gatherTo k)
theorem f_gatherTo_2 (σ : z_S) : ∀ k, (f_gatherTo σ k).2 = σ.2
  | 0 => rfl
  | k + 1 => by show (f_gatherTo σ k).2 = σ.2; exact f_gatherTo_2 σ k
theorem f_gatherTo_now (σ : z_S) : ∀ k, z_now (f_gatherTo σ k) = z_now σ
  | 0 => rfl
  | k + 1 => by show z_now (f_gatherTo σ k) = z_now σ; exact f_gatherTo_now σ k
theorem z_Ok.bringTo {σ : z_S} (h : z_Ok σ) : ∀ k, z_Ok (f_bringTo σ k).1
  | 0 => h
  | k + 1 => by
    unfold f_bringTo
    split
    · exact z_Ok.bring1 (h.bringTo k)
    · exact h.bringTo k
theorem f_bringTo_2 (σ : z_S) : ∀ k, (f_bringTo σ k).1.2 = σ.2
  | 0 => rfl
  | k + 1 => by
    unfold f_bringTo
    split
    · show (f_bringTo σ k).1.2 = σ.2; exact f_bringTo_2 σ k
    · exact f_bringTo_2 σ k
theorem f_bringTo_now (σ : z_S) : ∀ k, z_now (f_bringTo σ k).1 = z_now σ
  | 0 => rfl
  | k + 1 => by
    unfold f_bringTo
    split
    · show z_now (f_bringTo σ k).1 = z_now σ; exact f_bringTo_now σ k
    · exact f_bringTo_now σ k
theorem z_Ok.setNow {σ : z_S} (h : z_Ok σ) {v : Int32} (h0 : 0 ≤ v.toInt) (h1 : v.toInt ≤ 9999) : z_Ok (s1 σ 0 0 v) := ⟨h.1, h.2.1, h.2.2.1, h.2.2.2.1, h.2.2.2.2.1, ⟨h0, h1, h.2.2.2.2.2.1.2.2.1, h.2.2.2.2.2.1.2.2.2⟩, h.2.2.2.2.2.2⟩
theorem z_Ok.setHo {σ : z_S} (h : z_Ok σ) {v : Int32} (h0 : 0 ≤ v.toInt) (h1 : v.toInt ≤ 60) : z_Ok (s1 σ 1 0 v) := ⟨h.1, h.2.1, h.2.2.1, h.2.2.2.1, h.2.2.2.2.1, ⟨h.2.2.2.2.2.1.1, h.2.2.2.2.2.1.2.1, h0, h1⟩, h.2.2.2.2.2.2⟩
theorem z_Ok.setMk {σ : z_S} (h : z_Ok σ) {mm : Nat} (hm : mm < 2 ^ z_n σ 2) : z_Ok (s2 σ 1 0 mm) := ⟨h.1, h.2.1, h.2.2.1, h.2.2.2.1, h.2.2.2.2.1, h.2.2.2.2.2.1, hm⟩
theorem f_gath_2 (σ : z_S) : (f_gath σ).2 = σ.2 := f_gatherTo_2 σ _
theorem f_down_2 (σ : z_S) : (f_down σ).1.2 = σ.2 := f_bringTo_2 σ _
theorem f_min_2 (σ : z_S) : (f_min σ).1.2 = σ.2 := by show (f_down (f_gath σ)).1.2 = σ.2; rw [f_down_2, f_gath_2]
theorem f_min_now (σ : z_S) : z_now (f_min σ).1 = z_now σ + 1 := rfl
theorem f_run_2 (σ : z_S) : ∀ n, (f_run σ n).1.2 = σ.2
  | 0 => rfl
  | n + 1 => by show (f_min (f_run σ n).1).1.2 = σ.2; rw [f_min_2, f_run_2 σ n]
theorem f_run_now (σ : z_S) : ∀ n, z_now (f_run σ n).1 = z_now σ + nI n
  | 0 => by show z_now σ = z_now σ + nI 0; rw [nI_0, Int32.add_zero]
  | n + 1 => by show z_now (f_min (f_run σ n).1).1 = _; rw [f_min_now, f_run_now σ n, Int32.add_assoc, nI_1]
theorem z_Ok.min {σ : z_S} (h : z_Ok σ) (h1 : (z_now σ).toInt < 9999) : z_Ok (f_min σ).1 := by
  have ht := h.t
  have e : (z_now σ + 1).toInt = (z_now σ).toInt + 1 := fb_addI (by rw [wk_t1]; omega) (by rw [wk_t1]; omega)
  exact z_Ok.setNow ((h.gatherTo _).bringTo _) (by rw [e]; omega) (by rw [e]; omega)
theorem z_Ok.run {σ : z_S} (h : z_Ok σ) : ∀ {n : Nat}, (z_now σ).toInt + n ≤ 9999 → z_Ok (f_run σ n).1
  | 0, _ => h
  | n + 1, h1 => by
    have ht := h.t
    have ih := z_Ok.run h (n := n) (by omega)
    refine z_Ok.min ih ?_
    rw [f_run_now]
    have e : (nI n).toInt = n := nI_toInt (by omega)
    rw [fb_addI (by omega) (by omega), e]
    omega
