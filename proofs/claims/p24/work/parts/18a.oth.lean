/-! What doesn't change when a thing comes. -/
section ZOTH
variable {E : wk_E} {X : z_X} {σ : z_S} {o q cap : Nat} {mo : Int32}
theorem z_othA (hI : z_Ok σ) {x y z : Int32} : ∀ i k : Nat, ¬ (i = 5 + 0 ∧ k = z_n σ 0) → ¬ (i = 1 ∧ k = 0) → ¬ (i = 2 ∧ k = 0) → z_cell E (z_Xadd X 0 (z_n σ 0) o q mo cap) (f_addA σ x y z) i k = z_cell E X σ i k := by
  intro i k c1 c2 c3
  match i with
  | 0 => simp [z_cell, z_Xadd, f_addA, s1, s2, z_n, z_now, z_ho, z_ab, z_au, z_ar, z_ad, z_sb, z_sp, z_sg, z_sm, z_su, z_sl, z_sd, z_pb, z_pe, z_pd, z_of, z_ot, z_mk, z_pS, z_pA, z_oA, z_tk]
  | 1 =>
    have h9 : ¬ k = 0 := fun z => c2 ⟨rfl, z⟩
    simp [z_cell, z_Xadd, f_addA, s1, s2, z_n, z_now, z_ho, z_ab, z_au, z_ar, z_ad, z_sb, z_sp, z_sg, z_sm, z_su, z_sl, z_sd, z_pb, z_pe, z_pd, z_of, z_ot, z_mk, z_pS, z_pA, z_oA, z_tk, h9]
  | 2 =>
    have h9 : ¬ k = 0 := fun z => c3 ⟨rfl, z⟩
    have h8 : ¬ 5 + k = 5 := by omega
    have h7 : ¬ 5 + k = 2 := by omega
    simp [z_cell, z_Xadd, f_addA, s1, s2, z_n, z_now, z_ho, z_ab, z_au, z_ar, z_ad, z_sb, z_sp, z_sg, z_sm, z_su, z_sl, z_sd, z_pb, z_pe, z_pd, z_of, z_ot, z_mk, z_pS, z_pA, z_oA, z_tk, h9, h8, h7]
  | 3 => simp [z_cell, z_Xadd, f_addA, s1, s2, z_n, z_now, z_ho, z_ab, z_au, z_ar, z_ad, z_sb, z_sp, z_sg, z_sm, z_su, z_sl, z_sd, z_pb, z_pe, z_pd, z_of, z_ot, z_mk, z_pS, z_pA, z_oA, z_tk]
  | 4 => simp [z_cell, z_Xadd, f_addA, s1, s2, z_n, z_now, z_ho, z_ab, z_au, z_ar, z_ad, z_sb, z_sp, z_sg, z_sm, z_su, z_sl, z_sd, z_pb, z_pe, z_pd, z_of, z_ot, z_mk, z_pS, z_pA, z_oA, z_tk]
  | 5 =>
    have h9 : ¬ k = z_n σ 0 := fun z => c1 ⟨rfl, z⟩
    simp only [z_n] at h9
    by_cases hk : k < σ.2 0 0
    · simp [z_cell, z_Xadd, f_addA, s1, s2, z_n, z_now, z_ho, z_ab, z_au, z_ar, z_ad, z_sb, z_sp, z_sg, z_sm, z_su, z_sl, z_sd, z_pb, z_pe, z_pd, z_of, z_ot, z_mk, z_pS, z_pA, z_oA, z_tk, h9, hk, Nat.lt_succ_of_lt hk]
    · have hk2 : ¬ k < σ.2 0 0 + 1 := by omega
      simp [z_cell, z_Xadd, f_addA, s1, s2, z_n, z_now, z_ho, z_ab, z_au, z_ar, z_ad, z_sb, z_sp, z_sg, z_sm, z_su, z_sl, z_sd, z_pb, z_pe, z_pd, z_of, z_ot, z_mk, z_pS, z_pA, z_oA, z_tk, h9, hk, hk2]
  | 6 => simp [z_cell, z_Xadd, f_addA, s1, s2, z_n, z_now, z_ho, z_ab, z_au, z_ar, z_ad, z_sb, z_sp, z_sg, z_sm, z_su, z_sl, z_sd, z_pb, z_pe, z_pd, z_of, z_ot, z_mk, z_pS, z_pA, z_oA, z_tk]
  | 7 =>
    by_cases hk : k < σ.2 0 2
    · have h8 := Nat.ne_of_lt ((hI.p hk).2.1)
      simp only [z_n, z_pA, z_pS, z_oA] at h8
      simp [z_cell, z_Xadd, f_addA, s1, s2, z_n, z_now, z_ho, z_ab, z_au, z_ar, z_ad, z_sb, z_sp, z_sg, z_sm, z_su, z_sl, z_sd, z_pb, z_pe, z_pd, z_of, z_ot, z_mk, z_pS, z_pA, z_oA, z_tk, hk, h8]
    · simp [z_cell, z_Xadd, f_addA, s1, s2, z_n, z_now, z_ho, z_ab, z_au, z_ar, z_ad, z_sb, z_sp, z_sg, z_sm, z_su, z_sl, z_sd, z_pb, z_pe, z_pd, z_of, z_ot, z_mk, z_pS, z_pA, z_oA, z_tk, hk]
  | 8 =>
    by_cases hk : k < σ.2 0 3
    · have h8 := Nat.ne_of_lt ((hI.o hk).1)
      simp only [z_n, z_pA, z_pS, z_oA] at h8
      simp [z_cell, z_Xadd, f_addA, s1, s2, z_n, z_now, z_ho, z_ab, z_au, z_ar, z_ad, z_sb, z_sp, z_sg, z_sm, z_su, z_sl, z_sd, z_pb, z_pe, z_pd, z_of, z_ot, z_mk, z_pS, z_pA, z_oA, z_tk, hk, h8]
    · simp [z_cell, z_Xadd, f_addA, s1, s2, z_n, z_now, z_ho, z_ab, z_au, z_ar, z_ad, z_sb, z_sp, z_sg, z_sm, z_su, z_sl, z_sd, z_pb, z_pe, z_pd, z_of, z_ot, z_mk, z_pS, z_pA, z_oA, z_tk, hk]
  | i' + 9 => rfl
theorem z_othS (hI : z_Ok σ) {w x y z : Int32} : ∀ i k : Nat, ¬ (i = 5 + 1 ∧ k = z_n σ 1) → ¬ (i = 1 ∧ k = 1) → ¬ (i = 2 ∧ k = 1) → z_cell E (z_Xadd X 1 (z_n σ 1) o q mo cap) (f_addS σ w x y z) i k = z_cell E X σ i k := by
  intro i k c1 c2 c3
  match i with
  | 0 => simp [z_cell, z_Xadd, f_addS, s1, s2, z_n, z_now, z_ho, z_ab, z_au, z_ar, z_ad, z_sb, z_sp, z_sg, z_sm, z_su, z_sl, z_sd, z_pb, z_pe, z_pd, z_of, z_ot, z_mk, z_pS, z_pA, z_oA, z_tk]
  | 1 =>
    have h9 : ¬ k = 1 := fun z => c2 ⟨rfl, z⟩
    simp [z_cell, z_Xadd, f_addS, s1, s2, z_n, z_now, z_ho, z_ab, z_au, z_ar, z_ad, z_sb, z_sp, z_sg, z_sm, z_su, z_sl, z_sd, z_pb, z_pe, z_pd, z_of, z_ot, z_mk, z_pS, z_pA, z_oA, z_tk, h9]
  | 2 =>
    have h9 : ¬ k = 1 := fun z => c3 ⟨rfl, z⟩
    have h8 : ¬ 5 + k = 6 := by omega
    have h7 : ¬ 5 + k = 2 := by omega
    simp [z_cell, z_Xadd, f_addS, s1, s2, z_n, z_now, z_ho, z_ab, z_au, z_ar, z_ad, z_sb, z_sp, z_sg, z_sm, z_su, z_sl, z_sd, z_pb, z_pe, z_pd, z_of, z_ot, z_mk, z_pS, z_pA, z_oA, z_tk, h9, h8, h7]
  | 3 => simp [z_cell, z_Xadd, f_addS, s1, s2, z_n, z_now, z_ho, z_ab, z_au, z_ar, z_ad, z_sb, z_sp, z_sg, z_sm, z_su, z_sl, z_sd, z_pb, z_pe, z_pd, z_of, z_ot, z_mk, z_pS, z_pA, z_oA, z_tk]
  | 4 => simp [z_cell, z_Xadd, f_addS, s1, s2, z_n, z_now, z_ho, z_ab, z_au, z_ar, z_ad, z_sb, z_sp, z_sg, z_sm, z_su, z_sl, z_sd, z_pb, z_pe, z_pd, z_of, z_ot, z_mk, z_pS, z_pA, z_oA, z_tk]
  | 5 => simp [z_cell, z_Xadd, f_addS, s1, s2, z_n, z_now, z_ho, z_ab, z_au, z_ar, z_ad, z_sb, z_sp, z_sg, z_sm, z_su, z_sl, z_sd, z_pb, z_pe, z_pd, z_of, z_ot, z_mk, z_pS, z_pA, z_oA, z_tk]
  | 6 =>
    have h9 : ¬ k = z_n σ 1 := fun z => c1 ⟨rfl, z⟩
    simp only [z_n] at h9
    by_cases hk : k < σ.2 0 1
    · simp [z_cell, z_Xadd, f_addS, s1, s2, z_n, z_now, z_ho, z_ab, z_au, z_ar, z_ad, z_sb, z_sp, z_sg, z_sm, z_su, z_sl, z_sd, z_pb, z_pe, z_pd, z_of, z_ot, z_mk, z_pS, z_pA, z_oA, z_tk, h9, hk, Nat.lt_succ_of_lt hk]
    · have hk2 : ¬ k < σ.2 0 1 + 1 := by omega
      simp [z_cell, z_Xadd, f_addS, s1, s2, z_n, z_now, z_ho, z_ab, z_au, z_ar, z_ad, z_sb, z_sp, z_sg, z_sm, z_su, z_sl, z_sd, z_pb, z_pe, z_pd, z_of, z_ot, z_mk, z_pS, z_pA, z_oA, z_tk, h9, hk, hk2]
  | 7 =>
    by_cases hk : k < σ.2 0 2
    · have h8 := Nat.ne_of_lt ((hI.p hk).1)
      simp only [z_n, z_pA, z_pS, z_oA] at h8
      simp [z_cell, z_Xadd, f_addS, s1, s2, z_n, z_now, z_ho, z_ab, z_au, z_ar, z_ad, z_sb, z_sp, z_sg, z_sm, z_su, z_sl, z_sd, z_pb, z_pe, z_pd, z_of, z_ot, z_mk, z_pS, z_pA, z_oA, z_tk, hk, h8]
    · simp [z_cell, z_Xadd, f_addS, s1, s2, z_n, z_now, z_ho, z_ab, z_au, z_ar, z_ad, z_sb, z_sp, z_sg, z_sm, z_su, z_sl, z_sd, z_pb, z_pe, z_pd, z_of, z_ot, z_mk, z_pS, z_pA, z_oA, z_tk, hk]
  | 8 => simp [z_cell, z_Xadd, f_addS, s1, s2, z_n, z_now, z_ho, z_ab, z_au, z_ar, z_ad, z_sb, z_sp, z_sg, z_sm, z_su, z_sl, z_sd, z_pb, z_pe, z_pd, z_of, z_ot, z_mk, z_pS, z_pA, z_oA, z_tk]
  | i' + 9 => rfl
theorem z_othP (hI : z_Ok σ) {i9 a9 : Nat} {x y : Int32} : ∀ i k : Nat, ¬ (i = 5 + 2 ∧ k = z_n σ 2) → ¬ (i = 1 ∧ k = 2) → ¬ (i = 2 ∧ k = 2) → z_cell E (z_Xadd X 2 (z_n σ 2) o q mo cap) (f_addP σ i9 a9 x y) i k = z_cell E X σ i k := by
  intro i k c1 c2 c3
  match i with
  | 0 => simp [z_cell, z_Xadd, f_addP, s1, s2, z_n, z_now, z_ho, z_ab, z_au, z_ar, z_ad, z_sb, z_sp, z_sg, z_sm, z_su, z_sl, z_sd, z_pb, z_pe, z_pd, z_of, z_ot, z_mk, z_pS, z_pA, z_oA, z_tk]
  | 1 =>
    have h9 : ¬ k = 2 := fun z => c2 ⟨rfl, z⟩
    simp [z_cell, z_Xadd, f_addP, s1, s2, z_n, z_now, z_ho, z_ab, z_au, z_ar, z_ad, z_sb, z_sp, z_sg, z_sm, z_su, z_sl, z_sd, z_pb, z_pe, z_pd, z_of, z_ot, z_mk, z_pS, z_pA, z_oA, z_tk, h9]
  | 2 =>
    have h9 : ¬ k = 2 := fun z => c3 ⟨rfl, z⟩
    have h8 : ¬ 5 + k = 7 := by omega
    have h7 : ¬ 5 + k = 2 := by omega
    simp [z_cell, z_Xadd, f_addP, s1, s2, z_n, z_now, z_ho, z_ab, z_au, z_ar, z_ad, z_sb, z_sp, z_sg, z_sm, z_su, z_sl, z_sd, z_pb, z_pe, z_pd, z_of, z_ot, z_mk, z_pS, z_pA, z_oA, z_tk, h9, h8, h7]
  | 3 => simp [z_cell, z_Xadd, f_addP, s1, s2, z_n, z_now, z_ho, z_ab, z_au, z_ar, z_ad, z_sb, z_sp, z_sg, z_sm, z_su, z_sl, z_sd, z_pb, z_pe, z_pd, z_of, z_ot, z_mk, z_pS, z_pA, z_oA, z_tk]
  | 4 => simp [z_cell, z_Xadd, f_addP, s1, s2, z_n, z_now, z_ho, z_ab, z_au, z_ar, z_ad, z_sb, z_sp, z_sg, z_sm, z_su, z_sl, z_sd, z_pb, z_pe, z_pd, z_of, z_ot, z_mk, z_pS, z_pA, z_oA, z_tk]
  | 5 => simp [z_cell, z_Xadd, f_addP, s1, s2, z_n, z_now, z_ho, z_ab, z_au, z_ar, z_ad, z_sb, z_sp, z_sg, z_sm, z_su, z_sl, z_sd, z_pb, z_pe, z_pd, z_of, z_ot, z_mk, z_pS, z_pA, z_oA, z_tk]
  | 6 => simp [z_cell, z_Xadd, f_addP, s1, s2, z_n, z_now, z_ho, z_ab, z_au, z_ar, z_ad, z_sb, z_sp, z_sg, z_sm, z_su, z_sl, z_sd, z_pb, z_pe, z_pd, z_of, z_ot, z_mk, z_pS, z_pA, z_oA, z_tk]
  | 7 =>
    have h9 : ¬ k = z_n σ 2 := fun z => c1 ⟨rfl, z⟩
    simp only [z_n] at h9
    by_cases hk : k < σ.2 0 2
    · simp [z_cell, z_Xadd, f_addP, s1, s2, z_n, z_now, z_ho, z_ab, z_au, z_ar, z_ad, z_sb, z_sp, z_sg, z_sm, z_su, z_sl, z_sd, z_pb, z_pe, z_pd, z_of, z_ot, z_mk, z_pS, z_pA, z_oA, z_tk, h9, hk, Nat.lt_succ_of_lt hk]
    · have hk2 : ¬ k < σ.2 0 2 + 1 := by omega
      simp [z_cell, z_Xadd, f_addP, s1, s2, z_n, z_now, z_ho, z_ab, z_au, z_ar, z_ad, z_sb, z_sp, z_sg, z_sm, z_su, z_sl, z_sd, z_pb, z_pe, z_pd, z_of, z_ot, z_mk, z_pS, z_pA, z_oA, z_tk, h9, hk, hk2]
  | 8 => simp [z_cell, z_Xadd, f_addP, s1, s2, z_n, z_now, z_ho, z_ab, z_au, z_ar, z_ad, z_sb, z_sp, z_sg, z_sm, z_su, z_sl, z_sd, z_pb, z_pe, z_pd, z_of, z_ot, z_mk, z_pS, z_pA, z_oA, z_tk]
  | i' + 9 => rfl
theorem z_othO (hI : z_Ok σ) {a9 : Nat} {x y : Int32} : ∀ i k : Nat, ¬ (i = 5 + 3 ∧ k = z_n σ 3) → ¬ (i = 1 ∧ k = 3) → ¬ (i = 2 ∧ k = 3) → z_cell E (z_Xadd X 3 (z_n σ 3) o q mo cap) (f_addO σ a9 x y) i k = z_cell E X σ i k := by
  intro i k c1 c2 c3
  match i with
  | 0 => simp [z_cell, z_Xadd, f_addO, s1, s2, z_n, z_now, z_ho, z_ab, z_au, z_ar, z_ad, z_sb, z_sp, z_sg, z_sm, z_su, z_sl, z_sd, z_pb, z_pe, z_pd, z_of, z_ot, z_mk, z_pS, z_pA, z_oA, z_tk]
  | 1 =>
    have h9 : ¬ k = 3 := fun z => c2 ⟨rfl, z⟩
    simp [z_cell, z_Xadd, f_addO, s1, s2, z_n, z_now, z_ho, z_ab, z_au, z_ar, z_ad, z_sb, z_sp, z_sg, z_sm, z_su, z_sl, z_sd, z_pb, z_pe, z_pd, z_of, z_ot, z_mk, z_pS, z_pA, z_oA, z_tk, h9]
  | 2 =>
    have h9 : ¬ k = 3 := fun z => c3 ⟨rfl, z⟩
    have h8 : ¬ 5 + k = 8 := by omega
    have h7 : ¬ 5 + k = 2 := by omega
    simp [z_cell, z_Xadd, f_addO, s1, s2, z_n, z_now, z_ho, z_ab, z_au, z_ar, z_ad, z_sb, z_sp, z_sg, z_sm, z_su, z_sl, z_sd, z_pb, z_pe, z_pd, z_of, z_ot, z_mk, z_pS, z_pA, z_oA, z_tk, h9, h8, h7]
  | 3 => simp [z_cell, z_Xadd, f_addO, s1, s2, z_n, z_now, z_ho, z_ab, z_au, z_ar, z_ad, z_sb, z_sp, z_sg, z_sm, z_su, z_sl, z_sd, z_pb, z_pe, z_pd, z_of, z_ot, z_mk, z_pS, z_pA, z_oA, z_tk]
  | 4 => simp [z_cell, z_Xadd, f_addO, s1, s2, z_n, z_now, z_ho, z_ab, z_au, z_ar, z_ad, z_sb, z_sp, z_sg, z_sm, z_su, z_sl, z_sd, z_pb, z_pe, z_pd, z_of, z_ot, z_mk, z_pS, z_pA, z_oA, z_tk]
  | 5 => simp [z_cell, z_Xadd, f_addO, s1, s2, z_n, z_now, z_ho, z_ab, z_au, z_ar, z_ad, z_sb, z_sp, z_sg, z_sm, z_su, z_sl, z_sd, z_pb, z_pe, z_pd, z_of, z_ot, z_mk, z_pS, z_pA, z_oA, z_tk]
  | 6 => simp [z_cell, z_Xadd, f_addO, s1, s2, z_n, z_now, z_ho, z_ab, z_au, z_ar, z_ad, z_sb, z_sp, z_sg, z_sm, z_su, z_sl, z_sd, z_pb, z_pe, z_pd, z_of, z_ot, z_mk, z_pS, z_pA, z_oA, z_tk]
  | 7 => simp [z_cell, z_Xadd, f_addO, s1, s2, z_n, z_now, z_ho, z_ab, z_au, z_ar, z_ad, z_sb, z_sp, z_sg, z_sm, z_su, z_sl, z_sd, z_pb, z_pe, z_pd, z_of, z_ot, z_mk, z_pS, z_pA, z_oA, z_tk]
  | 8 =>
    have h9 : ¬ k = z_n σ 3 := fun z => c1 ⟨rfl, z⟩
    simp only [z_n] at h9
    by_cases hk : k < σ.2 0 3
    · simp [z_cell, z_Xadd, f_addO, s1, s2, z_n, z_now, z_ho, z_ab, z_au, z_ar, z_ad, z_sb, z_sp, z_sg, z_sm, z_su, z_sl, z_sd, z_pb, z_pe, z_pd, z_of, z_ot, z_mk, z_pS, z_pA, z_oA, z_tk, h9, hk, Nat.lt_succ_of_lt hk]
    · have hk2 : ¬ k < σ.2 0 3 + 1 := by omega
      simp [z_cell, z_Xadd, f_addO, s1, s2, z_n, z_now, z_ho, z_ab, z_au, z_ar, z_ad, z_sb, z_sp, z_sg, z_sm, z_su, z_sl, z_sd, z_pb, z_pe, z_pd, z_of, z_ot, z_mk, z_pS, z_pA, z_oA, z_tk, h9, hk, hk2]
  | i' + 9 => rfl
end ZOTH
