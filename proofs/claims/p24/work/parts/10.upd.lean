/-! Writing: one cell of a world changes; a cell comes. -/
theorem z_wd.upd {D : va_G} {T : Nat → Nat × Nat} {c c' : z_M} {H H1 : Heap} {i k a : Nat} {e0 e : va_E} (h : z_wd D T c H) (hc : c i k = some (a, e0)) (hc' : c' i k = some (a, e)) (he : va_at D vwCl (a, e) H1) (hk : ∀ q : Nat, q ≠ a → H1[q]? = H[q]?) (ho : ∀ i' k' : Nat, ¬ (i' = i ∧ k' = k) → c' i' k' = c i' k') : z_wd D T c' H1 := by
  intro i' k' ae hae
  by_cases hq : i' = i ∧ k' = k
  · obtain ⟨rfl, rfl⟩ := hq
    cases hc'.symm.trans hae
    exact ⟨(h _ _ _ hc).1, he⟩
  · rw [ho i' k' hq] at hae
    obtain ⟨h1, h2⟩ := h i' k' ae hae
    refine ⟨h1, h2.kept (hk _ fun z => hq ?_)⟩
    have h3 := (h _ _ _ hc).1
    rw [z] at h1
    exact Prod.mk.inj (h1.symm.trans h3)
theorem z_wd.kept {D : va_G} {T : Nat → Nat × Nat} {c : z_M} {H H1 : Heap} (h : z_wd D T c H) (hk : ∀ (i k : Nat) (ae : Nat × va_E), c i k = some ae → H1[ae.1]? = H[ae.1]?) : z_wd D T c H1 := fun i k ae hae => ⟨(h i k ae hae).1, (h i k ae hae).2.kept (hk i k ae hae)⟩
theorem z_wd.lt {D : va_G} {T : Nat → Nat × Nat} {c : z_M} {H : Heap} (h : z_wd D T c H) {i k : Nat} {ae : Nat × va_E} (hc : c i k = some ae) : ae.1 < H.size := (h i k ae hc).2.lt
/-- numbers and places written -/
def s1 (σ : z_S) (f k : Nat) (v : Int32) : z_S := (fun f' k' => if f' = f ∧ k' = k then v else σ.1 f' k', σ.2)
def s2 (σ : z_S) (f k : Nat) (v : Nat) : z_S := (σ.1, fun f' k' => if f' = f ∧ k' = k then v else σ.2 f' k')
/-- the desk's tags, the reference's -/
def z_FD (T : Nat → Nat × Nat) : Nat → Prop := fun q => (T q).1 < 9
def z_FM (T : Nat → Nat × Nat) : Nat → Prop := fun q => (T q).1 = 10 ∨ (T q).1 = 11
theorem z_cell_lt {E : wk_E} {X : z_X} {σ : z_S} {i k : Nat} {ae : Nat × va_E} (h : z_cell E X σ i k = some ae) : i < 9 := by
  rcases Nat.lt_or_ge i 9 with q | q
  · exact q
  · obtain ⟨j, rfl⟩ : ∃ j, i = 9 + j := ⟨i - 9, by omega⟩
    have : z_cell E X σ (9 + j) k = none := by
      rw [show 9 + j = (j + 8) + 1 by omega]; rfl
    rw [this] at h; cases h
section ZUP
variable {E : wk_E} {T : Nat → Nat × Nat} {X : z_X} {σ : z_S} {H H1 : Heap}
theorem DA.tag (h : DA E T X σ H) {i k : Nat} {ae : Nat × va_E} (hc : z_cell E X σ i k = some ae) : z_FD T ae.1 := by
  unfold z_FD
  rw [(h.1 i k ae hc).1]
  exact z_cell_lt hc
theorem DA.kept (h : DA E T X σ H) (hk : ∀ q : Nat, q < H.size → z_FD T q → H1[q]? = H[q]?) : DA E T X σ H1 := ⟨h.1.kept fun i k ae hc => hk _ (h.1.lt hc) (h.tag hc), h.2⟩
theorem DA.retag {T' : Nat → Nat × Nat} (h : DA E T X σ H) (hb : E.2.2.1 ≤ H.size) (hT : ∀ q, q < H.size → T' q = T q) : DA E T' X σ H :=
  ⟨fun i k ae hc => ⟨by rw [hT _ (h.1.lt hc)]; exact (h.1 i k ae hc).1, (h.1 i k ae hc).2⟩, fun q hq => by rw [hT q (Nat.lt_of_lt_of_le hq hb)]; exact h.2.1 q hq, h.2.2⟩
/-- one cell of the desk is written -/
theorem DA.updw {X' : z_X} {σ' : z_S} {i k a : Nat} {e0 e : va_E} (h : DA E T X σ H) (hc : z_cell E X σ i k = some (a, e0)) (hc' : z_cell E X' σ' i k = some (a, e)) (he : va_at E.1 vwCl (a, e) H1) (hk : ∀ q : Nat, q ≠ a → H1[q]? = H[q]?) (ho : ∀ i' k' : Nat, ¬ (i' = i ∧ k' = k) → z_cell E X' σ' i' k' = z_cell E X σ i' k') (hn : ∀ j, z_n σ' j = z_n σ j) (hX : X'.1 = X.1 ∧ X'.2.2 = X.2.2) : DA E T X' σ' H1 :=
  ⟨h.1.upd hc hc' he hk ho, h.2.1, fun j hj => by rw [hn, hX.1, hX.2]; exact h.2.2 j hj⟩
theorem DA.setHo (h : DA E T X σ H) {v : Int32} (he : va_at E.1 vwCl (X.1 0 0, .inr (6, [.ref (X.1 1 0), .ref (X.1 1 1), .ref (X.1 1 2), .ref (X.1 1 3), .ref (X.1 3 0), .int (z_now σ), .int v])) H1) (hk : ∀ q : Nat, q ≠ X.1 0 0 → H1[q]? = H[q]?) : DA E T X (s1 σ 1 0 v) H1 := by
  refine h.updw (i := 0) (k := 0) rfl rfl he hk (fun i' k' hq => ?_) (fun j => rfl) ⟨rfl, rfl⟩
  match i' with
  | 0 => have h9 : ¬ k' = 0 := fun z => hq ⟨rfl, z⟩
         simp [z_cell, s1, z_n, z_now, z_ho, z_ab, z_au, z_ar, z_ad, z_sb, z_sp, z_sg, z_sm, z_su, z_sl, z_sd, z_pb, z_pe, z_pd, z_of, z_ot, z_mk, z_pS, z_pA, z_oA, z_tk, h9]
  | 1 | 2 | 3 | 4 | 5 | 6 | 7 | 8 => first | rfl | simp [z_cell, s1, z_n, z_now, z_ho, z_ab, z_au, z_ar, z_ad, z_sb, z_sp, z_sg, z_sm, z_su, z_sl, z_sd, z_pb, z_pe, z_pd, z_of, z_ot, z_mk, z_pS, z_pA, z_oA, z_tk]
  | i' + 9 => rfl
theorem DA.setNow (h : DA E T X σ H) {v : Int32} (he : va_at E.1 vwCl (X.1 0 0, .inr (6, [.ref (X.1 1 0), .ref (X.1 1 1), .ref (X.1 1 2), .ref (X.1 1 3), .ref (X.1 3 0), .int v, .int (z_ho σ)])) H1) (hk : ∀ q : Nat, q ≠ X.1 0 0 → H1[q]? = H[q]?) : DA E T X (s1 σ 0 0 v) H1 := by
  refine h.updw (i := 0) (k := 0) rfl rfl he hk (fun i' k' hq => ?_) (fun j => rfl) ⟨rfl, rfl⟩
  match i' with
  | 0 => have h9 : ¬ k' = 0 := fun z => hq ⟨rfl, z⟩
         simp [z_cell, s1, z_n, z_now, z_ho, z_ab, z_au, z_ar, z_ad, z_sb, z_sp, z_sg, z_sm, z_su, z_sl, z_sd, z_pb, z_pe, z_pd, z_of, z_ot, z_mk, z_pS, z_pA, z_oA, z_tk, h9]
  | 1 | 2 | 3 | 4 | 5 | 6 | 7 | 8 => first | rfl | simp [z_cell, s1, z_n, z_now, z_ho, z_ab, z_au, z_ar, z_ad, z_sb, z_sp, z_sg, z_sm, z_su, z_sl, z_sd, z_pb, z_pe, z_pd, z_of, z_ot, z_mk, z_pS, z_pA, z_oA, z_tk]
  | i' + 9 => rfl
theorem DA.setAd (h : DA E T X σ H) {j : Nat} (hj : j < z_n σ 0) {v : Int32} (he : va_at E.1 vwCl (X.1 5 j, .inr (1, [.int (nI j), .int (z_ab σ j), .int (z_au σ j), .int (z_ar σ j), .int v])) H1) (hk : ∀ q : Nat, q ≠ X.1 5 j → H1[q]? = H[q]?) : DA E T X (s1 σ 13 j v) H1 := by
  refine h.updw (i := 5) (k := j) (if_pos hj) (by show (if j < z_n σ 0 then _ else _) = _; rw [if_pos hj]; simp [s1, z_n, z_now, z_ho, z_ab, z_au, z_ar, z_ad, z_sb, z_sp, z_sg, z_sm, z_su, z_sl, z_sd, z_pb, z_pe, z_pd, z_of, z_ot, z_mk, z_pS, z_pA, z_oA, z_tk]) he hk (fun i' k' hq => ?_) (fun j => rfl) ⟨rfl, rfl⟩
  match i' with
  | 5 => have h9 : ¬ k' = j := fun z => hq ⟨rfl, z⟩
         simp [z_cell, s1, z_n, z_now, z_ho, z_ab, z_au, z_ar, z_ad, z_sb, z_sp, z_sg, z_sm, z_su, z_sl, z_sd, z_pb, z_pe, z_pd, z_of, z_ot, z_mk, z_pS, z_pA, z_oA, z_tk, h9]
  | 0 | 1 | 2 | 3 | 4 | 6 | 7 | 8 => first | rfl | simp [z_cell, s1, z_n, z_now, z_ho, z_ab, z_au, z_ar, z_ad, z_sb, z_sp, z_sg, z_sm, z_su, z_sl, z_sd, z_pb, z_pe, z_pd, z_of, z_ot, z_mk, z_pS, z_pA, z_oA, z_tk]
  | i' + 9 => rfl
theorem DA.setSu (h : DA E T X σ H) {j : Nat} (hj : j < z_n σ 1) {v : Int32} (he : va_at E.1 vwCl (X.1 6 j, .inr (4, [.int (nI j), .int (z_sb σ j), .int (z_sp σ j), .int (z_sg σ j), .int (z_sm σ j), .int v, .int (z_sl σ j), .int (z_sd σ j)])) H1) (hk : ∀ q : Nat, q ≠ X.1 6 j → H1[q]? = H[q]?) : DA E T X (s1 σ 24 j v) H1 := by
  refine h.updw (i := 6) (k := j) (if_pos hj) (by show (if j < z_n σ 1 then _ else _) = _; rw [if_pos hj]; simp [s1, z_n, z_now, z_ho, z_ab, z_au, z_ar, z_ad, z_sb, z_sp, z_sg, z_sm, z_su, z_sl, z_sd, z_pb, z_pe, z_pd, z_of, z_ot, z_mk, z_pS, z_pA, z_oA, z_tk]) he hk (fun i' k' hq => ?_) (fun j => rfl) ⟨rfl, rfl⟩
  match i' with
  | 6 => have h9 : ¬ k' = j := fun z => hq ⟨rfl, z⟩
         simp [z_cell, s1, z_n, z_now, z_ho, z_ab, z_au, z_ar, z_ad, z_sb, z_sp, z_sg, z_sm, z_su, z_sl, z_sd, z_pb, z_pe, z_pd, z_of, z_ot, z_mk, z_pS, z_pA, z_oA, z_tk, h9]
  | 0 | 1 | 2 | 3 | 4 | 5 | 7 | 8 => first | rfl | simp [z_cell, s1, z_n, z_now, z_ho, z_ab, z_au, z_ar, z_ad, z_sb, z_sp, z_sg, z_sm, z_su, z_sl, z_sd, z_pb, z_pe, z_pd, z_of, z_ot, z_mk, z_pS, z_pA, z_oA, z_tk]
  | i' + 9 => rfl
theorem DA.setSl (h : DA E T X σ H) {j : Nat} (hj : j < z_n σ 1) {v : Int32} (he : va_at E.1 vwCl (X.1 6 j, .inr (4, [.int (nI j), .int (z_sb σ j), .int (z_sp σ j), .int (z_sg σ j), .int (z_sm σ j), .int (z_su σ j), .int v, .int (z_sd σ j)])) H1) (hk : ∀ q : Nat, q ≠ X.1 6 j → H1[q]? = H[q]?) : DA E T X (s1 σ 25 j v) H1 := by
  refine h.updw (i := 6) (k := j) (if_pos hj) (by show (if j < z_n σ 1 then _ else _) = _; rw [if_pos hj]; simp [s1, z_n, z_now, z_ho, z_ab, z_au, z_ar, z_ad, z_sb, z_sp, z_sg, z_sm, z_su, z_sl, z_sd, z_pb, z_pe, z_pd, z_of, z_ot, z_mk, z_pS, z_pA, z_oA, z_tk]) he hk (fun i' k' hq => ?_) (fun j => rfl) ⟨rfl, rfl⟩
  match i' with
  | 6 => have h9 : ¬ k' = j := fun z => hq ⟨rfl, z⟩
         simp [z_cell, s1, z_n, z_now, z_ho, z_ab, z_au, z_ar, z_ad, z_sb, z_sp, z_sg, z_sm, z_su, z_sl, z_sd, z_pb, z_pe, z_pd, z_of, z_ot, z_mk, z_pS, z_pA, z_oA, z_tk, h9]
  | 0 | 1 | 2 | 3 | 4 | 5 | 7 | 8 => first | rfl | simp [z_cell, s1, z_n, z_now, z_ho, z_ab, z_au, z_ar, z_ad, z_sb, z_sp, z_sg, z_sm, z_su, z_sl, z_sd, z_pb, z_pe, z_pd, z_of, z_ot, z_mk, z_pS, z_pA, z_oA, z_tk]
  | i' + 9 => rfl
theorem DA.setSd (h : DA E T X σ H) {j : Nat} (hj : j < z_n σ 1) {v : Int32} (he : va_at E.1 vwCl (X.1 6 j, .inr (4, [.int (nI j), .int (z_sb σ j), .int (z_sp σ j), .int (z_sg σ j), .int (z_sm σ j), .int (z_su σ j), .int (z_sl σ j), .int v])) H1) (hk : ∀ q : Nat, q ≠ X.1 6 j → H1[q]? = H[q]?) : DA E T X (s1 σ 26 j v) H1 := by
  refine h.updw (i := 6) (k := j) (if_pos hj) (by show (if j < z_n σ 1 then _ else _) = _; rw [if_pos hj]; simp [s1, z_n, z_now, z_ho, z_ab, z_au, z_ar, z_ad, z_sb, z_sp, z_sg, z_sm, z_su, z_sl, z_sd, z_pb, z_pe, z_pd, z_of, z_ot, z_mk, z_pS, z_pA, z_oA, z_tk]) he hk (fun i' k' hq => ?_) (fun j => rfl) ⟨rfl, rfl⟩
  match i' with
  | 6 => have h9 : ¬ k' = j := fun z => hq ⟨rfl, z⟩
         simp [z_cell, s1, z_n, z_now, z_ho, z_ab, z_au, z_ar, z_ad, z_sb, z_sp, z_sg, z_sm, z_su, z_sl, z_sd, z_pb, z_pe, z_pd, z_of, z_ot, z_mk, z_pS, z_pA, z_oA, z_tk, h9]
  | 0 | 1 | 2 | 3 | 4 | 5 | 7 | 8 => first | rfl | simp [z_cell, s1, z_n, z_now, z_ho, z_ab, z_au, z_ar, z_ad, z_sb, z_sp, z_sg, z_sm, z_su, z_sl, z_sd, z_pb, z_pe, z_pd, z_of, z_ot, z_mk, z_pS, z_pA, z_oA, z_tk]
  | i' + 9 => rfl
theorem DA.setPd (h : DA E T X σ H) {j : Nat} (hj : j < z_n σ 2) {v : Int32} (he : va_at E.1 vwCl (X.1 7 j, .inr (3, [.int (nI j), .ref (X.1 6 (z_pS σ j)), .ref (X.1 5 (z_pA σ j)), .int (z_pb σ j), .int (z_pe σ j), .int (wk_b (z_tk σ j)), .int v])) H1) (hk : ∀ q : Nat, q ≠ X.1 7 j → H1[q]? = H[q]?) : DA E T X (s1 σ 32 j v) H1 := by
  refine h.updw (i := 7) (k := j) (if_pos hj) (by show (if j < z_n σ 2 then _ else _) = _; rw [if_pos hj]; simp [s1, z_n, z_now, z_ho, z_ab, z_au, z_ar, z_ad, z_sb, z_sp, z_sg, z_sm, z_su, z_sl, z_sd, z_pb, z_pe, z_pd, z_of, z_ot, z_mk, z_pS, z_pA, z_oA, z_tk]) he hk (fun i' k' hq => ?_) (fun j => rfl) ⟨rfl, rfl⟩
  match i' with
  | 7 => have h9 : ¬ k' = j := fun z => hq ⟨rfl, z⟩
         simp [z_cell, s1, z_n, z_now, z_ho, z_ab, z_au, z_ar, z_ad, z_sb, z_sp, z_sg, z_sm, z_su, z_sl, z_sd, z_pb, z_pe, z_pd, z_of, z_ot, z_mk, z_pS, z_pA, z_oA, z_tk, h9]
  | 0 | 1 | 2 | 3 | 4 | 5 | 6 | 8 => first | rfl | simp [z_cell, s1, z_n, z_now, z_ho, z_ab, z_au, z_ar, z_ad, z_sb, z_sp, z_sg, z_sm, z_su, z_sl, z_sd, z_pb, z_pe, z_pd, z_of, z_ot, z_mk, z_pS, z_pA, z_oA, z_tk]
  | i' + 9 => rfl
theorem DA.setTk (h : DA E T X σ H) {j : Nat} (hj : j < z_n σ 2) {b : Bool} {mm : Nat} (hb : mm.testBit j = b) (hb2 : ∀ i, ¬ i = j → mm.testBit i = (z_mk σ).testBit i) (he : va_at E.1 vwCl (X.1 7 j, .inr (3, [.int (nI j), .ref (X.1 6 (z_pS σ j)), .ref (X.1 5 (z_pA σ j)), .int (z_pb σ j), .int (z_pe σ j), .int (wk_b b), .int (z_pd σ j)])) H1) (hk : ∀ q : Nat, q ≠ X.1 7 j → H1[q]? = H[q]?) : DA E T X (s2 σ 1 0 mm) H1 := by
  refine h.updw (i := 7) (k := j) (if_pos hj) (by show (if j < z_n σ 2 then _ else _) = _; rw [if_pos hj]; simp [s2, hb, z_n, z_now, z_ho, z_ab, z_au, z_ar, z_ad, z_sb, z_sp, z_sg, z_sm, z_su, z_sl, z_sd, z_pb, z_pe, z_pd, z_of, z_ot, z_mk, z_pS, z_pA, z_oA, z_tk]) he hk (fun i' k' hq => ?_) (fun j => rfl) ⟨rfl, rfl⟩
  match i' with
  | 7 => have h9 : ¬ k' = j := fun z => hq ⟨rfl, z⟩
         simp [z_cell, s2, z_n, z_now, z_ho, z_ab, z_au, z_ar, z_ad, z_sb, z_sp, z_sg, z_sm, z_su, z_sl, z_sd, z_pb, z_pe, z_pd, z_of, z_ot, z_mk, z_pS, z_pA, z_oA, z_tk, hb2 k' h9]
  | 0 | 1 | 2 | 3 | 4 | 5 | 6 | 8 => first | rfl | simp [z_cell, s2, z_n, z_now, z_ho, z_ab, z_au, z_ar, z_ad, z_sb, z_sp, z_sg, z_sm, z_su, z_sl, z_sd, z_pb, z_pe, z_pd, z_of, z_ot, z_mk, z_pS, z_pA, z_oA, z_tk]
  | i' + 9 => rfl
/-- the search's own numbers -/
def x1 (X : z_X) (f k : Nat) (v : Int32) : z_X := (X.1, fun f' k' => if f' = f ∧ k' = k then v else X.2.1 f' k', X.2.2)
theorem DA.setBs (h : DA E T X σ H) {v : Int32} (he : va_at E.1 vwCl (X.1 3 0, .inr (5, [.ref (X.1 4 0), .ref (X.1 4 1), .int v, .int (X.2.1 1 1)])) H1) (hk : ∀ q : Nat, q ≠ X.1 3 0 → H1[q]? = H[q]?) : DA E T (x1 X 1 0 v) σ H1 := by
  refine h.updw (i := 3) (k := 0) rfl rfl he hk (fun i' k' hq => ?_) (fun j => rfl) ⟨rfl, rfl⟩
  match i' with
  | 3 => have h9 : ¬ k' = 0 := fun z => hq ⟨rfl, z⟩
         simp [z_cell, h9]
  | 4 => have h9 : ¬ 2 + k' = 1 := by omega
         simp [z_cell, x1, h9]
  | 0 | 1 | 2 | 5 | 6 | 7 | 8 => first | rfl | simp [z_cell, x1]
  | i' + 9 => rfl
theorem DA.setBw (h : DA E T X σ H) {v : Int32} (he : va_at E.1 vwCl (X.1 3 0, .inr (5, [.ref (X.1 4 0), .ref (X.1 4 1), .int (X.2.1 1 0), .int v])) H1) (hk : ∀ q : Nat, q ≠ X.1 3 0 → H1[q]? = H[q]?) : DA E T (x1 X 1 1 v) σ H1 := by
  refine h.updw (i := 3) (k := 0) rfl rfl he hk (fun i' k' hq => ?_) (fun j => rfl) ⟨rfl, rfl⟩
  match i' with
  | 3 => have h9 : ¬ k' = 0 := fun z => hq ⟨rfl, z⟩
         simp [z_cell, h9]
  | 4 => have h9 : ¬ 2 + k' = 1 := by omega
         simp [z_cell, x1, h9]
  | 0 | 1 | 2 | 5 | 6 | 7 | 8 => first | rfl | simp [z_cell, x1]
  | i' + 9 => rfl
theorem DA.setSr (h : DA E T X σ H) {r j : Nat} (hr : r < 2) {v : Int32} (he : va_at E.1 vwCl (X.1 4 r, .inl (E.2.1.1, 16, .inl (upd (X.2.1 (2 + r)) j v))) H1) (hk : ∀ q : Nat, q ≠ X.1 4 r → H1[q]? = H[q]?) : DA E T (x1 X (2 + r) j v) σ H1 := by
  refine h.updw (i := 4) (k := r) (if_pos hr) ?_ he hk (fun i' k' hq => ?_) (fun j => rfl) ⟨rfl, rfl⟩
  · show (if r < 2 then _ else _) = _
    rw [if_pos hr]
    have : (x1 X (2 + r) j v).2.1 (2 + r) = upd (X.2.1 (2 + r)) j v := by
      funext q
      simp [x1, upd]
    rw [this]; rfl
  · match i' with
    | 4 => have h9 : ¬ k' = r := fun z => hq ⟨rfl, z⟩
           have h8 : (x1 X (2 + r) j v).2.1 (2 + k') = X.2.1 (2 + k') := by
             funext q
             have : ¬ 2 + k' = 2 + r := by omega
             simp [x1, this, h9]
           simp only [z_cell, h8]; rfl
    | 1 => have h9 : ¬ 0 = 2 + r := by omega
           simp [z_cell, x1, h9]
    | 3 => have h9 : ¬ 1 = 2 + r := by omega
           simp [z_cell, x1, h9]
    | 0 | 2 | 5 | 6 | 7 | 8 => first | rfl | simp [z_cell, x1]
    | i' + 9 => rfl
end ZUP
