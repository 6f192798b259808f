/-! Writing in the reference's cells. -/
section ZUM
variable {E : wk_E} {T : Nat → Nat × Nat} {Y : Nat → Nat → Nat} {σ σ' : z_S} {th th' : Int32} {gt gt' : Int64} {H H1 : Heap}
theorem MA.tagO (h : MA E T Y σ th gt H) : z_FM T (Y 10 0) := Or.inl (by rw [(h.1 10 0 _ rfl).1])
theorem z_clM {k : Nat} {r : Nat × (Nat → Int32)} (hr : z_mr σ k = some r) : z_cellM E Y σ th gt 11 k = some (Y 11 k, .inl (E.2.1.1, r.1, .inl r.2)) := by
  show (match z_mr σ k with | some r => some (Y 11 k, (.inl (E.2.1.1, r.1, .inl r.2) : va_E)) | none => none) = _
  rw [hr]
theorem MA.tagA (h : MA E T Y σ th gt H) {k : Nat} {r : Nat × (Nat → Int32)} (hr : z_mr σ k = some r) : z_FM T (Y 11 k) := Or.inr (by rw [(h.1 11 k _ (z_clM hr)).1])
theorem z_cellM_i {i k : Nat} {ae : Nat × va_E} (h : z_cellM E Y σ th gt i k = some ae) : i = 10 ∨ i = 11 := by
  match i, h with
  | 0, h | 1, h | 2, h | 3, h | 4, h | 5, h | 6, h | 7, h | 8, h | 9, h => exact nomatch h
  | 10, _ => exact Or.inl rfl
  | 11, _ => exact Or.inr rfl
  | i + 12, h => exact nomatch h
theorem MA.tag (h : MA E T Y σ th gt H) {i k : Nat} {ae : Nat × va_E} (hc : z_cellM E Y σ th gt i k = some ae) : z_FM T ae.1 := by
  unfold z_FM
  rw [(h.1 i k ae hc).1]
  exact z_cellM_i hc
theorem MA.kept (h : MA E T Y σ th gt H) (hk : ∀ q : Nat, q < H.size → z_FM T q → H1[q]? = H[q]?) : MA E T Y σ th gt H1 := ⟨h.1.kept fun i k ae hc => hk _ (h.1.lt hc) (h.tag hc), h.2⟩
theorem MA.retag {T' : Nat → Nat × Nat} (h : MA E T Y σ th gt H) (hb : E.2.2.1 ≤ H.size) (hT : ∀ q, q < H.size → T' q = T q) : MA E T' Y σ th gt H :=
  ⟨fun i k ae hc => ⟨by rw [hT _ (h.1.lt hc)]; exact (h.1 i k ae hc).1, (h.1 i k ae hc).2⟩, fun q hq => by rw [hT q (Nat.lt_of_lt_of_le hq hb)]; exact h.2 q hq⟩
theorem MA.objw (h : MA E T Y σ th gt H) (he : va_at E.1 vwCl (Y 10 0, .inr (7, z_mf Y σ' th' gt')) H1) (hk : ∀ q : Nat, q ≠ Y 10 0 → H1[q]? = H[q]?) (hr : ∀ k, z_mr σ' k = z_mr σ k) : MA E T Y σ' th' gt' H1 := by
  refine ⟨h.1.upd (i := 10) (k := 0) rfl rfl he hk (fun i' k' hq => ?_), h.2⟩
  match i' with
  | 0 | 1 | 2 | 3 | 4 | 5 | 6 | 7 | 8 | 9 => rfl
  | 10 => have h9 : ¬ k' = 0 := fun z => hq ⟨rfl, z⟩
          simp [z_cellM, h9]
  | 11 => simp only [z_cellM, hr]
  | i' + 12 => rfl
theorem MA.arrw (h : MA E T Y σ th gt H) {k : Nat} {r0 r : Nat × (Nat → Int32)} (h0 : z_mr σ k = some r0) (h1 : z_mr σ' k = some r) (he : va_at E.1 vwCl (Y 11 k, .inl (E.2.1.1, r.1, .inl r.2)) H1) (hk : ∀ q : Nat, q ≠ Y 11 k → H1[q]? = H[q]?)
    (hro : ∀ k', ¬ k' = k → z_mr σ' k' = z_mr σ k') (hf : z_mf Y σ' th gt = z_mf Y σ th gt) : MA E T Y σ' th gt H1 := by
  refine ⟨h.1.upd (i := 11) (k := k) (z_clM h0) (z_clM h1) he hk (fun i' k' hq => ?_), h.2⟩
  match i' with
  | 0 | 1 | 2 | 3 | 4 | 5 | 6 | 7 | 8 | 9 => rfl
  | 10 => simp only [z_cellM, hf]
  | 11 => simp only [z_cellM, hro k' (fun z => hq ⟨rfl, z⟩)]
  | i' + 12 => rfl
theorem MA.setTh (h : MA E T Y σ th gt H) {v : Int32} (he : va_at E.1 vwCl (Y 10 0, .inr (7, (z_mf Y σ th gt).set 0 (.int v))) H1) (hk : ∀ q : Nat, q ≠ Y 10 0 → H1[q]? = H[q]?) : MA E T Y σ v gt H1 := h.objw he hk (fun _ => rfl)
theorem MA.setGt (h : MA E T Y σ th gt H) {v : Int64} (he : va_at E.1 vwCl (Y 10 0, .inr (7, (z_mf Y σ th gt).set 25 (.long v))) H1) (hk : ∀ q : Nat, q ≠ Y 10 0 → H1[q]? = H[q]?) : MA E T Y σ th v H1 := h.objw he hk (fun _ => rfl)
theorem z_mr_none (σ : z_S) (k : Nat) : z_mr σ (k + 17) = none := rfl
theorem MA.setNow (h : MA E T Y σ th gt H) {v : Int32} (he : va_at E.1 vwCl (Y 10 0, .inr (7, (z_mf Y σ th gt).set 1 (.int v))) H1) (hk : ∀ q : Nat, q ≠ Y 10 0 → H1[q]? = H[q]?) : MA E T Y (s1 σ 0 0 v) th gt H1 := by
  have e : (z_mf Y σ th gt).set 1 (.int v) = z_mf Y (s1 σ 0 0 v) th gt := by simp [z_mf, s1, s2, z_n, z_now, z_ho, z_ab, z_au, z_ar, z_ad, z_sb, z_sp, z_sg, z_sm, z_su, z_sl, z_sd, z_pb, z_pe, z_pd, z_of, z_ot, z_mk, z_pS, z_pA, z_oA, z_tk]
  rw [e] at he
  refine h.objw he hk (fun k => ?_)
  match k with
  | 0 | 1 | 2 | 3 | 4 | 5 | 6 | 7 | 8 | 9 | 10 | 11 | 12 | 13 | 14 | 15 | 16 => first | rfl | (simp only [z_mr, z_outs, s1, s2, z_n, z_now, z_ho, z_ab, z_au, z_ar, z_ad, z_sb, z_sp, z_sg, z_sm, z_su, z_sl, z_sd, z_pb, z_pe, z_pd, z_of, z_ot, z_mk, z_pS, z_pA, z_oA, z_tk]; rfl) | simp [z_mr, z_outs, s1, s2, z_n, z_now, z_ho, z_ab, z_au, z_ar, z_ad, z_sb, z_sp, z_sg, z_sm, z_su, z_sl, z_sd, z_pb, z_pe, z_pd, z_of, z_ot, z_mk, z_pS, z_pA, z_oA, z_tk]
  | k + 17 => rfl
theorem MA.setHo (h : MA E T Y σ th gt H) {v : Int32} (he : va_at E.1 vwCl (Y 10 0, .inr (7, (z_mf Y σ th gt).set 2 (.int v))) H1) (hk : ∀ q : Nat, q ≠ Y 10 0 → H1[q]? = H[q]?) : MA E T Y (s1 σ 1 0 v) th gt H1 := by
  have e : (z_mf Y σ th gt).set 2 (.int v) = z_mf Y (s1 σ 1 0 v) th gt := by simp [z_mf, s1, s2, z_n, z_now, z_ho, z_ab, z_au, z_ar, z_ad, z_sb, z_sp, z_sg, z_sm, z_su, z_sl, z_sd, z_pb, z_pe, z_pd, z_of, z_ot, z_mk, z_pS, z_pA, z_oA, z_tk]
  rw [e] at he
  refine h.objw he hk (fun k => ?_)
  match k with
  | 0 | 1 | 2 | 3 | 4 | 5 | 6 | 7 | 8 | 9 | 10 | 11 | 12 | 13 | 14 | 15 | 16 => first | rfl | (simp only [z_mr, z_outs, s1, s2, z_n, z_now, z_ho, z_ab, z_au, z_ar, z_ad, z_sb, z_sp, z_sg, z_sm, z_su, z_sl, z_sd, z_pb, z_pe, z_pd, z_of, z_ot, z_mk, z_pS, z_pA, z_oA, z_tk]; rfl) | simp [z_mr, z_outs, s1, s2, z_n, z_now, z_ho, z_ab, z_au, z_ar, z_ad, z_sb, z_sp, z_sg, z_sm, z_su, z_sl, z_sd, z_pb, z_pe, z_pd, z_of, z_ot, z_mk, z_pS, z_pA, z_oA, z_tk]
  | k + 17 => rfl
theorem MA.setN0 (h : MA E T Y σ th gt H) {v : Nat} (he : va_at E.1 vwCl (Y 10 0, .inr (7, (z_mf Y σ th gt).set 3 (.int (nI v)))) H1) (hk : ∀ q : Nat, q ≠ Y 10 0 → H1[q]? = H[q]?) : MA E T Y (s2 σ 0 0 v) th gt H1 := by
  have e : (z_mf Y σ th gt).set 3 (.int (nI v)) = z_mf Y (s2 σ 0 0 v) th gt := by simp [z_mf, s1, s2, z_n, z_now, z_ho, z_ab, z_au, z_ar, z_ad, z_sb, z_sp, z_sg, z_sm, z_su, z_sl, z_sd, z_pb, z_pe, z_pd, z_of, z_ot, z_mk, z_pS, z_pA, z_oA, z_tk]
  rw [e] at he
  refine h.objw he hk (fun k => ?_)
  match k with
  | 0 | 1 | 2 | 3 | 4 | 5 | 6 | 7 | 8 | 9 | 10 | 11 | 12 | 13 | 14 | 15 | 16 => first | rfl | (simp only [z_mr, z_outs, s1, s2, z_n, z_now, z_ho, z_ab, z_au, z_ar, z_ad, z_sb, z_sp, z_sg, z_sm, z_su, z_sl, z_sd, z_pb, z_pe, z_pd, z_of, z_ot, z_mk, z_pS, z_pA, z_oA, z_tk]; rfl) | simp [z_mr, z_outs, s1, s2, z_n, z_now, z_ho, z_ab, z_au, z_ar, z_ad, z_sb, z_sp, z_sg, z_sm, z_su, z_sl, z_sd, z_pb, z_pe, z_pd, z_of, z_ot, z_mk, z_pS, z_pA, z_oA, z_tk]
  | k + 17 => rfl
theorem MA.setN3 (h : MA E T Y σ th gt H) {v : Nat} (he : va_at E.1 vwCl (Y 10 0, .inr (7, (z_mf Y σ th gt).set 8 (.int (nI v)))) H1) (hk : ∀ q : Nat, q ≠ Y 10 0 → H1[q]? = H[q]?) : MA E T Y (s2 σ 0 3 v) th gt H1 := by
  have e : (z_mf Y σ th gt).set 8 (.int (nI v)) = z_mf Y (s2 σ 0 3 v) th gt := by simp [z_mf, s1, s2, z_n, z_now, z_ho, z_ab, z_au, z_ar, z_ad, z_sb, z_sp, z_sg, z_sm, z_su, z_sl, z_sd, z_pb, z_pe, z_pd, z_of, z_ot, z_mk, z_pS, z_pA, z_oA, z_tk]
  rw [e] at he
  refine h.objw he hk (fun k => ?_)
  match k with
  | 0 | 1 | 2 | 3 | 4 | 5 | 6 | 7 | 8 | 9 | 10 | 11 | 12 | 13 | 14 | 15 | 16 => first | rfl | (simp only [z_mr, z_outs, s1, s2, z_n, z_now, z_ho, z_ab, z_au, z_ar, z_ad, z_sb, z_sp, z_sg, z_sm, z_su, z_sl, z_sd, z_pb, z_pe, z_pd, z_of, z_ot, z_mk, z_pS, z_pA, z_oA, z_tk]; rfl) | simp [z_mr, z_outs, s1, s2, z_n, z_now, z_ho, z_ab, z_au, z_ar, z_ad, z_sb, z_sp, z_sg, z_sm, z_su, z_sl, z_sd, z_pb, z_pe, z_pd, z_of, z_ot, z_mk, z_pS, z_pA, z_oA, z_tk]
  | k + 17 => rfl
theorem MA.setN1 (h : MA E T Y σ th gt H) {v : Nat} (he : va_at E.1 vwCl (Y 10 0, .inr (7, (z_mf Y σ th gt).set 10 (.int (nI v)))) H1) (hk : ∀ q : Nat, q ≠ Y 10 0 → H1[q]? = H[q]?) : MA E T Y (s2 σ 0 1 v) th gt H1 := by
  have e : (z_mf Y σ th gt).set 10 (.int (nI v)) = z_mf Y (s2 σ 0 1 v) th gt := by simp [z_mf, s1, s2, z_n, z_now, z_ho, z_ab, z_au, z_ar, z_ad, z_sb, z_sp, z_sg, z_sm, z_su, z_sl, z_sd, z_pb, z_pe, z_pd, z_of, z_ot, z_mk, z_pS, z_pA, z_oA, z_tk]
  rw [e] at he
  refine h.objw he hk (fun k => ?_)
  match k with
  | 0 | 1 | 2 | 3 | 4 | 5 | 6 | 7 | 8 | 9 | 10 | 11 | 12 | 13 | 14 | 15 | 16 => first | rfl | (simp only [z_mr, z_outs, s1, s2, z_n, z_now, z_ho, z_ab, z_au, z_ar, z_ad, z_sb, z_sp, z_sg, z_sm, z_su, z_sl, z_sd, z_pb, z_pe, z_pd, z_of, z_ot, z_mk, z_pS, z_pA, z_oA, z_tk]; rfl) | simp [z_mr, z_outs, s1, s2, z_n, z_now, z_ho, z_ab, z_au, z_ar, z_ad, z_sb, z_sp, z_sg, z_sm, z_su, z_sl, z_sd, z_pb, z_pe, z_pd, z_of, z_ot, z_mk, z_pS, z_pA, z_oA, z_tk]
  | k + 17 => rfl
theorem MA.setN2 (h : MA E T Y σ th gt H) {v : Nat} (he : va_at E.1 vwCl (Y 10 0, .inr (7, (z_mf Y σ th gt).set 18 (.int (nI v)))) H1) (hk : ∀ q : Nat, q ≠ Y 10 0 → H1[q]? = H[q]?) : MA E T Y (s2 σ 0 2 v) th gt H1 := by
  have e : (z_mf Y σ th gt).set 18 (.int (nI v)) = z_mf Y (s2 σ 0 2 v) th gt := by simp [z_mf, s1, s2, z_n, z_now, z_ho, z_ab, z_au, z_ar, z_ad, z_sb, z_sp, z_sg, z_sm, z_su, z_sl, z_sd, z_pb, z_pe, z_pd, z_of, z_ot, z_mk, z_pS, z_pA, z_oA, z_tk]
  rw [e] at he
  refine h.objw he hk (fun k => ?_)
  match k with
  | 0 | 1 | 2 | 3 | 4 | 5 | 6 | 7 | 8 | 9 | 10 | 11 | 12 | 13 | 14 | 15 | 16 => first | rfl | (simp only [z_mr, z_outs, s1, s2, z_n, z_now, z_ho, z_ab, z_au, z_ar, z_ad, z_sb, z_sp, z_sg, z_sm, z_su, z_sl, z_sd, z_pb, z_pe, z_pd, z_of, z_ot, z_mk, z_pS, z_pA, z_oA, z_tk]; rfl) | simp [z_mr, z_outs, s1, s2, z_n, z_now, z_ho, z_ab, z_au, z_ar, z_ad, z_sb, z_sp, z_sg, z_sm, z_su, z_sl, z_sd, z_pb, z_pe, z_pd, z_of, z_ot, z_mk, z_pS, z_pA, z_oA, z_tk]
  | k + 17 => rfl
theorem MA.setMk (h : MA E T Y σ th gt H) {v : Nat} (he : va_at E.1 vwCl (Y 10 0, .inr (7, (z_mf Y σ th gt).set 24 (.int (nI v)))) H1) (hk : ∀ q : Nat, q ≠ Y 10 0 → H1[q]? = H[q]?) : MA E T Y (s2 σ 1 0 v) th gt H1 := by
  have e : (z_mf Y σ th gt).set 24 (.int (nI v)) = z_mf Y (s2 σ 1 0 v) th gt := by simp [z_mf, s1, s2, z_n, z_now, z_ho, z_ab, z_au, z_ar, z_ad, z_sb, z_sp, z_sg, z_sm, z_su, z_sl, z_sd, z_pb, z_pe, z_pd, z_of, z_ot, z_mk, z_pS, z_pA, z_oA, z_tk]
  rw [e] at he
  refine h.objw he hk (fun k => ?_)
  match k with
  | 0 | 1 | 2 | 3 | 4 | 5 | 6 | 7 | 8 | 9 | 10 | 11 | 12 | 13 | 14 | 15 | 16 => first | rfl | (simp only [z_mr, z_outs, s1, s2, z_n, z_now, z_ho, z_ab, z_au, z_ar, z_ad, z_sb, z_sp, z_sg, z_sm, z_su, z_sl, z_sd, z_pb, z_pe, z_pd, z_of, z_ot, z_mk, z_pS, z_pA, z_oA, z_tk]; rfl) | simp [z_mr, z_outs, s1, s2, z_n, z_now, z_ho, z_ab, z_au, z_ar, z_ad, z_sb, z_sp, z_sg, z_sm, z_su, z_sl, z_sd, z_pb, z_pe, z_pd, z_of, z_ot, z_mk, z_pS, z_pA, z_oA, z_tk]
  | k + 17 => rfl
theorem MA.setA0 (h : MA E T Y σ th gt H) {j : Nat} {v : Int32} (he : va_at E.1 vwCl (Y 11 0, .inl (E.2.1.1, 5, .inl (upd (fun j => z_ab σ j) (j) (v)))) H1) (hk : ∀ q : Nat, q ≠ Y 11 0 → H1[q]? = H[q]?) : MA E T Y (s1 σ 10 j v) th gt H1 := by
  have e : z_mr (s1 σ 10 j v) 0 = some (5, upd (fun j => z_ab σ j) (j) (v)) := by
    show some (5, _) = some (5, _)
    congr 2
    funext q
    by_cases hq : q = j
    · simp [upd, hq, s1, s2, z_n, z_now, z_ho, z_ab, z_au, z_ar, z_ad, z_sb, z_sp, z_sg, z_sm, z_su, z_sl, z_sd, z_pb, z_pe, z_pd, z_of, z_ot, z_mk, z_pS, z_pA, z_oA, z_tk]
    · simp [upd, hq, s1, s2, z_n, z_now, z_ho, z_ab, z_au, z_ar, z_ad, z_sb, z_sp, z_sg, z_sm, z_su, z_sl, z_sd, z_pb, z_pe, z_pd, z_of, z_ot, z_mk, z_pS, z_pA, z_oA, z_tk]
  refine h.arrw (k := 0) rfl e he hk (fun k' hq => ?_) ?_
  · match k' with
    | 0 => exact absurd rfl hq
    | 1 | 2 | 3 | 4 | 5 | 6 | 7 | 8 | 9 | 10 | 11 | 12 | 13 | 14 | 15 | 16 => first | rfl | (simp only [z_mr, z_outs, s1, s2, z_n, z_now, z_ho, z_ab, z_au, z_ar, z_ad, z_sb, z_sp, z_sg, z_sm, z_su, z_sl, z_sd, z_pb, z_pe, z_pd, z_of, z_ot, z_mk, z_pS, z_pA, z_oA, z_tk]; rfl) | simp [z_mr, z_outs, s1, s2, z_n, z_now, z_ho, z_ab, z_au, z_ar, z_ad, z_sb, z_sp, z_sg, z_sm, z_su, z_sl, z_sd, z_pb, z_pe, z_pd, z_of, z_ot, z_mk, z_pS, z_pA, z_oA, z_tk]
    | k' + 17 => rfl
  · first | rfl | simp [z_mf, s1, s2, z_n, z_now, z_ho, z_ab, z_au, z_ar, z_ad, z_sb, z_sp, z_sg, z_sm, z_su, z_sl, z_sd, z_pb, z_pe, z_pd, z_of, z_ot, z_mk, z_pS, z_pA, z_oA, z_tk]
theorem MA.setA1 (h : MA E T Y σ th gt H) {j : Nat} {v : Int32} (he : va_at E.1 vwCl (Y 11 1, .inl (E.2.1.1, 5, .inl (upd (fun j => z_au σ j) (j) (v)))) H1) (hk : ∀ q : Nat, q ≠ Y 11 1 → H1[q]? = H[q]?) : MA E T Y (s1 σ 11 j v) th gt H1 := by
  have e : z_mr (s1 σ 11 j v) 1 = some (5, upd (fun j => z_au σ j) (j) (v)) := by
    show some (5, _) = some (5, _)
    congr 2
    funext q
    by_cases hq : q = j
    · simp [upd, hq, s1, s2, z_n, z_now, z_ho, z_ab, z_au, z_ar, z_ad, z_sb, z_sp, z_sg, z_sm, z_su, z_sl, z_sd, z_pb, z_pe, z_pd, z_of, z_ot, z_mk, z_pS, z_pA, z_oA, z_tk]
    · simp [upd, hq, s1, s2, z_n, z_now, z_ho, z_ab, z_au, z_ar, z_ad, z_sb, z_sp, z_sg, z_sm, z_su, z_sl, z_sd, z_pb, z_pe, z_pd, z_of, z_ot, z_mk, z_pS, z_pA, z_oA, z_tk]
  refine h.arrw (k := 1) rfl e he hk (fun k' hq => ?_) ?_
  · match k' with
    | 1 => exact absurd rfl hq
    | 0 | 2 | 3 | 4 | 5 | 6 | 7 | 8 | 9 | 10 | 11 | 12 | 13 | 14 | 15 | 16 => first | rfl | (simp only [z_mr, z_outs, s1, s2, z_n, z_now, z_ho, z_ab, z_au, z_ar, z_ad, z_sb, z_sp, z_sg, z_sm, z_su, z_sl, z_sd, z_pb, z_pe, z_pd, z_of, z_ot, z_mk, z_pS, z_pA, z_oA, z_tk]; rfl) | simp [z_mr, z_outs, s1, s2, z_n, z_now, z_ho, z_ab, z_au, z_ar, z_ad, z_sb, z_sp, z_sg, z_sm, z_su, z_sl, z_sd, z_pb, z_pe, z_pd, z_of, z_ot, z_mk, z_pS, z_pA, z_oA, z_tk]
    | k' + 17 => rfl
  · first | rfl | simp [z_mf, s1, s2, z_n, z_now, z_ho, z_ab, z_au, z_ar, z_ad, z_sb, z_sp, z_sg, z_sm, z_su, z_sl, z_sd, z_pb, z_pe, z_pd, z_of, z_ot, z_mk, z_pS, z_pA, z_oA, z_tk]
theorem MA.setA2 (h : MA E T Y σ th gt H) {j : Nat} {v : Int32} (he : va_at E.1 vwCl (Y 11 2, .inl (E.2.1.1, 5, .inl (upd (fun j => z_ar σ j) (j) (v)))) H1) (hk : ∀ q : Nat, q ≠ Y 11 2 → H1[q]? = H[q]?) : MA E T Y (s1 σ 12 j v) th gt H1 := by
  have e : z_mr (s1 σ 12 j v) 2 = some (5, upd (fun j => z_ar σ j) (j) (v)) := by
    show some (5, _) = some (5, _)
    congr 2
    funext q
    by_cases hq : q = j
    · simp [upd, hq, s1, s2, z_n, z_now, z_ho, z_ab, z_au, z_ar, z_ad, z_sb, z_sp, z_sg, z_sm, z_su, z_sl, z_sd, z_pb, z_pe, z_pd, z_of, z_ot, z_mk, z_pS, z_pA, z_oA, z_tk]
    · simp [upd, hq, s1, s2, z_n, z_now, z_ho, z_ab, z_au, z_ar, z_ad, z_sb, z_sp, z_sg, z_sm, z_su, z_sl, z_sd, z_pb, z_pe, z_pd, z_of, z_ot, z_mk, z_pS, z_pA, z_oA, z_tk]
  refine h.arrw (k := 2) rfl e he hk (fun k' hq => ?_) ?_
  · match k' with
    | 2 => exact absurd rfl hq
    | 0 | 1 | 3 | 4 | 5 | 6 | 7 | 8 | 9 | 10 | 11 | 12 | 13 | 14 | 15 | 16 => first | rfl | (simp only [z_mr, z_outs, s1, s2, z_n, z_now, z_ho, z_ab, z_au, z_ar, z_ad, z_sb, z_sp, z_sg, z_sm, z_su, z_sl, z_sd, z_pb, z_pe, z_pd, z_of, z_ot, z_mk, z_pS, z_pA, z_oA, z_tk]; rfl) | simp [z_mr, z_outs, s1, s2, z_n, z_now, z_ho, z_ab, z_au, z_ar, z_ad, z_sb, z_sp, z_sg, z_sm, z_su, z_sl, z_sd, z_pb, z_pe, z_pd, z_of, z_ot, z_mk, z_pS, z_pA, z_oA, z_tk]
    | k' + 17 => rfl
  · first | rfl | simp [z_mf, s1, s2, z_n, z_now, z_ho, z_ab, z_au, z_ar, z_ad, z_sb, z_sp, z_sg, z_sm, z_su, z_sl, z_sd, z_pb, z_pe, z_pd, z_of, z_ot, z_mk, z_pS, z_pA, z_oA, z_tk]
theorem MA.setA3 (h : MA E T Y σ th gt H) {j : Nat} {v : Int32} (he : va_at E.1 vwCl (Y 11 3, .inl (E.2.1.1, 5, .inl (upd (fun j => z_ad σ j) (j) (v)))) H1) (hk : ∀ q : Nat, q ≠ Y 11 3 → H1[q]? = H[q]?) : MA E T Y (s1 σ 13 j v) th gt H1 := by
  have e : z_mr (s1 σ 13 j v) 3 = some (5, upd (fun j => z_ad σ j) (j) (v)) := by
    show some (5, _) = some (5, _)
    congr 2
    funext q
    by_cases hq : q = j
    · simp [upd, hq, s1, s2, z_n, z_now, z_ho, z_ab, z_au, z_ar, z_ad, z_sb, z_sp, z_sg, z_sm, z_su, z_sl, z_sd, z_pb, z_pe, z_pd, z_of, z_ot, z_mk, z_pS, z_pA, z_oA, z_tk]
    · simp [upd, hq, s1, s2, z_n, z_now, z_ho, z_ab, z_au, z_ar, z_ad, z_sb, z_sp, z_sg, z_sm, z_su, z_sl, z_sd, z_pb, z_pe, z_pd, z_of, z_ot, z_mk, z_pS, z_pA, z_oA, z_tk]
  refine h.arrw (k := 3) rfl e he hk (fun k' hq => ?_) ?_
  · match k' with
    | 3 => exact absurd rfl hq
    | 0 | 1 | 2 | 4 | 5 | 6 | 7 | 8 | 9 | 10 | 11 | 12 | 13 | 14 | 15 | 16 => first | rfl | (simp only [z_mr, z_outs, s1, s2, z_n, z_now, z_ho, z_ab, z_au, z_ar, z_ad, z_sb, z_sp, z_sg, z_sm, z_su, z_sl, z_sd, z_pb, z_pe, z_pd, z_of, z_ot, z_mk, z_pS, z_pA, z_oA, z_tk]; rfl) | simp [z_mr, z_outs, s1, s2, z_n, z_now, z_ho, z_ab, z_au, z_ar, z_ad, z_sb, z_sp, z_sg, z_sm, z_su, z_sl, z_sd, z_pb, z_pe, z_pd, z_of, z_ot, z_mk, z_pS, z_pA, z_oA, z_tk]
    | k' + 17 => rfl
  · first | rfl | simp [z_mf, s1, s2, z_n, z_now, z_ho, z_ab, z_au, z_ar, z_ad, z_sb, z_sp, z_sg, z_sm, z_su, z_sl, z_sd, z_pb, z_pe, z_pd, z_of, z_ot, z_mk, z_pS, z_pA, z_oA, z_tk]
theorem MA.setA5 (h : MA E T Y σ th gt H) {j : Nat} {v : Int32} (he : va_at E.1 vwCl (Y 11 5, .inl (E.2.1.1, 8, .inl (upd (fun j => z_sb σ j) (j) (v)))) H1) (hk : ∀ q : Nat, q ≠ Y 11 5 → H1[q]? = H[q]?) : MA E T Y (s1 σ 20 j v) th gt H1 := by
  have e : z_mr (s1 σ 20 j v) 5 = some (8, upd (fun j => z_sb σ j) (j) (v)) := by
    show some (8, _) = some (8, _)
    congr 2
    funext q
    by_cases hq : q = j
    · simp [upd, hq, s1, s2, z_n, z_now, z_ho, z_ab, z_au, z_ar, z_ad, z_sb, z_sp, z_sg, z_sm, z_su, z_sl, z_sd, z_pb, z_pe, z_pd, z_of, z_ot, z_mk, z_pS, z_pA, z_oA, z_tk]
    · simp [upd, hq, s1, s2, z_n, z_now, z_ho, z_ab, z_au, z_ar, z_ad, z_sb, z_sp, z_sg, z_sm, z_su, z_sl, z_sd, z_pb, z_pe, z_pd, z_of, z_ot, z_mk, z_pS, z_pA, z_oA, z_tk]
  refine h.arrw (k := 5) rfl e he hk (fun k' hq => ?_) ?_
  · match k' with
    | 5 => exact absurd rfl hq
    | 0 | 1 | 2 | 3 | 4 | 6 | 7 | 8 | 9 | 10 | 11 | 12 | 13 | 14 | 15 | 16 => first | rfl | (simp only [z_mr, z_outs, s1, s2, z_n, z_now, z_ho, z_ab, z_au, z_ar, z_ad, z_sb, z_sp, z_sg, z_sm, z_su, z_sl, z_sd, z_pb, z_pe, z_pd, z_of, z_ot, z_mk, z_pS, z_pA, z_oA, z_tk]; rfl) | simp [z_mr, z_outs, s1, s2, z_n, z_now, z_ho, z_ab, z_au, z_ar, z_ad, z_sb, z_sp, z_sg, z_sm, z_su, z_sl, z_sd, z_pb, z_pe, z_pd, z_of, z_ot, z_mk, z_pS, z_pA, z_oA, z_tk]
    | k' + 17 => rfl
  · first | rfl | simp [z_mf, s1, s2, z_n, z_now, z_ho, z_ab, z_au, z_ar, z_ad, z_sb, z_sp, z_sg, z_sm, z_su, z_sl, z_sd, z_pb, z_pe, z_pd, z_of, z_ot, z_mk, z_pS, z_pA, z_oA, z_tk]
theorem MA.setA6 (h : MA E T Y σ th gt H) {j : Nat} {v : Int32} (he : va_at E.1 vwCl (Y 11 6, .inl (E.2.1.1, 8, .inl (upd (fun j => z_sp σ j) (j) (v)))) H1) (hk : ∀ q : Nat, q ≠ Y 11 6 → H1[q]? = H[q]?) : MA E T Y (s1 σ 21 j v) th gt H1 := by
  have e : z_mr (s1 σ 21 j v) 6 = some (8, upd (fun j => z_sp σ j) (j) (v)) := by
    show some (8, _) = some (8, _)
    congr 2
    funext q
    by_cases hq : q = j
    · simp [upd, hq, s1, s2, z_n, z_now, z_ho, z_ab, z_au, z_ar, z_ad, z_sb, z_sp, z_sg, z_sm, z_su, z_sl, z_sd, z_pb, z_pe, z_pd, z_of, z_ot, z_mk, z_pS, z_pA, z_oA, z_tk]
    · simp [upd, hq, s1, s2, z_n, z_now, z_ho, z_ab, z_au, z_ar, z_ad, z_sb, z_sp, z_sg, z_sm, z_su, z_sl, z_sd, z_pb, z_pe, z_pd, z_of, z_ot, z_mk, z_pS, z_pA, z_oA, z_tk]
  refine h.arrw (k := 6) rfl e he hk (fun k' hq => ?_) ?_
  · match k' with
    | 6 => exact absurd rfl hq
    | 0 | 1 | 2 | 3 | 4 | 5 | 7 | 8 | 9 | 10 | 11 | 12 | 13 | 14 | 15 | 16 => first | rfl | (simp only [z_mr, z_outs, s1, s2, z_n, z_now, z_ho, z_ab, z_au, z_ar, z_ad, z_sb, z_sp, z_sg, z_sm, z_su, z_sl, z_sd, z_pb, z_pe, z_pd, z_of, z_ot, z_mk, z_pS, z_pA, z_oA, z_tk]; rfl) | simp [z_mr, z_outs, s1, s2, z_n, z_now, z_ho, z_ab, z_au, z_ar, z_ad, z_sb, z_sp, z_sg, z_sm, z_su, z_sl, z_sd, z_pb, z_pe, z_pd, z_of, z_ot, z_mk, z_pS, z_pA, z_oA, z_tk]
    | k' + 17 => rfl
  · first | rfl | simp [z_mf, s1, s2, z_n, z_now, z_ho, z_ab, z_au, z_ar, z_ad, z_sb, z_sp, z_sg, z_sm, z_su, z_sl, z_sd, z_pb, z_pe, z_pd, z_of, z_ot, z_mk, z_pS, z_pA, z_oA, z_tk]
theorem MA.setA7 (h : MA E T Y σ th gt H) {j : Nat} {v : Int32} (he : va_at E.1 vwCl (Y 11 7, .inl (E.2.1.1, 8, .inl (upd (fun j => z_sg σ j) (j) (v)))) H1) (hk : ∀ q : Nat, q ≠ Y 11 7 → H1[q]? = H[q]?) : MA E T Y (s1 σ 22 j v) th gt H1 := by
  have e : z_mr (s1 σ 22 j v) 7 = some (8, upd (fun j => z_sg σ j) (j) (v)) := by
    show some (8, _) = some (8, _)
    congr 2
    funext q
    by_cases hq : q = j
    · simp [upd, hq, s1, s2, z_n, z_now, z_ho, z_ab, z_au, z_ar, z_ad, z_sb, z_sp, z_sg, z_sm, z_su, z_sl, z_sd, z_pb, z_pe, z_pd, z_of, z_ot, z_mk, z_pS, z_pA, z_oA, z_tk]
    · simp [upd, hq, s1, s2, z_n, z_now, z_ho, z_ab, z_au, z_ar, z_ad, z_sb, z_sp, z_sg, z_sm, z_su, z_sl, z_sd, z_pb, z_pe, z_pd, z_of, z_ot, z_mk, z_pS, z_pA, z_oA, z_tk]
  refine h.arrw (k := 7) rfl e he hk (fun k' hq => ?_) ?_
  · match k' with
    | 7 => exact absurd rfl hq
    | 0 | 1 | 2 | 3 | 4 | 5 | 6 | 8 | 9 | 10 | 11 | 12 | 13 | 14 | 15 | 16 => first | rfl | (simp only [z_mr, z_outs, s1, s2, z_n, z_now, z_ho, z_ab, z_au, z_ar, z_ad, z_sb, z_sp, z_sg, z_sm, z_su, z_sl, z_sd, z_pb, z_pe, z_pd, z_of, z_ot, z_mk, z_pS, z_pA, z_oA, z_tk]; rfl) | simp [z_mr, z_outs, s1, s2, z_n, z_now, z_ho, z_ab, z_au, z_ar, z_ad, z_sb, z_sp, z_sg, z_sm, z_su, z_sl, z_sd, z_pb, z_pe, z_pd, z_of, z_ot, z_mk, z_pS, z_pA, z_oA, z_tk]
    | k' + 17 => rfl
  · first | rfl | simp [z_mf, s1, s2, z_n, z_now, z_ho, z_ab, z_au, z_ar, z_ad, z_sb, z_sp, z_sg, z_sm, z_su, z_sl, z_sd, z_pb, z_pe, z_pd, z_of, z_ot, z_mk, z_pS, z_pA, z_oA, z_tk]
theorem MA.setA8 (h : MA E T Y σ th gt H) {j : Nat} {v : Int32} (he : va_at E.1 vwCl (Y 11 8, .inl (E.2.1.1, 8, .inl (upd (fun j => z_sm σ j) (j) (v)))) H1) (hk : ∀ q : Nat, q ≠ Y 11 8 → H1[q]? = H[q]?) : MA E T Y (s1 σ 23 j v) th gt H1 := by
  have e : z_mr (s1 σ 23 j v) 8 = some (8, upd (fun j => z_sm σ j) (j) (v)) := by
    show some (8, _) = some (8, _)
    congr 2
    funext q
    by_cases hq : q = j
    · simp [upd, hq, s1, s2, z_n, z_now, z_ho, z_ab, z_au, z_ar, z_ad, z_sb, z_sp, z_sg, z_sm, z_su, z_sl, z_sd, z_pb, z_pe, z_pd, z_of, z_ot, z_mk, z_pS, z_pA, z_oA, z_tk]
    · simp [upd, hq, s1, s2, z_n, z_now, z_ho, z_ab, z_au, z_ar, z_ad, z_sb, z_sp, z_sg, z_sm, z_su, z_sl, z_sd, z_pb, z_pe, z_pd, z_of, z_ot, z_mk, z_pS, z_pA, z_oA, z_tk]
  refine h.arrw (k := 8) rfl e he hk (fun k' hq => ?_) ?_
  · match k' with
    | 8 => exact absurd rfl hq
    | 0 | 1 | 2 | 3 | 4 | 5 | 6 | 7 | 9 | 10 | 11 | 12 | 13 | 14 | 15 | 16 => first | rfl | (simp only [z_mr, z_outs, s1, s2, z_n, z_now, z_ho, z_ab, z_au, z_ar, z_ad, z_sb, z_sp, z_sg, z_sm, z_su, z_sl, z_sd, z_pb, z_pe, z_pd, z_of, z_ot, z_mk, z_pS, z_pA, z_oA, z_tk]; rfl) | simp [z_mr, z_outs, s1, s2, z_n, z_now, z_ho, z_ab, z_au, z_ar, z_ad, z_sb, z_sp, z_sg, z_sm, z_su, z_sl, z_sd, z_pb, z_pe, z_pd, z_of, z_ot, z_mk, z_pS, z_pA, z_oA, z_tk]
    | k' + 17 => rfl
  · first | rfl | simp [z_mf, s1, s2, z_n, z_now, z_ho, z_ab, z_au, z_ar, z_ad, z_sb, z_sp, z_sg, z_sm, z_su, z_sl, z_sd, z_pb, z_pe, z_pd, z_of, z_ot, z_mk, z_pS, z_pA, z_oA, z_tk]
theorem MA.setA9 (h : MA E T Y σ th gt H) {j : Nat} {v : Int32} (he : va_at E.1 vwCl (Y 11 9, .inl (E.2.1.1, 8, .inl (upd (fun j => z_su σ j) (j) (v)))) H1) (hk : ∀ q : Nat, q ≠ Y 11 9 → H1[q]? = H[q]?) : MA E T Y (s1 σ 24 j v) th gt H1 := by
  have e : z_mr (s1 σ 24 j v) 9 = some (8, upd (fun j => z_su σ j) (j) (v)) := by
    show some (8, _) = some (8, _)
    congr 2
    funext q
    by_cases hq : q = j
    · simp [upd, hq, s1, s2, z_n, z_now, z_ho, z_ab, z_au, z_ar, z_ad, z_sb, z_sp, z_sg, z_sm, z_su, z_sl, z_sd, z_pb, z_pe, z_pd, z_of, z_ot, z_mk, z_pS, z_pA, z_oA, z_tk]
    · simp [upd, hq, s1, s2, z_n, z_now, z_ho, z_ab, z_au, z_ar, z_ad, z_sb, z_sp, z_sg, z_sm, z_su, z_sl, z_sd, z_pb, z_pe, z_pd, z_of, z_ot, z_mk, z_pS, z_pA, z_oA, z_tk]
  refine h.arrw (k := 9) rfl e he hk (fun k' hq => ?_) ?_
  · match k' with
    | 9 => exact absurd rfl hq
    | 0 | 1 | 2 | 3 | 4 | 5 | 6 | 7 | 8 | 10 | 11 | 12 | 13 | 14 | 15 | 16 => first | rfl | (simp only [z_mr, z_outs, s1, s2, z_n, z_now, z_ho, z_ab, z_au, z_ar, z_ad, z_sb, z_sp, z_sg, z_sm, z_su, z_sl, z_sd, z_pb, z_pe, z_pd, z_of, z_ot, z_mk, z_pS, z_pA, z_oA, z_tk]; rfl) | simp [z_mr, z_outs, s1, s2, z_n, z_now, z_ho, z_ab, z_au, z_ar, z_ad, z_sb, z_sp, z_sg, z_sm, z_su, z_sl, z_sd, z_pb, z_pe, z_pd, z_of, z_ot, z_mk, z_pS, z_pA, z_oA, z_tk]
    | k' + 17 => rfl
  · first | rfl | simp [z_mf, s1, s2, z_n, z_now, z_ho, z_ab, z_au, z_ar, z_ad, z_sb, z_sp, z_sg, z_sm, z_su, z_sl, z_sd, z_pb, z_pe, z_pd, z_of, z_ot, z_mk, z_pS, z_pA, z_oA, z_tk]
theorem MA.setA10 (h : MA E T Y σ th gt H) {j : Nat} {v : Int32} (he : va_at E.1 vwCl (Y 11 10, .inl (E.2.1.1, 8, .inl (upd (fun j => z_sl σ j) (j) (v)))) H1) (hk : ∀ q : Nat, q ≠ Y 11 10 → H1[q]? = H[q]?) : MA E T Y (s1 σ 25 j v) th gt H1 := by
  have e : z_mr (s1 σ 25 j v) 10 = some (8, upd (fun j => z_sl σ j) (j) (v)) := by
    show some (8, _) = some (8, _)
    congr 2
    funext q
    by_cases hq : q = j
    · simp [upd, hq, s1, s2, z_n, z_now, z_ho, z_ab, z_au, z_ar, z_ad, z_sb, z_sp, z_sg, z_sm, z_su, z_sl, z_sd, z_pb, z_pe, z_pd, z_of, z_ot, z_mk, z_pS, z_pA, z_oA, z_tk]
    · simp [upd, hq, s1, s2, z_n, z_now, z_ho, z_ab, z_au, z_ar, z_ad, z_sb, z_sp, z_sg, z_sm, z_su, z_sl, z_sd, z_pb, z_pe, z_pd, z_of, z_ot, z_mk, z_pS, z_pA, z_oA, z_tk]
  refine h.arrw (k := 10) rfl e he hk (fun k' hq => ?_) ?_
  · match k' with
    | 10 => exact absurd rfl hq
    | 0 | 1 | 2 | 3 | 4 | 5 | 6 | 7 | 8 | 9 | 11 | 12 | 13 | 14 | 15 | 16 => first | rfl | (simp only [z_mr, z_outs, s1, s2, z_n, z_now, z_ho, z_ab, z_au, z_ar, z_ad, z_sb, z_sp, z_sg, z_sm, z_su, z_sl, z_sd, z_pb, z_pe, z_pd, z_of, z_ot, z_mk, z_pS, z_pA, z_oA, z_tk]; rfl) | simp [z_mr, z_outs, s1, s2, z_n, z_now, z_ho, z_ab, z_au, z_ar, z_ad, z_sb, z_sp, z_sg, z_sm, z_su, z_sl, z_sd, z_pb, z_pe, z_pd, z_of, z_ot, z_mk, z_pS, z_pA, z_oA, z_tk]
    | k' + 17 => rfl
  · first | rfl | simp [z_mf, s1, s2, z_n, z_now, z_ho, z_ab, z_au, z_ar, z_ad, z_sb, z_sp, z_sg, z_sm, z_su, z_sl, z_sd, z_pb, z_pe, z_pd, z_of, z_ot, z_mk, z_pS, z_pA, z_oA, z_tk]
theorem MA.setA11 (h : MA E T Y σ th gt H) {j : Nat} {v : Int32} (he : va_at E.1 vwCl (Y 11 11, .inl (E.2.1.1, 8, .inl (upd (fun j => z_sd σ j) (j) (v)))) H1) (hk : ∀ q : Nat, q ≠ Y 11 11 → H1[q]? = H[q]?) : MA E T Y (s1 σ 26 j v) th gt H1 := by
  have e : z_mr (s1 σ 26 j v) 11 = some (8, upd (fun j => z_sd σ j) (j) (v)) := by
    show some (8, _) = some (8, _)
    congr 2
    funext q
    by_cases hq : q = j
    · simp [upd, hq, s1, s2, z_n, z_now, z_ho, z_ab, z_au, z_ar, z_ad, z_sb, z_sp, z_sg, z_sm, z_su, z_sl, z_sd, z_pb, z_pe, z_pd, z_of, z_ot, z_mk, z_pS, z_pA, z_oA, z_tk]
    · simp [upd, hq, s1, s2, z_n, z_now, z_ho, z_ab, z_au, z_ar, z_ad, z_sb, z_sp, z_sg, z_sm, z_su, z_sl, z_sd, z_pb, z_pe, z_pd, z_of, z_ot, z_mk, z_pS, z_pA, z_oA, z_tk]
  refine h.arrw (k := 11) rfl e he hk (fun k' hq => ?_) ?_
  · match k' with
    | 11 => exact absurd rfl hq
    | 0 | 1 | 2 | 3 | 4 | 5 | 6 | 7 | 8 | 9 | 10 | 12 | 13 | 14 | 15 | 16 => first | rfl | (simp only [z_mr, z_outs, s1, s2, z_n, z_now, z_ho, z_ab, z_au, z_ar, z_ad, z_sb, z_sp, z_sg, z_sm, z_su, z_sl, z_sd, z_pb, z_pe, z_pd, z_of, z_ot, z_mk, z_pS, z_pA, z_oA, z_tk]; rfl) | simp [z_mr, z_outs, s1, s2, z_n, z_now, z_ho, z_ab, z_au, z_ar, z_ad, z_sb, z_sp, z_sg, z_sm, z_su, z_sl, z_sd, z_pb, z_pe, z_pd, z_of, z_ot, z_mk, z_pS, z_pA, z_oA, z_tk]
    | k' + 17 => rfl
  · first | rfl | simp [z_mf, s1, s2, z_n, z_now, z_ho, z_ab, z_au, z_ar, z_ad, z_sb, z_sp, z_sg, z_sm, z_su, z_sl, z_sd, z_pb, z_pe, z_pd, z_of, z_ot, z_mk, z_pS, z_pA, z_oA, z_tk]
theorem MA.setA12 (h : MA E T Y σ th gt H) {j : Nat} {v : Nat} (he : va_at E.1 vwCl (Y 11 12, .inl (E.2.1.1, 16, .inl (upd (fun j => nI (z_pS σ j)) (j) (nI v)))) H1) (hk : ∀ q : Nat, q ≠ Y 11 12 → H1[q]? = H[q]?) : MA E T Y (s2 σ 2 j v) th gt H1 := by
  have e : z_mr (s2 σ 2 j v) 12 = some (16, upd (fun j => nI (z_pS σ j)) (j) (nI v)) := by
    show some (16, _) = some (16, _)
    congr 2
    funext q
    by_cases hq : q = j
    · simp [upd, hq, s1, s2, z_n, z_now, z_ho, z_ab, z_au, z_ar, z_ad, z_sb, z_sp, z_sg, z_sm, z_su, z_sl, z_sd, z_pb, z_pe, z_pd, z_of, z_ot, z_mk, z_pS, z_pA, z_oA, z_tk]
    · simp [upd, hq, s1, s2, z_n, z_now, z_ho, z_ab, z_au, z_ar, z_ad, z_sb, z_sp, z_sg, z_sm, z_su, z_sl, z_sd, z_pb, z_pe, z_pd, z_of, z_ot, z_mk, z_pS, z_pA, z_oA, z_tk]
  refine h.arrw (k := 12) rfl e he hk (fun k' hq => ?_) ?_
  · match k' with
    | 12 => exact absurd rfl hq
    | 0 | 1 | 2 | 3 | 4 | 5 | 6 | 7 | 8 | 9 | 10 | 11 | 13 | 14 | 15 | 16 => first | rfl | (simp only [z_mr, z_outs, s1, s2, z_n, z_now, z_ho, z_ab, z_au, z_ar, z_ad, z_sb, z_sp, z_sg, z_sm, z_su, z_sl, z_sd, z_pb, z_pe, z_pd, z_of, z_ot, z_mk, z_pS, z_pA, z_oA, z_tk]; rfl) | simp [z_mr, z_outs, s1, s2, z_n, z_now, z_ho, z_ab, z_au, z_ar, z_ad, z_sb, z_sp, z_sg, z_sm, z_su, z_sl, z_sd, z_pb, z_pe, z_pd, z_of, z_ot, z_mk, z_pS, z_pA, z_oA, z_tk]
    | k' + 17 => rfl
  · first | rfl | simp [z_mf, s1, s2, z_n, z_now, z_ho, z_ab, z_au, z_ar, z_ad, z_sb, z_sp, z_sg, z_sm, z_su, z_sl, z_sd, z_pb, z_pe, z_pd, z_of, z_ot, z_mk, z_pS, z_pA, z_oA, z_tk]
theorem MA.setA13 (h : MA E T Y σ th gt H) {j : Nat} {v : Nat} (he : va_at E.1 vwCl (Y 11 13, .inl (E.2.1.1, 16, .inl (upd (fun j => nI (z_pA σ j)) (j) (nI v)))) H1) (hk : ∀ q : Nat, q ≠ Y 11 13 → H1[q]? = H[q]?) : MA E T Y (s2 σ 3 j v) th gt H1 := by
  have e : z_mr (s2 σ 3 j v) 13 = some (16, upd (fun j => nI (z_pA σ j)) (j) (nI v)) := by
    show some (16, _) = some (16, _)
    congr 2
    funext q
    by_cases hq : q = j
    · simp [upd, hq, s1, s2, z_n, z_now, z_ho, z_ab, z_au, z_ar, z_ad, z_sb, z_sp, z_sg, z_sm, z_su, z_sl, z_sd, z_pb, z_pe, z_pd, z_of, z_ot, z_mk, z_pS, z_pA, z_oA, z_tk]
    · simp [upd, hq, s1, s2, z_n, z_now, z_ho, z_ab, z_au, z_ar, z_ad, z_sb, z_sp, z_sg, z_sm, z_su, z_sl, z_sd, z_pb, z_pe, z_pd, z_of, z_ot, z_mk, z_pS, z_pA, z_oA, z_tk]
  refine h.arrw (k := 13) rfl e he hk (fun k' hq => ?_) ?_
  · match k' with
    | 13 => exact absurd rfl hq
    | 0 | 1 | 2 | 3 | 4 | 5 | 6 | 7 | 8 | 9 | 10 | 11 | 12 | 14 | 15 | 16 => first | rfl | (simp only [z_mr, z_outs, s1, s2, z_n, z_now, z_ho, z_ab, z_au, z_ar, z_ad, z_sb, z_sp, z_sg, z_sm, z_su, z_sl, z_sd, z_pb, z_pe, z_pd, z_of, z_ot, z_mk, z_pS, z_pA, z_oA, z_tk]; rfl) | simp [z_mr, z_outs, s1, s2, z_n, z_now, z_ho, z_ab, z_au, z_ar, z_ad, z_sb, z_sp, z_sg, z_sm, z_su, z_sl, z_sd, z_pb, z_pe, z_pd, z_of, z_ot, z_mk, z_pS, z_pA, z_oA, z_tk]
    | k' + 17 => rfl
  · first | rfl | simp [z_mf, s1, s2, z_n, z_now, z_ho, z_ab, z_au, z_ar, z_ad, z_sb, z_sp, z_sg, z_sm, z_su, z_sl, z_sd, z_pb, z_pe, z_pd, z_of, z_ot, z_mk, z_pS, z_pA, z_oA, z_tk]
theorem MA.setA14 (h : MA E T Y σ th gt H) {j : Nat} {v : Int32} (he : va_at E.1 vwCl (Y 11 14, .inl (E.2.1.1, 16, .inl (upd (fun j => z_pb σ j) (j) (v)))) H1) (hk : ∀ q : Nat, q ≠ Y 11 14 → H1[q]? = H[q]?) : MA E T Y (s1 σ 30 j v) th gt H1 := by
  have e : z_mr (s1 σ 30 j v) 14 = some (16, upd (fun j => z_pb σ j) (j) (v)) := by
    show some (16, _) = some (16, _)
    congr 2
    funext q
    by_cases hq : q = j
    · simp [upd, hq, s1, s2, z_n, z_now, z_ho, z_ab, z_au, z_ar, z_ad, z_sb, z_sp, z_sg, z_sm, z_su, z_sl, z_sd, z_pb, z_pe, z_pd, z_of, z_ot, z_mk, z_pS, z_pA, z_oA, z_tk]
    · simp [upd, hq, s1, s2, z_n, z_now, z_ho, z_ab, z_au, z_ar, z_ad, z_sb, z_sp, z_sg, z_sm, z_su, z_sl, z_sd, z_pb, z_pe, z_pd, z_of, z_ot, z_mk, z_pS, z_pA, z_oA, z_tk]
  refine h.arrw (k := 14) rfl e he hk (fun k' hq => ?_) ?_
  · match k' with
    | 14 => exact absurd rfl hq
    | 0 | 1 | 2 | 3 | 4 | 5 | 6 | 7 | 8 | 9 | 10 | 11 | 12 | 13 | 15 | 16 => first | rfl | (simp only [z_mr, z_outs, s1, s2, z_n, z_now, z_ho, z_ab, z_au, z_ar, z_ad, z_sb, z_sp, z_sg, z_sm, z_su, z_sl, z_sd, z_pb, z_pe, z_pd, z_of, z_ot, z_mk, z_pS, z_pA, z_oA, z_tk]; rfl) | simp [z_mr, z_outs, s1, s2, z_n, z_now, z_ho, z_ab, z_au, z_ar, z_ad, z_sb, z_sp, z_sg, z_sm, z_su, z_sl, z_sd, z_pb, z_pe, z_pd, z_of, z_ot, z_mk, z_pS, z_pA, z_oA, z_tk]
    | k' + 17 => rfl
  · first | rfl | simp [z_mf, s1, s2, z_n, z_now, z_ho, z_ab, z_au, z_ar, z_ad, z_sb, z_sp, z_sg, z_sm, z_su, z_sl, z_sd, z_pb, z_pe, z_pd, z_of, z_ot, z_mk, z_pS, z_pA, z_oA, z_tk]
theorem MA.setA15 (h : MA E T Y σ th gt H) {j : Nat} {v : Int32} (he : va_at E.1 vwCl (Y 11 15, .inl (E.2.1.1, 16, .inl (upd (fun j => z_pe σ j) (j) (v)))) H1) (hk : ∀ q : Nat, q ≠ Y 11 15 → H1[q]? = H[q]?) : MA E T Y (s1 σ 31 j v) th gt H1 := by
  have e : z_mr (s1 σ 31 j v) 15 = some (16, upd (fun j => z_pe σ j) (j) (v)) := by
    show some (16, _) = some (16, _)
    congr 2
    funext q
    by_cases hq : q = j
    · simp [upd, hq, s1, s2, z_n, z_now, z_ho, z_ab, z_au, z_ar, z_ad, z_sb, z_sp, z_sg, z_sm, z_su, z_sl, z_sd, z_pb, z_pe, z_pd, z_of, z_ot, z_mk, z_pS, z_pA, z_oA, z_tk]
    · simp [upd, hq, s1, s2, z_n, z_now, z_ho, z_ab, z_au, z_ar, z_ad, z_sb, z_sp, z_sg, z_sm, z_su, z_sl, z_sd, z_pb, z_pe, z_pd, z_of, z_ot, z_mk, z_pS, z_pA, z_oA, z_tk]
  refine h.arrw (k := 15) rfl e he hk (fun k' hq => ?_) ?_
  · match k' with
    | 15 => exact absurd rfl hq
    | 0 | 1 | 2 | 3 | 4 | 5 | 6 | 7 | 8 | 9 | 10 | 11 | 12 | 13 | 14 | 16 => first | rfl | (simp only [z_mr, z_outs, s1, s2, z_n, z_now, z_ho, z_ab, z_au, z_ar, z_ad, z_sb, z_sp, z_sg, z_sm, z_su, z_sl, z_sd, z_pb, z_pe, z_pd, z_of, z_ot, z_mk, z_pS, z_pA, z_oA, z_tk]; rfl) | simp [z_mr, z_outs, s1, s2, z_n, z_now, z_ho, z_ab, z_au, z_ar, z_ad, z_sb, z_sp, z_sg, z_sm, z_su, z_sl, z_sd, z_pb, z_pe, z_pd, z_of, z_ot, z_mk, z_pS, z_pA, z_oA, z_tk]
    | k' + 17 => rfl
  · first | rfl | simp [z_mf, s1, s2, z_n, z_now, z_ho, z_ab, z_au, z_ar, z_ad, z_sb, z_sp, z_sg, z_sm, z_su, z_sl, z_sd, z_pb, z_pe, z_pd, z_of, z_ot, z_mk, z_pS, z_pA, z_oA, z_tk]
theorem MA.setA16 (h : MA E T Y σ th gt H) {j : Nat} {v : Int32} (he : va_at E.1 vwCl (Y 11 16, .inl (E.2.1.1, 16, .inl (upd (fun j => z_pd σ j) (j) (v)))) H1) (hk : ∀ q : Nat, q ≠ Y 11 16 → H1[q]? = H[q]?) : MA E T Y (s1 σ 32 j v) th gt H1 := by
  have e : z_mr (s1 σ 32 j v) 16 = some (16, upd (fun j => z_pd σ j) (j) (v)) := by
    show some (16, _) = some (16, _)
    congr 2
    funext q
    by_cases hq : q = j
    · simp [upd, hq, s1, s2, z_n, z_now, z_ho, z_ab, z_au, z_ar, z_ad, z_sb, z_sp, z_sg, z_sm, z_su, z_sl, z_sd, z_pb, z_pe, z_pd, z_of, z_ot, z_mk, z_pS, z_pA, z_oA, z_tk]
    · simp [upd, hq, s1, s2, z_n, z_now, z_ho, z_ab, z_au, z_ar, z_ad, z_sb, z_sp, z_sg, z_sm, z_su, z_sl, z_sd, z_pb, z_pe, z_pd, z_of, z_ot, z_mk, z_pS, z_pA, z_oA, z_tk]
  refine h.arrw (k := 16) rfl e he hk (fun k' hq => ?_) ?_
  · match k' with
    | 16 => exact absurd rfl hq
    | 0 | 1 | 2 | 3 | 4 | 5 | 6 | 7 | 8 | 9 | 10 | 11 | 12 | 13 | 14 | 15 => first | rfl | (simp only [z_mr, z_outs, s1, s2, z_n, z_now, z_ho, z_ab, z_au, z_ar, z_ad, z_sb, z_sp, z_sg, z_sm, z_su, z_sl, z_sd, z_pb, z_pe, z_pd, z_of, z_ot, z_mk, z_pS, z_pA, z_oA, z_tk]; rfl) | simp [z_mr, z_outs, s1, s2, z_n, z_now, z_ho, z_ab, z_au, z_ar, z_ad, z_sb, z_sp, z_sg, z_sm, z_su, z_sl, z_sd, z_pb, z_pe, z_pd, z_of, z_ot, z_mk, z_pS, z_pA, z_oA, z_tk]
    | k' + 17 => rfl
  · first | rfl | simp [z_mf, s1, s2, z_n, z_now, z_ho, z_ab, z_au, z_ar, z_ad, z_sb, z_sp, z_sg, z_sm, z_su, z_sl, z_sd, z_pb, z_pe, z_pd, z_of, z_ot, z_mk, z_pS, z_pA, z_oA, z_tk]
theorem MA.setO0 (h : MA E T Y σ th gt H) {j : Nat} {v : Nat} (he : va_at E.1 vwCl (Y 11 4, .inl (E.2.1.1, 18, .inl (upd (fun j => z_outs σ j) (3 * j) (nI v)))) H1) (hk : ∀ q : Nat, q ≠ Y 11 4 → H1[q]? = H[q]?) : MA E T Y (s2 σ 4 j v) th gt H1 := by
  have e : z_mr (s2 σ 4 j v) 4 = some (18, upd (fun j => z_outs σ j) (3 * j) (nI v)) := by
    show some (18, _) = some (18, _)
    congr 2
    funext q
    by_cases hq : q = 3 * j
    · subst hq
      simp only [upd, if_true]
      rw [z_outs0]
      simp [s1, s2, z_n, z_now, z_ho, z_ab, z_au, z_ar, z_ad, z_sb, z_sp, z_sg, z_sm, z_su, z_sl, z_sd, z_pb, z_pe, z_pd, z_of, z_ot, z_mk, z_pS, z_pA, z_oA, z_tk]
    · simp only [upd, if_neg hq, z_outs]
      by_cases c0 : q % 3 = 0
      · have c9 : ¬ q / 3 = j := by omega
        simp [c0, s1, s2, c9, z_n, z_now, z_ho, z_ab, z_au, z_ar, z_ad, z_sb, z_sp, z_sg, z_sm, z_su, z_sl, z_sd, z_pb, z_pe, z_pd, z_of, z_ot, z_mk, z_pS, z_pA, z_oA, z_tk]
        try omega
      · by_cases c1 : q % 3 = 1
        · simp [c1, s1, s2, z_n, z_now, z_ho, z_ab, z_au, z_ar, z_ad, z_sb, z_sp, z_sg, z_sm, z_su, z_sl, z_sd, z_pb, z_pe, z_pd, z_of, z_ot, z_mk, z_pS, z_pA, z_oA, z_tk]
          try omega
        · simp [c0, c1, s1, s2, z_n, z_now, z_ho, z_ab, z_au, z_ar, z_ad, z_sb, z_sp, z_sg, z_sm, z_su, z_sl, z_sd, z_pb, z_pe, z_pd, z_of, z_ot, z_mk, z_pS, z_pA, z_oA, z_tk]
          try omega
  refine h.arrw (k := 4) rfl e he hk (fun k' hq => ?_) ?_
  · match k' with
    | 4 => exact absurd rfl hq
    | 0 | 1 | 2 | 3 | 5 | 6 | 7 | 8 | 9 | 10 | 11 | 12 | 13 | 14 | 15 | 16 => first | rfl | (simp only [z_mr, z_outs, s1, s2, z_n, z_now, z_ho, z_ab, z_au, z_ar, z_ad, z_sb, z_sp, z_sg, z_sm, z_su, z_sl, z_sd, z_pb, z_pe, z_pd, z_of, z_ot, z_mk, z_pS, z_pA, z_oA, z_tk]; rfl) | simp [z_mr, z_outs, s1, s2, z_n, z_now, z_ho, z_ab, z_au, z_ar, z_ad, z_sb, z_sp, z_sg, z_sm, z_su, z_sl, z_sd, z_pb, z_pe, z_pd, z_of, z_ot, z_mk, z_pS, z_pA, z_oA, z_tk]
    | k' + 17 => rfl
  · first | rfl | simp [z_mf, s1, s2, z_n, z_now, z_ho, z_ab, z_au, z_ar, z_ad, z_sb, z_sp, z_sg, z_sm, z_su, z_sl, z_sd, z_pb, z_pe, z_pd, z_of, z_ot, z_mk, z_pS, z_pA, z_oA, z_tk]
theorem MA.setO1 (h : MA E T Y σ th gt H) {j : Nat} {v : Int32} (he : va_at E.1 vwCl (Y 11 4, .inl (E.2.1.1, 18, .inl (upd (fun j => z_outs σ j) (3 * j + 1) (v)))) H1) (hk : ∀ q : Nat, q ≠ Y 11 4 → H1[q]? = H[q]?) : MA E T Y (s1 σ 40 j v) th gt H1 := by
  have e : z_mr (s1 σ 40 j v) 4 = some (18, upd (fun j => z_outs σ j) (3 * j + 1) (v)) := by
    show some (18, _) = some (18, _)
    congr 2
    funext q
    by_cases hq : q = 3 * j + 1
    · subst hq
      simp only [upd, if_true]
      rw [z_outs1]
      simp [s1, s2, z_n, z_now, z_ho, z_ab, z_au, z_ar, z_ad, z_sb, z_sp, z_sg, z_sm, z_su, z_sl, z_sd, z_pb, z_pe, z_pd, z_of, z_ot, z_mk, z_pS, z_pA, z_oA, z_tk]
    · simp only [upd, if_neg hq, z_outs]
      by_cases c0 : q % 3 = 0
      · skip
        simp [c0, s1, s2, z_n, z_now, z_ho, z_ab, z_au, z_ar, z_ad, z_sb, z_sp, z_sg, z_sm, z_su, z_sl, z_sd, z_pb, z_pe, z_pd, z_of, z_ot, z_mk, z_pS, z_pA, z_oA, z_tk]
        try omega
      · by_cases c1 : q % 3 = 1
        · simp [c1, s1, s2, z_n, z_now, z_ho, z_ab, z_au, z_ar, z_ad, z_sb, z_sp, z_sg, z_sm, z_su, z_sl, z_sd, z_pb, z_pe, z_pd, z_of, z_ot, z_mk, z_pS, z_pA, z_oA, z_tk]
          try omega
        · simp [c0, c1, s1, s2, z_n, z_now, z_ho, z_ab, z_au, z_ar, z_ad, z_sb, z_sp, z_sg, z_sm, z_su, z_sl, z_sd, z_pb, z_pe, z_pd, z_of, z_ot, z_mk, z_pS, z_pA, z_oA, z_tk]
          try omega
  refine h.arrw (k := 4) rfl e he hk (fun k' hq => ?_) ?_
  · match k' with
    | 4 => exact absurd rfl hq
    | 0 | 1 | 2 | 3 | 5 | 6 | 7 | 8 | 9 | 10 | 11 | 12 | 13 | 14 | 15 | 16 => first | rfl | (simp only [z_mr, z_outs, s1, s2, z_n, z_now, z_ho, z_ab, z_au, z_ar, z_ad, z_sb, z_sp, z_sg, z_sm, z_su, z_sl, z_sd, z_pb, z_pe, z_pd, z_of, z_ot, z_mk, z_pS, z_pA, z_oA, z_tk]; rfl) | simp [z_mr, z_outs, s1, s2, z_n, z_now, z_ho, z_ab, z_au, z_ar, z_ad, z_sb, z_sp, z_sg, z_sm, z_su, z_sl, z_sd, z_pb, z_pe, z_pd, z_of, z_ot, z_mk, z_pS, z_pA, z_oA, z_tk]
    | k' + 17 => rfl
  · first | rfl | simp [z_mf, s1, s2, z_n, z_now, z_ho, z_ab, z_au, z_ar, z_ad, z_sb, z_sp, z_sg, z_sm, z_su, z_sl, z_sd, z_pb, z_pe, z_pd, z_of, z_ot, z_mk, z_pS, z_pA, z_oA, z_tk]
theorem MA.setO2 (h : MA E T Y σ th gt H) {j : Nat} {v : Int32} (he : va_at E.1 vwCl (Y 11 4, .inl (E.2.1.1, 18, .inl (upd (fun j => z_outs σ j) (3 * j + 2) (v)))) H1) (hk : ∀ q : Nat, q ≠ Y 11 4 → H1[q]? = H[q]?) : MA E T Y (s1 σ 41 j v) th gt H1 := by
  have e : z_mr (s1 σ 41 j v) 4 = some (18, upd (fun j => z_outs σ j) (3 * j + 2) (v)) := by
    show some (18, _) = some (18, _)
    congr 2
    funext q
    by_cases hq : q = 3 * j + 2
    · subst hq
      simp only [upd, if_true]
      rw [z_outs2]
      simp [s1, s2, z_n, z_now, z_ho, z_ab, z_au, z_ar, z_ad, z_sb, z_sp, z_sg, z_sm, z_su, z_sl, z_sd, z_pb, z_pe, z_pd, z_of, z_ot, z_mk, z_pS, z_pA, z_oA, z_tk]
    · simp only [upd, if_neg hq, z_outs]
      by_cases c0 : q % 3 = 0
      · skip
        simp [c0, s1, s2, z_n, z_now, z_ho, z_ab, z_au, z_ar, z_ad, z_sb, z_sp, z_sg, z_sm, z_su, z_sl, z_sd, z_pb, z_pe, z_pd, z_of, z_ot, z_mk, z_pS, z_pA, z_oA, z_tk]
        try omega
      · by_cases c1 : q % 3 = 1
        · simp [c1, s1, s2, z_n, z_now, z_ho, z_ab, z_au, z_ar, z_ad, z_sb, z_sp, z_sg, z_sm, z_su, z_sl, z_sd, z_pb, z_pe, z_pd, z_of, z_ot, z_mk, z_pS, z_pA, z_oA, z_tk]
          try omega
        · simp [c0, c1, s1, s2, z_n, z_now, z_ho, z_ab, z_au, z_ar, z_ad, z_sb, z_sp, z_sg, z_sm, z_su, z_sl, z_sd, z_pb, z_pe, z_pd, z_of, z_ot, z_mk, z_pS, z_pA, z_oA, z_tk]
          try omega
  refine h.arrw (k := 4) rfl e he hk (fun k' hq => ?_) ?_
  · match k' with
    | 4 => exact absurd rfl hq
    | 0 | 1 | 2 | 3 | 5 | 6 | 7 | 8 | 9 | 10 | 11 | 12 | 13 | 14 | 15 | 16 => first | rfl | (simp only [z_mr, z_outs, s1, s2, z_n, z_now, z_ho, z_ab, z_au, z_ar, z_ad, z_sb, z_sp, z_sg, z_sm, z_su, z_sl, z_sd, z_pb, z_pe, z_pd, z_of, z_ot, z_mk, z_pS, z_pA, z_oA, z_tk]; rfl) | simp [z_mr, z_outs, s1, s2, z_n, z_now, z_ho, z_ab, z_au, z_ar, z_ad, z_sb, z_sp, z_sg, z_sm, z_su, z_sl, z_sd, z_pb, z_pe, z_pd, z_of, z_ot, z_mk, z_pS, z_pA, z_oA, z_tk]
    | k' + 17 => rfl
  · first | rfl | simp [z_mf, s1, s2, z_n, z_now, z_ho, z_ab, z_au, z_ar, z_ad, z_sb, z_sp, z_sg, z_sm, z_su, z_sl, z_sd, z_pb, z_pe, z_pd, z_of, z_ot, z_mk, z_pS, z_pA, z_oA, z_tk]
end ZUM
