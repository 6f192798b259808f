/-! The reference's cells: its object (tag (10,0)) and its seventeen rows of ints (tags (11,k)). -/
def z_outs (σ : z_S) (j : Nat) : Int32 := if j % 3 = 0 then nI (z_oA σ (j / 3)) else if j % 3 = 1 then z_of σ (j / 3) else z_ot σ (j / 3)
def z_mf (Y : Nat → Nat → Nat) (σ : z_S) (th : Int32) (gt : Int64) : List Value := [.int th, .int (z_now σ), .int (z_ho σ), .int (nI (z_n σ 0)), .ref (Y 11 0), .ref (Y 11 1), .ref (Y 11 2), .ref (Y 11 3), .int (nI (z_n σ 3)), .ref (Y 11 4), .int (nI (z_n σ 1)), .ref (Y 11 5), .ref (Y 11 6), .ref (Y 11 7), .ref (Y 11 8), .ref (Y 11 9), .ref (Y 11 10), .ref (Y 11 11), .int (nI (z_n σ 2)), .ref (Y 11 12), .ref (Y 11 13), .ref (Y 11 14), .ref (Y 11 15), .ref (Y 11 16), .int (nI (z_mk σ)), .long gt]
def z_mr (σ : z_S) (k : Nat) : Option (Nat × (Nat → Int32)) := match k with
  | 0 => some (5, fun j => z_ab σ j)
  | 1 => some (5, fun j => z_au σ j)
  | 2 => some (5, fun j => z_ar σ j)
  | 3 => some (5, fun j => z_ad σ j)
  | 4 => some (18, fun j => z_outs σ j)
  | 5 => some (8, fun j => z_sb σ j)
  | 6 => some (8, fun j => z_sp σ j)
  | 7 => some (8, fun j => z_sg σ j)
  | 8 => some (8, fun j => z_sm σ j)
  | 9 => some (8, fun j => z_su σ j)
  | 10 => some (8, fun j => z_sl σ j)
  | 11 => some (8, fun j => z_sd σ j)
  | 12 => some (16, fun j => nI (z_pS σ j))
  | 13 => some (16, fun j => nI (z_pA σ j))
  | 14 => some (16, fun j => z_pb σ j)
  | 15 => some (16, fun j => z_pe σ j)
  | 16 => some (16, fun j => z_pd σ j)
  | _ => none
def z_cellM (E : wk_E) (Y : Nat → Nat → Nat) (σ : z_S) (th : Int32) (gt : Int64) : z_M := fun i k => match i with
  | 10 => if k = 0 then some (Y 10 0, .inr (7, z_mf Y σ th gt)) else none
  | 11 => match z_mr σ k with | some r => some (Y 11 k, .inl (E.2.1.1, r.1, .inl r.2)) | none => none
  | _ => none
def MA (E : wk_E) (T : Nat → Nat × Nat) (Y : Nat → Nat → Nat) (σ : z_S) (th : Int32) (gt : Int64) (H : Heap) : Prop := z_wd E.1 T (z_cellM E Y σ th gt) H ∧ ∀ q, q < E.2.2.1 → T q = (99, 0)
section ZMA
variable {E : wk_E} {T : Nat → Nat × Nat} {Y : Nat → Nat → Nat} {σ : z_S} {th : Int32} {gt : Int64} {H : Heap}
theorem MA.obj (h : MA E T Y σ th gt H) : va_at E.1 vwCl (Y 10 0, .inr (7, z_mf Y σ th gt)) H := (h.1 10 0 _ rfl).2
theorem MA.a0 (h : MA E T Y σ th gt H) : va_at E.1 vwCl (Y 11 0, .inl (E.2.1.1, 5, .inl (fun j => z_ab σ j))) H := (h.1 11 0 _ rfl).2
theorem MA.a1 (h : MA E T Y σ th gt H) : va_at E.1 vwCl (Y 11 1, .inl (E.2.1.1, 5, .inl (fun j => z_au σ j))) H := (h.1 11 1 _ rfl).2
theorem MA.a2 (h : MA E T Y σ th gt H) : va_at E.1 vwCl (Y 11 2, .inl (E.2.1.1, 5, .inl (fun j => z_ar σ j))) H := (h.1 11 2 _ rfl).2
theorem MA.a3 (h : MA E T Y σ th gt H) : va_at E.1 vwCl (Y 11 3, .inl (E.2.1.1, 5, .inl (fun j => z_ad σ j))) H := (h.1 11 3 _ rfl).2
theorem MA.a4 (h : MA E T Y σ th gt H) : va_at E.1 vwCl (Y 11 4, .inl (E.2.1.1, 18, .inl (fun j => z_outs σ j))) H := (h.1 11 4 _ rfl).2
theorem MA.a5 (h : MA E T Y σ th gt H) : va_at E.1 vwCl (Y 11 5, .inl (E.2.1.1, 8, .inl (fun j => z_sb σ j))) H := (h.1 11 5 _ rfl).2
theorem MA.a6 (h : MA E T Y σ th gt H) : va_at E.1 vwCl (Y 11 6, .inl (E.2.1.1, 8, .inl (fun j => z_sp σ j))) H := (h.1 11 6 _ rfl).2
theorem MA.a7 (h : MA E T Y σ th gt H) : va_at E.1 vwCl (Y 11 7, .inl (E.2.1.1, 8, .inl (fun j => z_sg σ j))) H := (h.1 11 7 _ rfl).2
theorem MA.a8 (h : MA E T Y σ th gt H) : va_at E.1 vwCl (Y 11 8, .inl (E.2.1.1, 8, .inl (fun j => z_sm σ j))) H := (h.1 11 8 _ rfl).2
theorem MA.a9 (h : MA E T Y σ th gt H) : va_at E.1 vwCl (Y 11 9, .inl (E.2.1.1, 8, .inl (fun j => z_su σ j))) H := (h.1 11 9 _ rfl).2
theorem MA.a10 (h : MA E T Y σ th gt H) : va_at E.1 vwCl (Y 11 10, .inl (E.2.1.1, 8, .inl (fun j => z_sl σ j))) H := (h.1 11 10 _ rfl).2
theorem MA.a11 (h : MA E T Y σ th gt H) : va_at E.1 vwCl (Y 11 11, .inl (E.2.1.1, 8, .inl (fun j => z_sd σ j))) H := (h.1 11 11 _ rfl).2
theorem MA.a12 (h : MA E T Y σ th gt H) : va_at E.1 vwCl (Y 11 12, .inl (E.2.1.1, 16, .inl (fun j => nI (z_pS σ j)))) H := (h.1 11 12 _ rfl).2
theorem MA.a13 (h : MA E T Y σ th gt H) : va_at E.1 vwCl (Y 11 13, .inl (E.2.1.1, 16, .inl (fun j => nI (z_pA σ j)))) H := (h.1 11 13 _ rfl).2
theorem MA.a14 (h : MA E T Y σ th gt H) : va_at E.1 vwCl (Y 11 14, .inl (E.2.1.1, 16, .inl (fun j => z_pb σ j))) H := (h.1 11 14 _ rfl).2
theorem MA.a15 (h : MA E T Y σ th gt H) : va_at E.1 vwCl (Y 11 15, .inl (E.2.1.1, 16, .inl (fun j => z_pe σ j))) H := (h.1 11 15 _ rfl).2
theorem MA.a16 (h : MA E T Y σ th gt H) : va_at E.1 vwCl (Y 11 16, .inl (E.2.1.1, 16, .inl (fun j => z_pd σ j))) H := (h.1 11 16 _ rfl).2
end ZMA
theorem z_outs0 (σ : z_S) (k : Nat) : z_outs σ (3 * k) = nI (z_oA σ k) := by
  unfold z_outs
  rw [if_pos (by omega), show 3 * k / 3 = k by omega]
theorem z_outs1 (σ : z_S) (k : Nat) : z_outs σ (3 * k + 1) = z_of σ k := by
  unfold z_outs
  rw [if_neg (by omega), if_pos (by omega), show (3 * k + 1) / 3 = k by omega]
theorem z_outs2 (σ : z_S) (k : Nat) : z_outs σ (3 * k + 2) = z_ot σ k := by
  unfold z_outs
  rw [if_neg (by omega), if_neg (by omega), show (3 * k + 2) / 3 = k by omega]
