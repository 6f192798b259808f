/-! The desk as a value. σ.1 f k: the number in field f of thing k; σ.2: counts (0), the set of the passes that are taken (1), a pass's satellite (2) and antenna (3), an outage's antenna (4). -/
abbrev z_S : Type := (Nat → Nat → Int32) × (Nat → Nat → Nat)
abbrev z_now (σ : z_S) : Int32 := σ.1 0 0
abbrev z_ho (σ : z_S) : Int32 := σ.1 1 0
abbrev z_ab (σ : z_S) (k : Nat) : Int32 := σ.1 10 k
abbrev z_au (σ : z_S) (k : Nat) : Int32 := σ.1 11 k
abbrev z_ar (σ : z_S) (k : Nat) : Int32 := σ.1 12 k
abbrev z_ad (σ : z_S) (k : Nat) : Int32 := σ.1 13 k
abbrev z_sb (σ : z_S) (k : Nat) : Int32 := σ.1 20 k
abbrev z_sp (σ : z_S) (k : Nat) : Int32 := σ.1 21 k
abbrev z_sg (σ : z_S) (k : Nat) : Int32 := σ.1 22 k
abbrev z_sm (σ : z_S) (k : Nat) : Int32 := σ.1 23 k
abbrev z_su (σ : z_S) (k : Nat) : Int32 := σ.1 24 k
abbrev z_sl (σ : z_S) (k : Nat) : Int32 := σ.1 25 k
abbrev z_sd (σ : z_S) (k : Nat) : Int32 := σ.1 26 k
abbrev z_pb (σ : z_S) (k : Nat) : Int32 := σ.1 30 k
abbrev z_pe (σ : z_S) (k : Nat) : Int32 := σ.1 31 k
abbrev z_pd (σ : z_S) (k : Nat) : Int32 := σ.1 32 k
abbrev z_of (σ : z_S) (k : Nat) : Int32 := σ.1 40 k
abbrev z_ot (σ : z_S) (k : Nat) : Int32 := σ.1 41 k
abbrev z_n (σ : z_S) (j : Nat) : Nat := σ.2 0 j
abbrev z_mk (σ : z_S) : Nat := σ.2 1 0
abbrev z_pS (σ : z_S) (k : Nat) : Nat := σ.2 2 k
abbrev z_pA (σ : z_S) (k : Nat) : Nat := σ.2 3 k
abbrev z_oA (σ : z_S) (k : Nat) : Nat := σ.2 4 k
abbrev z_tk (σ : z_S) (k : Nat) : Bool := (z_mk σ).testBit k
/-- what holds of the desk at every time -/
def z_Ok (σ : z_S) : Prop :=
  (z_n σ 0 ≤ 5 ∧ z_n σ 1 ≤ 8 ∧ z_n σ 2 ≤ 16 ∧ z_n σ 3 ≤ 0) ∧
  (∀ k, k < z_n σ 2 → z_pS σ k < z_n σ 1 ∧ z_pA σ k < z_n σ 0 ∧ 0 ≤ (z_pb σ k).toInt ∧ (z_pb σ k).toInt < (z_pe σ k).toInt ∧ (z_pe σ k).toInt ≤ 9999 ∧ (z_pe σ k).toInt - (z_pb σ k).toInt ≤ 600) ∧
  (∀ k, k < z_n σ 3 → z_oA σ k < z_n σ 0 ∧ 0 ≤ (z_of σ k).toInt ∧ (z_of σ k).toInt < (z_ot σ k).toInt ∧ (z_ot σ k).toInt ≤ 9999) ∧
  (∀ k, k < z_n σ 1 → (0 ≤ (z_sb σ k).toInt ∧ (z_sb σ k).toInt ≤ 3) ∧ 1 ≤ (z_sp σ k).toInt ∧ (z_sp σ k).toInt ≤ 9 ∧ 0 ≤ (z_sg σ k).toInt ∧ (z_sg σ k).toInt ≤ 50 ∧ 1 ≤ (z_sm σ k).toInt ∧ (z_sm σ k).toInt ≤ 100000) ∧
  (∀ k, k < z_n σ 0 → (1 ≤ (z_ab σ k).toInt ∧ (z_ab σ k).toInt ≤ 15) ∧ 0 ≤ (z_au σ k).toInt ∧ (z_au σ k).toInt ≤ 30 ∧ 1 ≤ (z_ar σ k).toInt ∧ (z_ar σ k).toInt ≤ 100) ∧
  (0 ≤ (z_now σ).toInt ∧ (z_now σ).toInt ≤ 9999 ∧ 0 ≤ (z_ho σ).toInt ∧ (z_ho σ).toInt ≤ 60) ∧
  z_mk σ < 2 ^ z_n σ 2
/-- what holds of the units between two minutes -/
def z_Sm (σ : z_S) : Prop := ∀ k, k < z_n σ 1 → 0 ≤ (z_su σ k).toInt ∧ (z_su σ k).toInt ≤ (z_sm σ k).toInt ∧ 0 ≤ (z_sl σ k).toInt ∧ 0 ≤ (z_sd σ k).toInt ∧ (z_su σ k).toInt + (z_sl σ k).toInt + (z_sd σ k).toInt ≤ 50 * (z_now σ).toInt
theorem z_Ok.n0 {σ : z_S} (h : z_Ok σ) : z_n σ 0 ≤ 5 := h.1.1
theorem z_Ok.n1 {σ : z_S} (h : z_Ok σ) : z_n σ 1 ≤ 8 := h.1.2.1
theorem z_Ok.n2 {σ : z_S} (h : z_Ok σ) : z_n σ 2 ≤ 16 := h.1.2.2.1
theorem z_Ok.n3 {σ : z_S} (h : z_Ok σ) : z_n σ 3 ≤ 0 := h.1.2.2.2
theorem z_Ok.pS {σ : z_S} (h : z_Ok σ) {k : Nat} (hk : k < z_n σ 2) : z_pS σ k < z_n σ 1 := (h.2.1 k hk).1
theorem z_Ok.pA {σ : z_S} (h : z_Ok σ) {k : Nat} (hk : k < z_n σ 2) : z_pA σ k < z_n σ 0 := (h.2.1 k hk).2.1
theorem z_Ok.oA {σ : z_S} (h : z_Ok σ) {k : Nat} (hk : k < z_n σ 3) : z_oA σ k < z_n σ 0 := (h.2.2.1 k hk).1
/-! The desk's cells. Their tags: (0,0) the desk, (1,j) list j, (2,j) its row, (3,0) the search, (4,j) its rows, (5..8,k) thing k of list 0..3. X.1: addresses by tags; X.2.1: numbers that don't matter; X.2.2: the lengths of the lists' rows. -/
abbrev z_X : Type := (Nat → Nat → Nat) × (Nat → Nat → Int32) × (Nat → Nat)
abbrev z_M : Type := Nat → Nat → Option (Nat × va_E)
def z_cell (E : wk_E) (X : z_X) (σ : z_S) : z_M := fun i k => match i with
  | 0 => if k = 0 then some (X.1 0 0, .inr (6, [.ref (X.1 1 0), .ref (X.1 1 1), .ref (X.1 1 2), .ref (X.1 1 3), .ref (X.1 3 0), .int (z_now σ), .int (z_ho σ)])) else none
  | 1 => if k < 4 then some (X.1 1 k, .inr (0, [.int (X.2.1 0 k), .ref (X.1 2 k), .int (nI (z_n σ k))])) else none
  | 2 => if k < 4 ∧ 0 < z_n σ k then some (X.1 2 k, .inl (E.2.1.2.1, X.2.2 k, .inr (.inr (.inr (.inr (fun j => if j < z_n σ k then some (X.1 (5 + k) j) else none)))))) else none
  | 3 => if k = 0 then some (X.1 3 0, .inr (5, [.ref (X.1 4 0), .ref (X.1 4 1), .int (X.2.1 1 0), .int (X.2.1 1 1)])) else none
  | 4 => if k < 2 then some (X.1 4 k, .inl (E.2.1.1, 16, .inl (X.2.1 (2 + k)))) else none
  | 5 => if k < z_n σ 0 then some (X.1 5 k, .inr (1, [.int (nI k), .int (z_ab σ k), .int (z_au σ k), .int (z_ar σ k), .int (z_ad σ k)])) else none
  | 6 => if k < z_n σ 1 then some (X.1 6 k, .inr (4, [.int (nI k), .int (z_sb σ k), .int (z_sp σ k), .int (z_sg σ k), .int (z_sm σ k), .int (z_su σ k), .int (z_sl σ k), .int (z_sd σ k)])) else none
  | 7 => if k < z_n σ 2 then some (X.1 7 k, .inr (3, [.int (nI k), .ref (X.1 6 (z_pS σ k)), .ref (X.1 5 (z_pA σ k)), .int (z_pb σ k), .int (z_pe σ k), .int (wk_b (z_tk σ k)), .int (z_pd σ k)])) else none
  | 8 => if k < z_n σ 3 then some (X.1 8 k, .inr (2, [.ref (X.1 5 (z_oA σ k)), .int (z_of σ k), .int (z_ot σ k)])) else none
  | _ => none
/-- the heap holds the cells of a map, each under its tag -/
def z_wd (D : va_G) (T : Nat → Nat × Nat) (c : z_M) (H : Heap) : Prop := ∀ (i k : Nat) (ae : Nat × va_E), c i k = some ae → T ae.1 = (i, k) ∧ va_at D vwCl ae H
/-- E.2.2.1: what lies below it was there before the run; E.2.2.2: the empty row that all new lists share -/
def DA (E : wk_E) (T : Nat → Nat × Nat) (X : z_X) (σ : z_S) (H : Heap) : Prop :=
  z_wd E.1 T (z_cell E X σ) H ∧ (∀ q, q < E.2.2.1 → T q = (99, 0)) ∧ ∀ j, j < 4 → (z_n σ j = 0 → X.1 2 j = E.2.2.2) ∧ (0 < z_n σ j → z_n σ j ≤ X.2.2 j ∧ 2 ≤ X.2.2 j ∧ X.2.2 j ≤ 1000)
section ZDA
variable {E : wk_E} {T : Nat → Nat × Nat} {X : z_X} {σ : z_S} {H : Heap}
theorem DA.desk (h : DA E T X σ H) : va_at E.1 vwCl (X.1 0 0, .inr (6, [.ref (X.1 1 0), .ref (X.1 1 1), .ref (X.1 1 2), .ref (X.1 1 3), .ref (X.1 3 0), .int (z_now σ), .int (z_ho σ)])) H := (h.1 0 0 _ rfl).2
theorem DA.list (h : DA E T X σ H) {j : Nat} (hj : j < 4) : va_at E.1 vwCl (X.1 1 j, .inr (0, [.int (X.2.1 0 j), .ref (X.1 2 j), .int (nI (z_n σ j))])) H := (h.1 1 j _ (if_pos hj)).2
theorem DA.row (h : DA E T X σ H) {j : Nat} (hj : j < 4) (hn : 0 < z_n σ j) : va_at E.1 vwCl (X.1 2 j, .inl (E.2.1.2.1, X.2.2 j, .inr (.inr (.inr (.inr (fun i => if i < z_n σ j then some (X.1 (5 + j) i) else none)))))) H := (h.1 2 j _ (if_pos ⟨hj, hn⟩)).2
theorem DA.search (h : DA E T X σ H) : va_at E.1 vwCl (X.1 3 0, .inr (5, [.ref (X.1 4 0), .ref (X.1 4 1), .int (X.2.1 1 0), .int (X.2.1 1 1)])) H := (h.1 3 0 _ rfl).2
theorem DA.srow (h : DA E T X σ H) {j : Nat} (hj : j < 2) : va_at E.1 vwCl (X.1 4 j, .inl (E.2.1.1, 16, .inl (X.2.1 (2 + j)))) H := (h.1 4 j _ (if_pos hj)).2
theorem DA.ant (h : DA E T X σ H) {k : Nat} (hk : k < z_n σ 0) : va_at E.1 vwCl (X.1 5 k, .inr (1, [.int (nI k), .int (z_ab σ k), .int (z_au σ k), .int (z_ar σ k), .int (z_ad σ k)])) H := (h.1 5 k _ (if_pos hk)).2
theorem DA.sat (h : DA E T X σ H) {k : Nat} (hk : k < z_n σ 1) : va_at E.1 vwCl (X.1 6 k, .inr (4, [.int (nI k), .int (z_sb σ k), .int (z_sp σ k), .int (z_sg σ k), .int (z_sm σ k), .int (z_su σ k), .int (z_sl σ k), .int (z_sd σ k)])) H := (h.1 6 k _ (if_pos hk)).2
theorem DA.pass (h : DA E T X σ H) {k : Nat} (hk : k < z_n σ 2) : va_at E.1 vwCl (X.1 7 k, .inr (3, [.int (nI k), .ref (X.1 6 (z_pS σ k)), .ref (X.1 5 (z_pA σ k)), .int (z_pb σ k), .int (z_pe σ k), .int (wk_b (z_tk σ k)), .int (z_pd σ k)])) H := (h.1 7 k _ (if_pos hk)).2
theorem DA.outg (h : DA E T X σ H) {k : Nat} (hk : k < z_n σ 3) : va_at E.1 vwCl (X.1 8 k, .inr (2, [.ref (X.1 5 (z_oA σ k)), .int (z_of σ k), .int (z_ot σ k)])) H := (h.1 8 k _ (if_pos hk)).2
theorem DA.cap (h : DA E T X σ H) {j : Nat} (hj : j < 4) (hn : 0 < z_n σ j) : z_n σ j ≤ X.2.2 j ∧ 2 ≤ X.2.2 j ∧ X.2.2 j ≤ 1000 := (h.2.2 j hj).2 hn
theorem DA.antT (h : DA E T X σ H) {k : Nat} (hk : k < z_n σ 0) : T (X.1 5 k) = (5, k) := (h.1 5 k _ (if_pos hk)).1
theorem DA.satT (h : DA E T X σ H) {k : Nat} (hk : k < z_n σ 1) : T (X.1 6 k) = (6, k) := (h.1 6 k _ (if_pos hk)).1
theorem DA.passT (h : DA E T X σ H) {k : Nat} (hk : k < z_n σ 2) : T (X.1 7 k) = (7, k) := (h.1 7 k _ (if_pos hk)).1
theorem DA.antI (h : DA E T X σ H) {j k : Nat} (hj : j < z_n σ 0) (hk : k < z_n σ 0) (he : X.1 5 j = X.1 5 k) : j = k := (Prod.mk.inj ((h.antT hj).symm.trans ((congrArg T he).trans (h.antT hk)))).2
theorem DA.satI (h : DA E T X σ H) {j k : Nat} (hj : j < z_n σ 1) (hk : k < z_n σ 1) (he : X.1 6 j = X.1 6 k) : j = k := (Prod.mk.inj ((h.satT hj).symm.trans ((congrArg T he).trans (h.satT hk)))).2
theorem DA.passI (h : DA E T X σ H) {j k : Nat} (hj : j < z_n σ 2) (hk : k < z_n σ 2) (he : X.1 7 j = X.1 7 k) : j = k := (Prod.mk.inj ((h.passT hj).symm.trans ((congrArg T he).trans (h.passT hk)))).2
end ZDA
