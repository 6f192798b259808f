/-! What the law's own helpers compute, and the rows of numbers that the law keeps. -/
def q_b (x : Int32) (n : Nat) : Nat := x.toBitVec.toNat % 2 ^ 31 % n
theorem q_b_lt (x : Int32) {n : Nat} (h : 0 < n) : q_b x n < n := Nat.mod_lt _ h
theorem q_rem (x : Int32) {n : Nat} (h0 : 0 < n) (hn : n < 2 ^ 31) : (x &&& 2147483647) - (x &&& 2147483647) / nI n * nI n = nI (q_b x n) := by
  rw [pk_and x 31 (by decide)]
  exact pk_rem (Nat.mod_lt _ (by decide)) h0 hn
theorem q_nz {n : Int32} {k : Nat} (hn : n = nI k) (h0 : 0 < k) (hk : k < 2 ^ 31) : ¬ n = 0 := fun z => by
  have h := wk_ceqt (a := k) (b := 0) hk (by decide) ((hn.symm.trans z).trans nI_0.symm)
  omega
/-- a number of the script, or one made of its place -/
def q_cell (L : Nat) (xs : Nat → Int32) (k : Nat) : Int32 := if k < L then xs k else nI (790386105 * (k + 3))
def q_X (b L : Nat) (xs : Nat → Int32) (H : Heap) (U : State) : Prop := va_X b L xs U H
theorem q_X.warm {b L : Nat} {xs : Nat → Int32} {H : Heap} {s U : State} (hW : s.WarmedH U.vm) (h : va_X b L xs s H) : q_X b L xs H U := va_X.moved hW.alike h
theorem q_X.call {b L : Nat} {xs : Nat → Int32} {H : Heap} {U : State} (g : JFrame) (mk : MethodId) (a : Array Value) (h : q_X b L xs H U) : q_X b L xs H (U.calling g mk a) := va_X.moved (u := U) (U := U.calling g mk a) (Vm.Alike.refl U.vm) h
theorem q_Xlt {b L : Nat} {xs : Nat → Int32} {H : Heap} {U : State} (h : va_X b L xs U H) : b < H.size := by
  obtain ⟨scr, h1, -⟩ := h
  exact (Array.getElem?_eq_some_iff.mp h1).1
/-- as wk_Met, with one thing more that the start must meet -/
def wk_MetP (P : State → Prop) (l : Launch) (y : MethodName) (ws : List Cond) (rm : Room) (E : wk_E) (H : Heap) (av : List Value) (r : Option Value) : Prop := Met l y ws rm (va_Pc av (fun U => (U.heap = H ∧ wk_K E U) ∧ P U)) (wk_Q r) 0 0 (fun _ => False)
section WQ
variable {p : Program} {l : Launch} {e : Env} {R : Room} {s : State} {m : MethodId} {args : Array Value} {below : List Frame} {meth : Method} {c : Code} {H : Heap} {locs : List Loc} {cells slots : Nat} {Q : State → Prop}
variable {y : MethodName} {bytes cc : ByteArray} {maxL nL n index mc ms : Nat} {ret : Option FieldType} {hh : List (Nat × Nat × Nat × Nat)} {ws Ts : List Cond} {rm : Room} {own : String} {pc : Nat} {As rest st0 : List Value} {ls : Array Slot} {E : wk_E} {v : Value} {A : Nat → Prop} {H0 : Heap} {F : Nat → Prop} {Rt : Option Value → Heap → Prop} {P : State → Prop}
theorem wk_SX (S : CallFix p m c cc nL s args Ts own) (hM : wk_MetP P l y ws rm E H As (some v)) (hPw : ∀ U : State, s.WarmedH U.vm → P U) (hPb : ∀ (U : State) (g : JFrame) (mk : MethodId) (a : Array Value), P U → P (U.calling g mk a)) (cw : CallB R s args own index y bytes maxL ret ws rm 0 0 n ∧ (Cond.static y).before args s = true) (hK : wk_K E s)
    (hn : As.length = n) (hsize : ls.size = nL) (hstack : st0 = As.reverse ++ rest) (hW : (rest.map fun v => v.category).sum ≤ 8) (hdg : decode cc pc = .ok (.invokestatic index, 3)) (hf : cells ≤ R.cells ∧ slots ≤ R.slots)
    (kk : W p l e R s m args below meth c H locs cells slots Q (F0 m (pc + 3) ls (v :: rest))) : W p l e R s m args below meth c H locs cells slots Q (F0 m pc ls st0) :=
  wk_back (va_runS (g := F0 m pc ls st0) (As := As) (rest := rest) S hM cw ⟨fun a U g mk q => ⟨q.1, (wk_blind (E := E) (H := H) (av := As) a U g mk ⟨q.1, q.2.1⟩).2, hPb U g mk a q.2.2⟩, fun U hU hW => ⟨rfl, ⟨hU, wk_warm hW hK⟩, hPw U hW⟩⟩ rfl hn hsize hstack (lv_room hW) hdg hf) kk
theorem q_SP (S : CallFix p m c cc nL s args Ts own) (hM : we_MetP P l y ws rm E H As F mc ms Rt) (hPw : ∀ U : State, s.WarmedH U.vm → P U) (hPb : ∀ (U : State) (g : JFrame) (mk : MethodId) (a : Array Value), P U → P (U.calling g mk a)) (cw : vx_CSW R s args own index y bytes maxL ret hh ws rm mc ms n) (hV : EV E s H) (hS : va_S A H0 H locs) (hF : ∀ q, F q → A q) (hA : ∀ q, H0.size ≤ q → A q)
    (hn : As.length = n) (hsize : ls.size = nL) (hstack : st0 = As.reverse ++ rest) (hW : (rest.map fun v => v.category).sum ≤ 8) (hdg : decode cc pc = .ok (.invokestatic index, 3)) (hf : cells + mc ≤ R.cells ∧ slots + ms ≤ R.slots)
    (kk : ∀ (v : Option Value) (H1 : Heap) (locs1 : List Loc), Rt v H1 → H.size ≤ H1.size → (∀ q : Nat, q < H.size → ¬ F q → H1[q]? = H[q]?) → va_S A H0 H1 locs1 → W p l e R s m args below meth c H1 locs1 (cells + mc) (slots + ms) Q (F0 m (pc + 3) ls (v.toList ++ rest))) : W p l e R s m args below meth c H locs cells slots Q (F0 m pc ls st0) :=
  we_back (vx_runSW (g := F0 m pc ls st0) (As := As) (rest := rest) S hM cw ⟨fun a U g mk q => ⟨q.1, ⟨q.2.1.1, EV.call g mk a q.2.1.2⟩, hPb U g mk a q.2.2⟩, fun U hU hW => ⟨rfl, ⟨hU, EV.warm hW hV⟩, hPw U hW⟩⟩ rfl hn hsize hstack (lv_room hW) hdg hf) rfl hS hF hA kk
theorem wk_geni {x : Int32} (k : ∀ x : Int32, W p l e R s m args below meth c H locs cells slots Q (F0 m pc ls (.int x :: rest))) : W p l e R s m args below meth c H locs cells slots Q (F0 m pc ls (.int x :: rest)) := k x
theorem wk_genb {j n : Nat} (h : j < n) (k : ∀ j : Nat, j < n → W p l e R s m args below meth c H locs cells slots Q (F0 m pc ls (.int (nI j) :: rest))) : W p l e R s m args below meth c H locs cells slots Q (F0 m pc ls (.int (nI j) :: rest)) := k j h
end WQ
theorem q_Sg {A : Nat → Prop} {H0 H H1 : Heap} {locs : List Loc} (hS : va_S A H0 H locs) (hz : H.size ≤ H1.size) (hk : ∀ q : Nat, q < H.size → H1[q]? = H[q]?) : va_S A H0 H1 locs := ⟨Nat.le_trans hS.1 hz, fun q h1 h2 => (hk q (Nat.lt_of_lt_of_le h1 hS.1)).trans (hS.2.1 q h1 h2), hS.2.2⟩
section QT
variable {T T0 : Nat → Nat × Nat} {E : wk_E} {a b i j q N aa sa pa : Nat}
theorem q_ff (h : T a = (20, i)) : ¬ z_FD T a := by
  unfold z_FD
  rw [h]
  exact (by decide : ¬ 20 < 9)
theorem q_nf (h : T a = (20, i)) (hq : z_FD T q) : ¬ q = a := fun z => q_ff h (z ▸ hq)
theorem q_ne (ha : T a = (20, i)) (hb : T b = (20, j)) (hij : ¬ i = j) : ¬ a = b := fun z => hij (Prod.mk.inj (ha.symm.trans ((congrArg T z).trans hb))).2
theorem q_FDs (hT : ∀ q, q < N → T q = T0 q) : ∀ q, z_FD T q → (z_FD T0 q ∨ q = aa ∨ q = sa ∨ q = pa) ∨ N ≤ q := fun q hq => by
  rcases Nat.lt_or_ge q N with h | h
  · refine Or.inl (Or.inl ?_)
    unfold z_FD at hq ⊢
    rw [← hT q h]; exact hq
  · exact Or.inr h
theorem q_notF (h : ∀ q, q < E.2.2.1 → T q = (99, 0)) (ea : E.2.2.1 ≤ aa) (es : E.2.2.1 ≤ sa) (ep : E.2.2.1 ≤ pa) (hq : q < E.2.2.1) : ¬ (z_FD T q ∨ q = aa ∨ q = sa ∨ q = pa) := fun z => by
  rcases z with z | z | z | z
  · exact z_FDb h hq z
  · omega
  · omega
  · omega
end QT
/-! Places written one behind the other. -/
theorem q_up3 (f : Nat → Int32) (a : Nat) (x y z : Int32) : upd (upd (upd f (3 * a) x) (3 * a + 1) y) (3 * a + 2) z (3 * a) = x ∧ upd (upd (upd f (3 * a) x) (3 * a + 1) y) (3 * a + 2) z (3 * a + 1) = y ∧ upd (upd (upd f (3 * a) x) (3 * a + 1) y) (3 * a + 2) z (3 * a + 2) = z ∧ ∀ j, j < a → upd (upd (upd f (3 * a) x) (3 * a + 1) y) (3 * a + 2) z (3 * j) = f (3 * j) := by
  refine ⟨?_, ?_, ?_, fun j hj => ?_⟩
  · unfold upd; rw [if_neg (by omega), if_neg (by omega), if_pos rfl]
  · unfold upd; rw [if_neg (by omega), if_pos rfl]
  · unfold upd; rw [if_pos rfl]
  · unfold upd; rw [if_neg (by omega), if_neg (by omega), if_neg (by omega)]
theorem q_up4 (f : Nat → Int32) (a : Nat) (x y z w : Int32) : ∀ g, g = upd (upd (upd (upd f (4 * a) x) (4 * a + 1) y) (4 * a + 2) z) (4 * a + 3) w → g (4 * a) = x ∧ g (4 * a + 1) = y ∧ g (4 * a + 2) = z ∧ g (4 * a + 3) = w ∧ ∀ j, j < a → g (4 * j) = f (4 * j) ∧ g (4 * j + 1) = f (4 * j + 1) := by
  intro g hg
  subst hg
  refine ⟨?_, ?_, ?_, ?_, fun j hj => ⟨?_, ?_⟩⟩
  · unfold upd; rw [if_neg (by omega), if_neg (by omega), if_neg (by omega), if_pos rfl]
  · unfold upd; rw [if_neg (by omega), if_neg (by omega), if_pos rfl]
  · unfold upd; rw [if_neg (by omega), if_pos rfl]
  · unfold upd; rw [if_pos rfl]
  · unfold upd; rw [if_neg (by omega), if_neg (by omega), if_neg (by omega), if_neg (by omega)]
  · unfold upd; rw [if_neg (by omega), if_neg (by omega), if_neg (by omega), if_neg (by omega)]
theorem q_up5 (f : Nat → Int32) (a : Nat) (x y z w : Int32) : ∀ g, g = upd (upd (upd (upd f (5 * a) x) (5 * a + 1) y) (5 * a + 2) z) (5 * a + 3) w → g (5 * a) = x ∧ g (5 * a + 2) = z ∧ g (5 * a + 3) = w ∧ ∀ j, j < a → g (5 * j) = f (5 * j) ∧ g (5 * j + 2) = f (5 * j + 2) ∧ g (5 * j + 3) = f (5 * j + 3) := by
  intro g hg
  subst hg
  refine ⟨?_, ?_, ?_, fun j hj => ⟨?_, ?_, ?_⟩⟩
  · unfold upd; rw [if_neg (by omega), if_neg (by omega), if_neg (by omega), if_pos rfl]
  · unfold upd; rw [if_neg (by omega), if_pos rfl]
  · unfold upd; rw [if_pos rfl]
  · unfold upd; rw [if_neg (by omega), if_neg (by omega), if_neg (by omega), if_neg (by omega)]
  · unfold upd; rw [if_neg (by omega), if_neg (by omega), if_neg (by omega), if_neg (by omega)]
  · unfold upd; rw [if_neg (by omega), if_neg (by omega), if_neg (by omega), if_neg (by omega)]
/-! The law's numbers are the desk's. -/
section QR
variable {σ : z_S} {fa fa1 fs fs1 fp fp1 : Nat → Int32} {a k c : Nat}
theorem q_RA {x y z : Int32} (hn : z_n σ 0 = a) (h : ∀ j, j < a → fa (3 * j) = z_ab σ j) (g0 : fa1 (3 * a) = x) (g3 : ∀ j, j < a → fa1 (3 * j) = fa (3 * j)) : ∀ j, j < a + 1 → fa1 (3 * j) = z_ab (f_addA σ x y z) j := fun j hj => by
  subst hn
  by_cases e : j = z_n σ 0
  · subst e
    rw [g0]
    simp [f_addA, s1, s2, z_ab, z_n]
  · rw [g3 j (by omega), h j (by omega)]
    simp [f_addA, s1, s2, z_ab, z_n, e]
theorem q_RS {w x y z : Int32} (hn : z_n σ 1 = k) (h : ∀ j, j < k → fs (4 * j) = z_sb σ j ∧ fs (4 * j + 1) = z_sp σ j) (g0 : fs1 (4 * k) = w) (g1 : fs1 (4 * k + 1) = x) (g3 : ∀ j, j < k → fs1 (4 * j) = fs (4 * j) ∧ fs1 (4 * j + 1) = fs (4 * j + 1)) : ∀ j, j < k + 1 → fs1 (4 * j) = z_sb (f_addS σ w x y z) j ∧ fs1 (4 * j + 1) = z_sp (f_addS σ w x y z) j := fun j hj => by
  subst hn
  by_cases e : j = z_n σ 1
  · subst e
    rw [g0, g1]
    simp [f_addS, s1, s2, z_sb, z_sp, z_n]
  · rw [(g3 j (by omega)).1, (g3 j (by omega)).2, (h j (by omega)).1, (h j (by omega)).2]
    simp [f_addS, s1, s2, z_sb, z_sp, z_n, e]
theorem q_RP {i a9 : Nat} {x y : Int32} (h : ∀ j, j < z_n σ 2 → fp (5 * j) = nI (z_pS σ j) ∧ fp (5 * j + 2) = z_pb σ j ∧ fp (5 * j + 3) = z_pe σ j) (g0 : fp1 (5 * z_n σ 2) = nI i) (g1 : fp1 (5 * z_n σ 2 + 2) = x) (g2 : fp1 (5 * z_n σ 2 + 3) = y) (g3 : ∀ j, j < z_n σ 2 → fp1 (5 * j) = fp (5 * j) ∧ fp1 (5 * j + 2) = fp (5 * j + 2) ∧ fp1 (5 * j + 3) = fp (5 * j + 3)) : ∀ j, j < z_n (f_addP σ i a9 x y) 2 → fp1 (5 * j) = nI (z_pS (f_addP σ i a9 x y) j) ∧ fp1 (5 * j + 2) = z_pb (f_addP σ i a9 x y) j ∧ fp1 (5 * j + 3) = z_pe (f_addP σ i a9 x y) j := fun j hj => by
  have hj : j < z_n σ 2 + 1 := hj
  by_cases e : j = z_n σ 2
  · subst e
    rw [g0, g1, g2]
    simp [f_addP, s1, s2, z_pS, z_pb, z_pe, z_n]
  · rw [(g3 j (by omega)).1, (g3 j (by omega)).2.1, (g3 j (by omega)).2.2, (h j (by omega)).1, (h j (by omega)).2.1, (h j (by omega)).2.2]
    simp [f_addP, s1, s2, z_pS, z_pb, z_pe, z_n, e]
theorem q_ZrA (h : z_Zr σ) {x y z : Int32} : z_Zr (f_addA σ x y z) := ⟨fun k hk => h.1 k (Nat.le_trans (Nat.le_succ _) hk), h.2.1, h.2.2⟩
theorem q_ZrS (h : z_Zr σ) {w x y z : Int32} : z_Zr (f_addS σ w x y z) := ⟨h.1, fun k hk => h.2.1 k (Nat.le_trans (Nat.le_succ _) hk), h.2.2⟩
theorem q_ZrP (h : z_Zr σ) {i a : Nat} {x y : Int32} : z_Zr (f_addP σ i a x y) := ⟨h.1, h.2.1, fun k hk => h.2.2 k (Nat.le_trans (Nat.le_succ _) hk)⟩
end QR
theorem q_in {x lo hi : Nat} (h1 : lo ≤ x) (h2 : x ≤ hi) (hh : hi < 2 ^ 31) : v_in (nI x) (nI lo) (nI hi) = true := by
  unfold v_in
  rw [decide_eq_true ((nI_leI (by omega) (by omega)).mpr h1), decide_eq_true ((nI_leI (by omega) hh).mpr h2)]
  rfl
theorem q_ant {x y z : Nat} (hx : 1 ≤ x ∧ x ≤ 15) (hy : y ≤ 30) (hz : 1 ≤ z ∧ z ≤ 100) : v_ant (nI x) (nI y) (nI z) = true := by
  have h1 : v_in (nI x) 1 15 = true := q_in (lo := 1) (hi := 15) hx.1 hx.2 (by decide)
  have h2 : v_in (nI y) 0 30 = true := q_in (lo := 0) (hi := 30) (Nat.zero_le _) hy (by decide)
  have h3 : v_in (nI z) 1 100 = true := q_in (lo := 1) (hi := 100) hz.1 hz.2 (by decide)
  unfold v_ant
  rw [h1, h2, h3]
  rfl
theorem q_sat {w x y z : Nat} (hw : w ≤ 3) (hx : 1 ≤ x ∧ x ≤ 9) (hy : y ≤ 50) (hz : 1 ≤ z ∧ z ≤ 100000) : v_sat (nI w) (nI x) (nI y) (nI z) = true := by
  have h0 : v_in (nI w) 0 3 = true := q_in (lo := 0) (hi := 3) (Nat.zero_le _) hw (by decide)
  have h1 : v_in (nI x) 1 9 = true := q_in (lo := 1) (hi := 9) hx.1 hx.2 (by decide)
  have h2 : v_in (nI y) 0 50 = true := q_in (lo := 0) (hi := 50) (Nat.zero_le _) hy (by decide)
  have h3 : v_in (nI z) 1 100000 = true := q_in (lo := 1) (hi := 100000) hz.1 hz.2 (by decide)
  unfold v_sat
  rw [h0, h1, h2, h3]
  rfl
theorem q_span {σ : z_S} (h0 : z_now σ = 0) {x y : Nat} (hxy : x < y) (hy : y ≤ 9999) : v_span σ (nI x) (nI y) = true := by
  have h1 : z_now σ ≤ nI x := by rw [h0, ← nI_0]; exact (nI_leI (by decide) (by omega)).mpr (Nat.zero_le x)
  have h2 : nI x < nI y := (nI_ltI (by omega) (by omega)).mpr hxy
  have h3 : nI y ≤ nI 9999 := (nI_leI (by omega) (by decide)).mpr hy
  have h4 : nI y ≤ (9999 : Int32) := h3
  unfold v_span
  rw [decide_eq_true h1, decide_eq_true h2, decide_eq_true h4]
  rfl
theorem q_len {x y : Nat} (hxy : x ≤ y) (hy : y - x ≤ 600) : nI y - nI x ≤ (600 : Int32) := by
  rw [pk_sub hxy]
  have h3 : nI (y - x) ≤ nI 600 := (nI_leI (by omega) (by decide)).mpr hy
  exact h3
theorem v_len {σ : z_S} {x y : Int32} (hI : z_Ok σ) (h : v_span σ x y = true) (hl : y - x ≤ 600) : y.toInt - x.toInt ≤ 600 := by
  have hs := v_spanI hI h
  rw [fa_le, fb_subI (by omega) (by omega)] at hl
  exact hl
theorem q_and31 : ∀ b, b < 32 → nI b &&& (31 : Int32) = nI b := by decide +kernel
theorem q_smod : ∀ b, b < 32 → ((nI b).toBitVec.smod 32).toNat = b := by decide +kernel
theorem q_shb {mm bb : Nat} (hm : mm < 2 ^ 31) (hb : bb < 32) : (nI mm >>> (nI bb &&& 31)) &&& 1 = wk_b (mm.testBit bb) := by
  rw [q_and31 bb hb, pk_shrN hm _ bb (q_smod bb hb), pk_andN (Nat.lt_of_le_of_lt (Nat.div_le_self _ _) (by omega)) 1 (by decide), Nat.testBit_eq_decide_div_mod_eq]
  rcases Nat.mod_two_eq_zero_or_one (mm / 2 ^ bb) with h | h
  · rw [show 2 ^ 1 = 2 from rfl, h]; rfl
  · rw [show 2 ^ 1 = 2 from rfl, h]; rfl
theorem q_mod5 {t : Nat} (h : t < 2 ^ 31) : nI t - nI t / 5 * 5 = nI (t % 5) := pk_rem (d := 5) h (by decide) (by decide)
theorem q_div5 {t : Nat} (h : t < 2 ^ 31) : nI t / 5 = nI (t / 5) := pk_div (d := 5) h (by decide) (by decide)
/-- the desk and the law's four rows -/
abbrev q_B (E : wk_E) (N : Nat) (T0 T : Nat → Nat × Nat) (X : z_X) (σ : z_S) (H : Heap) (o aa sa pa ct : Nat) (fa fs fp fc : Nat → Int32) : Prop :=
  DA E T X σ H ∧ X.1 0 0 = o ∧ (T aa = (20, 0) ∧ T sa = (20, 1) ∧ T pa = (20, 2) ∧ T ct = (20, 3)) ∧
  (va_at E.1 vwCl (aa, .inl (E.2.1.1, 15, .inl fa)) H ∧ va_at E.1 vwCl (sa, .inl (E.2.1.1, 32, .inl fs)) H ∧ va_at E.1 vwCl (pa, .inl (E.2.1.1, 80, .inl fp)) H ∧ va_at E.1 vwCl (ct, .inl (E.2.1.1, 3, .inl fc)) H) ∧
  (∀ q, q < N → T q = T0 q) ∧ z_Ok σ ∧ z_Zr σ ∧ z_now σ = 0
/-- the law's rows tell of the passes what the desk has -/
def q_L (σ : z_S) (fs fp : Nat → Int32) : Prop := ∀ j, j < z_n σ 2 → fp (5 * j) = nI (z_pS σ j) ∧ fp (5 * j + 2) = z_pb σ j ∧ fp (5 * j + 3) = z_pe σ j ∧ fs (4 * z_pS σ j + 1) = z_sp σ (z_pS σ j)
/-! What a minute leaves as it was. -/
section QM
variable {σ : z_S} {f : Nat}
theorem q_gatherTo (hf : f = 21 ∨ f = 30 ∨ f = 31) : ∀ k i, (f_gatherTo σ k).1 f i = σ.1 f i
  | 0, _ => rfl
  | k + 1, i => by
    have ih := q_gatherTo hf k i
    rw [← ih]
    rcases hf with h | h | h <;> subst h <;> rfl
theorem q_bring1 (hf : f = 21 ∨ f = 30 ∨ f = 31) (k i : Nat) : (f_bring1 σ k).1 f i = σ.1 f i := by
  rcases hf with h | h | h <;> subst h <;> rfl
theorem q_bringTo (hf : f = 21 ∨ f = 30 ∨ f = 31) : ∀ k i, (f_bringTo σ k).1.1 f i = σ.1 f i
  | 0, _ => rfl
  | k + 1, i => by
    have ih := q_bringTo hf k i
    unfold f_bringTo
    split
    · show (f_bring1 (f_bringTo σ k).1 k).1 f i = _
      rw [q_bring1 hf, ih]
    · exact ih
theorem q_min (hf : f = 21 ∨ f = 30 ∨ f = 31) (i : Nat) : (f_min σ).1.1 f i = σ.1 f i := by
  have h1 : (f_min σ).1.1 f i = (f_down (f_gath σ)).1.1 f i := by
    rcases hf with h | h | h <;> subst h <;> rfl
  rw [h1]
  exact (q_bringTo hf _ i).trans (q_gatherTo hf _ i)
theorem q_run (hf : f = 21 ∨ f = 30 ∨ f = 31) : ∀ n i, (f_run σ n).1.1 f i = σ.1 f i
  | 0, _ => rfl
  | n + 1, i => (q_min hf i).trans (q_run hf n i)
end QM
theorem q_Lrun {σ : z_S} {fs fp : Nat → Int32} (h : q_L σ fs fp) (b n : Nat) (x : Int32) : q_L (s1 (s1 (f_run (f_take σ b) n).1 1 0 x) 1 0 x) fs fp := fun j hj => by
  have e2 : (f_run (f_take σ b) n).1.2 = (f_take σ b).2 := f_run_2 _ n
  have hj1 : j < (f_run (f_take σ b) n).1.2 0 2 := hj
  rw [e2] at hj1
  have hj2 : j < z_n σ 2 := hj1
  obtain ⟨h1, h2, h3, h4⟩ := h j hj2
  have eS : z_pS (s1 (s1 (f_run (f_take σ b) n).1 1 0 x) 1 0 x) j = z_pS σ j := by
    show (f_run (f_take σ b) n).1.2 2 j = _
    rw [e2]; rfl
  have k1 : ∀ i, (f_run (f_take σ b) n).1.1 30 i = σ.1 30 i := fun i => q_run (σ := f_take σ b) (Or.inr (Or.inl rfl)) n i
  have k2 : ∀ i, (f_run (f_take σ b) n).1.1 31 i = σ.1 31 i := fun i => q_run (σ := f_take σ b) (Or.inr (Or.inr rfl)) n i
  have k3 : ∀ i, (f_run (f_take σ b) n).1.1 21 i = σ.1 21 i := fun i => q_run (σ := f_take σ b) (Or.inl rfl) n i
  have b1 : z_pb (s1 (s1 (f_run (f_take σ b) n).1 1 0 x) 1 0 x) j = z_pb σ j := k1 j
  have b2 : z_pe (s1 (s1 (f_run (f_take σ b) n).1 1 0 x) 1 0 x) j = z_pe σ j := k2 j
  have b3 : ∀ i, z_sp (s1 (s1 (f_run (f_take σ b) n).1 1 0 x) 1 0 x) i = z_sp σ i := fun i => k3 i
  rw [eS, b1, b2, b3]
  exact ⟨h1, h2, h3, h4⟩
/-! The sums of the law's loops. -/
theorem q_othT {w cf : Nat → Nat} {b p q : Nat} (h1 : b.testBit q = true) (h2 : (cf p).testBit q = true) : q_oth w cf b p (q + 1) = q_oth w cf b p q + w q := by
  show (if (b.testBit q && (cf p).testBit q) = true then _ else _) = _
  rw [h1, h2]
  exact if_pos rfl
theorem q_othF {w cf : Nat → Nat} {b p q : Nat} (h1 : b.testBit q = false) : q_oth w cf b p (q + 1) = q_oth w cf b p q := by
  show (if (b.testBit q && (cf p).testBit q) = true then _ else _) = _
  rw [h1, Bool.false_and, if_neg Bool.false_ne_true]
theorem q_othN {w cf : Nat → Nat} {b p q : Nat} (h2 : (cf p).testBit q = false) : q_oth w cf b p (q + 1) = q_oth w cf b p q := by
  show (if (b.testBit q && (cf p).testBit q) = true then _ else _) = _
  rw [h2, Bool.and_false, if_neg Bool.false_ne_true]
theorem q_WT {w : Nat → Nat} {b q : Nat} (h : b.testBit q = true) : b_W w b (q + 1) = b_W w b q + w q := by rw [b_Ws, h, if_pos rfl]
theorem q_WF {w : Nat → Nat} {b q : Nat} (h : b.testBit q = false) : b_W w b (q + 1) = b_W w b q := by rw [b_Ws, h, if_neg Bool.false_ne_true, Nat.add_zero]
theorem q_othlim {w cf : Nat → Nat} {b p : Nat} : ∀ n, q_oth w cf b p n ≤ b_W w b n
  | 0 => Nat.le_refl _
  | n + 1 => by
    have ih := q_othlim (w := w) (cf := cf) (b := b) (p := p) n
    cases h1 : b.testBit n with
    | false => rw [q_othF h1, q_WF h1]; exact ih
    | true =>
      rw [q_WT h1]
      cases h2 : (cf p).testBit n with
      | false => rw [q_othN h2]; omega
      | true => rw [q_othT h1 h2]; omega
