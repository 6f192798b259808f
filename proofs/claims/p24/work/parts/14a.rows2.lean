/-- as we_Met, with one thing more that the start must meet -/
def we_MetP (P : State → Prop) (l : Launch) (y : MethodName) (ws : List Cond) (rm : Room) (E : wk_E) (H : Heap) (av : List Value) (F : Nat → Prop) (mc ms : Nat) (Rt : Option Value → Heap → Prop) : Prop :=
  Met l y ws rm (va_Pc av (fun U => (U.heap = H ∧ EV E U H) ∧ P U)) (fun _ _ oc t => (∃ v, oc = .returned v ∧ Rt v t.heap) ∧ H.size ≤ t.heap.size ∧ ∀ q : Nat, q < H.size → ¬ F q → t.heap[q]? = H[q]?) mc ms (fun q => F q ∨ H.size ≤ q)
section WEP
variable {p : Program} {l : Launch} {e : Env} {R : Room} {s : State} {m : MethodId} {args : Array Value} {below : List Frame} {meth : Method} {c : Code} {H : Heap} {locs : List Loc} {cells slots : Nat} {Q : State → Prop}
variable {y : MethodName} {bytes cc : ByteArray} {maxL nL n index mc ms : Nat} {ret : Option FieldType} {ws Ts : List Cond} {rm : Room} {own C X : String} {b pc : Nat} {As rest st0 : List Value} {ls : Array Slot} {E : wk_E} {v : Value} {A : Nat → Prop} {H0 : Heap} {F : Nat → Prop} {Rt : Option Value → Heap → Prop} {P : State → Prop}
theorem we_SP (S : CallFix p m c cc nL s args Ts own) (hM : we_MetP P l y ws rm E H As F mc ms Rt) (hPw : ∀ U : State, s.WarmedH U.vm → P U) (hPb : ∀ (U : State) (g : JFrame) (mk : MethodId) (a : Array Value), P U → P (U.calling g mk a)) (cw : CallB R s args own index y bytes maxL ret ws rm mc ms n ∧ (Cond.static y).before args s = true) (hV : EV E s H) (hS : va_S A H0 H locs) (hF : ∀ q, F q → A q) (hA : ∀ q, H0.size ≤ q → A q)
    (hn : As.length = n) (hsize : ls.size = nL) (hstack : st0 = As.reverse ++ rest) (hW : (rest.map fun v => v.category).sum ≤ 8) (hdg : decode cc pc = .ok (.invokestatic index, 3)) (hf : cells + mc ≤ R.cells ∧ slots + ms ≤ R.slots)
    (kk : ∀ (v : Option Value) (H1 : Heap) (locs1 : List Loc), Rt v H1 → H.size ≤ H1.size → (∀ q : Nat, q < H.size → ¬ F q → H1[q]? = H[q]?) → va_S A H0 H1 locs1 → W p l e R s m args below meth c H1 locs1 (cells + mc) (slots + ms) Q (F0 m (pc + 3) ls (v.toList ++ rest))) : W p l e R s m args below meth c H locs cells slots Q (F0 m pc ls st0) :=
  we_back (va_runS (g := F0 m pc ls st0) (As := As) (rest := rest) S hM cw ⟨fun a U g mk q => ⟨q.1, ⟨q.2.1.1, EV.call g mk a q.2.1.2⟩, hPb U g mk a q.2.2⟩, fun U hU hW => ⟨rfl, ⟨hU, EV.warm hW hV⟩, hPw U hW⟩⟩ rfl hn hsize hstack (lv_room hW) hdg hf) rfl hS hF hA kk
end WEP
theorem wk_P2 {D : va_G} {cl : List vw_C} {x y : Nat × va_E} {H : Heap} (h1 : va_at D cl x H) (h2 : va_at D cl y H) : va_P D cl [x, y] H := by
  intro k q hq
  match k, hq with
  | 0, hq => cases hq; exact h1
  | 1, hq => cases hq; exact h2
  | k + 2, hq => simp at hq
theorem wk_D2 {A : Nat → Prop} {x y : Nat × va_E} (hn : x.1 ≠ y.1) (h1 : A x.1) (h2 : A y.1) : va_D A [x, y] := by
  refine ⟨fun i j p q hp hq he => ?_, fun k q hq => ?_⟩
  · match i, j, hp, hq with
    | 0, 0, _, _ => rfl
    | 1, 1, _, _ => rfl
    | 0, 1, hp, hq => cases hp; cases hq; exact absurd he hn
    | 1, 0, hp, hq => cases hp; cases hq; exact absurd he.symm hn
    | i + 2, _, hp, _ => simp at hp
    | 0, j + 2, _, hq => simp at hq
    | 1, j + 2, _, hq => simp at hq
  · match k, hq with
    | 0, hq => cases hq; exact h1
    | 1, hq => cases hq; exact h2
    | k + 2, hq => simp at hq
theorem wk_castO {s : State} {C : String} (h : va_Nw (.castable C "java/lang/Object") s) : ∀ comp c0 : ClassId, s.vm.findClass "java/lang/Object" = some comp → s.vm.findClass C = some c0 → s.vm.assignable c0 comp = true := by
  intro comp c0 h1 h2
  obtain ⟨c9, t9, f1, f2, f3⟩ := Cond.castable_spec (va_Nw.use (A := #[]) rfl h)
  cases h2.symm.trans f1
  cases h1.symm.trans f2
  exact f3
theorem wk_cells {E : wk_E} {s : State} {H : Heap} {k ci : Nat} {g : Nat → Nat} {r : vw_C} (hK : wk_K E s) (hci : vwCl[ci]? = some r) (hel : ∀ i, i < k → ∃ vs, va_at E.1 vwCl (g i, .inr (ci, vs)) H) : ∀ i : Nat, i < k → ∀ y : Nat, z_lc k g i = some y → ∃ cellV : Cell, H[y]? = some cellV ∧ cellV.vm.isStatics = false ∧ s.vm.findClass r.1 = some cellV.cls := by
  intro i hi y hy
  unfold z_lc at hy
  rw [if_pos hi] at hy
  cases hy
  obtain ⟨vs, hv⟩ := hel i hi
  exact wk_recv hK hv hci
theorem wk_maxN {b c : Nat} (hb : b < 2 ^ 31) (hc : c < 2 ^ 31) : (if nI b < nI c then nI c else nI b) = nI (max b c) := by
  by_cases h : b < c
  · rw [if_pos (nI_lt h hc), Nat.max_eq_right (Nat.le_of_lt h)]
  · rw [if_neg (nI_nlt (Nat.le_of_not_lt h) hb), Nat.max_eq_left (Nat.le_of_not_lt h)]
theorem wk_minN {b c : Nat} (hb : b < 2 ^ 31) (hc : c < 2 ^ 31) : (if nI c < nI b then nI c else nI b) = nI (min b c) := by
  by_cases h : c < b
  · rw [if_pos (nI_lt h hb), Nat.min_eq_right (Nat.le_of_lt h)]
  · rw [if_neg (nI_nlt (Nat.le_of_not_lt h) hc), Nat.min_eq_left (Nat.le_of_not_lt h)]
theorem wk_half {n : Nat} (hn : n < 2 ^ 31) : nI n >>> ((1 : Int32) &&& 31) = nI (n / 2) := by
  have k := pk_shrN (n := n) hn ((1 : Int32) &&& 31) 1 (by decide)
  rw [Nat.pow_one] at k
  exact k
