abbrev rmX5_isOut : Room := { frames := 1, cells := 0, slots := 0, locals := 20 }
set_option maxHeartbeats 4000000 in
set_option maxRecDepth 100000 in
theorem c_X5_isOut (l : Launch) (E : wk_E) {T : Nat → Nat × Nat} {X : z_X} {σ : z_S} {H : Heap} (hA : DA E T X σ H) (hI : z_Ok σ) {a : Nat} (ha : a < z_n σ 0) {x y : Int32} : wk_Met l yX5_isOut wsX5_isOut rmX5_isOut E H [.ref (X.1 0 0), .ref (X.1 5 a), .int x, .int y] (some (.int (wk_b (f_out σ a x y)))) := by
  refine Met.ofW (cc := cX5_isOut) (maxL := 6) (ret := (some .boolean)) (by decide) rfl ?_
  intro p e s m args below meth c s₁ B hml hv
  obtain ⟨rfl, hH, hK⟩ := hv
  subst hH
  have hx := B.exec
  have hb := B.bytes
  have hr := B.returns
  have hts := atoms_spec (ws := wsX5_isOut) B.pre
  have hown : s.vm.findClass RX5 = some m.cls := findClass_of_methodNamed B.named
  have hlocks := B.notSynchronized
  have i_X5 : ∀ w ∈ u_ws RX5 TX5 7, w ∈ wsX5_isOut := fun w h => (List.mem_cons_of_mem _ (List.mem_append_left _ (List.mem_append_right _ h)))
  have hl := lv_entry [.ref (X.1 0 0), .ref (X.1 5 a), .int x, .int y] (n := 6) (Nat.le_of_ble_eq_true rfl)
  rw [lg_entry_eq]
  generalize (lg_sl [.ref (X.1 0 0), .ref (X.1 5 a), .int x, .int y] ++ List.replicate (6 - (lg_sl [.ref (X.1 0 0), .ref (X.1 5 a), .int x, .int y]).length) Slot.unset).toArray = ls at hl ⊢
  have hl : lv_has ls 6 [(0, .ref (X.1 0 0)), (1, .ref (X.1 5 a)), (2, .int x), (3, .int y)] := hl
  have b0 := hI.n0
  have b1 := hI.n1
  have b2 := hI.n2
  have b3 := hI.n3
  refine lv_iconst (v := 0) hx hb dX5_isOut_0 (by decide) ?_
  refine lv_istore (lv' := [(4, .int 0), (0, .ref (X.1 0 0)), (1, .ref (X.1 5 a)), (2, .int x), (3, .int y)]) hx hb dX5_isOut_1 hl (by decide) rfl (fun ls hl => ?_)
  have L_3 : ∀ (n_3 : Nat) (k : Nat), z_n σ 3 - k < n_3 → (k ≤ z_n σ 3) → (f_any (fun k => decide (z_oA σ k = a) && f_meets σ k x y) k = false) → ∀ ls : Array Slot, lv_has ls 6 [(0, .ref (X.1 0 0)), (1, .ref (X.1 5 a)), (2, .int x), (3, .int y), (4, .int (nI k))] → W p l e (headSpec wsX5_isOut rmX5_isOut).room s m ([.ref (X.1 0 0), .ref (X.1 5 a), .int x, .int y] : List Value).toArray below meth c s.heap [] 0 0 (MQ below (wk_Q (some (.int (wk_b (f_out σ a x y))))) ([.ref (X.1 0 0), .ref (X.1 5 a), .int x, .int y] : List Value).toArray s 0 0 (fun _ => False)) (F0 m 3 ls []) := by
    intro n_3
    induction n_3 with
    | zero => intro k hm; exact absurd hm (Nat.not_lt_zero _)
    | succ n_3 ih_3 =>
      intro k hm_3 hk_k hf ls hl
      refine lv_iload hx hb dX5_isOut_3 (lv_at hl 4 rfl) ?_
      refine lv_aload_n hx hb dX5_isOut_5 rfl (lv_at hl 0 rfl) ?_
      refine wk_get (own := RX5) (C := RX5) (T := TX5) (N := 7) (ci := 6) (v := .ref (X.1 1 3)) hx hb hts i_X5 hown hK hA.desk rfl 3 (by decide) (hts _ (List.mem_of_getElem? (i := 1) rfl)) (fun _ h9 => h9) rfl dX5_isOut_6 ?_
      refine wk_V (As := []) (rest := [.int (nI k)]) ⟨hx, hb, hml, hown, hts⟩ (c_size3 l E hA) (cwV 0 hts gX5_isOut_Jx4a65c_size_8abf5 rfl rfl rfl (by decide +kernel) ⟨(Nat.le_of_ble_eq_true rfl), (Nat.le_of_ble_eq_true rfl)⟩) (wk_recv hK (hA.list (j := 3) (by decide)) rfl) hK rfl hl.1 rfl (Nat.le_of_ble_eq_true rfl) dX5_isOut_9 ⟨Nat.zero_le _, Nat.zero_le _⟩ ?_
      refine lv_icmp_ge (tgt := 56) hx hb dX5_isOut_12 (by decide) (fun c_12 => ?_) (fun c_12 => ?_)
      · skip
        have e_12 : (z_n σ 3) ≤ k := wk_cget (by omega) (by omega) c_12
        have hkN : k = z_n σ 3 := by omega
        refine lv_iconst (v := 0) hx hb dX5_isOut_56 (by decide) ?_
        exact W.zret hx hb hr rfl (fun t ht _ => wk_ret (congrArg Value.int ((wk_bf (by rw [f_out, ← hkN]; exact hf)).symm)) ht) wk_nil dX5_isOut_57
      have e_12 : k < (z_n σ 3) := wk_cgef (by omega) (by omega) c_12
      omega
  exact L_3 _ 0 (Nat.lt_succ_self _) (Nat.zero_le _) rfl ls (lv_sub hl [1, 2, 3, 4, 0] rfl)

abbrev rmX5_isFree : Room := { frames := 4, cells := 0, slots := 0, locals := 87 }
set_option maxHeartbeats 4000000 in
set_option maxRecDepth 100000 in
theorem c_X5_isFree (l : Launch) (E : wk_E) {T : Nat → Nat × Nat} {X : z_X} {σ : z_S} {H : Heap} (hA : DA E T X σ H) (hI : z_Ok σ) {i : Nat} (hi : i < z_n σ 2) : wk_Met l yX5_isFree wsX5_isFree rmX5_isFree E H [.ref (X.1 0 0), .ref (X.1 7 i)] (some (.int (wk_b (f_free σ i)))) := by
  refine Met.ofW (cc := cX5_isFree) (maxL := 2) (ret := (some .boolean)) (by decide) rfl ?_
  intro p e s m args below meth c s₁ B hml hv
  obtain ⟨rfl, hH, hK⟩ := hv
  subst hH
  have hx := B.exec
  have hb := B.bytes
  have hr := B.returns
  have hts := atoms_spec (ws := wsX5_isFree) B.pre
  have hown : s.vm.findClass RX5 = some m.cls := findClass_of_methodNamed B.named
  have hlocks := B.notSynchronized
  have i_X2 : ∀ w ∈ u_ws RX2 TX2 7, w ∈ wsX5_isFree := fun w h => (List.mem_cons_of_mem _ (List.mem_append_left _ (List.mem_append_left _ (List.mem_append_left _ (List.mem_append_right _ h)))))
  have i_X5 : ∀ w ∈ u_ws RX5 TX5 7, w ∈ wsX5_isFree := fun w h => (List.mem_cons_of_mem _ (List.mem_append_left _ (List.mem_append_left _ (List.mem_append_right _ h))))
  have hl := lv_entry [.ref (X.1 0 0), .ref (X.1 7 i)] (n := 2) (Nat.le_of_ble_eq_true rfl)
  rw [lg_entry_eq]
  generalize (lg_sl [.ref (X.1 0 0), .ref (X.1 7 i)] ++ List.replicate (2 - (lg_sl [.ref (X.1 0 0), .ref (X.1 7 i)]).length) Slot.unset).toArray = ls at hl ⊢
  have hl : lv_has ls 2 [(0, .ref (X.1 0 0)), (1, .ref (X.1 7 i))] := hl
  have b0 := hI.n0
  have b1 := hI.n1
  have b2 := hI.n2
  have b3 := hI.n3
  refine lv_aload_n hx hb dX5_isFree_0 rfl (lv_at hl 1 rfl) ?_
  refine wk_get (own := RX5) (C := RX2) (T := TX2) (N := 7) (ci := 3) (v := .int (wk_b (z_tk σ i))) hx hb hts i_X2 hown hK (hA.pass hi) rfl 5 (by decide) (hts _ (List.mem_of_getElem? (i := 1) rfl)) (fun _ h9 => h9) rfl dX5_isFree_1 ?_
  refine lv_if_ne (tgt := 49) hx hb dX5_isFree_4 (by decide) (fun c_4 => ?_) (fun c_4 => ?_)
  · skip
    have e_4 : (z_tk σ i) = true := wk_b1 c_4
    refine lv_iconst (v := 0) hx hb dX5_isFree_49 (by decide) ?_
    exact W.zret hx hb hr rfl (fun t ht _ => wk_ret (congrArg Value.int (by simp [f_free, wk_b, e_4])) ht) wk_nil dX5_isFree_50
  have e_4 : (z_tk σ i) = false := wk_b0 c_4
  refine lv_aload_n hx hb dX5_isFree_7 rfl (lv_at hl 1 rfl) ?_
  refine wk_get (own := RX5) (C := RX2) (T := TX2) (N := 7) (ci := 3) (v := .int (z_pb σ i)) hx hb hts i_X2 hown hK (hA.pass hi) rfl 3 (by decide) (hts _ (List.mem_of_getElem? (i := 2) rfl)) (fun _ h9 => h9) rfl dX5_isFree_8 ?_
  refine lv_aload_n hx hb dX5_isFree_11 rfl (lv_at hl 0 rfl) ?_
  refine wk_get (own := RX5) (C := RX5) (T := TX5) (N := 7) (ci := 6) (v := .int (z_now σ)) hx hb hts i_X5 hown hK hA.desk rfl 5 (by decide) (hts _ (List.mem_of_getElem? (i := 3) rfl)) (fun _ h9 => h9) rfl dX5_isFree_12 ?_
  refine lv_icmp_lt (tgt := 49) hx hb dX5_isFree_15 (by decide) (fun c_15 => ?_) (fun c_15 => ?_)
  · skip
    have d_15 := Int32.not_le.mpr c_15
    refine lv_iconst (v := 0) hx hb dX5_isFree_49 (by decide) ?_
    exact W.zret hx hb hr rfl (fun t ht _ => wk_ret (congrArg Value.int (by simp [f_free, wk_b, e_4, c_15, d_15])) ht) wk_nil dX5_isFree_50
  have d_15 := Int32.not_lt.mp c_15
  refine lv_aload_n hx hb dX5_isFree_18 rfl (lv_at hl 0 rfl) ?_
  refine lv_aload_n hx hb dX5_isFree_19 rfl (lv_at hl 1 rfl) ?_
  refine wk_get (own := RX5) (C := RX2) (T := TX2) (N := 7) (ci := 3) (v := .ref (X.1 5 (z_pA σ i))) hx hb hts i_X2 hown hK (hA.pass hi) rfl 2 (by decide) (hts _ (List.mem_of_getElem? (i := 4) rfl)) (fun _ h9 => h9) rfl dX5_isFree_20 ?_
  refine lv_aload_n hx hb dX5_isFree_23 rfl (lv_at hl 1 rfl) ?_
  refine wk_get (own := RX5) (C := RX2) (T := TX2) (N := 7) (ci := 3) (v := .int (z_pb σ i)) hx hb hts i_X2 hown hK (hA.pass hi) rfl 3 (by decide) (hts _ (List.mem_of_getElem? (i := 2) rfl)) (fun _ h9 => h9) rfl dX5_isFree_24 ?_
  refine lv_aload_n hx hb dX5_isFree_27 rfl (lv_at hl 1 rfl) ?_
  refine wk_get (own := RX5) (C := RX2) (T := TX2) (N := 7) (ci := 3) (v := .int (z_pe σ i)) hx hb hts i_X2 hown hK (hA.pass hi) rfl 4 (by decide) (hts _ (List.mem_of_getElem? (i := 5) rfl)) (fun _ h9 => h9) rfl dX5_isFree_28 ?_
  refine wk_V (As := [.ref (X.1 5 (z_pA σ i)), .int (z_pb σ i), .int (z_pe σ i)]) (rest := []) ⟨hx, hb, hml, hown, hts⟩ (c_X5_isOut l E hA hI (hI.pA hi) (x := z_pb σ i) (y := z_pe σ i)) (cwV 3 hts gX5_isFree_X5_isOut rfl rfl rfl (by decide +kernel) ⟨(Nat.le_of_ble_eq_true rfl), (Nat.le_of_ble_eq_true rfl)⟩) (wk_recv hK hA.desk rfl) hK rfl hl.1 rfl (Nat.le_of_ble_eq_true rfl) dX5_isFree_31 ⟨Nat.zero_le _, Nat.zero_le _⟩ ?_
  refine lv_if_ne (tgt := 49) hx hb dX5_isFree_34 (by decide) (fun c_34 => ?_) (fun c_34 => ?_)
  · skip
    have e_34 : (f_out σ (z_pA σ i) (z_pb σ i) (z_pe σ i)) = true := wk_b1 c_34
    refine lv_iconst (v := 0) hx hb dX5_isFree_49 (by decide) ?_
    exact W.zret hx hb hr rfl (fun t ht _ => wk_ret (congrArg Value.int (by simp [f_free, wk_b, e_4, c_15, d_15, e_34])) ht) wk_nil dX5_isFree_50
  have e_34 : (f_out σ (z_pA σ i) (z_pb σ i) (z_pe σ i)) = false := wk_b0 c_34
  refine lv_aload_n hx hb dX5_isFree_37 rfl (lv_at hl 0 rfl) ?_
  refine lv_aload_n hx hb dX5_isFree_38 rfl (lv_at hl 1 rfl) ?_
  refine wk_V (As := [.ref (X.1 7 i)]) (rest := []) ⟨hx, hb, hml, hown, hts⟩ (c_X5_isInConflictWithTaken l E hA hI hi) (cwV 1 hts gX5_isFree_X5_isInConflictWithTaken rfl rfl rfl (by decide +kernel) ⟨(Nat.le_of_ble_eq_true rfl), (Nat.le_of_ble_eq_true rfl)⟩) (wk_recv hK hA.desk rfl) hK rfl hl.1 rfl (Nat.le_of_ble_eq_true rfl) dX5_isFree_39 ⟨Nat.zero_le _, Nat.zero_le _⟩ ?_
  refine lv_if_ne (tgt := 49) hx hb dX5_isFree_42 (by decide) (fun c_42 => ?_) (fun c_42 => ?_)
  · skip
    have e_42 : (f_inc σ i) = true := wk_b1 c_42
    refine lv_iconst (v := 0) hx hb dX5_isFree_49 (by decide) ?_
    exact W.zret hx hb hr rfl (fun t ht _ => wk_ret (congrArg Value.int (by simp [f_free, wk_b, e_4, c_15, d_15, e_34, e_42])) ht) wk_nil dX5_isFree_50
  have e_42 : (f_inc σ i) = false := wk_b0 c_42
  refine lv_iconst (v := 1) hx hb dX5_isFree_45 (by decide) ?_
  refine lv_goto (tgt := 50) hx hb dX5_isFree_46 (by decide) ?_
  exact W.zret hx hb hr rfl (fun t ht _ => wk_ret (congrArg Value.int (by simp [f_free, wk_b, e_4, c_15, d_15, e_34, e_42])) ht) wk_nil dX5_isFree_50

abbrev rmX5_startOf : Room := { frames := 3, cells := 0, slots := 0, locals := 64 }
set_option maxHeartbeats 4000000 in
set_option maxRecDepth 100000 in
theorem c_X5_startOf (l : Launch) (E : wk_E) {T : Nat → Nat × Nat} {X : z_X} {σ : z_S} {H : Heap} (hA : DA E T X σ H) (hI : z_Ok σ) {i : Nat} (hi : i < z_n σ 2) : wk_Met l yX5_startOf wsX5_startOf rmX5_startOf E H [.ref (X.1 0 0), .ref (X.1 7 i)] (some (.int (f_start σ i))) := by
  refine Met.ofW (cc := cX5_startOf) (maxL := 5) (ret := (some .int)) (by decide) rfl ?_
  intro p e s m args below meth c s₁ B hml hv
  obtain ⟨rfl, hH, hK⟩ := hv
  subst hH
  have hx := B.exec
  have hb := B.bytes
  have hr := B.returns
  have hts := atoms_spec (ws := wsX5_startOf) B.pre
  have hown : s.vm.findClass RX5 = some m.cls := findClass_of_methodNamed B.named
  have hlocks := B.notSynchronized
  have i_X2 : ∀ w ∈ u_ws RX2 TX2 7, w ∈ wsX5_startOf := fun w h => (List.mem_cons_of_mem _ (List.mem_append_left _ (List.mem_append_left _ (List.mem_append_right _ h))))
  have i_X5 : ∀ w ∈ u_ws RX5 TX5 7, w ∈ wsX5_startOf := fun w h => (List.mem_cons_of_mem _ (List.mem_append_left _ (List.mem_append_right _ h)))
  have hl := lv_entry [.ref (X.1 0 0), .ref (X.1 7 i)] (n := 5) (Nat.le_of_ble_eq_true rfl)
  rw [lg_entry_eq]
  generalize (lg_sl [.ref (X.1 0 0), .ref (X.1 7 i)] ++ List.replicate (5 - (lg_sl [.ref (X.1 0 0), .ref (X.1 7 i)]).length) Slot.unset).toArray = ls at hl ⊢
  have hl : lv_has ls 5 [(0, .ref (X.1 0 0)), (1, .ref (X.1 7 i))] := hl
  have b0 := hI.n0
  have b1 := hI.n1
  have b2 := hI.n2
  have b3 := hI.n3
  refine lv_aload_n hx hb dX5_startOf_0 rfl (lv_at hl 1 rfl) ?_
  refine wk_get (own := RX5) (C := RX2) (T := TX2) (N := 7) (ci := 3) (v := .int (z_pb σ i)) hx hb hts i_X2 hown hK (hA.pass hi) rfl 3 (by decide) (hts _ (List.mem_of_getElem? (i := 1) rfl)) (fun _ h9 => h9) rfl dX5_startOf_1 ?_
  refine lv_istore_n (lv' := [(2, .int (z_pb σ i)), (0, .ref (X.1 0 0)), (1, .ref (X.1 7 i))]) hx hb dX5_startOf_4 rfl hl (by decide) rfl (fun ls hl => ?_)
  refine lv_iconst (v := 0) hx hb dX5_startOf_5 (by decide) ?_
  refine lv_istore_n (lv' := [(3, .int 0), (2, .int (z_pb σ i)), (0, .ref (X.1 0 0)), (1, .ref (X.1 7 i))]) hx hb dX5_startOf_6 rfl hl (by decide) rfl (fun ls hl => ?_)
  have L_7 : ∀ (n_7 : Nat) (k : Nat), z_n σ 2 - k < n_7 → (k ≤ z_n σ 2) → ∀ ls : Array Slot, lv_has ls 5 [(0, .ref (X.1 0 0)), (1, .ref (X.1 7 i)), (2, .int (f_startTo σ i k)), (3, .int (nI k))] → W p l e (headSpec wsX5_startOf rmX5_startOf).room s m ([.ref (X.1 0 0), .ref (X.1 7 i)] : List Value).toArray below meth c s.heap [] 0 0 (MQ below (wk_Q (some (.int (f_start σ i)))) ([.ref (X.1 0 0), .ref (X.1 7 i)] : List Value).toArray s 0 0 (fun _ => False)) (F0 m 7 ls []) := by
    intro n_7
    induction n_7 with
    | zero => intro k hm; exact absurd hm (Nat.not_lt_zero _)
    | succ n_7 ih_7 =>
      intro k hm_7 hk_k ls hl
      refine lv_iload_n hx hb dX5_startOf_7 rfl (lv_at hl 3 rfl) ?_
      refine lv_aload_n hx hb dX5_startOf_8 rfl (lv_at hl 0 rfl) ?_
      refine wk_get (own := RX5) (C := RX5) (T := TX5) (N := 7) (ci := 6) (v := .ref (X.1 1 2)) hx hb hts i_X5 hown hK hA.desk rfl 2 (by decide) (hts _ (List.mem_of_getElem? (i := 2) rfl)) (fun _ h9 => h9) rfl dX5_startOf_9 ?_
      refine wk_V (As := []) (rest := [.int (nI k)]) ⟨hx, hb, hml, hown, hts⟩ (c_size2 l E hA) (cwV 0 hts gX5_startOf_Jx4a65c_size_8abf5 rfl rfl rfl (by decide +kernel) ⟨(Nat.le_of_ble_eq_true rfl), (Nat.le_of_ble_eq_true rfl)⟩) (wk_recv hK (hA.list (j := 2) (by decide)) rfl) hK rfl hl.1 rfl (Nat.le_of_ble_eq_true rfl) dX5_startOf_12 ⟨Nat.zero_le _, Nat.zero_le _⟩ ?_
      refine lv_icmp_ge (tgt := 76) hx hb dX5_startOf_15 (by decide) (fun c_15 => ?_) (fun c_15 => ?_)
      · skip
        have e_15 : (z_n σ 2) ≤ k := wk_cget (by omega) (by omega) c_15
        have hkN : k = z_n σ 2 := by omega
        refine lv_iload_n hx hb dX5_startOf_76 rfl (lv_at hl 2 rfl) ?_
        exact W.iret hx hb hr (fun t ht _ => wk_ret (congrArg Value.int (by rw [hkN]; rfl)) ht) wk_nil dX5_startOf_77
      have e_15 : k < (z_n σ 2) := wk_cgef (by omega) (by omega) c_15
      refine lv_aload_n hx hb dX5_startOf_18 rfl (lv_at hl 0 rfl) ?_
      refine wk_get (own := RX5) (C := RX5) (T := TX5) (N := 7) (ci := 6) (v := .ref (X.1 1 2)) hx hb hts i_X5 hown hK hA.desk rfl 2 (by decide) (hts _ (List.mem_of_getElem? (i := 2) rfl)) (fun _ h9 => h9) rfl dX5_startOf_19 ?_
      refine lv_iload_n hx hb dX5_startOf_22 rfl (lv_at hl 3 rfl) ?_
      refine wk_V (As := [.int (nI k)]) (rest := []) ⟨hx, hb, hml, hown, hts⟩ (c_get2 l E hA hI e_15) (cwV 1 hts gX5_startOf_Jx4a65c_get_915e3 rfl rfl rfl (by decide +kernel) ⟨(Nat.le_of_ble_eq_true rfl), (Nat.le_of_ble_eq_true rfl)⟩) (wk_recv hK (hA.list (j := 2) (by decide)) rfl) hK rfl hl.1 rfl (Nat.le_of_ble_eq_true rfl) dX5_startOf_23 ⟨Nat.zero_le _, Nat.zero_le _⟩ ?_
      refine va_castS (own := RX5) hx hb hown (hts _ (List.mem_of_getElem? (i := 3) rfl)) (hK.1.1 3 _ rfl).2 (wk_recv hK (hA.pass e_15) rfl) dX5_startOf_26 ?_
      refine lv_astore (lv' := [(4, .ref (X.1 7 k)), (0, .ref (X.1 0 0)), (1, .ref (X.1 7 i)), (2, .int (f_startTo σ i k)), (3, .int (nI k))]) hx hb dX5_startOf_29 hl (by decide) rfl (fun ls hl => ?_)
      refine lv_aload hx hb dX5_startOf_31 (lv_at hl 0 rfl) ?_
      refine wk_get (own := RX5) (C := RX2) (T := TX2) (N := 7) (ci := 3) (v := .int (wk_b (z_tk σ k))) hx hb hts i_X2 hown hK (hA.pass e_15) rfl 5 (by decide) (hts _ (List.mem_of_getElem? (i := 4) rfl)) (fun _ h9 => h9) rfl dX5_startOf_33 ?_
      refine lv_if_eq (tgt := 70) hx hb dX5_startOf_36 (by decide) (fun c_36 => ?_) (fun c_36 => ?_)
      · skip
        have e_36 : (z_tk σ k) = false := wk_b0 c_36
        refine lv_iinc (v := nI (k + 1)) (lv' := [(3, .int (nI (k + 1))), (4, .ref (X.1 7 k)), (0, .ref (X.1 0 0)), (1, .ref (X.1 7 i)), (2, .int (f_startTo σ i k))]) hx hb dX5_startOf_70 hl (k := 4) rfl (nI_1 _) (by decide) rfl (fun ls hl => ?_)
        refine lv_goto (tgt := 7) hx hb dX5_startOf_73 (by decide) ?_
        have hl : lv_has ls 5 [(3, .int (nI (k + 1))), (4, .ref (X.1 7 k)), (0, .ref (X.1 0 0)), (1, .ref (X.1 7 i)), (2, .int (f_startTo σ i (k + 1)))] := by rw [show f_startTo σ i (k + 1) = f_startTo σ i k from (by simp [f_startTo, f_isBefore, f_max, e_36])]; exact hl
        exact ih_7 (k + 1) (by omega) (by omega) ls (lv_sub hl [2, 3, 4, 0] rfl)
      have e_36 : (z_tk σ k) = true := wk_b1 c_36
      refine lv_aload hx hb dX5_startOf_39 (lv_at hl 0 rfl) ?_
      refine wk_get (own := RX5) (C := RX2) (T := TX2) (N := 7) (ci := 3) (v := .ref (X.1 6 (z_pS σ k))) hx hb hts i_X2 hown hK (hA.pass e_15) rfl 1 (by decide) (hts _ (List.mem_of_getElem? (i := 5) rfl)) (fun _ h9 => h9) rfl dX5_startOf_41 ?_
      refine lv_aload_n hx hb dX5_startOf_44 rfl (lv_at hl 2 rfl) ?_
      refine wk_get (own := RX5) (C := RX2) (T := TX2) (N := 7) (ci := 3) (v := .ref (X.1 6 (z_pS σ i))) hx hb hts i_X2 hown hK (hA.pass hi) rfl 1 (by decide) (hts _ (List.mem_of_getElem? (i := 5) rfl)) (fun _ h9 => h9) rfl dX5_startOf_45 ?_
      refine lv_acmp_ne (rx := some (X.1 6 (z_pS σ k))) (ry := some (X.1 6 (z_pS σ i))) (tgt := 70) hx hb dX5_startOf_48 (by decide) (fun c_48 => ?_) (fun c_48 => ?_)
      · skip
        have e_48 : ¬ (z_pS σ k) = (z_pS σ i) := fun q => c_48 (by rw [q])
        refine lv_iinc (v := nI (k + 1)) (lv' := [(3, .int (nI (k + 1))), (4, .ref (X.1 7 k)), (0, .ref (X.1 0 0)), (1, .ref (X.1 7 i)), (2, .int (f_startTo σ i k))]) hx hb dX5_startOf_70 hl (k := 4) rfl (nI_1 _) (by decide) rfl (fun ls hl => ?_)
        refine lv_goto (tgt := 7) hx hb dX5_startOf_73 (by decide) ?_
        have hl : lv_has ls 5 [(3, .int (nI (k + 1))), (4, .ref (X.1 7 k)), (0, .ref (X.1 0 0)), (1, .ref (X.1 7 i)), (2, .int (f_startTo σ i (k + 1)))] := by rw [show f_startTo σ i (k + 1) = f_startTo σ i k from (by simp [f_startTo, f_isBefore, f_max, e_36, e_48])]; exact hl
        exact ih_7 (k + 1) (by omega) (by omega) ls (lv_sub hl [2, 3, 4, 0] rfl)
      have e_48 : (z_pS σ k) = (z_pS σ i) := hA.satI (hI.pS e_15) (hI.pS hi) (Option.some.inj c_48)
      refine lv_aload hx hb dX5_startOf_51 (lv_at hl 0 rfl) ?_
      refine lv_aload_n hx hb dX5_startOf_53 rfl (lv_at hl 2 rfl) ?_
      refine wk_V (As := [.ref (X.1 7 i)]) (rest := []) ⟨hx, hb, hml, hown, hts⟩ (c_X2_isEarlierThan l E hA hI e_15 hi) (cwV 1 hts gX5_startOf_X2_isEarlierThan rfl rfl rfl (by decide +kernel) ⟨(Nat.le_of_ble_eq_true rfl), (Nat.le_of_ble_eq_true rfl)⟩) (wk_recv hK (hA.pass e_15) rfl) hK rfl hl.1 rfl (Nat.le_of_ble_eq_true rfl) dX5_startOf_54 ⟨Nat.zero_le _, Nat.zero_le _⟩ ?_
      refine lv_if_eq (tgt := 70) hx hb dX5_startOf_57 (by decide) (fun c_57 => ?_) (fun c_57 => ?_)
      · skip
        have e_57 : (f_earl σ k i) = false := wk_b0 c_57
        refine lv_iinc (v := nI (k + 1)) (lv' := [(3, .int (nI (k + 1))), (4, .ref (X.1 7 k)), (0, .ref (X.1 0 0)), (1, .ref (X.1 7 i)), (2, .int (f_startTo σ i k))]) hx hb dX5_startOf_70 hl (k := 4) rfl (nI_1 _) (by decide) rfl (fun ls hl => ?_)
        refine lv_goto (tgt := 7) hx hb dX5_startOf_73 (by decide) ?_
        have hl : lv_has ls 5 [(3, .int (nI (k + 1))), (4, .ref (X.1 7 k)), (0, .ref (X.1 0 0)), (1, .ref (X.1 7 i)), (2, .int (f_startTo σ i (k + 1)))] := by rw [show f_startTo σ i (k + 1) = f_startTo σ i k from (by simp [f_startTo, f_isBefore, f_max, e_36, e_48, e_57])]; exact hl
        exact ih_7 (k + 1) (by omega) (by omega) ls (lv_sub hl [2, 3, 4, 0] rfl)
      have e_57 : (f_earl σ k i) = true := wk_b1 c_57
      refine lv_iload_n hx hb dX5_startOf_60 rfl (lv_at hl 3 rfl) ?_
      refine lv_aload hx hb dX5_startOf_61 (lv_at hl 0 rfl) ?_
      refine wk_get (own := RX5) (C := RX2) (T := TX2) (N := 7) (ci := 3) (v := .int (z_pe σ k)) hx hb hts i_X2 hown hK (hA.pass e_15) rfl 4 (by decide) (hts _ (List.mem_of_getElem? (i := 6) rfl)) (fun _ h9 => h9) rfl dX5_startOf_63 ?_
      refine va_mmax (own := RX5) hx hb (hml.trans hl.1.symm) hown (hts _ (List.mem_of_getElem? (i := 7) rfl)) (hts _ (List.mem_of_getElem? (i := 8) rfl)) (hts _ (List.mem_of_getElem? (i := 9) rfl)) (hts _ (List.mem_of_getElem? (i := 10) rfl)) (Nat.le_of_ble_eq_true rfl) (Nat.le_trans (Nat.le_of_ble_eq_true rfl : _ ≤ 21) (Nat.le_of_ble_eq_true rfl)) (Nat.zero_le _) (Nat.zero_le _) dX5_startOf_66 ?_
      refine lv_istore_n (lv' := [(2, .int (if (f_startTo σ i k) < (z_pe σ k) then (z_pe σ k) else (f_startTo σ i k))), (4, .ref (X.1 7 k)), (0, .ref (X.1 0 0)), (1, .ref (X.1 7 i)), (3, .int (nI k))]) hx hb dX5_startOf_69 rfl hl (by decide) rfl (fun ls hl => ?_)
      refine lv_iinc (v := nI (k + 1)) (lv' := [(3, .int (nI (k + 1))), (2, .int (if (f_startTo σ i k) < (z_pe σ k) then (z_pe σ k) else (f_startTo σ i k))), (4, .ref (X.1 7 k)), (0, .ref (X.1 0 0)), (1, .ref (X.1 7 i))]) hx hb dX5_startOf_70 hl (k := 4) rfl (nI_1 _) (by decide) rfl (fun ls hl => ?_)
      refine lv_goto (tgt := 7) hx hb dX5_startOf_73 (by decide) ?_
      have hl : lv_has ls 5 [(3, .int (nI (k + 1))), (2, .int (f_startTo σ i (k + 1))), (4, .ref (X.1 7 k)), (0, .ref (X.1 0 0)), (1, .ref (X.1 7 i))] := by rw [show f_startTo σ i (k + 1) = if (f_startTo σ i k) < (z_pe σ k) then (z_pe σ k) else (f_startTo σ i k) from (by simp [f_startTo, f_isBefore, f_max, e_36, e_48, e_57])]; exact hl
      exact ih_7 (k + 1) (by omega) (by omega) ls (lv_sub hl [3, 4, 1, 0] rfl)
  exact L_7 _ 0 (Nat.lt_succ_self _) (Nat.zero_le _) ls (lv_sub hl [2, 3, 1, 0] rfl)

abbrev rmX5_isHeard : Room := { frames := 4, cells := 0, slots := 0, locals := 88 }
set_option maxHeartbeats 4000000 in
set_option maxRecDepth 100000 in
theorem c_X5_isHeard (l : Launch) (E : wk_E) {T : Nat → Nat × Nat} {X : z_X} {σ : z_S} {H : Heap} (hA : DA E T X σ H) (hI : z_Ok σ) {i : Nat} (hi : i < z_n σ 2) : wk_Met l yX5_isHeard wsX5_isHeard rmX5_isHeard E H [.ref (X.1 0 0), .ref (X.1 7 i)] (some (.int (wk_b (f_heard σ i)))) := by
  refine Met.ofW (cc := cX5_isHeard) (maxL := 2) (ret := (some .boolean)) (by decide) rfl ?_
  intro p e s m args below meth c s₁ B hml hv
  obtain ⟨rfl, hH, hK⟩ := hv
  subst hH
  have hx := B.exec
  have hb := B.bytes
  have hr := B.returns
  have hts := atoms_spec (ws := wsX5_isHeard) B.pre
  have hown : s.vm.findClass RX5 = some m.cls := findClass_of_methodNamed B.named
  have hlocks := B.notSynchronized
  have i_X2 : ∀ w ∈ u_ws RX2 TX2 7, w ∈ wsX5_isHeard := fun w h => (List.mem_cons_of_mem _ (List.mem_append_left _ (List.mem_append_left _ (List.mem_append_right _ h))))
  have i_X5 : ∀ w ∈ u_ws RX5 TX5 7, w ∈ wsX5_isHeard := fun w h => (List.mem_cons_of_mem _ (List.mem_append_left _ (List.mem_append_right _ h)))
  have hl := lv_entry [.ref (X.1 0 0), .ref (X.1 7 i)] (n := 2) (Nat.le_of_ble_eq_true rfl)
  rw [lg_entry_eq]
  generalize (lg_sl [.ref (X.1 0 0), .ref (X.1 7 i)] ++ List.replicate (2 - (lg_sl [.ref (X.1 0 0), .ref (X.1 7 i)]).length) Slot.unset).toArray = ls at hl ⊢
  have hl : lv_has ls 2 [(0, .ref (X.1 0 0)), (1, .ref (X.1 7 i))] := hl
  have b0 := hI.n0
  have b1 := hI.n1
  have b2 := hI.n2
  have b3 := hI.n3
  refine lv_aload_n hx hb dX5_isHeard_0 rfl (lv_at hl 1 rfl) ?_
  refine wk_get (own := RX5) (C := RX2) (T := TX2) (N := 7) (ci := 3) (v := .int (wk_b (z_tk σ i))) hx hb hts i_X2 hown hK (hA.pass hi) rfl 5 (by decide) (hts _ (List.mem_of_getElem? (i := 1) rfl)) (fun _ h9 => h9) rfl dX5_isHeard_1 ?_
  refine lv_if_eq (tgt := 45) hx hb dX5_isHeard_4 (by decide) (fun c_4 => ?_) (fun c_4 => ?_)
  · skip
    have e_4 : (z_tk σ i) = false := wk_b0 c_4
    refine lv_iconst (v := 0) hx hb dX5_isHeard_45 (by decide) ?_
    exact W.zret hx hb hr rfl (fun t ht _ => wk_ret (congrArg Value.int (by simp [f_heard, wk_b, e_4])) ht) wk_nil dX5_isHeard_46
  have e_4 : (z_tk σ i) = true := wk_b1 c_4
  refine lv_aload_n hx hb dX5_isHeard_7 rfl (lv_at hl 1 rfl) ?_
  refine wk_get (own := RX5) (C := RX2) (T := TX2) (N := 7) (ci := 3) (v := .int (z_pb σ i)) hx hb hts i_X2 hown hK (hA.pass hi) rfl 3 (by decide) (hts _ (List.mem_of_getElem? (i := 2) rfl)) (fun _ h9 => h9) rfl dX5_isHeard_8 ?_
  refine lv_aload_n hx hb dX5_isHeard_11 rfl (lv_at hl 0 rfl) ?_
  refine wk_get (own := RX5) (C := RX5) (T := TX5) (N := 7) (ci := 6) (v := .int (z_now σ)) hx hb hts i_X5 hown hK hA.desk rfl 5 (by decide) (hts _ (List.mem_of_getElem? (i := 3) rfl)) (fun _ h9 => h9) rfl dX5_isHeard_12 ?_
  refine lv_icmp_gt (tgt := 45) hx hb dX5_isHeard_15 (by decide) (fun c_15 => ?_) (fun c_15 => ?_)
  · skip
    have d_15 := Int32.not_le.mpr c_15
    refine lv_iconst (v := 0) hx hb dX5_isHeard_45 (by decide) ?_
    exact W.zret hx hb hr rfl (fun t ht _ => wk_ret (congrArg Value.int (by simp [f_heard, wk_b, e_4, c_15, d_15])) ht) wk_nil dX5_isHeard_46
  have d_15 := Int32.not_lt.mp c_15
  refine lv_aload_n hx hb dX5_isHeard_18 rfl (lv_at hl 0 rfl) ?_
  refine wk_get (own := RX5) (C := RX5) (T := TX5) (N := 7) (ci := 6) (v := .int (z_now σ)) hx hb hts i_X5 hown hK hA.desk rfl 5 (by decide) (hts _ (List.mem_of_getElem? (i := 3) rfl)) (fun _ h9 => h9) rfl dX5_isHeard_19 ?_
  refine lv_aload_n hx hb dX5_isHeard_22 rfl (lv_at hl 1 rfl) ?_
  refine wk_get (own := RX5) (C := RX2) (T := TX2) (N := 7) (ci := 3) (v := .int (z_pe σ i)) hx hb hts i_X2 hown hK (hA.pass hi) rfl 4 (by decide) (hts _ (List.mem_of_getElem? (i := 4) rfl)) (fun _ h9 => h9) rfl dX5_isHeard_23 ?_
  refine lv_icmp_ge (tgt := 45) hx hb dX5_isHeard_26 (by decide) (fun c_26 => ?_) (fun c_26 => ?_)
  · skip
    have d_26 := Int32.not_lt.mpr c_26
    refine lv_iconst (v := 0) hx hb dX5_isHeard_45 (by decide) ?_
    exact W.zret hx hb hr rfl (fun t ht _ => wk_ret (congrArg Value.int (by simp [f_heard, wk_b, e_4, c_15, d_15, c_26, d_26])) ht) wk_nil dX5_isHeard_46
  have d_26 := Int32.not_le.mp c_26
  refine lv_aload_n hx hb dX5_isHeard_29 rfl (lv_at hl 0 rfl) ?_
  refine lv_aload_n hx hb dX5_isHeard_30 rfl (lv_at hl 1 rfl) ?_
  refine wk_V (As := [.ref (X.1 7 i)]) (rest := []) ⟨hx, hb, hml, hown, hts⟩ (c_X5_startOf l E hA hI hi) (cwV 1 hts gX5_isHeard_X5_startOf rfl rfl rfl (by decide +kernel) ⟨(Nat.le_of_ble_eq_true rfl), (Nat.le_of_ble_eq_true rfl)⟩) (wk_recv hK hA.desk rfl) hK rfl hl.1 rfl (Nat.le_of_ble_eq_true rfl) dX5_isHeard_31 ⟨Nat.zero_le _, Nat.zero_le _⟩ ?_
  refine lv_aload_n hx hb dX5_isHeard_34 rfl (lv_at hl 0 rfl) ?_
  refine wk_get (own := RX5) (C := RX5) (T := TX5) (N := 7) (ci := 6) (v := .int (z_now σ)) hx hb hts i_X5 hown hK hA.desk rfl 5 (by decide) (hts _ (List.mem_of_getElem? (i := 3) rfl)) (fun _ h9 => h9) rfl dX5_isHeard_35 ?_
  refine lv_icmp_gt (tgt := 45) hx hb dX5_isHeard_38 (by decide) (fun c_38 => ?_) (fun c_38 => ?_)
  · skip
    have d_38 := Int32.not_le.mpr c_38
    refine lv_iconst (v := 0) hx hb dX5_isHeard_45 (by decide) ?_
    exact W.zret hx hb hr rfl (fun t ht _ => wk_ret (congrArg Value.int (by simp [f_heard, wk_b, e_4, c_15, d_15, c_26, d_26, c_38, d_38])) ht) wk_nil dX5_isHeard_46
  have d_38 := Int32.not_lt.mp c_38
  refine lv_iconst (v := 1) hx hb dX5_isHeard_41 (by decide) ?_
  refine lv_goto (tgt := 46) hx hb dX5_isHeard_42 (by decide) ?_
  exact W.zret hx hb hr rfl (fun t ht _ => wk_ret (congrArg Value.int (by simp [f_heard, wk_b, e_4, c_15, d_15, c_26, d_26, c_38, d_38])) ht) wk_nil dX5_isHeard_46
