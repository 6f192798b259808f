abbrev rmX6_isOutIn : Room := { frames := 1, cells := 0, slots := 0, locals := 23 }
set_option maxHeartbeats 4000000 in
set_option maxRecDepth 100000 in
theorem c_X6_isOutIn (l : Launch) (E : wk_E) {T : Nat → Nat × Nat} {Y : Nat → Nat → Nat} {σ : z_S} {th : Int32} {gt : Int64} {H : Heap} (hA : MA E T Y σ th gt H) (hI : z_Ok σ) {k : Nat} (hk : k < z_n σ 3) {i : Nat} (hi : i < z_n σ 2) : wk_Met l yX6_isOutIn wsX6_isOutIn rmX6_isOutIn E H [.ref (Y 10 0), .int (nI k), .int (nI i)] (some (.int (wk_b (decide (z_oA σ k = z_pA σ i) && f_meets σ k (z_pb σ i) (z_pe σ i))))) := by
  refine Met.ofW (cc := cX6_isOutIn) (maxL := 3) (ret := (some .boolean)) (by decide) rfl ?_
  intro p e s m args below meth c s₁ B hml hv
  obtain ⟨rfl, hH, hK⟩ := hv
  subst hH
  have hx := B.exec
  have hb := B.bytes
  have hr := B.returns
  have hts := atoms_spec (ws := wsX6_isOutIn) B.pre
  have hown : s.vm.findClass RX6 = some m.cls := findClass_of_methodNamed B.named
  have hlocks := B.notSynchronized
  have i_X6 : ∀ w ∈ u_ws RX6 TX6 26, w ∈ wsX6_isOutIn := fun w h => (List.mem_cons_of_mem _ (List.mem_append_right _ h))
  have hl := lv_entry [.ref (Y 10 0), .int (nI k), .int (nI i)] (n := 3) (Nat.le_of_ble_eq_true rfl)
  rw [lg_entry_eq]
  generalize (lg_sl [.ref (Y 10 0), .int (nI k), .int (nI i)] ++ List.replicate (3 - (lg_sl [.ref (Y 10 0), .int (nI k), .int (nI i)]).length) Slot.unset).toArray = ls at hl ⊢
  have hl : lv_has ls 3 [(0, .ref (Y 10 0)), (1, .int (nI k)), (2, .int (nI i))] := hl
  have b0 := hI.n0
  have b1 := hI.n1
  have b2 := hI.n2
  have b3 := hI.n3
  refine lv_aload_n hx hb dX6_isOutIn_0 rfl (lv_at hl 0 rfl) ?_
  refine wk_get (own := RX6) (C := RX6) (T := TX6) (N := 26) (ci := 7) (v := .ref (Y 11 4)) hx hb hts i_X6 hown hK hA.obj rfl 9 (by decide) (hts _ (List.mem_of_getElem? (i := 1) rfl)) (fun _ h9 => h9) rfl dX6_isOutIn_1 ?_
  refine lv_iconst (v := 3) hx hb dX6_isOutIn_4 (by decide) ?_
  refine lv_iload_n hx hb dX6_isOutIn_5 rfl (lv_at hl 1 rfl) ?_
  refine lv_imul hx hb dX6_isOutIn_6 ?_
  refine wk_eqi (show 3 * (nI k) = nI (3 * k) from pk_mul 3 k) ?_
  refine wk_iald (n := 18) (f := fun j => z_outs σ j) hx hb hK hA.a4 (3 * k) rfl (by omega) (by decide) dX6_isOutIn_7 ?_
  refine wk_eqi (z_outs0 σ k) ?_
  refine lv_aload_n hx hb dX6_isOutIn_8 rfl (lv_at hl 0 rfl) ?_
  refine wk_get (own := RX6) (C := RX6) (T := TX6) (N := 26) (ci := 7) (v := .ref (Y 11 13)) hx hb hts i_X6 hown hK hA.obj rfl 20 (by decide) (hts _ (List.mem_of_getElem? (i := 2) rfl)) (fun _ h9 => h9) rfl dX6_isOutIn_9 ?_
  refine lv_iload_n hx hb dX6_isOutIn_12 rfl (lv_at hl 2 rfl) ?_
  refine wk_iald (n := 16) (f := fun j => nI (z_pA σ j)) hx hb hK hA.a13 i rfl (by have := hi; omega) (by decide) dX6_isOutIn_13 ?_
  have q1 := hI.oA hk
  have q2 := hI.pA hi
  refine lv_icmp_ne (tgt := 59) hx hb dX6_isOutIn_14 (by decide) (fun c_14 => ?_) (fun c_14 => ?_)
  · skip
    have e_14 : ¬ (z_oA σ k) = (z_pA σ i) := wk_cnet (by omega) (by omega) c_14
    refine lv_iconst (v := 0) hx hb dX6_isOutIn_59 (by decide) ?_
    exact W.zret hx hb hr rfl (fun t ht _ => wk_ret (congrArg Value.int (by simp [f_meets, wk_b, e_14])) ht) wk_nil dX6_isOutIn_60
  have e_14 : (z_oA σ k) = (z_pA σ i) := wk_cnef (by omega) (by omega) c_14
  refine lv_aload_n hx hb dX6_isOutIn_17 rfl (lv_at hl 0 rfl) ?_
  refine wk_get (own := RX6) (C := RX6) (T := TX6) (N := 26) (ci := 7) (v := .ref (Y 11 4)) hx hb hts i_X6 hown hK hA.obj rfl 9 (by decide) (hts _ (List.mem_of_getElem? (i := 1) rfl)) (fun _ h9 => h9) rfl dX6_isOutIn_18 ?_
  refine lv_iconst (v := 3) hx hb dX6_isOutIn_21 (by decide) ?_
  refine lv_iload_n hx hb dX6_isOutIn_22 rfl (lv_at hl 1 rfl) ?_
  refine lv_imul hx hb dX6_isOutIn_23 ?_
  refine wk_eqi (show 3 * (nI k) = nI (3 * k) from pk_mul 3 k) ?_
  refine lv_iconst (v := 1) hx hb dX6_isOutIn_24 (by decide) ?_
  refine lv_iadd hx hb dX6_isOutIn_25 ?_
  refine wk_eqi (show (nI (3 * k)) + 1 = nI ((3 * k) + 1) from nI_add (3 * k) 1) ?_
  refine wk_iald (n := 18) (f := fun j => z_outs σ j) hx hb hK hA.a4 ((3 * k) + 1) rfl (by omega) (by decide) dX6_isOutIn_26 ?_
  refine wk_eqi (z_outs1 σ k) ?_
  refine lv_aload_n hx hb dX6_isOutIn_27 rfl (lv_at hl 0 rfl) ?_
  refine wk_get (own := RX6) (C := RX6) (T := TX6) (N := 26) (ci := 7) (v := .ref (Y 11 4)) hx hb hts i_X6 hown hK hA.obj rfl 9 (by decide) (hts _ (List.mem_of_getElem? (i := 1) rfl)) (fun _ h9 => h9) rfl dX6_isOutIn_28 ?_
  refine lv_iconst (v := 3) hx hb dX6_isOutIn_31 (by decide) ?_
  refine lv_iload_n hx hb dX6_isOutIn_32 rfl (lv_at hl 1 rfl) ?_
  refine lv_imul hx hb dX6_isOutIn_33 ?_
  refine wk_eqi (show 3 * (nI k) = nI (3 * k) from pk_mul 3 k) ?_
  refine lv_iconst (v := 2) hx hb dX6_isOutIn_34 (by decide) ?_
  refine lv_iadd hx hb dX6_isOutIn_35 ?_
  refine wk_eqi (show (nI (3 * k)) + 2 = nI ((3 * k) + 2) from nI_add (3 * k) 2) ?_
  refine wk_iald (n := 18) (f := fun j => z_outs σ j) hx hb hK hA.a4 ((3 * k) + 2) rfl (by omega) (by decide) dX6_isOutIn_36 ?_
  refine wk_eqi (z_outs2 σ k) ?_
  refine lv_aload_n hx hb dX6_isOutIn_37 rfl (lv_at hl 0 rfl) ?_
  refine wk_get (own := RX6) (C := RX6) (T := TX6) (N := 26) (ci := 7) (v := .ref (Y 11 14)) hx hb hts i_X6 hown hK hA.obj rfl 21 (by decide) (hts _ (List.mem_of_getElem? (i := 3) rfl)) (fun _ h9 => h9) rfl dX6_isOutIn_38 ?_
  refine lv_iload_n hx hb dX6_isOutIn_41 rfl (lv_at hl 2 rfl) ?_
  refine wk_iald (n := 16) (f := fun j => z_pb σ j) hx hb hK hA.a14 i rfl (by have := hi; omega) (by decide) dX6_isOutIn_42 ?_
  refine lv_aload_n hx hb dX6_isOutIn_43 rfl (lv_at hl 0 rfl) ?_
  refine wk_get (own := RX6) (C := RX6) (T := TX6) (N := 26) (ci := 7) (v := .ref (Y 11 15)) hx hb hts i_X6 hown hK hA.obj rfl 22 (by decide) (hts _ (List.mem_of_getElem? (i := 4) rfl)) (fun _ h9 => h9) rfl dX6_isOutIn_44 ?_
  refine lv_iload_n hx hb dX6_isOutIn_47 rfl (lv_at hl 2 rfl) ?_
  refine wk_iald (n := 16) (f := fun j => z_pe σ j) hx hb hK hA.a15 i rfl (by have := hi; omega) (by decide) dX6_isOutIn_48 ?_
  refine wk_S (As := [.int (z_of σ k), .int (z_ot σ k), .int (z_pb σ i), .int (z_pe σ i)]) (rest := []) ⟨hx, hb, hml, hown, hts⟩ (c_X6_overlaps l E (w := z_of σ k) (x := z_ot σ k) (y := z_pb σ i) (z := z_pe σ i)) (va_cwS 4 hts gX6_isOutIn_X6_overlaps rfl rfl rfl (by decide +kernel) ⟨(Nat.le_of_ble_eq_true rfl), (Nat.le_of_ble_eq_true rfl)⟩) hK rfl hl.1 rfl (Nat.le_of_ble_eq_true rfl) dX6_isOutIn_49 ⟨Nat.zero_le _, Nat.zero_le _⟩ ?_
  refine lv_if_eq (tgt := 59) hx hb dX6_isOutIn_52 (by decide) (fun c_52 => ?_) (fun c_52 => ?_)
  · skip
    have e_52 : (decide ((z_of σ k) < (z_pe σ i)) && decide ((z_pb σ i) < (z_ot σ k))) = false := wk_b0 c_52
    refine lv_iconst (v := 0) hx hb dX6_isOutIn_59 (by decide) ?_
    exact W.zret hx hb hr rfl (fun t ht _ => wk_ret (congrArg Value.int (by simp [f_meets, wk_b, e_14, e_52])) ht) wk_nil dX6_isOutIn_60
  have e_52 : (decide ((z_of σ k) < (z_pe σ i)) && decide ((z_pb σ i) < (z_ot σ k))) = true := wk_b1 c_52
  refine lv_iconst (v := 1) hx hb dX6_isOutIn_55 (by decide) ?_
  refine lv_goto (tgt := 60) hx hb dX6_isOutIn_56 (by decide) ?_
  exact W.zret hx hb hr rfl (fun t ht _ => wk_ret (congrArg Value.int (by simp [f_meets, wk_b, e_14, e_52])) ht) wk_nil dX6_isOutIn_60

abbrev rmX6_isEarlier : Room := { frames := 0, cells := 0, slots := 0, locals := 0 }
set_option maxHeartbeats 4000000 in
set_option maxRecDepth 100000 in
theorem c_X6_isEarlier (l : Launch) (E : wk_E) {T : Nat → Nat × Nat} {Y : Nat → Nat → Nat} {σ : z_S} {th : Int32} {gt : Int64} {H : Heap} (hA : MA E T Y σ th gt H) (hI : z_Ok σ) {i : Nat} (hi : i < z_n σ 2) {j : Nat} (hj : j < z_n σ 2) : wk_Met l yX6_isEarlier wsX6_isEarlier rmX6_isEarlier E H [.ref (Y 10 0), .int (nI i), .int (nI j)] (some (.int (wk_b (f_earl σ i j)))) := by
  refine Met.ofW (cc := cX6_isEarlier) (maxL := 3) (ret := (some .boolean)) (by decide) rfl ?_
  intro p e s m args below meth c s₁ B hml hv
  obtain ⟨rfl, hH, hK⟩ := hv
  subst hH
  have hx := B.exec
  have hb := B.bytes
  have hr := B.returns
  have hts := atoms_spec (ws := wsX6_isEarlier) B.pre
  have hown : s.vm.findClass RX6 = some m.cls := findClass_of_methodNamed B.named
  have hlocks := B.notSynchronized
  have i_X6 : ∀ w ∈ u_ws RX6 TX6 26, w ∈ wsX6_isEarlier := fun w h => (List.mem_cons_of_mem _ (List.mem_append_right _ h))
  have hl := lv_entry [.ref (Y 10 0), .int (nI i), .int (nI j)] (n := 3) (Nat.le_of_ble_eq_true rfl)
  rw [lg_entry_eq]
  generalize (lg_sl [.ref (Y 10 0), .int (nI i), .int (nI j)] ++ List.replicate (3 - (lg_sl [.ref (Y 10 0), .int (nI i), .int (nI j)]).length) Slot.unset).toArray = ls at hl ⊢
  have hl : lv_has ls 3 [(0, .ref (Y 10 0)), (1, .int (nI i)), (2, .int (nI j))] := hl
  have b0 := hI.n0
  have b1 := hI.n1
  have b2 := hI.n2
  have b3 := hI.n3
  refine lv_aload_n hx hb dX6_isEarlier_0 rfl (lv_at hl 0 rfl) ?_
  refine wk_get (own := RX6) (C := RX6) (T := TX6) (N := 26) (ci := 7) (v := .ref (Y 11 14)) hx hb hts i_X6 hown hK hA.obj rfl 21 (by decide) (hts _ (List.mem_of_getElem? (i := 1) rfl)) (fun _ h9 => h9) rfl dX6_isEarlier_1 ?_
  refine lv_iload_n hx hb dX6_isEarlier_4 rfl (lv_at hl 1 rfl) ?_
  refine wk_iald (n := 16) (f := fun j => z_pb σ j) hx hb hK hA.a14 i rfl (by have := hi; omega) (by decide) dX6_isEarlier_5 ?_
  refine lv_aload_n hx hb dX6_isEarlier_6 rfl (lv_at hl 0 rfl) ?_
  refine wk_get (own := RX6) (C := RX6) (T := TX6) (N := 26) (ci := 7) (v := .ref (Y 11 14)) hx hb hts i_X6 hown hK hA.obj rfl 21 (by decide) (hts _ (List.mem_of_getElem? (i := 1) rfl)) (fun _ h9 => h9) rfl dX6_isEarlier_7 ?_
  refine lv_iload_n hx hb dX6_isEarlier_10 rfl (lv_at hl 2 rfl) ?_
  refine wk_iald (n := 16) (f := fun j => z_pb σ j) hx hb hK hA.a14 j rfl (by have := hj; omega) (by decide) dX6_isEarlier_11 ?_
  refine lv_icmp_lt (tgt := 35) hx hb dX6_isEarlier_12 (by decide) (fun c_12 => ?_) (fun c_12 => ?_)
  · skip
    have d_12 := Int32.not_le.mpr c_12
    refine lv_iconst (v := 1) hx hb dX6_isEarlier_35 (by decide) ?_
    refine lv_goto (tgt := 40) hx hb dX6_isEarlier_36 (by decide) ?_
    exact W.zret hx hb hr rfl (fun t ht _ => wk_ret (congrArg Value.int (by simp only [wk_b, f_earl_alt]; simp [c_12, d_12])) ht) wk_nil dX6_isEarlier_40
  have d_12 := Int32.not_lt.mp c_12
  refine lv_aload_n hx hb dX6_isEarlier_15 rfl (lv_at hl 0 rfl) ?_
  refine wk_get (own := RX6) (C := RX6) (T := TX6) (N := 26) (ci := 7) (v := .ref (Y 11 14)) hx hb hts i_X6 hown hK hA.obj rfl 21 (by decide) (hts _ (List.mem_of_getElem? (i := 1) rfl)) (fun _ h9 => h9) rfl dX6_isEarlier_16 ?_
  refine lv_iload_n hx hb dX6_isEarlier_19 rfl (lv_at hl 1 rfl) ?_
  refine wk_iald (n := 16) (f := fun j => z_pb σ j) hx hb hK hA.a14 i rfl (by have := hi; omega) (by decide) dX6_isEarlier_20 ?_
  refine lv_aload_n hx hb dX6_isEarlier_21 rfl (lv_at hl 0 rfl) ?_
  refine wk_get (own := RX6) (C := RX6) (T := TX6) (N := 26) (ci := 7) (v := .ref (Y 11 14)) hx hb hts i_X6 hown hK hA.obj rfl 21 (by decide) (hts _ (List.mem_of_getElem? (i := 1) rfl)) (fun _ h9 => h9) rfl dX6_isEarlier_22 ?_
  refine lv_iload_n hx hb dX6_isEarlier_25 rfl (lv_at hl 2 rfl) ?_
  refine wk_iald (n := 16) (f := fun j => z_pb σ j) hx hb hK hA.a14 j rfl (by have := hj; omega) (by decide) dX6_isEarlier_26 ?_
  refine lv_icmp_ne (tgt := 39) hx hb dX6_isEarlier_27 (by decide) (fun c_27 => ?_) (fun c_27 => ?_)
  · skip
    refine lv_iconst (v := 0) hx hb dX6_isEarlier_39 (by decide) ?_
    exact W.zret hx hb hr rfl (fun t ht _ => wk_ret (congrArg Value.int (by simp only [wk_b, f_earl_alt]; simp [c_12, d_12, c_27])) ht) wk_nil dX6_isEarlier_40
  refine lv_iload_n hx hb dX6_isEarlier_30 rfl (lv_at hl 1 rfl) ?_
  refine lv_iload_n hx hb dX6_isEarlier_31 rfl (lv_at hl 2 rfl) ?_
  refine lv_icmp_ge (tgt := 39) hx hb dX6_isEarlier_32 (by decide) (fun c_32 => ?_) (fun c_32 => ?_)
  · skip
    have e_32 : j ≤ i := wk_cget (by omega) (by omega) c_32
    have d_32 := Nat.not_lt.mpr e_32
    refine lv_iconst (v := 0) hx hb dX6_isEarlier_39 (by decide) ?_
    exact W.zret hx hb hr rfl (fun t ht _ => wk_ret (congrArg Value.int (by simp only [wk_b, f_earl_alt]; simp [c_12, d_12, c_27, e_32, d_32])) ht) wk_nil dX6_isEarlier_40
  have e_32 : i < j := wk_cgef (by omega) (by omega) c_32
  have d_32 := Nat.not_le.mpr e_32
  refine lv_iconst (v := 1) hx hb dX6_isEarlier_35 (by decide) ?_
  refine lv_goto (tgt := 40) hx hb dX6_isEarlier_36 (by decide) ?_
  exact W.zret hx hb hr rfl (fun t ht _ => wk_ret (congrArg Value.int (by simp only [wk_b, f_earl_alt]; simp [c_12, d_12, c_27, e_32, d_32])) ht) wk_nil dX6_isEarlier_40

abbrev rmX6_startOf : Room := { frames := 1, cells := 0, slots := 0, locals := 22 }
set_option maxHeartbeats 4000000 in
set_option maxRecDepth 100000 in
theorem c_X6_startOf (l : Launch) (E : wk_E) {T : Nat → Nat × Nat} {Y : Nat → Nat → Nat} {σ : z_S} {th : Int32} {gt : Int64} {H : Heap} (hA : MA E T Y σ th gt H) (hI : z_Ok σ) {i : Nat} (hi : i < z_n σ 2) : wk_Met l yX6_startOf wsX6_startOf rmX6_startOf E H [.ref (Y 10 0), .int (nI i)] (some (.int (f_start σ i))) := by
  refine Met.ofW (cc := cX6_startOf) (maxL := 4) (ret := (some .int)) (by decide) rfl ?_
  intro p e s m args below meth c s₁ B hml hv
  obtain ⟨rfl, hH, hK⟩ := hv
  subst hH
  have hx := B.exec
  have hb := B.bytes
  have hr := B.returns
  have hts := atoms_spec (ws := wsX6_startOf) B.pre
  have hown : s.vm.findClass RX6 = some m.cls := findClass_of_methodNamed B.named
  have hlocks := B.notSynchronized
  have i_X6 : ∀ w ∈ u_ws RX6 TX6 26, w ∈ wsX6_startOf := fun w h => (List.mem_cons_of_mem _ (List.mem_append_right _ h))
  have hl := lv_entry [.ref (Y 10 0), .int (nI i)] (n := 4) (Nat.le_of_ble_eq_true rfl)
  rw [lg_entry_eq]
  generalize (lg_sl [.ref (Y 10 0), .int (nI i)] ++ List.replicate (4 - (lg_sl [.ref (Y 10 0), .int (nI i)]).length) Slot.unset).toArray = ls at hl ⊢
  have hl : lv_has ls 4 [(0, .ref (Y 10 0)), (1, .int (nI i))] := hl
  have b0 := hI.n0
  have b1 := hI.n1
  have b2 := hI.n2
  have b3 := hI.n3
  refine lv_aload_n hx hb dX6_startOf_0 rfl (lv_at hl 0 rfl) ?_
  refine wk_get (own := RX6) (C := RX6) (T := TX6) (N := 26) (ci := 7) (v := .ref (Y 11 14)) hx hb hts i_X6 hown hK hA.obj rfl 21 (by decide) (hts _ (List.mem_of_getElem? (i := 1) rfl)) (fun _ h9 => h9) rfl dX6_startOf_1 ?_
  refine lv_iload_n hx hb dX6_startOf_4 rfl (lv_at hl 1 rfl) ?_
  refine wk_iald (n := 16) (f := fun j => z_pb σ j) hx hb hK hA.a14 i rfl (by have := hi; omega) (by decide) dX6_startOf_5 ?_
  refine lv_istore_n (lv' := [(2, .int (z_pb σ i)), (0, .ref (Y 10 0)), (1, .int (nI i))]) hx hb dX6_startOf_6 rfl hl (by decide) rfl (fun ls hl => ?_)
  refine lv_iconst (v := 0) hx hb dX6_startOf_7 (by decide) ?_
  refine lv_istore_n (lv' := [(3, .int 0), (2, .int (z_pb σ i)), (0, .ref (Y 10 0)), (1, .int (nI i))]) hx hb dX6_startOf_8 rfl hl (by decide) rfl (fun ls hl => ?_)
  have L_9 : ∀ (n_9 : Nat) (k : Nat), z_n σ 2 - k < n_9 → (k ≤ z_n σ 2) → ∀ ls : Array Slot, lv_has ls 4 [(0, .ref (Y 10 0)), (1, .int (nI i)), (2, .int (f_startTo σ i k)), (3, .int (nI k))] → W p l e (headSpec wsX6_startOf rmX6_startOf).room s m ([.ref (Y 10 0), .int (nI i)] : List Value).toArray below meth c s.heap [] 0 0 (MQ below (wk_Q (some (.int (f_start σ i)))) ([.ref (Y 10 0), .int (nI i)] : List Value).toArray s 0 0 (fun _ => False)) (F0 m 9 ls []) := by
    intro n_9
    induction n_9 with
    | zero => intro k hm; exact absurd hm (Nat.not_lt_zero _)
    | succ n_9 ih_9 =>
      intro k hm_9 hk_k ls hl
      refine lv_iload_n hx hb dX6_startOf_9 rfl (lv_at hl 3 rfl) ?_
      refine lv_aload_n hx hb dX6_startOf_10 rfl (lv_at hl 0 rfl) ?_
      refine wk_get (own := RX6) (C := RX6) (T := TX6) (N := 26) (ci := 7) (v := .int (nI (z_n σ 2))) hx hb hts i_X6 hown hK hA.obj rfl 18 (by decide) (hts _ (List.mem_of_getElem? (i := 2) rfl)) (fun _ h9 => h9) rfl dX6_startOf_11 ?_
      refine lv_icmp_ge (tgt := 74) hx hb dX6_startOf_14 (by decide) (fun c_14 => ?_) (fun c_14 => ?_)
      · skip
        have e_14 : (z_n σ 2) ≤ k := wk_cget (by omega) (by omega) c_14
        have hkN : k = z_n σ 2 := by omega
        refine lv_iload_n hx hb dX6_startOf_74 rfl (lv_at hl 2 rfl) ?_
        exact W.iret hx hb hr (fun t ht _ => wk_ret (congrArg Value.int (by rw [hkN]; rfl)) ht) wk_nil dX6_startOf_75
      have e_14 : k < (z_n σ 2) := wk_cgef (by omega) (by omega) c_14
      refine lv_iload_n hx hb dX6_startOf_17 rfl (lv_at hl 3 rfl) ?_
      refine lv_iload_n hx hb dX6_startOf_18 rfl (lv_at hl 1 rfl) ?_
      refine lv_icmp_eq (tgt := 68) hx hb dX6_startOf_19 (by decide) (fun c_19 => ?_) (fun c_19 => ?_)
      · skip
        have e_19 : k = i := wk_ceqt (by omega) (by omega) c_19
        refine lv_iinc (v := nI (k + 1)) (lv' := [(3, .int (nI (k + 1))), (0, .ref (Y 10 0)), (1, .int (nI i)), (2, .int (f_startTo σ i k))]) hx hb dX6_startOf_68 hl (k := 3) rfl (nI_1 _) (by decide) rfl (fun ls hl => ?_)
        refine lv_goto (tgt := 9) hx hb dX6_startOf_71 (by decide) ?_
        have hl : lv_has ls 4 [(3, .int (nI (k + 1))), (0, .ref (Y 10 0)), (1, .int (nI i)), (2, .int (f_startTo σ i (k + 1)))] := by rw [show f_startTo σ i (k + 1) = f_startTo σ i k from (by simp [f_startTo, f_isBefore, f_max, e_19, f_earl_self])]; exact hl
        exact ih_9 (k + 1) (by omega) (by omega) ls (lv_sub hl [1, 2, 3, 0] rfl)
      have e_19 : ¬ k = i := wk_ceqf (by omega) (by omega) c_19
      refine lv_aload_n hx hb dX6_startOf_22 rfl (lv_at hl 0 rfl) ?_
      refine wk_get (own := RX6) (C := RX6) (T := TX6) (N := 26) (ci := 7) (v := .int (nI (z_mk σ))) hx hb hts i_X6 hown hK hA.obj rfl 24 (by decide) (hts _ (List.mem_of_getElem? (i := 3) rfl)) (fun _ h9 => h9) rfl dX6_startOf_23 ?_
      refine lv_iload_n hx hb dX6_startOf_26 rfl (lv_at hl 3 rfl) ?_
      refine wk_S (As := [.int (nI (z_mk σ)), .int (nI k)]) (rest := []) ⟨hx, hb, hml, hown, hts⟩ (c_X6_has l E (mm := z_mk σ) (k := k) (z_mklt hI) (by omega)) (va_cwS 2 hts gX6_startOf_X6_has rfl rfl rfl (by decide +kernel) ⟨(Nat.le_of_ble_eq_true rfl), (Nat.le_of_ble_eq_true rfl)⟩) hK rfl hl.1 rfl (Nat.le_of_ble_eq_true rfl) dX6_startOf_27 ⟨Nat.zero_le _, Nat.zero_le _⟩ ?_
      refine lv_if_eq (tgt := 68) hx hb dX6_startOf_30 (by decide) (fun c_30 => ?_) (fun c_30 => ?_)
      · skip
        have e_30 : (z_tk σ k) = false := wk_b0 c_30
        refine lv_iinc (v := nI (k + 1)) (lv' := [(3, .int (nI (k + 1))), (0, .ref (Y 10 0)), (1, .int (nI i)), (2, .int (f_startTo σ i k))]) hx hb dX6_startOf_68 hl (k := 3) rfl (nI_1 _) (by decide) rfl (fun ls hl => ?_)
        refine lv_goto (tgt := 9) hx hb dX6_startOf_71 (by decide) ?_
        have hl : lv_has ls 4 [(3, .int (nI (k + 1))), (0, .ref (Y 10 0)), (1, .int (nI i)), (2, .int (f_startTo σ i (k + 1)))] := by rw [show f_startTo σ i (k + 1) = f_startTo σ i k from (by simp [f_startTo, f_isBefore, f_max, e_19, e_30])]; exact hl
        exact ih_9 (k + 1) (by omega) (by omega) ls (lv_sub hl [1, 2, 3, 0] rfl)
      have e_30 : (z_tk σ k) = true := wk_b1 c_30
      refine lv_aload_n hx hb dX6_startOf_33 rfl (lv_at hl 0 rfl) ?_
      refine wk_get (own := RX6) (C := RX6) (T := TX6) (N := 26) (ci := 7) (v := .ref (Y 11 12)) hx hb hts i_X6 hown hK hA.obj rfl 19 (by decide) (hts _ (List.mem_of_getElem? (i := 4) rfl)) (fun _ h9 => h9) rfl dX6_startOf_34 ?_
      refine lv_iload_n hx hb dX6_startOf_37 rfl (lv_at hl 3 rfl) ?_
      refine wk_iald (n := 16) (f := fun j => nI (z_pS σ j)) hx hb hK hA.a12 k rfl (by have := e_14; omega) (by decide) dX6_startOf_38 ?_
      refine lv_aload_n hx hb dX6_startOf_39 rfl (lv_at hl 0 rfl) ?_
      refine wk_get (own := RX6) (C := RX6) (T := TX6) (N := 26) (ci := 7) (v := .ref (Y 11 12)) hx hb hts i_X6 hown hK hA.obj rfl 19 (by decide) (hts _ (List.mem_of_getElem? (i := 4) rfl)) (fun _ h9 => h9) rfl dX6_startOf_40 ?_
      refine lv_iload_n hx hb dX6_startOf_43 rfl (lv_at hl 1 rfl) ?_
      refine wk_iald (n := 16) (f := fun j => nI (z_pS σ j)) hx hb hK hA.a12 i rfl (by have := hi; omega) (by decide) dX6_startOf_44 ?_
      have q1 := hI.pS e_14
      have q2 := hI.pS hi
      refine lv_icmp_ne (tgt := 68) hx hb dX6_startOf_45 (by decide) (fun c_45 => ?_) (fun c_45 => ?_)
      · skip
        have e_45 : ¬ (z_pS σ k) = (z_pS σ i) := wk_cnet (by omega) (by omega) c_45
        refine lv_iinc (v := nI (k + 1)) (lv' := [(3, .int (nI (k + 1))), (0, .ref (Y 10 0)), (1, .int (nI i)), (2, .int (f_startTo σ i k))]) hx hb dX6_startOf_68 hl (k := 3) rfl (nI_1 _) (by decide) rfl (fun ls hl => ?_)
        refine lv_goto (tgt := 9) hx hb dX6_startOf_71 (by decide) ?_
        have hl : lv_has ls 4 [(3, .int (nI (k + 1))), (0, .ref (Y 10 0)), (1, .int (nI i)), (2, .int (f_startTo σ i (k + 1)))] := by rw [show f_startTo σ i (k + 1) = f_startTo σ i k from (by simp [f_startTo, f_isBefore, f_max, e_19, e_30, e_45])]; exact hl
        exact ih_9 (k + 1) (by omega) (by omega) ls (lv_sub hl [1, 2, 3, 0] rfl)
      have e_45 : (z_pS σ k) = (z_pS σ i) := wk_cnef (by omega) (by omega) c_45
      refine lv_aload_n hx hb dX6_startOf_48 rfl (lv_at hl 0 rfl) ?_
      refine lv_iload_n hx hb dX6_startOf_49 rfl (lv_at hl 3 rfl) ?_
      refine lv_iload_n hx hb dX6_startOf_50 rfl (lv_at hl 1 rfl) ?_
      refine wk_V (As := [.int (nI k), .int (nI i)]) (rest := []) ⟨hx, hb, hml, hown, hts⟩ (c_X6_isEarlier l E hA hI e_14 hi) (cwV 2 hts gX6_startOf_X6_isEarlier rfl rfl rfl (by decide +kernel) ⟨(Nat.le_of_ble_eq_true rfl), (Nat.le_of_ble_eq_true rfl)⟩) (wk_recv hK hA.obj rfl) hK rfl hl.1 rfl (Nat.le_of_ble_eq_true rfl) dX6_startOf_51 ⟨Nat.zero_le _, Nat.zero_le _⟩ ?_
      refine lv_if_eq (tgt := 68) hx hb dX6_startOf_54 (by decide) (fun c_54 => ?_) (fun c_54 => ?_)
      · skip
        have e_54 : (f_earl σ k i) = false := wk_b0 c_54
        refine lv_iinc (v := nI (k + 1)) (lv' := [(3, .int (nI (k + 1))), (0, .ref (Y 10 0)), (1, .int (nI i)), (2, .int (f_startTo σ i k))]) hx hb dX6_startOf_68 hl (k := 3) rfl (nI_1 _) (by decide) rfl (fun ls hl => ?_)
        refine lv_goto (tgt := 9) hx hb dX6_startOf_71 (by decide) ?_
        have hl : lv_has ls 4 [(3, .int (nI (k + 1))), (0, .ref (Y 10 0)), (1, .int (nI i)), (2, .int (f_startTo σ i (k + 1)))] := by rw [show f_startTo σ i (k + 1) = f_startTo σ i k from (by simp [f_startTo, f_isBefore, f_max, e_19, e_30, e_45, e_54])]; exact hl
        exact ih_9 (k + 1) (by omega) (by omega) ls (lv_sub hl [1, 2, 3, 0] rfl)
      have e_54 : (f_earl σ k i) = true := wk_b1 c_54
      refine lv_iload_n hx hb dX6_startOf_57 rfl (lv_at hl 2 rfl) ?_
      refine lv_aload_n hx hb dX6_startOf_58 rfl (lv_at hl 0 rfl) ?_
      refine wk_get (own := RX6) (C := RX6) (T := TX6) (N := 26) (ci := 7) (v := .ref (Y 11 15)) hx hb hts i_X6 hown hK hA.obj rfl 22 (by decide) (hts _ (List.mem_of_getElem? (i := 5) rfl)) (fun _ h9 => h9) rfl dX6_startOf_59 ?_
      refine lv_iload_n hx hb dX6_startOf_62 rfl (lv_at hl 3 rfl) ?_
      refine wk_iald (n := 16) (f := fun j => z_pe σ j) hx hb hK hA.a15 k rfl (by have := e_14; omega) (by decide) dX6_startOf_63 ?_
      refine va_mmax (own := RX6) hx hb (hml.trans hl.1.symm) hown (hts _ (List.mem_of_getElem? (i := 6) rfl)) (hts _ (List.mem_of_getElem? (i := 7) rfl)) (hts _ (List.mem_of_getElem? (i := 8) rfl)) (hts _ (List.mem_of_getElem? (i := 9) rfl)) (Nat.le_of_ble_eq_true rfl) (Nat.le_trans (Nat.le_of_ble_eq_true rfl : _ ≤ 21) (Nat.le_of_ble_eq_true rfl)) (Nat.zero_le _) (Nat.zero_le _) dX6_startOf_64 ?_
      refine lv_istore_n (lv' := [(2, .int (if (f_startTo σ i k) < (z_pe σ k) then (z_pe σ k) else (f_startTo σ i k))), (0, .ref (Y 10 0)), (1, .int (nI i)), (3, .int (nI k))]) hx hb dX6_startOf_67 rfl hl (by decide) rfl (fun ls hl => ?_)
      refine lv_iinc (v := nI (k + 1)) (lv' := [(3, .int (nI (k + 1))), (2, .int (if (f_startTo σ i k) < (z_pe σ k) then (z_pe σ k) else (f_startTo σ i k))), (0, .ref (Y 10 0)), (1, .int (nI i))]) hx hb dX6_startOf_68 hl (k := 3) rfl (nI_1 _) (by decide) rfl (fun ls hl => ?_)
      refine lv_goto (tgt := 9) hx hb dX6_startOf_71 (by decide) ?_
      have hl : lv_has ls 4 [(3, .int (nI (k + 1))), (2, .int (f_startTo σ i (k + 1))), (0, .ref (Y 10 0)), (1, .int (nI i))] := by rw [show f_startTo σ i (k + 1) = if (f_startTo σ i k) < (z_pe σ k) then (z_pe σ k) else (f_startTo σ i k) from (by simp [f_startTo, f_isBefore, f_max, e_19, e_30, e_45, e_54])]; exact hl
      exact ih_9 (k + 1) (by omega) (by omega) ls (lv_sub hl [2, 3, 1, 0] rfl)
  exact L_9 _ 0 (Nat.lt_succ_self _) (Nat.zero_le _) ls (lv_sub hl [2, 3, 1, 0] rfl)

abbrev rmX6_areInConflict : Room := { frames := 1, cells := 0, slots := 0, locals := 22 }
set_option maxHeartbeats 4000000 in
set_option maxRecDepth 100000 in
theorem c_X6_areInConflict (l : Launch) (E : wk_E) {T : Nat → Nat × Nat} {Y : Nat → Nat → Nat} {σ : z_S} {th : Int32} {gt : Int64} {H : Heap} (hA : MA E T Y σ th gt H) (hI : z_Ok σ) {i : Nat} (hi : i < z_n σ 2) {j : Nat} (hj : j < z_n σ 2) (hij : ¬ i = j) : wk_Met l yX6_areInConflict wsX6_areInConflict rmX6_areInConflict E H [.ref (Y 10 0), .int (nI i), .int (nI j)] (some (.int (wk_b (f_conf σ i j)))) := by
  refine Met.ofW (cc := cX6_areInConflict) (maxL := 5) (ret := (some .boolean)) (by decide) rfl ?_
  intro p e s m args below meth c s₁ B hml hv
  obtain ⟨rfl, hH, hK⟩ := hv
  subst hH
  have hx := B.exec
  have hb := B.bytes
  have hr := B.returns
  have hts := atoms_spec (ws := wsX6_areInConflict) B.pre
  have hown : s.vm.findClass RX6 = some m.cls := findClass_of_methodNamed B.named
  have hlocks := B.notSynchronized
  have i_X6 : ∀ w ∈ u_ws RX6 TX6 26, w ∈ wsX6_areInConflict := fun w h => (List.mem_cons_of_mem _ (List.mem_append_right _ h))
  have hl := lv_entry [.ref (Y 10 0), .int (nI i), .int (nI j)] (n := 5) (Nat.le_of_ble_eq_true rfl)
  rw [lg_entry_eq]
  generalize (lg_sl [.ref (Y 10 0), .int (nI i), .int (nI j)] ++ List.replicate (5 - (lg_sl [.ref (Y 10 0), .int (nI i), .int (nI j)]).length) Slot.unset).toArray = ls at hl ⊢
  have hl : lv_has ls 5 [(0, .ref (Y 10 0)), (1, .int (nI i)), (2, .int (nI j))] := hl
  have b0 := hI.n0
  have b1 := hI.n1
  have b2 := hI.n2
  have b3 := hI.n3
  refine lv_aload_n hx hb dX6_areInConflict_0 rfl (lv_at hl 0 rfl) ?_
  refine lv_iload_n hx hb dX6_areInConflict_1 rfl (lv_at hl 1 rfl) ?_
  refine lv_iload_n hx hb dX6_areInConflict_2 rfl (lv_at hl 2 rfl) ?_
  refine wk_V (As := [.int (nI i), .int (nI j)]) (rest := []) ⟨hx, hb, hml, hown, hts⟩ (c_X6_isEarlier l E hA hI hi hj) (cwV 2 hts gX6_areInConflict_X6_isEarlier rfl rfl rfl (by decide +kernel) ⟨(Nat.le_of_ble_eq_true rfl), (Nat.le_of_ble_eq_true rfl)⟩) (wk_recv hK hA.obj rfl) hK rfl hl.1 rfl (Nat.le_of_ble_eq_true rfl) dX6_areInConflict_3 ⟨Nat.zero_le _, Nat.zero_le _⟩ ?_
  refine lv_if_eq (tgt := 13) hx hb dX6_areInConflict_6 (by decide) (fun c_6 => ?_) (fun c_6 => ?_)
  · skip
    have e_6 : (f_earl σ i j) = false := wk_b0 c_6
    refine lv_iload_n hx hb dX6_areInConflict_13 rfl (lv_at hl 2 rfl) ?_
    refine lv_istore_n (lv' := [(3, .int (nI j)), (0, .ref (Y 10 0)), (1, .int (nI i)), (2, .int (nI j))]) hx hb dX6_areInConflict_14 rfl hl (by decide) rfl (fun ls hl => ?_)
    refine lv_iload_n hx hb dX6_areInConflict_15 rfl (lv_at hl 0 rfl) ?_
    refine lv_iload_n hx hb dX6_areInConflict_16 rfl (lv_at hl 2 rfl) ?_
    refine lv_icmp_ne (tgt := 24) hx hb dX6_areInConflict_17 (by decide) (fun c_17 => ?_) (fun c_17 => ?_)
    · skip
      have e_17 : ¬ j = i := wk_cnet (by omega) (by omega) c_17
      refine lv_iload_n hx hb dX6_areInConflict_24 rfl (lv_at hl 2 rfl) ?_
      refine lv_istore (lv' := [(4, .int (nI i)), (3, .int (nI j)), (0, .ref (Y 10 0)), (1, .int (nI i)), (2, .int (nI j))]) hx hb dX6_areInConflict_25 hl (by decide) rfl (fun ls hl => ?_)
      refine lv_aload_n hx hb dX6_areInConflict_27 rfl (lv_at hl 2 rfl) ?_
      refine wk_get (own := RX6) (C := RX6) (T := TX6) (N := 26) (ci := 7) (v := .ref (Y 11 13)) hx hb hts i_X6 hown hK hA.obj rfl 20 (by decide) (hts _ (List.mem_of_getElem? (i := 1) rfl)) (fun _ h9 => h9) rfl dX6_areInConflict_28 ?_
      refine lv_iload_n hx hb dX6_areInConflict_31 rfl (lv_at hl 3 rfl) ?_
      refine wk_iald (n := 16) (f := fun j => nI (z_pA σ j)) hx hb hK hA.a13 i rfl (by have := hi; omega) (by decide) dX6_areInConflict_32 ?_
      refine lv_aload_n hx hb dX6_areInConflict_33 rfl (lv_at hl 2 rfl) ?_
      refine wk_get (own := RX6) (C := RX6) (T := TX6) (N := 26) (ci := 7) (v := .ref (Y 11 13)) hx hb hts i_X6 hown hK hA.obj rfl 20 (by decide) (hts _ (List.mem_of_getElem? (i := 1) rfl)) (fun _ h9 => h9) rfl dX6_areInConflict_34 ?_
      refine lv_iload_n hx hb dX6_areInConflict_37 rfl (lv_at hl 4 rfl) ?_
      refine wk_iald (n := 16) (f := fun j => nI (z_pA σ j)) hx hb hK hA.a13 j rfl (by have := hj; omega) (by decide) dX6_areInConflict_38 ?_
      have q1 := hI.pA hi
      have q2 := hI.pA hj
      refine lv_icmp_ne (tgt := 76) hx hb dX6_areInConflict_39 (by decide) (fun c_39 => ?_) (fun c_39 => ?_)
      · skip
        have e_39 : ¬ (z_pA σ i) = (z_pA σ j) := wk_cnet (by omega) (by omega) c_39
        refine lv_aload_n hx hb dX6_areInConflict_76 rfl (lv_at hl 2 rfl) ?_
        refine wk_get (own := RX6) (C := RX6) (T := TX6) (N := 26) (ci := 7) (v := .ref (Y 11 12)) hx hb hts i_X6 hown hK hA.obj rfl 19 (by decide) (hts _ (List.mem_of_getElem? (i := 5) rfl)) (fun _ h9 => h9) rfl dX6_areInConflict_77 ?_
        refine lv_iload_n hx hb dX6_areInConflict_80 rfl (lv_at hl 3 rfl) ?_
        refine wk_iald (n := 16) (f := fun j => nI (z_pS σ j)) hx hb hK hA.a12 i rfl (by have := hi; omega) (by decide) dX6_areInConflict_81 ?_
        refine lv_aload_n hx hb dX6_areInConflict_82 rfl (lv_at hl 2 rfl) ?_
        refine wk_get (own := RX6) (C := RX6) (T := TX6) (N := 26) (ci := 7) (v := .ref (Y 11 12)) hx hb hts i_X6 hown hK hA.obj rfl 19 (by decide) (hts _ (List.mem_of_getElem? (i := 5) rfl)) (fun _ h9 => h9) rfl dX6_areInConflict_83 ?_
        refine lv_iload_n hx hb dX6_areInConflict_86 rfl (lv_at hl 4 rfl) ?_
        refine wk_iald (n := 16) (f := fun j => nI (z_pS σ j)) hx hb hK hA.a12 j rfl (by have := hj; omega) (by decide) dX6_areInConflict_87 ?_
        have q3 := hI.pS hi
        have q4 := hI.pS hj
        refine lv_icmp_ne (tgt := 132) hx hb dX6_areInConflict_88 (by decide) (fun c_88 => ?_) (fun c_88 => ?_)
        · skip
          have e_88 : ¬ (z_pS σ i) = (z_pS σ j) := wk_cnet (by omega) (by omega) c_88
          refine lv_iconst (v := 0) hx hb dX6_areInConflict_132 (by decide) ?_
          exact W.zret hx hb hr rfl (fun t ht _ => wk_ret (congrArg Value.int (by simp [f_conf, f_conf2, wk_b, e_6, e_17, e_39, e_88])) ht) wk_nil dX6_areInConflict_133
        have e_88 : (z_pS σ i) = (z_pS σ j) := wk_cnef (by omega) (by omega) c_88
        refine lv_aload_n hx hb dX6_areInConflict_91 rfl (lv_at hl 2 rfl) ?_
        refine wk_get (own := RX6) (C := RX6) (T := TX6) (N := 26) (ci := 7) (v := .ref (Y 11 15)) hx hb hts i_X6 hown hK hA.obj rfl 22 (by decide) (hts _ (List.mem_of_getElem? (i := 3) rfl)) (fun _ h9 => h9) rfl dX6_areInConflict_92 ?_
        refine lv_iload hx hb dX6_areInConflict_95 (lv_at hl 0 rfl) ?_
        refine wk_iald (n := 16) (f := fun j => z_pe σ j) hx hb hK hA.a15 i rfl (by have := hi; omega) (by decide) dX6_areInConflict_97 ?_
        refine lv_aload_n hx hb dX6_areInConflict_98 rfl (lv_at hl 2 rfl) ?_
        refine wk_get (own := RX6) (C := RX6) (T := TX6) (N := 26) (ci := 7) (v := .ref (Y 11 15)) hx hb hts i_X6 hown hK hA.obj rfl 22 (by decide) (hts _ (List.mem_of_getElem? (i := 3) rfl)) (fun _ h9 => h9) rfl dX6_areInConflict_99 ?_
        refine lv_iload_n hx hb dX6_areInConflict_102 rfl (lv_at hl 1 rfl) ?_
        refine wk_iald (n := 16) (f := fun j => z_pe σ j) hx hb hK hA.a15 j rfl (by have := hj; omega) (by decide) dX6_areInConflict_103 ?_
        refine lv_icmp_le (tgt := 128) hx hb dX6_areInConflict_104 (by decide) (fun c_104 => ?_) (fun c_104 => ?_)
        · skip
          have d_104 := Int32.not_lt.mpr c_104
          refine lv_iconst (v := 1) hx hb dX6_areInConflict_128 (by decide) ?_
          refine lv_goto (tgt := 133) hx hb dX6_areInConflict_129 (by decide) ?_
          exact W.zret hx hb hr rfl (fun t ht _ => wk_ret (congrArg Value.int (by simp [f_conf, f_conf2, wk_b, e_6, e_17, e_39, e_88, c_104, d_104])) ht) wk_nil dX6_areInConflict_133
        have d_104 := Int32.not_le.mp c_104
        refine lv_aload_n hx hb dX6_areInConflict_107 rfl (lv_at hl 2 rfl) ?_
        refine wk_get (own := RX6) (C := RX6) (T := TX6) (N := 26) (ci := 7) (v := .ref (Y 11 15)) hx hb hts i_X6 hown hK hA.obj rfl 22 (by decide) (hts _ (List.mem_of_getElem? (i := 3) rfl)) (fun _ h9 => h9) rfl dX6_areInConflict_108 ?_
        refine lv_iload_n hx hb dX6_areInConflict_111 rfl (lv_at hl 1 rfl) ?_
        refine wk_iald (n := 16) (f := fun j => z_pe σ j) hx hb hK hA.a15 j rfl (by have := hj; omega) (by decide) dX6_areInConflict_112 ?_
        refine lv_aload_n hx hb dX6_areInConflict_113 rfl (lv_at hl 2 rfl) ?_
        refine wk_get (own := RX6) (C := RX6) (T := TX6) (N := 26) (ci := 7) (v := .ref (Y 11 14)) hx hb hts i_X6 hown hK hA.obj rfl 21 (by decide) (hts _ (List.mem_of_getElem? (i := 2) rfl)) (fun _ h9 => h9) rfl dX6_areInConflict_114 ?_
        refine lv_iload hx hb dX6_areInConflict_117 (lv_at hl 0 rfl) ?_
        refine wk_iald (n := 16) (f := fun j => z_pb σ j) hx hb hK hA.a14 i rfl (by have := hi; omega) (by decide) dX6_areInConflict_119 ?_
        refine lv_isub hx hb dX6_areInConflict_120 ?_
        refine lv_aload_n hx hb dX6_areInConflict_121 rfl (lv_at hl 2 rfl) ?_
        refine wk_get (own := RX6) (C := RX6) (T := TX6) (N := 26) (ci := 7) (v := .int (z_ho σ)) hx hb hts i_X6 hown hK hA.obj rfl 2 (by decide) (hts _ (List.mem_of_getElem? (i := 6) rfl)) (fun _ h9 => h9) rfl dX6_areInConflict_122 ?_
        refine lv_icmp_le (tgt := 132) hx hb dX6_areInConflict_125 (by decide) (fun c_125 => ?_) (fun c_125 => ?_)
        · skip
          have d_125 := Int32.not_lt.mpr c_125
          refine lv_iconst (v := 0) hx hb dX6_areInConflict_132 (by decide) ?_
          exact W.zret hx hb hr rfl (fun t ht _ => wk_ret (congrArg Value.int (by simp [f_conf, f_conf2, wk_b, e_6, e_17, e_39, e_88, c_104, d_104, c_125, d_125])) ht) wk_nil dX6_areInConflict_133
        have d_125 := Int32.not_le.mp c_125
        refine lv_iconst (v := 1) hx hb dX6_areInConflict_128 (by decide) ?_
        refine lv_goto (tgt := 133) hx hb dX6_areInConflict_129 (by decide) ?_
        exact W.zret hx hb hr rfl (fun t ht _ => wk_ret (congrArg Value.int (by simp [f_conf, f_conf2, wk_b, e_6, e_17, e_39, e_88, c_104, d_104, c_125, d_125])) ht) wk_nil dX6_areInConflict_133
      have e_39 : (z_pA σ i) = (z_pA σ j) := wk_cnef (by omega) (by omega) c_39
      refine lv_aload_n hx hb dX6_areInConflict_42 rfl (lv_at hl 2 rfl) ?_
      refine wk_get (own := RX6) (C := RX6) (T := TX6) (N := 26) (ci := 7) (v := .ref (Y 11 14)) hx hb hts i_X6 hown hK hA.obj rfl 21 (by decide) (hts _ (List.mem_of_getElem? (i := 2) rfl)) (fun _ h9 => h9) rfl dX6_areInConflict_43 ?_
      refine lv_iload hx hb dX6_areInConflict_46 (lv_at hl 0 rfl) ?_
      refine wk_iald (n := 16) (f := fun j => z_pb σ j) hx hb hK hA.a14 i rfl (by have := hi; omega) (by decide) dX6_areInConflict_48 ?_
      refine lv_aload_n hx hb dX6_areInConflict_49 rfl (lv_at hl 2 rfl) ?_
      refine wk_get (own := RX6) (C := RX6) (T := TX6) (N := 26) (ci := 7) (v := .ref (Y 11 15)) hx hb hts i_X6 hown hK hA.obj rfl 22 (by decide) (hts _ (List.mem_of_getElem? (i := 3) rfl)) (fun _ h9 => h9) rfl dX6_areInConflict_50 ?_
      refine lv_iload_n hx hb dX6_areInConflict_53 rfl (lv_at hl 1 rfl) ?_
      refine wk_iald (n := 16) (f := fun j => z_pe σ j) hx hb hK hA.a15 j rfl (by have := hj; omega) (by decide) dX6_areInConflict_54 ?_
      refine lv_aload_n hx hb dX6_areInConflict_55 rfl (lv_at hl 2 rfl) ?_
      refine wk_get (own := RX6) (C := RX6) (T := TX6) (N := 26) (ci := 7) (v := .ref (Y 11 1)) hx hb hts i_X6 hown hK hA.obj rfl 5 (by decide) (hts _ (List.mem_of_getElem? (i := 4) rfl)) (fun _ h9 => h9) rfl dX6_areInConflict_56 ?_
      refine lv_aload_n hx hb dX6_areInConflict_59 rfl (lv_at hl 2 rfl) ?_
      refine wk_get (own := RX6) (C := RX6) (T := TX6) (N := 26) (ci := 7) (v := .ref (Y 11 13)) hx hb hts i_X6 hown hK hA.obj rfl 20 (by decide) (hts _ (List.mem_of_getElem? (i := 1) rfl)) (fun _ h9 => h9) rfl dX6_areInConflict_60 ?_
      refine lv_iload_n hx hb dX6_areInConflict_63 rfl (lv_at hl 3 rfl) ?_
      refine wk_iald (n := 16) (f := fun j => nI (z_pA σ j)) hx hb hK hA.a13 i rfl (by have := hi; omega) (by decide) dX6_areInConflict_64 ?_
      refine wk_iald (n := 5) (f := fun j => z_au σ j) hx hb hK hA.a1 (z_pA σ i) rfl (by have := (hI.pA hi); omega) (by decide) dX6_areInConflict_65 ?_
      refine lv_iadd hx hb dX6_areInConflict_66 ?_
      refine lv_icmp_ge (tgt := 74) hx hb dX6_areInConflict_67 (by decide) (fun c_67 => ?_) (fun c_67 => ?_)
      · skip
        have d_67 := Int32.not_lt.mpr c_67
        refine lv_iconst (v := 0) hx hb dX6_areInConflict_74 (by decide) ?_
        exact W.zret hx hb hr rfl (fun t ht _ => wk_ret (congrArg Value.int (by rw [e_39] at c_67 d_67; simp [f_conf, f_conf2, wk_b, e_6, e_17, e_39, c_67, d_67])) ht) wk_nil dX6_areInConflict_75
      have d_67 := Int32.not_le.mp c_67
      refine lv_iconst (v := 1) hx hb dX6_areInConflict_70 (by decide) ?_
      refine lv_goto (tgt := 75) hx hb dX6_areInConflict_71 (by decide) ?_
      exact W.zret hx hb hr rfl (fun t ht _ => wk_ret (congrArg Value.int (by rw [e_39] at c_67 d_67; simp [f_conf, f_conf2, wk_b, e_6, e_17, e_39, c_67, d_67])) ht) wk_nil dX6_areInConflict_75
    have e_17 : j = i := wk_cnef (by omega) (by omega) c_17
    exact absurd e_17.symm hij
  have e_6 : (f_earl σ i j) = true := wk_b1 c_6
  refine lv_iload_n hx hb dX6_areInConflict_9 rfl (lv_at hl 1 rfl) ?_
  refine lv_goto (tgt := 14) hx hb dX6_areInConflict_10 (by decide) ?_
  refine lv_istore_n (lv' := [(3, .int (nI i)), (0, .ref (Y 10 0)), (1, .int (nI i)), (2, .int (nI j))]) hx hb dX6_areInConflict_14 rfl hl (by decide) rfl (fun ls hl => ?_)
  refine lv_iload_n hx hb dX6_areInConflict_15 rfl (lv_at hl 0 rfl) ?_
  refine lv_iload_n hx hb dX6_areInConflict_16 rfl (lv_at hl 2 rfl) ?_
  refine lv_icmp_ne (tgt := 24) hx hb dX6_areInConflict_17 (by decide) (fun c_17 => ?_) (fun c_17 => ?_)
  · skip
    have e_17 : ¬ i = i := wk_cnet (by omega) (by omega) c_17
    exact absurd rfl e_17
  have e_17 : i = i := wk_cnef (by omega) (by omega) c_17
  refine lv_iload_n hx hb dX6_areInConflict_20 rfl (lv_at hl 3 rfl) ?_
  refine lv_goto (tgt := 25) hx hb dX6_areInConflict_21 (by decide) ?_
  refine lv_istore (lv' := [(4, .int (nI j)), (3, .int (nI i)), (0, .ref (Y 10 0)), (1, .int (nI i)), (2, .int (nI j))]) hx hb dX6_areInConflict_25 hl (by decide) rfl (fun ls hl => ?_)
  refine lv_aload_n hx hb dX6_areInConflict_27 rfl (lv_at hl 2 rfl) ?_
  refine wk_get (own := RX6) (C := RX6) (T := TX6) (N := 26) (ci := 7) (v := .ref (Y 11 13)) hx hb hts i_X6 hown hK hA.obj rfl 20 (by decide) (hts _ (List.mem_of_getElem? (i := 1) rfl)) (fun _ h9 => h9) rfl dX6_areInConflict_28 ?_
  refine lv_iload_n hx hb dX6_areInConflict_31 rfl (lv_at hl 3 rfl) ?_
  refine wk_iald (n := 16) (f := fun j => nI (z_pA σ j)) hx hb hK hA.a13 i rfl (by have := hi; omega) (by decide) dX6_areInConflict_32 ?_
  refine lv_aload_n hx hb dX6_areInConflict_33 rfl (lv_at hl 2 rfl) ?_
  refine wk_get (own := RX6) (C := RX6) (T := TX6) (N := 26) (ci := 7) (v := .ref (Y 11 13)) hx hb hts i_X6 hown hK hA.obj rfl 20 (by decide) (hts _ (List.mem_of_getElem? (i := 1) rfl)) (fun _ h9 => h9) rfl dX6_areInConflict_34 ?_
  refine lv_iload_n hx hb dX6_areInConflict_37 rfl (lv_at hl 4 rfl) ?_
  refine wk_iald (n := 16) (f := fun j => nI (z_pA σ j)) hx hb hK hA.a13 j rfl (by have := hj; omega) (by decide) dX6_areInConflict_38 ?_
  have q1 := hI.pA hi
  have q2 := hI.pA hj
  refine lv_icmp_ne (tgt := 76) hx hb dX6_areInConflict_39 (by decide) (fun c_39 => ?_) (fun c_39 => ?_)
  · skip
    have e_39 : ¬ (z_pA σ i) = (z_pA σ j) := wk_cnet (by omega) (by omega) c_39
    refine lv_aload_n hx hb dX6_areInConflict_76 rfl (lv_at hl 2 rfl) ?_
    refine wk_get (own := RX6) (C := RX6) (T := TX6) (N := 26) (ci := 7) (v := .ref (Y 11 12)) hx hb hts i_X6 hown hK hA.obj rfl 19 (by decide) (hts _ (List.mem_of_getElem? (i := 5) rfl)) (fun _ h9 => h9) rfl dX6_areInConflict_77 ?_
    refine lv_iload_n hx hb dX6_areInConflict_80 rfl (lv_at hl 3 rfl) ?_
    refine wk_iald (n := 16) (f := fun j => nI (z_pS σ j)) hx hb hK hA.a12 i rfl (by have := hi; omega) (by decide) dX6_areInConflict_81 ?_
    refine lv_aload_n hx hb dX6_areInConflict_82 rfl (lv_at hl 2 rfl) ?_
    refine wk_get (own := RX6) (C := RX6) (T := TX6) (N := 26) (ci := 7) (v := .ref (Y 11 12)) hx hb hts i_X6 hown hK hA.obj rfl 19 (by decide) (hts _ (List.mem_of_getElem? (i := 5) rfl)) (fun _ h9 => h9) rfl dX6_areInConflict_83 ?_
    refine lv_iload_n hx hb dX6_areInConflict_86 rfl (lv_at hl 4 rfl) ?_
    refine wk_iald (n := 16) (f := fun j => nI (z_pS σ j)) hx hb hK hA.a12 j rfl (by have := hj; omega) (by decide) dX6_areInConflict_87 ?_
    have q3 := hI.pS hi
    have q4 := hI.pS hj
    refine lv_icmp_ne (tgt := 132) hx hb dX6_areInConflict_88 (by decide) (fun c_88 => ?_) (fun c_88 => ?_)
    · skip
      have e_88 : ¬ (z_pS σ i) = (z_pS σ j) := wk_cnet (by omega) (by omega) c_88
      refine lv_iconst (v := 0) hx hb dX6_areInConflict_132 (by decide) ?_
      exact W.zret hx hb hr rfl (fun t ht _ => wk_ret (congrArg Value.int (by simp [f_conf, f_conf2, wk_b, e_6, e_17, e_39, e_88])) ht) wk_nil dX6_areInConflict_133
    have e_88 : (z_pS σ i) = (z_pS σ j) := wk_cnef (by omega) (by omega) c_88
    refine lv_aload_n hx hb dX6_areInConflict_91 rfl (lv_at hl 2 rfl) ?_
    refine wk_get (own := RX6) (C := RX6) (T := TX6) (N := 26) (ci := 7) (v := .ref (Y 11 15)) hx hb hts i_X6 hown hK hA.obj rfl 22 (by decide) (hts _ (List.mem_of_getElem? (i := 3) rfl)) (fun _ h9 => h9) rfl dX6_areInConflict_92 ?_
    refine lv_iload hx hb dX6_areInConflict_95 (lv_at hl 0 rfl) ?_
    refine wk_iald (n := 16) (f := fun j => z_pe σ j) hx hb hK hA.a15 j rfl (by have := hj; omega) (by decide) dX6_areInConflict_97 ?_
    refine lv_aload_n hx hb dX6_areInConflict_98 rfl (lv_at hl 2 rfl) ?_
    refine wk_get (own := RX6) (C := RX6) (T := TX6) (N := 26) (ci := 7) (v := .ref (Y 11 15)) hx hb hts i_X6 hown hK hA.obj rfl 22 (by decide) (hts _ (List.mem_of_getElem? (i := 3) rfl)) (fun _ h9 => h9) rfl dX6_areInConflict_99 ?_
    refine lv_iload_n hx hb dX6_areInConflict_102 rfl (lv_at hl 1 rfl) ?_
    refine wk_iald (n := 16) (f := fun j => z_pe σ j) hx hb hK hA.a15 i rfl (by have := hi; omega) (by decide) dX6_areInConflict_103 ?_
    refine lv_icmp_le (tgt := 128) hx hb dX6_areInConflict_104 (by decide) (fun c_104 => ?_) (fun c_104 => ?_)
    · skip
      have d_104 := Int32.not_lt.mpr c_104
      refine lv_iconst (v := 1) hx hb dX6_areInConflict_128 (by decide) ?_
      refine lv_goto (tgt := 133) hx hb dX6_areInConflict_129 (by decide) ?_
      exact W.zret hx hb hr rfl (fun t ht _ => wk_ret (congrArg Value.int (by simp [f_conf, f_conf2, wk_b, e_6, e_17, e_39, e_88, c_104, d_104])) ht) wk_nil dX6_areInConflict_133
    have d_104 := Int32.not_le.mp c_104
    refine lv_aload_n hx hb dX6_areInConflict_107 rfl (lv_at hl 2 rfl) ?_
    refine wk_get (own := RX6) (C := RX6) (T := TX6) (N := 26) (ci := 7) (v := .ref (Y 11 15)) hx hb hts i_X6 hown hK hA.obj rfl 22 (by decide) (hts _ (List.mem_of_getElem? (i := 3) rfl)) (fun _ h9 => h9) rfl dX6_areInConflict_108 ?_
    refine lv_iload_n hx hb dX6_areInConflict_111 rfl (lv_at hl 1 rfl) ?_
    refine wk_iald (n := 16) (f := fun j => z_pe σ j) hx hb hK hA.a15 i rfl (by have := hi; omega) (by decide) dX6_areInConflict_112 ?_
    refine lv_aload_n hx hb dX6_areInConflict_113 rfl (lv_at hl 2 rfl) ?_
    refine wk_get (own := RX6) (C := RX6) (T := TX6) (N := 26) (ci := 7) (v := .ref (Y 11 14)) hx hb hts i_X6 hown hK hA.obj rfl 21 (by decide) (hts _ (List.mem_of_getElem? (i := 2) rfl)) (fun _ h9 => h9) rfl dX6_areInConflict_114 ?_
    refine lv_iload hx hb dX6_areInConflict_117 (lv_at hl 0 rfl) ?_
    refine wk_iald (n := 16) (f := fun j => z_pb σ j) hx hb hK hA.a14 j rfl (by have := hj; omega) (by decide) dX6_areInConflict_119 ?_
    refine lv_isub hx hb dX6_areInConflict_120 ?_
    refine lv_aload_n hx hb dX6_areInConflict_121 rfl (lv_at hl 2 rfl) ?_
    refine wk_get (own := RX6) (C := RX6) (T := TX6) (N := 26) (ci := 7) (v := .int (z_ho σ)) hx hb hts i_X6 hown hK hA.obj rfl 2 (by decide) (hts _ (List.mem_of_getElem? (i := 6) rfl)) (fun _ h9 => h9) rfl dX6_areInConflict_122 ?_
    refine lv_icmp_le (tgt := 132) hx hb dX6_areInConflict_125 (by decide) (fun c_125 => ?_) (fun c_125 => ?_)
    · skip
      have d_125 := Int32.not_lt.mpr c_125
      refine lv_iconst (v := 0) hx hb dX6_areInConflict_132 (by decide) ?_
      exact W.zret hx hb hr rfl (fun t ht _ => wk_ret (congrArg Value.int (by simp [f_conf, f_conf2, wk_b, e_6, e_17, e_39, e_88, c_104, d_104, c_125, d_125])) ht) wk_nil dX6_areInConflict_133
    have d_125 := Int32.not_le.mp c_125
    refine lv_iconst (v := 1) hx hb dX6_areInConflict_128 (by decide) ?_
    refine lv_goto (tgt := 133) hx hb dX6_areInConflict_129 (by decide) ?_
    exact W.zret hx hb hr rfl (fun t ht _ => wk_ret (congrArg Value.int (by simp [f_conf, f_conf2, wk_b, e_6, e_17, e_39, e_88, c_104, d_104, c_125, d_125])) ht) wk_nil dX6_areInConflict_133
  have e_39 : (z_pA σ i) = (z_pA σ j) := wk_cnef (by omega) (by omega) c_39
  refine lv_aload_n hx hb dX6_areInConflict_42 rfl (lv_at hl 2 rfl) ?_
  refine wk_get (own := RX6) (C := RX6) (T := TX6) (N := 26) (ci := 7) (v := .ref (Y 11 14)) hx hb hts i_X6 hown hK hA.obj rfl 21 (by decide) (hts _ (List.mem_of_getElem? (i := 2) rfl)) (fun _ h9 => h9) rfl dX6_areInConflict_43 ?_
  refine lv_iload hx hb dX6_areInConflict_46 (lv_at hl 0 rfl) ?_
  refine wk_iald (n := 16) (f := fun j => z_pb σ j) hx hb hK hA.a14 j rfl (by have := hj; omega) (by decide) dX6_areInConflict_48 ?_
  refine lv_aload_n hx hb dX6_areInConflict_49 rfl (lv_at hl 2 rfl) ?_
  refine wk_get (own := RX6) (C := RX6) (T := TX6) (N := 26) (ci := 7) (v := .ref (Y 11 15)) hx hb hts i_X6 hown hK hA.obj rfl 22 (by decide) (hts _ (List.mem_of_getElem? (i := 3) rfl)) (fun _ h9 => h9) rfl dX6_areInConflict_50 ?_
  refine lv_iload_n hx hb dX6_areInConflict_53 rfl (lv_at hl 1 rfl) ?_
  refine wk_iald (n := 16) (f := fun j => z_pe σ j) hx hb hK hA.a15 i rfl (by have := hi; omega) (by decide) dX6_areInConflict_54 ?_
  refine lv_aload_n hx hb dX6_areInConflict_55 rfl (lv_at hl 2 rfl) ?_
  refine wk_get (own := RX6) (C := RX6) (T := TX6) (N := 26) (ci := 7) (v := .ref (Y 11 1)) hx hb hts i_X6 hown hK hA.obj rfl 5 (by decide) (hts _ (List.mem_of_getElem? (i := 4) rfl)) (fun _ h9 => h9) rfl dX6_areInConflict_56 ?_
  refine lv_aload_n hx hb dX6_areInConflict_59 rfl (lv_at hl 2 rfl) ?_
  refine wk_get (own := RX6) (C := RX6) (T := TX6) (N := 26) (ci := 7) (v := .ref (Y 11 13)) hx hb hts i_X6 hown hK hA.obj rfl 20 (by decide) (hts _ (List.mem_of_getElem? (i := 1) rfl)) (fun _ h9 => h9) rfl dX6_areInConflict_60 ?_
  refine lv_iload_n hx hb dX6_areInConflict_63 rfl (lv_at hl 3 rfl) ?_
  refine wk_iald (n := 16) (f := fun j => nI (z_pA σ j)) hx hb hK hA.a13 i rfl (by have := hi; omega) (by decide) dX6_areInConflict_64 ?_
  refine wk_iald (n := 5) (f := fun j => z_au σ j) hx hb hK hA.a1 (z_pA σ i) rfl (by have := (hI.pA hi); omega) (by decide) dX6_areInConflict_65 ?_
  refine lv_iadd hx hb dX6_areInConflict_66 ?_
  refine lv_icmp_ge (tgt := 74) hx hb dX6_areInConflict_67 (by decide) (fun c_67 => ?_) (fun c_67 => ?_)
  · skip
    have d_67 := Int32.not_lt.mpr c_67
    refine lv_iconst (v := 0) hx hb dX6_areInConflict_74 (by decide) ?_
    exact W.zret hx hb hr rfl (fun t ht _ => wk_ret (congrArg Value.int (by rw [e_39] at c_67 d_67; simp [f_conf, f_conf2, wk_b, e_6, e_17, e_39, c_67, d_67])) ht) wk_nil dX6_areInConflict_75
  have d_67 := Int32.not_le.mp c_67
  refine lv_iconst (v := 1) hx hb dX6_areInConflict_70 (by decide) ?_
  refine lv_goto (tgt := 75) hx hb dX6_areInConflict_71 (by decide) ?_
  exact W.zret hx hb hr rfl (fun t ht _ => wk_ret (congrArg Value.int (by rw [e_39] at c_67 d_67; simp [f_conf, f_conf2, wk_b, e_6, e_17, e_39, c_67, d_67])) ht) wk_nil dX6_areInConflict_75
