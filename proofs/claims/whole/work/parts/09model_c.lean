abbrev rmX6_fullBehind : Room := { frames := 0, cells := 0, slots := 0, locals := 0 }
set_option maxHeartbeats 4000000 in
set_option maxRecDepth 100000 in
theorem c_X6_fullBehind (l : Launch) (E : wk_E) {T : Nat → Nat × Nat} {Y : Nat → Nat → Nat} {σ : z_S} {th : Int32} {gt : Int64} {H : Heap} (hA : MA E T Y σ th gt H) (hI : z_Ok σ) {k : Nat} (hk : k < z_n σ 1) (hS : z_Sm σ) : wk_Met l yX6_fullBehind wsX6_fullBehind rmX6_fullBehind E H [.ref (Y 10 0), .int (nI k)] (some (.int (f_full σ k))) := by
  refine Met.ofW (cc := cX6_fullBehind) (maxL := 2) (ret := (some .int)) (by decide) rfl ?_
  intro p e s m args below meth c s₁ B hml hv
  obtain ⟨rfl, hH, hK⟩ := hv
  subst hH
  have hx := B.exec
  have hb := B.bytes
  have hr := B.returns
  have hts := atoms_spec (ws := wsX6_fullBehind) B.pre
  have hown : s.vm.findClass RX6 = some m.cls := findClass_of_methodNamed B.named
  have hlocks := B.notSynchronized
  have i_X6 : ∀ w ∈ u_ws RX6 TX6 26, w ∈ wsX6_fullBehind := fun w h => (List.mem_cons_of_mem _ (List.mem_append_right _ h))
  have hl := lv_entry [.ref (Y 10 0), .int (nI k)] (n := 2) (Nat.le_of_ble_eq_true rfl)
  rw [lg_entry_eq]
  generalize (lg_sl [.ref (Y 10 0), .int (nI k)] ++ List.replicate (2 - (lg_sl [.ref (Y 10 0), .int (nI k)]).length) Slot.unset).toArray = ls at hl ⊢
  have hl : lv_has ls 2 [(0, .ref (Y 10 0)), (1, .int (nI k))] := hl
  have b0 := hI.n0
  have b1 := hI.n1
  have b2 := hI.n2
  have b3 := hI.n3
  refine lv_aload_n hx hb dX6_fullBehind_0 rfl (lv_at hl 0 rfl) ?_
  refine wk_get (own := RX6) (C := RX6) (T := TX6) (N := 26) (ci := 7) (v := .ref (Y 11 9)) hx hb hts i_X6 hown hK hA.obj rfl 15 (by decide) (hts _ (List.mem_of_getElem? (i := 1) rfl)) (fun _ h9 => h9) rfl dX6_fullBehind_1 ?_
  refine lv_iload_n hx hb dX6_fullBehind_4 rfl (lv_at hl 1 rfl) ?_
  refine wk_iald (n := 8) (f := fun j => z_su σ j) hx hb hK hA.a9 k rfl (by have := hk; omega) (by decide) dX6_fullBehind_5 ?_
  refine lv_aload_n hx hb dX6_fullBehind_6 rfl (lv_at hl 0 rfl) ?_
  refine wk_get (own := RX6) (C := RX6) (T := TX6) (N := 26) (ci := 7) (v := .ref (Y 11 8)) hx hb hts i_X6 hown hK hA.obj rfl 14 (by decide) (hts _ (List.mem_of_getElem? (i := 2) rfl)) (fun _ h9 => h9) rfl dX6_fullBehind_7 ?_
  refine lv_iload_n hx hb dX6_fullBehind_10 rfl (lv_at hl 1 rfl) ?_
  refine wk_iald (n := 8) (f := fun j => z_sm σ j) hx hb hK hA.a8 k rfl (by have := hk; omega) (by decide) dX6_fullBehind_11 ?_
  refine lv_icmp_eq (tgt := 24) hx hb dX6_fullBehind_12 (by decide) (fun c_12 => ?_) (fun c_12 => ?_)
  · skip
    refine lv_iconst (v := (-1)) hx hb dX6_fullBehind_24 (by decide) ?_
    exact W.iret hx hb hr (fun t ht _ => wk_ret (congrArg Value.int ((f_full_no hI hS hk (by simp [c_12])).symm)) ht) wk_nil dX6_fullBehind_25
  refine lv_aload_n hx hb dX6_fullBehind_15 rfl (lv_at hl 0 rfl) ?_
  refine wk_get (own := RX6) (C := RX6) (T := TX6) (N := 26) (ci := 7) (v := .ref (Y 11 7)) hx hb hts i_X6 hown hK hA.obj rfl 13 (by decide) (hts _ (List.mem_of_getElem? (i := 3) rfl)) (fun _ h9 => h9) rfl dX6_fullBehind_16 ?_
  refine lv_iload_n hx hb dX6_fullBehind_19 rfl (lv_at hl 1 rfl) ?_
  refine wk_iald (n := 8) (f := fun j => z_sg σ j) hx hb hK hA.a7 k rfl (by have := hk; omega) (by decide) dX6_fullBehind_20 ?_
  refine lv_if_ne (tgt := 26) hx hb dX6_fullBehind_21 (by decide) (fun c_21 => ?_) (fun c_21 => ?_)
  · skip
    refine lv_aload_n hx hb dX6_fullBehind_26 rfl (lv_at hl 0 rfl) ?_
    refine wk_get (own := RX6) (C := RX6) (T := TX6) (N := 26) (ci := 7) (v := .int (z_now σ)) hx hb hts i_X6 hown hK hA.obj rfl 1 (by decide) (hts _ (List.mem_of_getElem? (i := 4) rfl)) (fun _ h9 => h9) rfl dX6_fullBehind_27 ?_
    refine lv_aload_n hx hb dX6_fullBehind_30 rfl (lv_at hl 0 rfl) ?_
    refine wk_get (own := RX6) (C := RX6) (T := TX6) (N := 26) (ci := 7) (v := .ref (Y 11 8)) hx hb hts i_X6 hown hK hA.obj rfl 14 (by decide) (hts _ (List.mem_of_getElem? (i := 2) rfl)) (fun _ h9 => h9) rfl dX6_fullBehind_31 ?_
    refine lv_iload_n hx hb dX6_fullBehind_34 rfl (lv_at hl 1 rfl) ?_
    refine wk_iald (n := 8) (f := fun j => z_sm σ j) hx hb hK hA.a8 k rfl (by have := hk; omega) (by decide) dX6_fullBehind_35 ?_
    refine lv_aload_n hx hb dX6_fullBehind_36 rfl (lv_at hl 0 rfl) ?_
    refine wk_get (own := RX6) (C := RX6) (T := TX6) (N := 26) (ci := 7) (v := .ref (Y 11 9)) hx hb hts i_X6 hown hK hA.obj rfl 15 (by decide) (hts _ (List.mem_of_getElem? (i := 1) rfl)) (fun _ h9 => h9) rfl dX6_fullBehind_37 ?_
    refine lv_iload_n hx hb dX6_fullBehind_40 rfl (lv_at hl 1 rfl) ?_
    refine wk_iald (n := 8) (f := fun j => z_su σ j) hx hb hK hA.a9 k rfl (by have := hk; omega) (by decide) dX6_fullBehind_41 ?_
    refine lv_isub hx hb dX6_fullBehind_42 ?_
    refine lv_aload_n hx hb dX6_fullBehind_43 rfl (lv_at hl 0 rfl) ?_
    refine wk_get (own := RX6) (C := RX6) (T := TX6) (N := 26) (ci := 7) (v := .ref (Y 11 7)) hx hb hts i_X6 hown hK hA.obj rfl 13 (by decide) (hts _ (List.mem_of_getElem? (i := 3) rfl)) (fun _ h9 => h9) rfl dX6_fullBehind_44 ?_
    refine lv_iload_n hx hb dX6_fullBehind_47 rfl (lv_at hl 1 rfl) ?_
    refine wk_iald (n := 8) (f := fun j => z_sg σ j) hx hb hK hA.a7 k rfl (by have := hk; omega) (by decide) dX6_fullBehind_48 ?_
    refine lv_iadd hx hb dX6_fullBehind_49 ?_
    refine lv_iconst (v := 1) hx hb dX6_fullBehind_50 (by decide) ?_
    refine lv_isub hx hb dX6_fullBehind_51 ?_
    refine lv_aload_n hx hb dX6_fullBehind_52 rfl (lv_at hl 0 rfl) ?_
    refine wk_get (own := RX6) (C := RX6) (T := TX6) (N := 26) (ci := 7) (v := .ref (Y 11 7)) hx hb hts i_X6 hown hK hA.obj rfl 13 (by decide) (hts _ (List.mem_of_getElem? (i := 3) rfl)) (fun _ h9 => h9) rfl dX6_fullBehind_53 ?_
    refine lv_iload_n hx hb dX6_fullBehind_56 rfl (lv_at hl 1 rfl) ?_
    refine wk_iald (n := 8) (f := fun j => z_sg σ j) hx hb hK hA.a7 k rfl (by have := hk; omega) (by decide) dX6_fullBehind_57 ?_
    refine lv_idiv hx hb dX6_fullBehind_58 c_21 ?_
    refine lv_iadd hx hb dX6_fullBehind_59 ?_
    refine lv_iconst (v := 1) hx hb dX6_fullBehind_60 (by decide) ?_
    refine lv_isub hx hb dX6_fullBehind_61 ?_
    exact W.iret hx hb hr (fun t ht _ => wk_ret (congrArg Value.int ((f_full_eq hI hS hk c_12 c_21).symm)) ht) wk_nil dX6_fullBehind_62
  refine lv_iconst (v := (-1)) hx hb dX6_fullBehind_24 (by decide) ?_
  exact W.iret hx hb hr (fun t ht _ => wk_ret (congrArg Value.int ((f_full_no hI hS hk (by simp [c_12, c_21])).symm)) ht) wk_nil dX6_fullBehind_25

abbrev rmX6_heardBy : Room := { frames := 3, cells := 0, slots := 0, locals := 66 }
set_option maxHeartbeats 4000000 in
set_option maxRecDepth 100000 in
theorem c_X6_heardBy (l : Launch) (E : wk_E) {T : Nat → Nat × Nat} {Y : Nat → Nat → Nat} {σ : z_S} {th : Int32} {gt : Int64} {H : Heap} (hA : MA E T Y σ th gt H) (hI : z_Ok σ) {a : Nat} (ha : a < z_n σ 0) : wk_Met l yX6_heardBy wsX6_heardBy rmX6_heardBy E H [.ref (Y 10 0), .int (nI a)] (some (.int (f_heardBy σ a))) := by
  refine Met.ofW (cc := cX6_heardBy) (maxL := 3) (ret := (some .int)) (by decide) rfl ?_
  intro p e s m args below meth c s₁ B hml hv
  obtain ⟨rfl, hH, hK⟩ := hv
  subst hH
  have hx := B.exec
  have hb := B.bytes
  have hr := B.returns
  have hts := atoms_spec (ws := wsX6_heardBy) B.pre
  have hown : s.vm.findClass RX6 = some m.cls := findClass_of_methodNamed B.named
  have hlocks := B.notSynchronized
  have i_X6 : ∀ w ∈ u_ws RX6 TX6 26, w ∈ wsX6_heardBy := fun w h => (List.mem_cons_of_mem _ (List.mem_append_right _ h))
  have hl := lv_entry [.ref (Y 10 0), .int (nI a)] (n := 3) (Nat.le_of_ble_eq_true rfl)
  rw [lg_entry_eq]
  generalize (lg_sl [.ref (Y 10 0), .int (nI a)] ++ List.replicate (3 - (lg_sl [.ref (Y 10 0), .int (nI a)]).length) Slot.unset).toArray = ls at hl ⊢
  have hl : lv_has ls 3 [(0, .ref (Y 10 0)), (1, .int (nI a))] := hl
  have b0 := hI.n0
  have b1 := hI.n1
  have b2 := hI.n2
  have b3 := hI.n3
  refine lv_iconst (v := 0) hx hb dX6_heardBy_0 (by decide) ?_
  refine lv_istore_n (lv' := [(2, .int 0), (0, .ref (Y 10 0)), (1, .int (nI a))]) hx hb dX6_heardBy_1 rfl hl (by decide) rfl (fun ls hl => ?_)
  have L_2 : ∀ (n_2 : Nat) (k : Nat), z_n σ 2 - k < n_2 → (k ≤ z_n σ 2) → (f_any (fun k => decide (z_pA σ k = a) && f_heard σ k) k = false) → ∀ ls : Array Slot, lv_has ls 3 [(0, .ref (Y 10 0)), (1, .int (nI a)), (2, .int (nI k))] → W p l e (headSpec wsX6_heardBy rmX6_heardBy).room s m ([.ref (Y 10 0), .int (nI a)] : List Value).toArray below meth c s.heap [] 0 0 (MQ below (wk_Q (some (.int (f_heardBy σ a)))) ([.ref (Y 10 0), .int (nI a)] : List Value).toArray s 0 0 (fun _ => False)) (F0 m 2 ls []) := by
    intro n_2
    induction n_2 with
    | zero => intro k hm; exact absurd hm (Nat.not_lt_zero _)
    | succ n_2 ih_2 =>
      intro k hm_2 hk_k hf ls hl
      refine lv_iload_n hx hb dX6_heardBy_2 rfl (lv_at hl 2 rfl) ?_
      refine lv_aload_n hx hb dX6_heardBy_3 rfl (lv_at hl 0 rfl) ?_
      refine wk_get (own := RX6) (C := RX6) (T := TX6) (N := 26) (ci := 7) (v := .int (nI (z_n σ 2))) hx hb hts i_X6 hown hK hA.obj rfl 18 (by decide) (hts _ (List.mem_of_getElem? (i := 1) rfl)) (fun _ h9 => h9) rfl dX6_heardBy_4 ?_
      refine lv_icmp_ge (tgt := 36) hx hb dX6_heardBy_7 (by decide) (fun c_7 => ?_) (fun c_7 => ?_)
      · skip
        have e_7 : (z_n σ 2) ≤ k := wk_cget (by omega) (by omega) c_7
        have hkN : k = z_n σ 2 := by omega
        refine lv_iconst (v := (-1)) hx hb dX6_heardBy_36 (by decide) ?_
        exact W.iret hx hb hr (fun t ht _ => wk_ret (congrArg Value.int (by rw [f_heardBy, ← hkN]; exact (f_fst_no hf).symm)) ht) wk_nil dX6_heardBy_37
      have e_7 : k < (z_n σ 2) := wk_cgef (by omega) (by omega) c_7
      refine lv_aload_n hx hb dX6_heardBy_10 rfl (lv_at hl 0 rfl) ?_
      refine wk_get (own := RX6) (C := RX6) (T := TX6) (N := 26) (ci := 7) (v := .ref (Y 11 13)) hx hb hts i_X6 hown hK hA.obj rfl 20 (by decide) (hts _ (List.mem_of_getElem? (i := 2) rfl)) (fun _ h9 => h9) rfl dX6_heardBy_11 ?_
      refine lv_iload_n hx hb dX6_heardBy_14 rfl (lv_at hl 2 rfl) ?_
      refine wk_iald (n := 16) (f := fun j => nI (z_pA σ j)) hx hb hK hA.a13 k rfl (by have := e_7; omega) (by decide) dX6_heardBy_15 ?_
      refine lv_iload_n hx hb dX6_heardBy_16 rfl (lv_at hl 1 rfl) ?_
      have q1 := hI.pA e_7
      refine lv_icmp_ne (tgt := 30) hx hb dX6_heardBy_17 (by decide) (fun c_17 => ?_) (fun c_17 => ?_)
      · skip
        have e_17 : ¬ (z_pA σ k) = a := wk_cnet (by omega) (by omega) c_17
        refine lv_iinc (v := nI (k + 1)) (lv' := [(2, .int (nI (k + 1))), (0, .ref (Y 10 0)), (1, .int (nI a))]) hx hb dX6_heardBy_30 hl (k := 2) rfl (nI_1 _) (by decide) rfl (fun ls hl => ?_)
        refine lv_goto (tgt := 2) hx hb dX6_heardBy_33 (by decide) ?_
        exact ih_2 (k + 1) (by omega) (by omega) (f_any_step hf (by simp [e_17])) ls (lv_sub hl [1, 2, 0] rfl)
      have e_17 : (z_pA σ k) = a := wk_cnef (by omega) (by omega) c_17
      refine lv_aload_n hx hb dX6_heardBy_20 rfl (lv_at hl 0 rfl) ?_
      refine lv_iload_n hx hb dX6_heardBy_21 rfl (lv_at hl 2 rfl) ?_
      refine wk_V (As := [.int (nI k)]) (rest := []) ⟨hx, hb, hml, hown, hts⟩ (c_X6_isHeard l E hA hI e_7) (cwV 1 hts gX6_heardBy_X6_isHeard rfl rfl rfl (by decide +kernel) ⟨(Nat.le_of_ble_eq_true rfl), (Nat.le_of_ble_eq_true rfl)⟩) (wk_recv hK hA.obj rfl) hK rfl hl.1 rfl (Nat.le_of_ble_eq_true rfl) dX6_heardBy_22 ⟨Nat.zero_le _, Nat.zero_le _⟩ ?_
      refine lv_if_eq (tgt := 30) hx hb dX6_heardBy_25 (by decide) (fun c_25 => ?_) (fun c_25 => ?_)
      · skip
        have e_25 : (f_heard σ k) = false := wk_b0 c_25
        refine lv_iinc (v := nI (k + 1)) (lv' := [(2, .int (nI (k + 1))), (0, .ref (Y 10 0)), (1, .int (nI a))]) hx hb dX6_heardBy_30 hl (k := 2) rfl (nI_1 _) (by decide) rfl (fun ls hl => ?_)
        refine lv_goto (tgt := 2) hx hb dX6_heardBy_33 (by decide) ?_
        exact ih_2 (k + 1) (by omega) (by omega) (f_any_step hf (by simp [e_17, e_25])) ls (lv_sub hl [1, 2, 0] rfl)
      have e_25 : (f_heard σ k) = true := wk_b1 c_25
      refine lv_iload_n hx hb dX6_heardBy_28 rfl (lv_at hl 2 rfl) ?_
      exact W.iret hx hb hr (fun t ht _ => wk_ret (congrArg Value.int ((f_fst_yes hf (by simp [e_17, e_25]) e_7).symm)) ht) wk_nil dX6_heardBy_29
  exact L_2 _ 0 (Nat.lt_succ_self _) (Nat.zero_le _) rfl ls (lv_sub hl [1, 2, 0] rfl)

abbrev rmX6_nextOver : Room := { frames := 1, cells := 0, slots := 0, locals := 21 }
set_option maxHeartbeats 4000000 in
set_option maxRecDepth 100000 in
theorem c_X6_nextOver (l : Launch) (E : wk_E) {T : Nat → Nat × Nat} {Y : Nat → Nat → Nat} {σ : z_S} {th : Int32} {gt : Int64} {H : Heap} (hA : MA E T Y σ th gt H) (hI : z_Ok σ) {a : Nat} (ha : a < z_n σ 0) : wk_Met l yX6_nextOver wsX6_nextOver rmX6_nextOver E H [.ref (Y 10 0), .int (nI a)] (some (.int (f_nextOver σ a))) := by
  refine Met.ofW (cc := cX6_nextOver) (maxL := 4) (ret := (some .int)) (by decide) rfl ?_
  intro p e s m args below meth c s₁ B hml hv
  obtain ⟨rfl, hH, hK⟩ := hv
  subst hH
  have hx := B.exec
  have hb := B.bytes
  have hr := B.returns
  have hts := atoms_spec (ws := wsX6_nextOver) B.pre
  have hown : s.vm.findClass RX6 = some m.cls := findClass_of_methodNamed B.named
  have hlocks := B.notSynchronized
  have i_X6 : ∀ w ∈ u_ws RX6 TX6 26, w ∈ wsX6_nextOver := fun w h => (List.mem_cons_of_mem _ (List.mem_append_right _ h))
  have hl := lv_entry [.ref (Y 10 0), .int (nI a)] (n := 4) (Nat.le_of_ble_eq_true rfl)
  rw [lg_entry_eq]
  generalize (lg_sl [.ref (Y 10 0), .int (nI a)] ++ List.replicate (4 - (lg_sl [.ref (Y 10 0), .int (nI a)]).length) Slot.unset).toArray = ls at hl ⊢
  have hl : lv_has ls 4 [(0, .ref (Y 10 0)), (1, .int (nI a))] := hl
  have b0 := hI.n0
  have b1 := hI.n1
  have b2 := hI.n2
  have b3 := hI.n3
  refine lv_iconst (v := (-1)) hx hb dX6_nextOver_0 (by decide) ?_
  refine lv_istore_n (lv' := [(2, .int (-1)), (0, .ref (Y 10 0)), (1, .int (nI a))]) hx hb dX6_nextOver_1 rfl hl (by decide) rfl (fun ls hl => ?_)
  refine lv_iconst (v := 0) hx hb dX6_nextOver_2 (by decide) ?_
  refine lv_istore_n (lv' := [(3, .int 0), (2, .int (-1)), (0, .ref (Y 10 0)), (1, .int (nI a))]) hx hb dX6_nextOver_3 rfl hl (by decide) rfl (fun ls hl => ?_)
  have L_4 : ∀ (n_4 : Nat) (k : Nat), z_n σ 2 - k < n_4 → (k ≤ z_n σ 2) → ∀ ls : Array Slot, lv_has ls 4 [(0, .ref (Y 10 0)), (1, .int (nI a)), (2, .int (f_opt (f_nextTo σ a k))), (3, .int (nI k))] → W p l e (headSpec wsX6_nextOver rmX6_nextOver).room s m ([.ref (Y 10 0), .int (nI a)] : List Value).toArray below meth c s.heap [] 0 0 (MQ below (wk_Q (some (.int (f_nextOver σ a)))) ([.ref (Y 10 0), .int (nI a)] : List Value).toArray s 0 0 (fun _ => False)) (F0 m 4 ls []) := by
    intro n_4
    induction n_4 with
    | zero => intro k hm; exact absurd hm (Nat.not_lt_zero _)
    | succ n_4 ih_4 =>
      intro k hm_4 hk_k ls hl
      refine lv_iload_n hx hb dX6_nextOver_4 rfl (lv_at hl 3 rfl) ?_
      refine lv_aload_n hx hb dX6_nextOver_5 rfl (lv_at hl 0 rfl) ?_
      refine wk_get (own := RX6) (C := RX6) (T := TX6) (N := 26) (ci := 7) (v := .int (nI (z_n σ 2))) hx hb hts i_X6 hown hK hA.obj rfl 18 (by decide) (hts _ (List.mem_of_getElem? (i := 1) rfl)) (fun _ h9 => h9) rfl dX6_nextOver_6 ?_
      refine lv_icmp_ge (tgt := 77) hx hb dX6_nextOver_9 (by decide) (fun c_9 => ?_) (fun c_9 => ?_)
      · skip
        have e_9 : (z_n σ 2) ≤ k := wk_cget (by omega) (by omega) c_9
        have hkN : k = z_n σ 2 := by omega
        refine lv_iload_n hx hb dX6_nextOver_77 rfl (lv_at hl 2 rfl) ?_
        exact W.iret hx hb hr (fun t ht _ => wk_ret (congrArg Value.int (by rw [hkN]; rfl)) ht) wk_nil dX6_nextOver_78
      have e_9 : k < (z_n σ 2) := wk_cgef (by omega) (by omega) c_9
      refine lv_aload_n hx hb dX6_nextOver_12 rfl (lv_at hl 0 rfl) ?_
      refine wk_get (own := RX6) (C := RX6) (T := TX6) (N := 26) (ci := 7) (v := .ref (Y 11 13)) hx hb hts i_X6 hown hK hA.obj rfl 20 (by decide) (hts _ (List.mem_of_getElem? (i := 2) rfl)) (fun _ h9 => h9) rfl dX6_nextOver_13 ?_
      refine lv_iload_n hx hb dX6_nextOver_16 rfl (lv_at hl 3 rfl) ?_
      refine wk_iald (n := 16) (f := fun j => nI (z_pA σ j)) hx hb hK hA.a13 k rfl (by have := e_9; omega) (by decide) dX6_nextOver_17 ?_
      refine lv_iload_n hx hb dX6_nextOver_18 rfl (lv_at hl 1 rfl) ?_
      have q1 := hI.pA e_9
      refine lv_icmp_ne (tgt := 71) hx hb dX6_nextOver_19 (by decide) (fun c_19 => ?_) (fun c_19 => ?_)
      · skip
        have e_19 : ¬ (z_pA σ k) = a := wk_cnet (by omega) (by omega) c_19
        refine lv_iinc (v := nI (k + 1)) (lv' := [(3, .int (nI (k + 1))), (0, .ref (Y 10 0)), (1, .int (nI a)), (2, .int (f_opt (f_nextTo σ a k)))]) hx hb dX6_nextOver_71 hl (k := 3) rfl (nI_1 _) (by decide) rfl (fun ls hl => ?_)
        refine lv_goto (tgt := 4) hx hb dX6_nextOver_74 (by decide) ?_
        have hl : lv_has ls 4 [(3, .int (nI (k + 1))), (0, .ref (Y 10 0)), (1, .int (nI a)), (2, .int (f_opt (f_nextTo σ a (k + 1))))] := by rw [show f_opt (f_nextTo σ a (k + 1)) = f_opt (f_nextTo σ a k) from (by rw [f_next_not (by simp [f_isNext, e_19])])]; exact hl
        exact ih_4 (k + 1) (by omega) (by omega) ls (lv_sub hl [1, 2, 3, 0] rfl)
      have e_19 : (z_pA σ k) = a := wk_cnef (by omega) (by omega) c_19
      refine lv_aload_n hx hb dX6_nextOver_22 rfl (lv_at hl 0 rfl) ?_
      refine wk_get (own := RX6) (C := RX6) (T := TX6) (N := 26) (ci := 7) (v := .int (nI (z_mk σ))) hx hb hts i_X6 hown hK hA.obj rfl 24 (by decide) (hts _ (List.mem_of_getElem? (i := 3) rfl)) (fun _ h9 => h9) rfl dX6_nextOver_23 ?_
      refine lv_iload_n hx hb dX6_nextOver_26 rfl (lv_at hl 3 rfl) ?_
      refine wk_S (As := [.int (nI (z_mk σ)), .int (nI k)]) (rest := []) ⟨hx, hb, hml, hown, hts⟩ (c_X6_has l E (mm := z_mk σ) (k := k) (z_mklt hI) (by omega)) (va_cwS 2 hts gX6_nextOver_X6_has rfl rfl rfl (by decide +kernel) ⟨(Nat.le_of_ble_eq_true rfl), (Nat.le_of_ble_eq_true rfl)⟩) hK rfl hl.1 rfl (Nat.le_of_ble_eq_true rfl) dX6_nextOver_27 ⟨Nat.zero_le _, Nat.zero_le _⟩ ?_
      refine lv_if_eq (tgt := 71) hx hb dX6_nextOver_30 (by decide) (fun c_30 => ?_) (fun c_30 => ?_)
      · skip
        have e_30 : (z_tk σ k) = false := wk_b0 c_30
        refine lv_iinc (v := nI (k + 1)) (lv' := [(3, .int (nI (k + 1))), (0, .ref (Y 10 0)), (1, .int (nI a)), (2, .int (f_opt (f_nextTo σ a k)))]) hx hb dX6_nextOver_71 hl (k := 3) rfl (nI_1 _) (by decide) rfl (fun ls hl => ?_)
        refine lv_goto (tgt := 4) hx hb dX6_nextOver_74 (by decide) ?_
        have hl : lv_has ls 4 [(3, .int (nI (k + 1))), (0, .ref (Y 10 0)), (1, .int (nI a)), (2, .int (f_opt (f_nextTo σ a (k + 1))))] := by rw [show f_opt (f_nextTo σ a (k + 1)) = f_opt (f_nextTo σ a k) from (by rw [f_next_not (by simp [f_isNext, e_19, e_30])])]; exact hl
        exact ih_4 (k + 1) (by omega) (by omega) ls (lv_sub hl [1, 2, 3, 0] rfl)
      have e_30 : (z_tk σ k) = true := wk_b1 c_30
      refine lv_aload_n hx hb dX6_nextOver_33 rfl (lv_at hl 0 rfl) ?_
      refine wk_get (own := RX6) (C := RX6) (T := TX6) (N := 26) (ci := 7) (v := .ref (Y 11 14)) hx hb hts i_X6 hown hK hA.obj rfl 21 (by decide) (hts _ (List.mem_of_getElem? (i := 4) rfl)) (fun _ h9 => h9) rfl dX6_nextOver_34 ?_
      refine lv_iload_n hx hb dX6_nextOver_37 rfl (lv_at hl 3 rfl) ?_
      refine wk_iald (n := 16) (f := fun j => z_pb σ j) hx hb hK hA.a14 k rfl (by have := e_9; omega) (by decide) dX6_nextOver_38 ?_
      refine lv_aload_n hx hb dX6_nextOver_39 rfl (lv_at hl 0 rfl) ?_
      refine wk_get (own := RX6) (C := RX6) (T := TX6) (N := 26) (ci := 7) (v := .int (z_now σ)) hx hb hts i_X6 hown hK hA.obj rfl 1 (by decide) (hts _ (List.mem_of_getElem? (i := 5) rfl)) (fun _ h9 => h9) rfl dX6_nextOver_40 ?_
      refine lv_icmp_ge (tgt := 49) hx hb dX6_nextOver_43 (by decide) (fun c_43 => ?_) (fun c_43 => ?_)
      · skip
        have d_43 := Int32.not_lt.mpr c_43
        refine lv_iload_n hx hb dX6_nextOver_49 rfl (lv_at hl 2 rfl) ?_
        rcases hq : f_nextTo σ a k with _ | b
        · skip
          rw [hq] at hl
          refine lv_iconst (v := (-1)) hx hb dX6_nextOver_50 (by decide) ?_
          refine lv_icmp_eq (tgt := 69) hx hb dX6_nextOver_51 (by decide) (fun c_51 => ?_) (fun c_51 => ?_)
          · skip
            refine lv_iload_n hx hb dX6_nextOver_69 rfl (lv_at hl 3 rfl) ?_
            refine lv_istore_n (lv' := [(2, .int (nI k)), (0, .ref (Y 10 0)), (1, .int (nI a)), (3, .int (nI k))]) hx hb dX6_nextOver_70 rfl hl (by decide) rfl (fun ls hl => ?_)
            refine lv_iinc (v := nI (k + 1)) (lv' := [(3, .int (nI (k + 1))), (2, .int (nI k)), (0, .ref (Y 10 0)), (1, .int (nI a))]) hx hb dX6_nextOver_71 hl (k := 3) rfl (nI_1 _) (by decide) rfl (fun ls hl => ?_)
            refine lv_goto (tgt := 4) hx hb dX6_nextOver_74 (by decide) ?_
            have hl : lv_has ls 4 [(3, .int (nI (k + 1))), (2, .int (f_opt (f_nextTo σ a (k + 1)))), (0, .ref (Y 10 0)), (1, .int (nI a))] := by rw [show f_opt (f_nextTo σ a (k + 1)) = nI k from (by rw [f_next_none (by simp [f_isNext, e_19, e_30, c_43, d_43]) hq]; rfl)]; exact hl
            exact ih_4 (k + 1) (by omega) (by omega) ls (lv_sub hl [2, 3, 1, 0] rfl)
          exact absurd c_51 (by decide)
        rw [hq] at hl
        have hbb9 := Nat.lt_trans (f_nextTo_lt hq) e_9
        refine lv_iconst (v := (-1)) hx hb dX6_nextOver_50 (by decide) ?_
        refine lv_icmp_eq (tgt := 69) hx hb dX6_nextOver_51 (by decide) (fun c_51 => ?_) (fun c_51 => ?_)
        · skip
          exact absurd c_51 (wk_nI_m1 (by omega))
        refine lv_aload_n hx hb dX6_nextOver_54 rfl (lv_at hl 0 rfl) ?_
        refine wk_get (own := RX6) (C := RX6) (T := TX6) (N := 26) (ci := 7) (v := .ref (Y 11 14)) hx hb hts i_X6 hown hK hA.obj rfl 21 (by decide) (hts _ (List.mem_of_getElem? (i := 4) rfl)) (fun _ h9 => h9) rfl dX6_nextOver_55 ?_
        refine lv_iload_n hx hb dX6_nextOver_58 rfl (lv_at hl 3 rfl) ?_
        refine wk_iald (n := 16) (f := fun j => z_pb σ j) hx hb hK hA.a14 k rfl (by have := e_9; omega) (by decide) dX6_nextOver_59 ?_
        refine lv_aload_n hx hb dX6_nextOver_60 rfl (lv_at hl 0 rfl) ?_
        refine wk_get (own := RX6) (C := RX6) (T := TX6) (N := 26) (ci := 7) (v := .ref (Y 11 14)) hx hb hts i_X6 hown hK hA.obj rfl 21 (by decide) (hts _ (List.mem_of_getElem? (i := 4) rfl)) (fun _ h9 => h9) rfl dX6_nextOver_61 ?_
        refine lv_iload_n hx hb dX6_nextOver_64 rfl (lv_at hl 2 rfl) ?_
        refine wk_iald (n := 16) (f := fun j => z_pb σ j) hx hb hK hA.a14 b rfl (by have := hbb9; omega) (by decide) dX6_nextOver_65 ?_
        refine lv_icmp_ge (tgt := 71) hx hb dX6_nextOver_66 (by decide) (fun c_66 => ?_) (fun c_66 => ?_)
        · skip
          have d_66 := Int32.not_lt.mpr c_66
          refine lv_iinc (v := nI (k + 1)) (lv' := [(3, .int (nI (k + 1))), (0, .ref (Y 10 0)), (1, .int (nI a)), (2, .int (nI b))]) hx hb dX6_nextOver_71 hl (k := 3) rfl (nI_1 _) (by decide) rfl (fun ls hl => ?_)
          refine lv_goto (tgt := 4) hx hb dX6_nextOver_74 (by decide) ?_
          have hl : lv_has ls 4 [(3, .int (nI (k + 1))), (0, .ref (Y 10 0)), (1, .int (nI a)), (2, .int (f_opt (f_nextTo σ a (k + 1))))] := by rw [show f_opt (f_nextTo σ a (k + 1)) = nI b from (by rw [f_next_same (by simp [f_isNext, e_19, e_30, c_43, d_43]) hq c_66]; rfl)]; exact hl
          exact ih_4 (k + 1) (by omega) (by omega) ls (lv_sub hl [1, 2, 3, 0] rfl)
        have d_66 := Int32.not_le.mp c_66
        refine lv_iload_n hx hb dX6_nextOver_69 rfl (lv_at hl 3 rfl) ?_
        refine lv_istore_n (lv' := [(2, .int (nI k)), (0, .ref (Y 10 0)), (1, .int (nI a)), (3, .int (nI k))]) hx hb dX6_nextOver_70 rfl hl (by decide) rfl (fun ls hl => ?_)
        refine lv_iinc (v := nI (k + 1)) (lv' := [(3, .int (nI (k + 1))), (2, .int (nI k)), (0, .ref (Y 10 0)), (1, .int (nI a))]) hx hb dX6_nextOver_71 hl (k := 3) rfl (nI_1 _) (by decide) rfl (fun ls hl => ?_)
        refine lv_goto (tgt := 4) hx hb dX6_nextOver_74 (by decide) ?_
        have hl : lv_has ls 4 [(3, .int (nI (k + 1))), (2, .int (f_opt (f_nextTo σ a (k + 1)))), (0, .ref (Y 10 0)), (1, .int (nI a))] := by rw [show f_opt (f_nextTo σ a (k + 1)) = nI k from (by rw [f_next_some (by simp [f_isNext, e_19, e_30, c_43, d_43]) hq c_66]; rfl)]; exact hl
        exact ih_4 (k + 1) (by omega) (by omega) ls (lv_sub hl [2, 3, 1, 0] rfl)
      have d_43 := Int32.not_le.mp c_43
      refine lv_goto (tgt := 71) hx hb dX6_nextOver_46 (by decide) ?_
      refine lv_iinc (v := nI (k + 1)) (lv' := [(3, .int (nI (k + 1))), (0, .ref (Y 10 0)), (1, .int (nI a)), (2, .int (f_opt (f_nextTo σ a k)))]) hx hb dX6_nextOver_71 hl (k := 3) rfl (nI_1 _) (by decide) rfl (fun ls hl => ?_)
      refine lv_goto (tgt := 4) hx hb dX6_nextOver_74 (by decide) ?_
      have hl : lv_has ls 4 [(3, .int (nI (k + 1))), (0, .ref (Y 10 0)), (1, .int (nI a)), (2, .int (f_opt (f_nextTo σ a (k + 1))))] := by rw [show f_opt (f_nextTo σ a (k + 1)) = f_opt (f_nextTo σ a k) from (by rw [f_next_not (by simp [f_isNext, e_19, e_30, c_43, d_43])])]; exact hl
      exact ih_4 (k + 1) (by omega) (by omega) ls (lv_sub hl [1, 2, 3, 0] rfl)
  exact L_4 _ 0 (Nat.lt_succ_self _) (Nat.zero_le _) ls (lv_sub hl [2, 3, 1, 0] rfl)

abbrev rmX6_told : Room := { frames := 2, cells := 0, slots := 0, locals := 45 }
set_option maxHeartbeats 4000000 in
set_option maxRecDepth 100000 in
theorem c_X6_told (l : Launch) (E : wk_E) {T : Nat → Nat × Nat} {Y : Nat → Nat → Nat} {σ : z_S} {th : Int32} {gt : Int64} {H : Heap} (hA : MA E T Y σ th gt H) (hI : z_Ok σ) {i w : Nat} (hi : i < z_n σ 2) (hw : w ≤ 7) : wk_Met l yX6_told wsX6_told rmX6_told E H [.ref (Y 10 0), .int (nI i), .int (nI w)] (some (.int (f_pass σ i w))) := by
  refine Met.ofW (cc := cX6_told) (maxL := 3) (ret := (some .int)) (by decide) rfl ?_
  intro p e s m args below meth c s₁ B hml hv
  obtain ⟨rfl, hH, hK⟩ := hv
  subst hH
  have hx := B.exec
  have hb := B.bytes
  have hr := B.returns
  have hts := atoms_spec (ws := wsX6_told) B.pre
  have hown : s.vm.findClass RX6 = some m.cls := findClass_of_methodNamed B.named
  have hlocks := B.notSynchronized
  have i_X6 : ∀ w ∈ u_ws RX6 TX6 26, w ∈ wsX6_told := fun w h => (List.mem_cons_of_mem _ (List.mem_append_right _ h))
  have hl := lv_entry [.ref (Y 10 0), .int (nI i), .int (nI w)] (n := 3) (Nat.le_of_ble_eq_true rfl)
  rw [lg_entry_eq]
  generalize (lg_sl [.ref (Y 10 0), .int (nI i), .int (nI w)] ++ List.replicate (3 - (lg_sl [.ref (Y 10 0), .int (nI i), .int (nI w)]).length) Slot.unset).toArray = ls at hl ⊢
  have hl : lv_has ls 3 [(0, .ref (Y 10 0)), (1, .int (nI i)), (2, .int (nI w))] := hl
  have b0 := hI.n0
  have b1 := hI.n1
  have b2 := hI.n2
  have b3 := hI.n3
  rcases (show w = 0 ∨ w = 1 ∨ w = 2 ∨ w = 3 ∨ w = 4 ∨ w = 5 ∨ w = 6 ∨ w = 7 by omega) with rfl | rfl | rfl | rfl | rfl | rfl | rfl | rfl
  · skip
    refine lv_iload_n hx hb dX6_told_0 rfl (lv_at hl 2 rfl) ?_
    refine lv_tableIn (off := 43) (tgt := 44) hx hb dX6_told_1 (by decide) (by decide) (by decide) (by decide) ?_
    refine lv_aload_n hx hb dX6_told_44 rfl (lv_at hl 0 rfl) ?_
    refine wk_get (own := RX6) (C := RX6) (T := TX6) (N := 26) (ci := 7) (v := .ref (Y 11 12)) hx hb hts i_X6 hown hK hA.obj rfl 19 (by decide) (hts _ (List.mem_of_getElem? (i := 1) rfl)) (fun _ h9 => h9) rfl dX6_told_45 ?_
    refine lv_iload_n hx hb dX6_told_48 rfl (lv_at hl 1 rfl) ?_
    refine wk_iald (n := 16) (f := fun j => nI (z_pS σ j)) hx hb hK hA.a12 i rfl (by have := hi; omega) (by decide) dX6_told_49 ?_
    exact W.iret hx hb hr (fun t ht _ => wk_ret (congrArg Value.int rfl) ht) wk_nil dX6_told_50
  · skip
    refine lv_iload_n hx hb dX6_told_0 rfl (lv_at hl 2 rfl) ?_
    refine lv_tableIn (off := 50) (tgt := 51) hx hb dX6_told_1 (by decide) (by decide) (by decide) (by decide) ?_
    refine lv_aload_n hx hb dX6_told_51 rfl (lv_at hl 0 rfl) ?_
    refine wk_get (own := RX6) (C := RX6) (T := TX6) (N := 26) (ci := 7) (v := .ref (Y 11 13)) hx hb hts i_X6 hown hK hA.obj rfl 20 (by decide) (hts _ (List.mem_of_getElem? (i := 2) rfl)) (fun _ h9 => h9) rfl dX6_told_52 ?_
    refine lv_iload_n hx hb dX6_told_55 rfl (lv_at hl 1 rfl) ?_
    refine wk_iald (n := 16) (f := fun j => nI (z_pA σ j)) hx hb hK hA.a13 i rfl (by have := hi; omega) (by decide) dX6_told_56 ?_
    exact W.iret hx hb hr (fun t ht _ => wk_ret (congrArg Value.int rfl) ht) wk_nil dX6_told_57
  · skip
    refine lv_iload_n hx hb dX6_told_0 rfl (lv_at hl 2 rfl) ?_
    refine lv_tableIn (off := 57) (tgt := 58) hx hb dX6_told_1 (by decide) (by decide) (by decide) (by decide) ?_
    refine lv_aload_n hx hb dX6_told_58 rfl (lv_at hl 0 rfl) ?_
    refine wk_get (own := RX6) (C := RX6) (T := TX6) (N := 26) (ci := 7) (v := .ref (Y 11 14)) hx hb hts i_X6 hown hK hA.obj rfl 21 (by decide) (hts _ (List.mem_of_getElem? (i := 3) rfl)) (fun _ h9 => h9) rfl dX6_told_59 ?_
    refine lv_iload_n hx hb dX6_told_62 rfl (lv_at hl 1 rfl) ?_
    refine wk_iald (n := 16) (f := fun j => z_pb σ j) hx hb hK hA.a14 i rfl (by have := hi; omega) (by decide) dX6_told_63 ?_
    exact W.iret hx hb hr (fun t ht _ => wk_ret (congrArg Value.int rfl) ht) wk_nil dX6_told_64
  · skip
    refine lv_iload_n hx hb dX6_told_0 rfl (lv_at hl 2 rfl) ?_
    refine lv_tableIn (off := 64) (tgt := 65) hx hb dX6_told_1 (by decide) (by decide) (by decide) (by decide) ?_
    refine lv_aload_n hx hb dX6_told_65 rfl (lv_at hl 0 rfl) ?_
    refine wk_get (own := RX6) (C := RX6) (T := TX6) (N := 26) (ci := 7) (v := .ref (Y 11 15)) hx hb hts i_X6 hown hK hA.obj rfl 22 (by decide) (hts _ (List.mem_of_getElem? (i := 4) rfl)) (fun _ h9 => h9) rfl dX6_told_66 ?_
    refine lv_iload_n hx hb dX6_told_69 rfl (lv_at hl 1 rfl) ?_
    refine wk_iald (n := 16) (f := fun j => z_pe σ j) hx hb hK hA.a15 i rfl (by have := hi; omega) (by decide) dX6_told_70 ?_
    exact W.iret hx hb hr (fun t ht _ => wk_ret (congrArg Value.int rfl) ht) wk_nil dX6_told_71
  · skip
    refine lv_iload_n hx hb dX6_told_0 rfl (lv_at hl 2 rfl) ?_
    refine lv_tableIn (off := 71) (tgt := 72) hx hb dX6_told_1 (by decide) (by decide) (by decide) (by decide) ?_
    refine lv_aload_n hx hb dX6_told_72 rfl (lv_at hl 0 rfl) ?_
    refine lv_iload_n hx hb dX6_told_73 rfl (lv_at hl 1 rfl) ?_
    refine wk_V (As := [.int (nI i)]) (rest := []) ⟨hx, hb, hml, hown, hts⟩ (c_X6_weightOf l E hA hI hi) (cwV 1 hts gX6_told_X6_weightOf rfl rfl rfl (by decide +kernel) ⟨(Nat.le_of_ble_eq_true rfl), (Nat.le_of_ble_eq_true rfl)⟩) (wk_recv hK hA.obj rfl) hK rfl hl.1 rfl (Nat.le_of_ble_eq_true rfl) dX6_told_74 ⟨Nat.zero_le _, Nat.zero_le _⟩ ?_
    exact W.iret hx hb hr (fun t ht _ => wk_ret (congrArg Value.int rfl) ht) wk_nil dX6_told_77
  · skip
    refine lv_iload_n hx hb dX6_told_0 rfl (lv_at hl 2 rfl) ?_
    refine lv_tableIn (off := 77) (tgt := 78) hx hb dX6_told_1 (by decide) (by decide) (by decide) (by decide) ?_
    refine lv_aload_n hx hb dX6_told_78 rfl (lv_at hl 0 rfl) ?_
    refine wk_get (own := RX6) (C := RX6) (T := TX6) (N := 26) (ci := 7) (v := .int (nI (z_mk σ))) hx hb hts i_X6 hown hK hA.obj rfl 24 (by decide) (hts _ (List.mem_of_getElem? (i := 5) rfl)) (fun _ h9 => h9) rfl dX6_told_79 ?_
    refine lv_iload_n hx hb dX6_told_82 rfl (lv_at hl 1 rfl) ?_
    refine wk_S (As := [.int (nI (z_mk σ)), .int (nI i)]) (rest := []) ⟨hx, hb, hml, hown, hts⟩ (c_X6_has l E (mm := z_mk σ) (k := i) (z_mklt hI) (by omega)) (va_cwS 2 hts gX6_told_X6_has rfl rfl rfl (by decide +kernel) ⟨(Nat.le_of_ble_eq_true rfl), (Nat.le_of_ble_eq_true rfl)⟩) hK rfl hl.1 rfl (Nat.le_of_ble_eq_true rfl) dX6_told_83 ⟨Nat.zero_le _, Nat.zero_le _⟩ ?_
    refine lv_if_eq (tgt := 93) hx hb dX6_told_86 (by decide) (fun c_86 => ?_) (fun c_86 => ?_)
    · skip
      have e_86 : (z_tk σ i) = false := wk_b0 c_86
      refine lv_iconst (v := 0) hx hb dX6_told_93 (by decide) ?_
      exact W.iret hx hb hr (fun t ht _ => wk_ret (congrArg Value.int (by simp [f_pass, wk_b, e_86])) ht) wk_nil dX6_told_94
    have e_86 : (z_tk σ i) = true := wk_b1 c_86
    refine lv_iconst (v := 1) hx hb dX6_told_89 (by decide) ?_
    refine lv_goto (tgt := 94) hx hb dX6_told_90 (by decide) ?_
    exact W.iret hx hb hr (fun t ht _ => wk_ret (congrArg Value.int (by simp [f_pass, wk_b, e_86])) ht) wk_nil dX6_told_94
  · skip
    refine lv_iload_n hx hb dX6_told_0 rfl (lv_at hl 2 rfl) ?_
    refine lv_tableIn (off := 94) (tgt := 95) hx hb dX6_told_1 (by decide) (by decide) (by decide) (by decide) ?_
    refine lv_aload_n hx hb dX6_told_95 rfl (lv_at hl 0 rfl) ?_
    refine wk_get (own := RX6) (C := RX6) (T := TX6) (N := 26) (ci := 7) (v := .ref (Y 11 16)) hx hb hts i_X6 hown hK hA.obj rfl 23 (by decide) (hts _ (List.mem_of_getElem? (i := 6) rfl)) (fun _ h9 => h9) rfl dX6_told_96 ?_
    refine lv_iload_n hx hb dX6_told_99 rfl (lv_at hl 1 rfl) ?_
    refine wk_iald (n := 16) (f := fun j => z_pd σ j) hx hb hK hA.a16 i rfl (by have := hi; omega) (by decide) dX6_told_100 ?_
    exact W.iret hx hb hr (fun t ht _ => wk_ret (congrArg Value.int rfl) ht) wk_nil dX6_told_101
  · skip
    refine lv_iload_n hx hb dX6_told_0 rfl (lv_at hl 2 rfl) ?_
    refine lv_tableOut (tgt := 102) hx hb dX6_told_1 (by decide) (by decide) ?_
    refine lv_aload_n hx hb dX6_told_102 rfl (lv_at hl 0 rfl) ?_
    refine wk_get (own := RX6) (C := RX6) (T := TX6) (N := 26) (ci := 7) (v := .int (nI (z_mk σ))) hx hb hts i_X6 hown hK hA.obj rfl 24 (by decide) (hts _ (List.mem_of_getElem? (i := 5) rfl)) (fun _ h9 => h9) rfl dX6_told_103 ?_
    refine lv_iload_n hx hb dX6_told_106 rfl (lv_at hl 1 rfl) ?_
    refine wk_S (As := [.int (nI (z_mk σ)), .int (nI i)]) (rest := []) ⟨hx, hb, hml, hown, hts⟩ (c_X6_has l E (mm := z_mk σ) (k := i) (z_mklt hI) (by omega)) (va_cwS 2 hts gX6_told_X6_has rfl rfl rfl (by decide +kernel) ⟨(Nat.le_of_ble_eq_true rfl), (Nat.le_of_ble_eq_true rfl)⟩) hK rfl hl.1 rfl (Nat.le_of_ble_eq_true rfl) dX6_told_107 ⟨Nat.zero_le _, Nat.zero_le _⟩ ?_
    refine lv_if_eq (tgt := 121) hx hb dX6_told_110 (by decide) (fun c_110 => ?_) (fun c_110 => ?_)
    · skip
      have e_110 : (z_tk σ i) = false := wk_b0 c_110
      refine lv_iconst (v := (-1)) hx hb dX6_told_121 (by decide) ?_
      exact W.iret hx hb hr (fun t ht _ => wk_ret (congrArg Value.int (by simp [f_pass, wk_b, e_110])) ht) wk_nil dX6_told_122
    have e_110 : (z_tk σ i) = true := wk_b1 c_110
    refine lv_aload_n hx hb dX6_told_113 rfl (lv_at hl 0 rfl) ?_
    refine lv_iload_n hx hb dX6_told_114 rfl (lv_at hl 1 rfl) ?_
    refine wk_V (As := [.int (nI i)]) (rest := []) ⟨hx, hb, hml, hown, hts⟩ (c_X6_startOf l E hA hI hi) (cwV 1 hts gX6_told_X6_startOf rfl rfl rfl (by decide +kernel) ⟨(Nat.le_of_ble_eq_true rfl), (Nat.le_of_ble_eq_true rfl)⟩) (wk_recv hK hA.obj rfl) hK rfl hl.1 rfl (Nat.le_of_ble_eq_true rfl) dX6_told_115 ⟨Nat.zero_le _, Nat.zero_le _⟩ ?_
    refine lv_goto (tgt := 122) hx hb dX6_told_118 (by decide) ?_
    exact W.iret hx hb hr (fun t ht _ => wk_ret (congrArg Value.int (by simp [f_pass, wk_b, e_110])) ht) wk_nil dX6_told_122
