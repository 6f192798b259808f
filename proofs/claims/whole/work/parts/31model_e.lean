abbrev rme_X6_share : Room := { frames := 0, cells := 0, slots := 0, locals := 0 }
set_option maxHeartbeats 4000000 in
set_option maxRecDepth 100000 in
theorem e_X6_share (l : Launch) (E : wk_E) {T : Nat → Nat × Nat} {Y : Nat → Nat → Nat} {σ : z_S} {th : Int32} {gt : Int64} {H : Heap} (hA : MA E T Y σ th gt H) (hI : z_Ok σ) (hSm : z_Sm σ) (hG : z_Gt σ gt) : we_Met l yX6_share wsX6_share rme_X6_share E H [.ref (Y 10 0)] (z_FM T) 0 0 (fun v H1 => v = some (.double (f_share σ gt)) ∧ MA E T Y σ 0 gt H1) := by
  refine Met.ofW (cc := cX6_share) (maxL := 4) (ret := (some .double)) (by decide) rfl ?_
  intro p e s m args below meth c s₁ B hml hv
  obtain ⟨rfl, hH, hV⟩ := hv
  subst hH
  have hK := hV.k
  have hx := B.exec
  have hb := B.bytes
  have hr := B.returns
  have hts := atoms_spec (ws := wsX6_share) B.pre
  have hown : s.vm.findClass RX6 = some m.cls := findClass_of_methodNamed B.named
  have hlocks := B.notSynchronized
  have hS : va_S (fun q => (z_FM T) q ∨ s.heap.size ≤ q) s.heap s.heap [] := va_S.rf
  have hA9 : ∀ q : Nat, s.heap.size ≤ q → ((z_FM T) q ∨ s.heap.size ≤ q) := fun _ h => Or.inr h
  have hbA : ∀ q : Nat, q < E.2.2.1 → ¬ ((z_FM T) q ∨ s.heap.size ≤ q) := fun q hq z => z.elim (z_FMb hA.2 hq) (fun z => absurd (Nat.lt_of_lt_of_le hq hV.2.2.2.2.2.2) (Nat.not_lt.mpr z))
  have i_X6 : ∀ w ∈ u_ws RX6 TX6 26, w ∈ wsX6_share := fun w h => (List.mem_cons_of_mem _ (List.mem_append_right _ h))
  have hl := lv_entry [.ref (Y 10 0)] (n := 4) (Nat.le_of_ble_eq_true rfl)
  rw [lg_entry_eq]
  generalize (lg_sl [.ref (Y 10 0)] ++ List.replicate (4 - (lg_sl [.ref (Y 10 0)]).length) Slot.unset).toArray = ls at hl ⊢
  have hl : lv_has ls 4 [(0, .ref (Y 10 0))] := hl
  have b0 := hI.n0
  have b1 := hI.n1
  have b2 := hI.n2
  have b3 := hI.n3
  refine lv_aload_n hx hb dX6_share_0 rfl (lv_at hl 0 rfl) ?_
  refine lv_iconst (v := 0) hx hb dX6_share_1 (by decide) ?_
  refine wk_put (own := RX6) (C := RX6) (T := TX6) (N := 26) (ci := 7) (v := .int 0) hx hb hts i_X6 tyX6 tyX6_ok nmX6 hown hK hA.obj (Or.inl hA.tagO) hS rfl 0 (by decide) (hts _ (List.mem_of_getElem? (i := 1) rfl)) (fun _ h9 => h9) rfl (tyX6_ok 0 (by decide)) rfl rfl (Nat.le_of_ble_eq_true rfl) dX6_share_2 (fun H locs hP9 hz9 hk9 hS => ?_)
  have hA := hA.setTh hP9 hk9
  refine lv_lconst (v := 0) hx hb dX6_share_5 (by decide) ?_
  refine lv_lstore_n (lv' := [(1, .long 0), (0, .ref (Y 10 0))]) hx hb dX6_share_6 rfl hl (by decide) rfl (fun ls hl => ?_)
  refine lv_iconst (v := 0) hx hb dX6_share_7 (by decide) ?_
  refine lv_istore_n (lv' := [(3, .int 0), (1, .long 0), (0, .ref (Y 10 0))]) hx hb dX6_share_8 rfl hl (by decide) rfl (fun ls hl => ?_)
  have L_9 : ∀ (n_9 : Nat) (k : Nat), z_n σ 1 - k < n_9 → (k ≤ z_n σ 1) → ∀ ls : Array Slot, lv_has ls 4 [(0, .ref (Y 10 0)), (1, .long (f_dl σ k)), (3, .int (nI k))] → W p l e (headSpec wsX6_share rme_X6_share).room s m ([.ref (Y 10 0)] : List Value).toArray below meth c H locs 0 0 (MQ below (fun _ _ oc t => (∃ v, oc = .returned v ∧ (fun v H1 => v = some (.double (f_share σ gt)) ∧ MA E T Y σ 0 gt H1) v t.heap) ∧ s.heap.size ≤ t.heap.size ∧ ∀ q : Nat, q < s.heap.size → ¬ (z_FM T) q → t.heap[q]? = s.heap[q]?) ([.ref (Y 10 0)] : List Value).toArray s 0 0 (fun q => (z_FM T) q ∨ s.heap.size ≤ q)) (F0 m 9 ls []) := by
    intro n_9
    induction n_9 with
    | zero => intro k hm; exact absurd hm (Nat.not_lt_zero _)
    | succ n_9 ih_9 =>
      intro k hm_9 hk_k ls hl
      refine lv_iload_n hx hb dX6_share_9 rfl (lv_at hl 2 rfl) ?_
      refine lv_aload_n hx hb dX6_share_10 rfl (lv_at hl 0 rfl) ?_
      refine wk_get (own := RX6) (C := RX6) (T := TX6) (N := 26) (ci := 7) (v := .int (nI (z_n σ 1))) hx hb hts i_X6 hown hK hA.obj rfl 10 (by decide) (hts _ (List.mem_of_getElem? (i := 2) rfl)) (fun _ h9 => h9) rfl dX6_share_11 ?_
      refine lv_icmp_ge (tgt := 33) hx hb dX6_share_14 (by decide) (fun c_14 => ?_) (fun c_14 => ?_)
      · skip
        have e_14 : (z_n σ 1) ≤ k := wk_cget (by omega) (by omega) c_14
        have hkN : k = z_n σ 1 := by omega
        refine lv_aload_n hx hb dX6_share_33 rfl (lv_at hl 0 rfl) ?_
        refine wk_get (own := RX6) (C := RX6) (T := TX6) (N := 26) (ci := 7) (v := .long gt) hx hb hts i_X6 hown hK hA.obj rfl 25 (by decide) (hts _ (List.mem_of_getElem? (i := 4) rfl)) (fun _ h9 => h9) rfl dX6_share_34 ?_
        refine lv_lconst (v := 0) hx hb dX6_share_37 (by decide) ?_
        refine W.lcmp hx hb dX6_share_38 ?_
        refine lv_if_ne (tgt := 46) hx hb dX6_share_39 (by decide) (fun c_39 => ?_) (fun c_39 => ?_)
        · skip
          refine lv_lload_n hx hb dX6_share_46 rfl (lv_at hl 1 rfl) ?_
          refine lv_l2d hx hb dX6_share_47 ?_
          refine lv_aload_n hx hb dX6_share_48 rfl (lv_at hl 0 rfl) ?_
          refine wk_get (own := RX6) (C := RX6) (T := TX6) (N := 26) (ci := 7) (v := .long gt) hx hb hts i_X6 hown hK hA.obj rfl 25 (by decide) (hts _ (List.mem_of_getElem? (i := 4) rfl)) (fun _ h9 => h9) rfl dX6_share_49 ?_
          refine lv_l2d hx hb dX6_share_52 ?_
          refine lv_ddiv hx hb dX6_share_53 (f_share_nL hI hSm hG (fun z => c_39 (lg_cmp0.mpr z)) _) ?_
          exact W.dret hx hb hr (we_end (Rt := fun v H1 => v = some (.double (f_share σ gt)) ∧ MA E T Y σ 0 gt H1) (F := z_FM T) (⟨by unfold f_share; rw [if_neg (fun z => c_39 (lg_cmp0.mpr z)), ← hkN], hA⟩) hS) hS.2.2 dX6_share_54
        refine lv_dconst1 hx hb dX6_share_42 ?_
        refine lv_goto (tgt := 54) hx hb dX6_share_43 (by decide) ?_
        exact W.dret hx hb hr (we_end (Rt := fun v H1 => v = some (.double (f_share σ gt)) ∧ MA E T Y σ 0 gt H1) (F := z_FM T) (⟨by unfold f_share; rw [if_pos (lg_cmp0.mp c_39)], hA⟩) hS) hS.2.2 dX6_share_54
      have e_14 : k < (z_n σ 1) := wk_cgef (by omega) (by omega) c_14
      refine lv_lload_n hx hb dX6_share_17 rfl (lv_at hl 1 rfl) ?_
      refine lv_aload_n hx hb dX6_share_18 rfl (lv_at hl 0 rfl) ?_
      refine wk_get (own := RX6) (C := RX6) (T := TX6) (N := 26) (ci := 7) (v := .ref (Y 11 11)) hx hb hts i_X6 hown hK hA.obj rfl 17 (by decide) (hts _ (List.mem_of_getElem? (i := 3) rfl)) (fun _ h9 => h9) rfl dX6_share_19 ?_
      refine lv_iload_n hx hb dX6_share_22 rfl (lv_at hl 2 rfl) ?_
      refine wk_iald (n := 8) (f := fun j => z_sd σ j) hx hb hK hA.a11 k rfl (by have := e_14; omega) (by decide) dX6_share_23 ?_
      refine lv_i2l (v := (z_sd σ k).toInt64) hx hb dX6_share_24 rfl ?_
      refine lv_ladd hx hb dX6_share_25 ?_
      refine lv_lstore_n (lv' := [(1, .long ((f_dl σ k) + ((z_sd σ k).toInt64))), (0, .ref (Y 10 0)), (3, .int (nI k))]) hx hb dX6_share_26 rfl hl (by decide) rfl (fun ls hl => ?_)
      refine lv_iinc (v := nI (k + 1)) (lv' := [(3, .int (nI (k + 1))), (1, .long ((f_dl σ k) + ((z_sd σ k).toInt64))), (0, .ref (Y 10 0))]) hx hb dX6_share_27 hl (k := 2) rfl (nI_1 _) (by decide) rfl (fun ls hl => ?_)
      refine lv_goto (tgt := 9) hx hb dX6_share_30 (by decide) ?_
      have hl : lv_has ls 4 [(3, .int (nI (k + 1))), (1, .long (f_dl σ (k + 1))), (0, .ref (Y 10 0))] := by rw [show f_dl σ (k + 1) = (f_dl σ k) + ((z_sd σ k).toInt64) from rfl]; exact hl
      exact ih_9 (k + 1) (by omega) (by omega) ls (lv_sub hl [2, 1, 0] rfl)
  exact L_9 _ 0 (Nat.lt_succ_self _) (Nat.zero_le _) ls (lv_sub hl [2, 1, 0] rfl)
