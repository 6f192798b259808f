abbrev rme_X6_run : Room := { frames := 4, cells := 0, slots := 0, locals := 89 }
set_option maxHeartbeats 4000000 in
set_option maxRecDepth 100000 in
theorem e_X6_run (l : Launch) (E : wk_E) {T : Nat → Nat × Nat} {Y : Nat → Nat → Nat} {σ0 : z_S} {th : Int32} {gt : Int64} {H : Heap} (hA : MA E T Y σ0 th gt H) (hI : z_Ok σ0) {mn : Nat} (hV0 : z_Iv σ0 gt) (hok : v_in (nI mn) 1 500 = true) (hmn : mn ≤ 500) (hle : (z_now σ0).toInt + mn ≤ 9999) : we_Met l yX6_run wsX6_run rme_X6_run E H [.ref (Y 10 0), .int (nI mn)] (z_FM T) 0 0 (fun v H1 => v = some (.int (f_run σ0 mn).2) ∧ MA E T Y (f_run σ0 mn).1 0 (f_grun σ0 gt mn) H1) := by
  refine Met.ofW (cc := cX6_run) (maxL := 4) (ret := (some .int)) (by decide) rfl ?_
  intro p e s m args below meth c s₁ B hml hv
  obtain ⟨rfl, hH, hV⟩ := hv
  subst hH
  have hK := hV.k
  have hx := B.exec
  have hb := B.bytes
  have hr := B.returns
  have hts := atoms_spec (ws := wsX6_run) B.pre
  have hown : s.vm.findClass RX6 = some m.cls := findClass_of_methodNamed B.named
  have hlocks := B.notSynchronized
  have hS : va_S (fun q => (z_FM T) q ∨ s.heap.size ≤ q) s.heap s.heap [] := va_S.rf
  have hA9 : ∀ q : Nat, s.heap.size ≤ q → ((z_FM T) q ∨ s.heap.size ≤ q) := fun _ h => Or.inr h
  have hbA : ∀ q : Nat, q < E.2.2.1 → ¬ ((z_FM T) q ∨ s.heap.size ≤ q) := fun q hq z => z.elim (z_FMb hA.2 hq) (fun z => absurd (Nat.lt_of_lt_of_le hq hV.2.2.2.2.2.2) (Nat.not_lt.mpr z))
  have i_X6 : ∀ w ∈ u_ws RX6 TX6 26, w ∈ wsX6_run := fun w h => (List.mem_cons_of_mem _ (List.mem_append_right _ h))
  have hl := lv_entry [.ref (Y 10 0), .int (nI mn)] (n := 4) (Nat.le_of_ble_eq_true rfl)
  rw [lg_entry_eq]
  generalize (lg_sl [.ref (Y 10 0), .int (nI mn)] ++ List.replicate (4 - (lg_sl [.ref (Y 10 0), .int (nI mn)]).length) Slot.unset).toArray = ls at hl ⊢
  have hl : lv_has ls 4 [(0, .ref (Y 10 0)), (1, .int (nI mn))] := hl
  have b0 := hI.n0
  have b1 := hI.n1
  have b2 := hI.n2
  have b3 := hI.n3
  refine lv_aload_n hx hb dX6_run_0 rfl (lv_at hl 0 rfl) ?_
  refine lv_iconst (v := 0) hx hb dX6_run_1 (by decide) ?_
  refine wk_put (own := RX6) (C := RX6) (T := TX6) (N := 26) (ci := 7) (v := .int 0) hx hb hts i_X6 tyX6 tyX6_ok nmX6 hown hK hA.obj (Or.inl hA.tagO) hS rfl 0 (by decide) (hts _ (List.mem_of_getElem? (i := 1) rfl)) (fun _ h9 => h9) rfl (tyX6_ok 0 (by decide)) rfl rfl (Nat.le_of_ble_eq_true rfl) dX6_run_2 (fun H locs hP9 hz9 hk9 hS => ?_)
  have hA := hA.setTh hP9 hk9
  refine lv_iload_n hx hb dX6_run_5 rfl (lv_at hl 1 rfl) ?_
  refine lv_iconst (v := 1) hx hb dX6_run_6 (by decide) ?_
  refine lv_sipush (v := 500) hx hb dX6_run_7 (by decide) ?_
  refine wk_S (As := [.int (nI mn), .int 1, .int 500]) (rest := []) ⟨hx, hb, hml, hown, hts⟩ (c_X6_isIn l E (x := nI mn) (y := 1) (z := 500)) (va_cwS 3 hts gX6_run_X6_isIn rfl rfl rfl (by decide +kernel) ⟨(Nat.le_of_ble_eq_true rfl), (Nat.le_of_ble_eq_true rfl)⟩) hK rfl hl.1 rfl (Nat.le_of_ble_eq_true rfl) dX6_run_10 ⟨Nat.zero_le _, Nat.zero_le _⟩ ?_
  refine lv_if_ne (tgt := 22) hx hb dX6_run_13 (by decide) (fun c_13 => ?_) (fun c_13 => ?_)
  · skip
    have e_13 : (v_in (nI mn) 1 500) = true := wk_b1 c_13
    refine lv_aload_n hx hb dX6_run_22 rfl (lv_at hl 0 rfl) ?_
    refine wk_get (own := RX6) (C := RX6) (T := TX6) (N := 26) (ci := 7) (v := .int (z_now σ0)) hx hb hts i_X6 hown hK hA.obj rfl 1 (by decide) (hts _ (List.mem_of_getElem? (i := 2) rfl)) (fun _ h9 => h9) rfl dX6_run_23 ?_
    refine lv_iload_n hx hb dX6_run_26 rfl (lv_at hl 1 rfl) ?_
    refine lv_iadd hx hb dX6_run_27 ?_
    refine lv_sipush (v := 9999) hx hb dX6_run_28 (by decide) ?_
    refine lv_icmp_le (tgt := 40) hx hb dX6_run_31 (by decide) (fun c_31 => ?_) (fun c_31 => ?_)
    · skip
      have d_31 := Int32.not_lt.mpr c_31
      refine lv_iconst (v := 0) hx hb dX6_run_40 (by decide) ?_
      refine lv_istore_n (lv' := [(2, .int 0), (0, .ref (Y 10 0)), (1, .int (nI mn))]) hx hb dX6_run_41 rfl hl (by decide) rfl (fun ls hl => ?_)
      refine lv_iconst (v := 0) hx hb dX6_run_42 (by decide) ?_
      refine lv_istore_n (lv' := [(3, .int 0), (2, .int 0), (0, .ref (Y 10 0)), (1, .int (nI mn))]) hx hb dX6_run_43 rfl hl (by decide) rfl (fun ls hl => ?_)
      have L_44 : ∀ (n_44 : Nat) (k : Nat) (σ : z_S) (g1 : Int64) (H : Heap) (locs : List Loc), mn - k < n_44 → (k ≤ mn) → (σ = (f_run σ0 k).1) → (g1 = f_grun σ0 gt k) → (MA E T Y σ 0 g1 H) → (z_Ok σ) → (va_S (fun q => (z_FM T) q ∨ s.heap.size ≤ q) s.heap H locs) → ∀ ls : Array Slot, lv_has ls 4 [(0, .ref (Y 10 0)), (1, .int (nI mn)), (2, .int ((f_run σ0 k).2)), (3, .int (nI k))] → W p l e (headSpec wsX6_run rme_X6_run).room s m ([.ref (Y 10 0), .int (nI mn)] : List Value).toArray below meth c H locs 0 0 (MQ below (fun _ _ oc t => (∃ v, oc = .returned v ∧ (fun v H1 => v = some (.int (f_run σ0 mn).2) ∧ MA E T Y (f_run σ0 mn).1 0 (f_grun σ0 gt mn) H1) v t.heap) ∧ s.heap.size ≤ t.heap.size ∧ ∀ q : Nat, q < s.heap.size → ¬ (z_FM T) q → t.heap[q]? = s.heap[q]?) ([.ref (Y 10 0), .int (nI mn)] : List Value).toArray s 0 0 (fun q => (z_FM T) q ∨ s.heap.size ≤ q)) (F0 m 44 ls []) := by
        intro n_44
        induction n_44 with
        | zero => intro k σ g1 H locs hm; exact absurd hm (Nat.not_lt_zero _)
        | succ n_44 ih_44 =>
          intro k σ g1 H locs hm_44 hk_k heq heqg hA hI hS ls hl
          have b0 := hI.n0
          have b1 := hI.n1
          have b2 := hI.n2
          have b3 := hI.n3
          have hSm : z_Sm σ := by rw [heq]; exact (hV0.run (n := k) (by omega)).2.1
          refine lv_iload_n hx hb dX6_run_44 rfl (lv_at hl 3 rfl) ?_
          refine lv_iload_n hx hb dX6_run_45 rfl (lv_at hl 1 rfl) ?_
          refine lv_icmp_ge (tgt := 62) hx hb dX6_run_46 (by decide) (fun c_46 => ?_) (fun c_46 => ?_)
          · skip
            have e_46 : mn ≤ k := wk_cget (by omega) (by omega) c_46
            have hkN : k = mn := by omega
            refine lv_iload_n hx hb dX6_run_62 rfl (lv_at hl 2 rfl) ?_
            exact W.iret hx hb hr (we_end (Rt := fun v H1 => v = some (.int (f_run σ0 mn).2) ∧ MA E T Y (f_run σ0 mn).1 0 (f_grun σ0 gt mn) H1) (F := z_FM T) (⟨by rw [hkN], by rw [heq, heqg, hkN] at hA; exact hA⟩) hS) hS.2.2 dX6_run_63
          have e_46 : k < mn := wk_cgef (by omega) (by omega) c_46
          refine lv_iload_n hx hb dX6_run_49 rfl (lv_at hl 2 rfl) ?_
          refine lv_aload_n hx hb dX6_run_50 rfl (lv_at hl 0 rfl) ?_
          refine we_V (As := []) (rest := [.int ((f_run σ0 k).2)]) ⟨hx, hb, hml, hown, hts⟩ (e_X6_step l E hA hI hSm) (cwV 0 hts gX6_run_X6_step rfl rfl rfl (by decide +kernel) ⟨(Nat.le_of_ble_eq_true rfl), (Nat.le_of_ble_eq_true rfl)⟩) (wk_recv hK hA.obj rfl) (hV.heap hS.1 (fun q hq => hS.2.1 q (Nat.lt_of_lt_of_le hq hV.2.2.2.2.2.2) (hbA q hq))) hS (fun _ h => Or.inl h) hA9 rfl hl.1 rfl (Nat.le_of_ble_eq_true rfl) dX6_run_51 ⟨Nat.zero_le _, Nat.zero_le _⟩ (fun v9 H locs hR9 hz9 hk9 hS => ?_)
          obtain ⟨rfl, hA⟩ := hR9
          refine wk_eqls (st' := [.int ((f_min σ).2), .int ((f_run σ0 k).2)]) rfl ?_
          refine lv_iadd hx hb dX6_run_54 ?_
          refine lv_istore_n (lv' := [(2, .int (((f_run σ0 k).2) + ((f_min σ).2))), (0, .ref (Y 10 0)), (1, .int (nI mn)), (3, .int (nI k))]) hx hb dX6_run_55 rfl hl (by decide) rfl (fun ls hl => ?_)
          have hI : z_Ok (f_min σ).1 := by rw [show (f_min σ).1 = (f_run σ0 (k + 1)).1 from by rw [heq]; rfl]; exact (hV0.run (n := k + 1) (by omega)).1
          refine lv_iinc (v := nI (k + 1)) (lv' := [(3, .int (nI (k + 1))), (2, .int (((f_run σ0 k).2) + ((f_min σ).2))), (0, .ref (Y 10 0)), (1, .int (nI mn))]) hx hb dX6_run_56 hl (k := 3) rfl (nI_1 _) (by decide) rfl (fun ls hl => ?_)
          refine lv_goto (tgt := 44) hx hb dX6_run_59 (by decide) ?_
          have hl : lv_has ls 4 [(3, .int (nI (k + 1))), (2, .int ((f_run σ0 (k + 1)).2)), (0, .ref (Y 10 0)), (1, .int (nI mn))] := by rw [show (f_run σ0 (k + 1)).2 = ((f_run σ0 k).2) + ((f_min σ).2) from (by rw [heq]; rfl)]; exact hl
          exact ih_44 (k + 1) ((f_min σ).1) (f_gsum σ g1 (z_n σ 1)) H locs (by omega) (by omega) (by rw [heq]; rfl) (by rw [heqg, heq]; rfl) hA hI hS ls (lv_sub hl [2, 3, 1, 0] rfl)
      exact L_44 _ 0 σ0 gt H locs (Nat.lt_succ_self _) (Nat.zero_le _) rfl rfl hA hI hS ls (lv_sub hl [2, 3, 1, 0] rfl)
    have d_31 := Int32.not_le.mp c_31
    exact absurd (wk_runle hI hmn hle) c_31
  have e_13 : (v_in (nI mn) 1 500) = false := wk_b0 c_13
  exact absurd (hok.symm.trans e_13) (by decide)
