abbrev rmX6_conflictsOf : Room := { frames := 2, cells := 0, slots := 0, locals := 46 }
set_option maxHeartbeats 4000000 in
set_option maxRecDepth 100000 in
theorem c_X6_conflictsOf (l : Launch) (E : wk_E) {T : Nat → Nat × Nat} {Y : Nat → Nat → Nat} {σ : z_S} {th : Int32} {gt : Int64} {H : Heap} (hA : MA E T Y σ th gt H) (hI : z_Ok σ) {i : Nat} (hi : i < z_n σ 2) : wk_Met l yX6_conflictsOf wsX6_conflictsOf rmX6_conflictsOf E H [.ref (Y 10 0), .int (nI i)] (some (.int (nI (f_cfl σ i)))) := by
  refine Met.ofW (cc := cX6_conflictsOf) (maxL := 4) (ret := (some .int)) (by decide) rfl ?_
  intro p e s m args below meth c s₁ B hml hv
  obtain ⟨rfl, hH, hK⟩ := hv
  subst hH
  have hx := B.exec
  have hb := B.bytes
  have hr := B.returns
  have hts := atoms_spec (ws := wsX6_conflictsOf) B.pre
  have hown : s.vm.findClass RX6 = some m.cls := findClass_of_methodNamed B.named
  have hlocks := B.notSynchronized
  have i_X6 : ∀ w ∈ u_ws RX6 TX6 26, w ∈ wsX6_conflictsOf := fun w h => (List.mem_cons_of_mem _ (List.mem_append_right _ h))
  have hl := lv_entry [.ref (Y 10 0), .int (nI i)] (n := 4) (Nat.le_of_ble_eq_true rfl)
  rw [lg_entry_eq]
  generalize (lg_sl [.ref (Y 10 0), .int (nI i)] ++ List.replicate (4 - (lg_sl [.ref (Y 10 0), .int (nI i)]).length) Slot.unset).toArray = ls at hl ⊢
  have hl : lv_has ls 4 [(0, .ref (Y 10 0)), (1, .int (nI i))] := hl
  have b0 := hI.n0
  have b1 := hI.n1
  have b2 := hI.n2
  have b3 := hI.n3
  refine lv_iconst (v := 0) hx hb dX6_conflictsOf_0 (by decide) ?_
  refine lv_istore_n (lv' := [(2, .int 0), (0, .ref (Y 10 0)), (1, .int (nI i))]) hx hb dX6_conflictsOf_1 rfl hl (by decide) rfl (fun ls hl => ?_)
  refine lv_iconst (v := 0) hx hb dX6_conflictsOf_2 (by decide) ?_
  refine lv_istore_n (lv' := [(3, .int 0), (2, .int 0), (0, .ref (Y 10 0)), (1, .int (nI i))]) hx hb dX6_conflictsOf_3 rfl hl (by decide) rfl (fun ls hl => ?_)
  have L_4 : ∀ (n_4 : Nat) (k : Nat), z_n σ 2 - k < n_4 → (k ≤ z_n σ 2) → ∀ ls : Array Slot, lv_has ls 4 [(0, .ref (Y 10 0)), (1, .int (nI i)), (2, .int (nI (f_set (fun k => !decide (k = i) && f_conf σ i k) k))), (3, .int (nI k))] → W p l e (headSpec wsX6_conflictsOf rmX6_conflictsOf).room s m ([.ref (Y 10 0), .int (nI i)] : List Value).toArray below meth c s.heap [] 0 0 (MQ below (wk_Q (some (.int (nI (f_cfl σ i))))) ([.ref (Y 10 0), .int (nI i)] : List Value).toArray s 0 0 (fun _ => False)) (F0 m 4 ls []) := by
    intro n_4
    induction n_4 with
    | zero => intro k hm; exact absurd hm (Nat.not_lt_zero _)
    | succ n_4 ih_4 =>
      intro k hm_4 hk_k ls hl
      refine lv_iload_n hx hb dX6_conflictsOf_4 rfl (lv_at hl 3 rfl) ?_
      refine lv_aload_n hx hb dX6_conflictsOf_5 rfl (lv_at hl 0 rfl) ?_
      refine wk_get (own := RX6) (C := RX6) (T := TX6) (N := 26) (ci := 7) (v := .int (nI (z_n σ 2))) hx hb hts i_X6 hown hK hA.obj rfl 18 (by decide) (hts _ (List.mem_of_getElem? (i := 1) rfl)) (fun _ h9 => h9) rfl dX6_conflictsOf_6 ?_
      refine lv_icmp_ge (tgt := 38) hx hb dX6_conflictsOf_9 (by decide) (fun c_9 => ?_) (fun c_9 => ?_)
      · skip
        have e_9 : (z_n σ 2) ≤ k := wk_cget (by omega) (by omega) c_9
        have hkN : k = z_n σ 2 := by omega
        refine lv_iload_n hx hb dX6_conflictsOf_38 rfl (lv_at hl 2 rfl) ?_
        exact W.iret hx hb hr (fun t ht _ => wk_ret (congrArg Value.int (by rw [hkN]; rfl)) ht) wk_nil dX6_conflictsOf_39
      have e_9 : k < (z_n σ 2) := wk_cgef (by omega) (by omega) c_9
      refine lv_iload_n hx hb dX6_conflictsOf_12 rfl (lv_at hl 3 rfl) ?_
      refine lv_iload_n hx hb dX6_conflictsOf_13 rfl (lv_at hl 1 rfl) ?_
      refine lv_icmp_eq (tgt := 32) hx hb dX6_conflictsOf_14 (by decide) (fun c_14 => ?_) (fun c_14 => ?_)
      · skip
        have e_14 : k = i := wk_ceqt (by omega) (by omega) c_14
        refine lv_iinc (v := nI (k + 1)) (lv' := [(3, .int (nI (k + 1))), (0, .ref (Y 10 0)), (1, .int (nI i)), (2, .int (nI (f_set (fun k => !decide (k = i) && f_conf σ i k) k)))]) hx hb dX6_conflictsOf_32 hl (k := 3) rfl (nI_1 _) (by decide) rfl (fun ls hl => ?_)
        refine lv_goto (tgt := 4) hx hb dX6_conflictsOf_35 (by decide) ?_
        have hl : lv_has ls 4 [(3, .int (nI (k + 1))), (0, .ref (Y 10 0)), (1, .int (nI i)), (2, .int (nI (f_set (fun k => !decide (k = i) && f_conf σ i k) (k + 1))))] := by rw [show nI (f_set (fun k => !decide (k = i) && f_conf σ i k) (k + 1)) = nI (f_set (fun k => !decide (k = i) && f_conf σ i k) k) from (by simp [f_set, e_14])]; exact hl
        exact ih_4 (k + 1) (by omega) (by omega) ls (lv_sub hl [1, 2, 3, 0] rfl)
      have e_14 : ¬ k = i := wk_ceqf (by omega) (by omega) c_14
      refine lv_aload_n hx hb dX6_conflictsOf_17 rfl (lv_at hl 0 rfl) ?_
      refine lv_iload_n hx hb dX6_conflictsOf_18 rfl (lv_at hl 3 rfl) ?_
      refine lv_iload_n hx hb dX6_conflictsOf_19 rfl (lv_at hl 1 rfl) ?_
      refine wk_V (As := [.int (nI k), .int (nI i)]) (rest := []) ⟨hx, hb, hml, hown, hts⟩ (c_X6_areInConflict l E hA hI e_9 hi e_14) (cwV 2 hts gX6_conflictsOf_X6_areInConflict rfl rfl rfl (by decide +kernel) ⟨(Nat.le_of_ble_eq_true rfl), (Nat.le_of_ble_eq_true rfl)⟩) (wk_recv hK hA.obj rfl) hK rfl hl.1 rfl (Nat.le_of_ble_eq_true rfl) dX6_conflictsOf_20 ⟨Nat.zero_le _, Nat.zero_le _⟩ ?_
      refine lv_if_eq (tgt := 32) hx hb dX6_conflictsOf_23 (by decide) (fun c_23 => ?_) (fun c_23 => ?_)
      · skip
        have e_23 : (f_conf σ k i) = false := wk_b0 c_23
        refine lv_iinc (v := nI (k + 1)) (lv' := [(3, .int (nI (k + 1))), (0, .ref (Y 10 0)), (1, .int (nI i)), (2, .int (nI (f_set (fun k => !decide (k = i) && f_conf σ i k) k)))]) hx hb dX6_conflictsOf_32 hl (k := 3) rfl (nI_1 _) (by decide) rfl (fun ls hl => ?_)
        refine lv_goto (tgt := 4) hx hb dX6_conflictsOf_35 (by decide) ?_
        have hl : lv_has ls 4 [(3, .int (nI (k + 1))), (0, .ref (Y 10 0)), (1, .int (nI i)), (2, .int (nI (f_set (fun k => !decide (k = i) && f_conf σ i k) (k + 1))))] := by rw [show nI (f_set (fun k => !decide (k = i) && f_conf σ i k) (k + 1)) = nI (f_set (fun k => !decide (k = i) && f_conf σ i k) k) from (by rw [f_conf_symm e_14] at e_23; simp [f_set, e_14, e_23])]; exact hl
        exact ih_4 (k + 1) (by omega) (by omega) ls (lv_sub hl [1, 2, 3, 0] rfl)
      have e_23 : (f_conf σ k i) = true := wk_b1 c_23
      refine lv_iload_n hx hb dX6_conflictsOf_26 rfl (lv_at hl 2 rfl) ?_
      refine lv_iconst (v := 1) hx hb dX6_conflictsOf_27 (by decide) ?_
      refine lv_iload_n hx hb dX6_conflictsOf_28 rfl (lv_at hl 3 rfl) ?_
      refine lv_ishl hx hb dX6_conflictsOf_29 ?_
      refine lv_ior hx hb dX6_conflictsOf_30 ?_
      refine lv_istore_n (lv' := [(2, .int ((nI (f_set (fun k => !decide (k = i) && f_conf σ i k) k)) ||| (1 <<< ((nI k) &&& 31)))), (0, .ref (Y 10 0)), (1, .int (nI i)), (3, .int (nI k))]) hx hb dX6_conflictsOf_31 rfl hl (by decide) rfl (fun ls hl => ?_)
      refine lv_iinc (v := nI (k + 1)) (lv' := [(3, .int (nI (k + 1))), (2, .int ((nI (f_set (fun k => !decide (k = i) && f_conf σ i k) k)) ||| (1 <<< ((nI k) &&& 31)))), (0, .ref (Y 10 0)), (1, .int (nI i))]) hx hb dX6_conflictsOf_32 hl (k := 3) rfl (nI_1 _) (by decide) rfl (fun ls hl => ?_)
      refine lv_goto (tgt := 4) hx hb dX6_conflictsOf_35 (by decide) ?_
      have hl : lv_has ls 4 [(3, .int (nI (k + 1))), (2, .int (nI (f_set (fun k => !decide (k = i) && f_conf σ i k) (k + 1)))), (0, .ref (Y 10 0)), (1, .int (nI i))] := by rw [show nI (f_set (fun k => !decide (k = i) && f_conf σ i k) (k + 1)) = (nI (f_set (fun k => !decide (k = i) && f_conf σ i k) k)) ||| (1 <<< ((nI k) &&& 31)) from (by rw [f_conf_symm e_14] at e_23; simp [f_set, e_14, e_23, wk_or1 (show k < 31 by omega)])]; exact hl
      exact ih_4 (k + 1) (by omega) (by omega) ls (lv_sub hl [2, 3, 1, 0] rfl)
  exact L_4 _ 0 (Nat.lt_succ_self _) (Nat.zero_le _) ls (lv_sub hl [2, 3, 1, 0] rfl)
