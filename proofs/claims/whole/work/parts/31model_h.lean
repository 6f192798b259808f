abbrev rme_X6_best : Room := { frames := 4, cells := 2, slots := 32, locals := 92 }
set_option maxHeartbeats 4000000 in
set_option maxRecDepth 100000 in
theorem e_X6_best (l : Launch) (E : wk_E) {T : Nat → Nat × Nat} {Y : Nat → Nat → Nat} {σ : z_S} {th : Int32} {gt : Int64} {H : Heap} (hA : MA E T Y σ th gt H) (hI : z_Ok σ)  : we_Met l yX6_best wsX6_best rme_X6_best E H [.ref (Y 10 0)] (z_FM T) 2 32 (fun v H1 => ∃ b1 : Nat, v = some (.int (nI b1)) ∧ b_best (b_w σ) (b_fr σ) (f_cfl σ) b1 ∧ MA E T Y σ 0 gt H1) := by
  refine Met.ofW (cc := cX6_best) (maxL := 10) (ret := (some .int)) (by decide) rfl ?_
  intro p e s m args below meth c s₁ B hml hv
  obtain ⟨rfl, hH, hV⟩ := hv
  subst hH
  have hK := hV.k
  have hx := B.exec
  have hb := B.bytes
  have hr := B.returns
  have hts := atoms_spec (ws := wsX6_best) B.pre
  have hown : s.vm.findClass RX6 = some m.cls := findClass_of_methodNamed B.named
  have hlocks := B.notSynchronized
  have hS : va_S (fun q => (z_FM T) q ∨ s.heap.size ≤ q) s.heap s.heap [] := va_S.rf
  have hA9 : ∀ q : Nat, s.heap.size ≤ q → ((z_FM T) q ∨ s.heap.size ≤ q) := fun _ h => Or.inr h
  have hbA : ∀ q : Nat, q < E.2.2.1 → ¬ ((z_FM T) q ∨ s.heap.size ≤ q) := fun q hq z => z.elim (z_FMb hA.2 hq) (fun z => absurd (Nat.lt_of_lt_of_le hq hV.2.2.2.2.2.2) (Nat.not_lt.mpr z))
  have i_X6 : ∀ w ∈ u_ws RX6 TX6 26, w ∈ wsX6_best := fun w h => (List.mem_cons_of_mem _ (List.mem_append_right _ h))
  have hl := lv_entry [.ref (Y 10 0)] (n := 10) (Nat.le_of_ble_eq_true rfl)
  rw [lg_entry_eq]
  generalize (lg_sl [.ref (Y 10 0)] ++ List.replicate (10 - (lg_sl [.ref (Y 10 0)]).length) Slot.unset).toArray = ls at hl ⊢
  have hl : lv_has ls 10 [(0, .ref (Y 10 0))] := hl
  have b0 := hI.n0
  have b1 := hI.n1
  have b2 := hI.n2
  have b3 := hI.n3
  refine lv_aload_n hx hb dX6_best_0 rfl (lv_at hl 0 rfl) ?_
  refine lv_iconst (v := 0) hx hb dX6_best_1 (by decide) ?_
  refine wk_put (own := RX6) (C := RX6) (T := TX6) (N := 26) (ci := 7) (v := .int 0) hx hb hts i_X6 tyX6 tyX6_ok nmX6 hown hK hA.obj (Or.inl hA.tagO) hS rfl 0 (by decide) (hts _ (List.mem_of_getElem? (i := 1) rfl)) (fun _ h9 => h9) rfl (tyX6_ok 0 (by decide)) rfl rfl (Nat.le_of_ble_eq_true rfl) dX6_best_2 (fun H locs hP9 hz9 hk9 hS => ?_)
  have hA := hA.setTh hP9 hk9
  refine lv_iconst (v := 0) hx hb dX6_best_5 (by decide) ?_
  refine lv_istore_n (lv' := [(1, .int 0), (0, .ref (Y 10 0))]) hx hb dX6_best_6 rfl hl (by decide) rfl (fun ls hl => ?_)
  refine lv_aload_n hx hb dX6_best_7 rfl (lv_at hl 1 rfl) ?_
  refine wk_get (own := RX6) (C := RX6) (T := TX6) (N := 26) (ci := 7) (v := .int (nI (z_n σ 2))) hx hb hts i_X6 hown hK hA.obj rfl 18 (by decide) (hts _ (List.mem_of_getElem? (i := 2) rfl)) (fun _ h9 => h9) rfl dX6_best_8 ?_
  obtain ⟨H0, hH0⟩ : ∃ H0 : Heap, H0 = H := ⟨H, rfl⟩
  have hA0 : MA E T Y σ 0 gt H0 := by rw [hH0]; exact hA
  have hz0 : s.heap.size ≤ H0.size := by rw [hH0]; exact hS.1
  refine wk_newiv hx hb (hts _ (List.mem_of_getElem? (i := 3) rfl)) hK hS (z_n σ 2) rfl (by omega) (Nat.le_of_ble_eq_true rfl) (by show _ ≤ 32; omega) dX6_best_11 (fun a1 H ho9 hN9 hz9 hk9 hS => ?_)
  have p_a1 : H0.size ≤ a1 := Nat.le_of_eq (by rw [ho9, hH0])
  have hM : ∀ q : Nat, q < H0.size → H[q]? = H0[q]? := fun q hq => by rw [hH0] at hq ⊢; exact hk9 q hq
  have hA : MA E T Y σ 0 gt H := hA0.kept (fun q hq _ => hM q hq)
  have h_a1 := hN9
  refine lv_astore_n (lv' := [(2, .ref a1), (1, .int 0), (0, .ref (Y 10 0))]) hx hb dX6_best_13 rfl hl (by decide) rfl (fun ls hl => ?_)
  refine lv_aload_n hx hb dX6_best_14 rfl (lv_at hl 2 rfl) ?_
  refine wk_get (own := RX6) (C := RX6) (T := TX6) (N := 26) (ci := 7) (v := .int (nI (z_n σ 2))) hx hb hts i_X6 hown hK hA.obj rfl 18 (by decide) (hts _ (List.mem_of_getElem? (i := 2) rfl)) (fun _ h9 => h9) rfl dX6_best_15 ?_
  refine wk_newiv hx hb (hts _ (List.mem_of_getElem? (i := 3) rfl)) hK hS (z_n σ 2) rfl (by omega) (Nat.le_of_ble_eq_true rfl) (by show _ ≤ 32; omega) dX6_best_18 (fun a2 H ho9 hN9 hz9 hk9 hS => ?_)
  have l_a1 := h_a1.lt
  have q12 : a1 < a2 := by rw [ho9]; exact l_a1
  have h_a1 := va_at.kept h_a1 (hk9 _ l_a1)
  have p_a2 : H0.size ≤ a2 := Nat.le_trans p_a1 (Nat.le_of_lt q12)
  have hM : ∀ q : Nat, q < H0.size → H[q]? = H0[q]? := fun q hq => (hk9 q (Nat.lt_of_le_of_lt (Nat.le_of_lt (Nat.lt_of_lt_of_le hq p_a1)) l_a1)).trans (hM q hq)
  have hA : MA E T Y σ 0 gt H := hA0.kept (fun q hq _ => hM q hq)
  have h_a2 := hN9
  refine lv_astore_n (lv' := [(3, .ref a2), (2, .ref a1), (1, .int 0), (0, .ref (Y 10 0))]) hx hb dX6_best_20 rfl hl (by decide) rfl (fun ls hl => ?_)
  refine lv_iconst (v := 0) hx hb dX6_best_21 (by decide) ?_
  refine lv_istore (lv' := [(4, .int 0), (3, .ref a2), (2, .ref a1), (1, .int 0), (0, .ref (Y 10 0))]) hx hb dX6_best_22 hl (by decide) rfl (fun ls hl => ?_)
  have L_24 : ∀ (n_24 : Nat) (k : Nat) (fc : Nat → Int32) (fw : Nat → Int32) (H : Heap) (locs : List Loc), z_n σ 2 - k < n_24 → (k ≤ z_n σ 2) → (va_at E.1 vwCl (a1, .inl (E.2.1.1, z_n σ 2, .inl fc)) H) → (va_at E.1 vwCl (a2, .inl (E.2.1.1, z_n σ 2, .inl fw)) H) → (∀ q : Nat, q < H0.size → H[q]? = H0[q]?) → (∀ i, i < k → fc i = nI (f_cfl σ i) ∧ fw i = f_worth σ i) → (va_S (fun q => (z_FM T) q ∨ s.heap.size ≤ q) s.heap H locs) → ∀ ls : Array Slot, lv_has ls 10 [(0, .ref (Y 10 0)), (1, .int (nI (f_set (f_free σ) k))), (2, .ref a1), (3, .ref a2), (4, .int (nI k))] → W p l e (headSpec wsX6_best rme_X6_best).room s m ([.ref (Y 10 0)] : List Value).toArray below meth c H locs (0 + 1 + 1) (0 + (z_n σ 2) + (z_n σ 2)) (MQ below (fun _ _ oc t => (∃ v, oc = .returned v ∧ (fun v H1 => ∃ b1 : Nat, v = some (.int (nI b1)) ∧ b_best (b_w σ) (b_fr σ) (f_cfl σ) b1 ∧ MA E T Y σ 0 gt H1) v t.heap) ∧ s.heap.size ≤ t.heap.size ∧ ∀ q : Nat, q < s.heap.size → ¬ (z_FM T) q → t.heap[q]? = s.heap[q]?) ([.ref (Y 10 0)] : List Value).toArray s 2 32 (fun q => (z_FM T) q ∨ s.heap.size ≤ q)) (F0 m 24 ls []) := by
    intro n_24
    induction n_24 with
    | zero => intro k fc fw H locs hm; exact absurd hm (Nat.not_lt_zero _)
    | succ n_24 ih_24 =>
      intro k fc fw H locs hm_24 hk_k h_a1 h_a2 hM hrows hS ls hl
      have hA : MA E T Y σ 0 gt H := hA0.kept (fun q hq _ => hM q hq)
      refine lv_iload hx hb dX6_best_24 (lv_at hl 4 rfl) ?_
      refine lv_aload_n hx hb dX6_best_26 rfl (lv_at hl 0 rfl) ?_
      refine wk_get (own := RX6) (C := RX6) (T := TX6) (N := 26) (ci := 7) (v := .int (nI (z_n σ 2))) hx hb hts i_X6 hown hK hA.obj rfl 18 (by decide) (hts _ (List.mem_of_getElem? (i := 2) rfl)) (fun _ h9 => h9) rfl dX6_best_27 ?_
      refine lv_icmp_ge (tgt := 75) hx hb dX6_best_30 (by decide) (fun c_30 => ?_) (fun c_30 => ?_)
      · skip
        have e_30 : (z_n σ 2) ≤ k := wk_cget (by omega) (by omega) c_30
        have hkN : k = z_n σ 2 := by omega
        rw [hkN] at hrows
        have hl : lv_has ls 10 [(0, .ref (Y 10 0)), (1, .int (nI (b_fr σ))), (2, .ref a1), (3, .ref a2), (4, .int (nI (z_n σ 2)))] := by rw [hkN] at hl; exact hl
        refine lv_iconst (v := 0) hx hb dX6_best_75 (by decide) ?_
        refine lv_istore (lv' := [(4, .int 0), (0, .ref (Y 10 0)), (1, .int (nI (b_fr σ))), (2, .ref a1), (3, .ref a2)]) hx hb dX6_best_76 hl (by decide) rfl (fun ls hl => ?_)
        refine lv_iconst (v := 0) hx hb dX6_best_78 (by decide) ?_
        refine lv_istore (lv' := [(5, .int 0), (4, .int 0), (0, .ref (Y 10 0)), (1, .int (nI (b_fr σ))), (2, .ref a1), (3, .ref a2)]) hx hb dX6_best_79 hl (by decide) rfl (fun ls hl => ?_)
        have hl : lv_has ls 10 [(5, .int (nI (b_W (b_w σ) 0 16))), (4, .int (nI 0)), (0, .ref (Y 10 0)), (1, .int (nI (b_fr σ))), (2, .ref a1), (3, .ref a2)] := by rw [b_W_0]; exact hl
        refine lv_iload_n hx hb dX6_best_81 rfl (lv_at hl 3 rfl) ?_
        refine lv_istore (lv' := [(6, .int (nI (b_fr σ))), (5, .int (nI (b_W (b_w σ) 0 16))), (4, .int (nI 0)), (0, .ref (Y 10 0)), (1, .int (nI (b_fr σ))), (2, .ref a1), (3, .ref a2)]) hx hb dX6_best_82 hl (by decide) rfl (fun ls hl => ?_)
        have L_84 : ∀ (n_84 : Nat) (S : Nat) (b : Nat), S < n_84 → (∀ i, S.testBit i = true → (b_fr σ).testBit i = true) → (b_ok (b_fr σ) (f_cfl σ) b) → (b = 0 ∨ S < b) → (∀ m, b_ok (b_fr σ) (f_cfl σ) m → S < m → ¬ b_bt (b_w σ) m b) → ∀ ls : Array Slot, lv_has ls 10 [(0, .ref (Y 10 0)), (1, .int (nI (b_fr σ))), (2, .ref a1), (3, .ref a2), (4, .int (nI b)), (5, .int (nI (b_W (b_w σ) b 16))), (6, .int (nI S))] → W p l e (headSpec wsX6_best rme_X6_best).room s m ([.ref (Y 10 0)] : List Value).toArray below meth c H locs (0 + 1 + 1) (0 + (z_n σ 2) + (z_n σ 2)) (MQ below (fun _ _ oc t => (∃ v, oc = .returned v ∧ (fun v H1 => ∃ b1 : Nat, v = some (.int (nI b1)) ∧ b_best (b_w σ) (b_fr σ) (f_cfl σ) b1 ∧ MA E T Y σ 0 gt H1) v t.heap) ∧ s.heap.size ≤ t.heap.size ∧ ∀ q : Nat, q < s.heap.size → ¬ (z_FM T) q → t.heap[q]? = s.heap[q]?) ([.ref (Y 10 0)] : List Value).toArray s 2 32 (fun q => (z_FM T) q ∨ s.heap.size ≤ q)) (F0 m 84 ls []) := by
          intro n_84
          induction n_84 with
          | zero => intro S b hm; exact absurd hm (Nat.not_lt_zero _)
          | succ n_84 ih_84 =>
            intro S b hm_84 hSf hbk hbs hall ls hl
            have hS16 : S < 2 ^ 16 := b_lt16 (b_cfσ hI) hSf
            have hb16 : b < 2 ^ 16 := b_lt16 (b_cfσ hI) hbk.1
            have hWS := b_limM hI hSf
            have hWb := b_limM hI hbk.1
            have hW16 := b_W16 hI hSf
            refine lv_iload hx hb dX6_best_84 (lv_at hl 6 rfl) ?_
            refine lv_if_eq (tgt := 211) hx hb dX6_best_86 (by decide) (fun c_86 => ?_) (fun c_86 => ?_)
            · skip
              have e_86 : S = 0 := wk_ceqt (b := 0) (Nat.lt_trans hS16 (by decide)) (by decide) c_86
              refine lv_iload hx hb dX6_best_211 (lv_at hl 4 rfl) ?_
              refine W.widen (k := 2) (n := 32) (Nat.le_of_ble_eq_true rfl) (by omega) ?_
              exact W.iret hx hb hr (we_end (Rt := fun v H1 => ∃ b1 : Nat, v = some (.int (nI b1)) ∧ b_best (b_w σ) (b_fr σ) (f_cfl σ) b1 ∧ MA E T Y σ 0 gt H1) (F := z_FM T) (⟨b, rfl, b_endM hI hbk (by rw [e_86] at hall; exact hall), hA⟩) hS) hS.2.2 dX6_best_213
            have e_86 : ¬ S = 0 := wk_ceqf (b := 0) (Nat.lt_trans hS16 (by decide)) (by decide) c_86
            refine lv_iconst (v := 0) hx hb dX6_best_89 (by decide) ?_
            refine lv_istore (lv' := [(7, .int 0), (0, .ref (Y 10 0)), (1, .int (nI (b_fr σ))), (2, .ref a1), (3, .ref a2), (4, .int (nI b)), (5, .int (nI (b_W (b_w σ) b 16))), (6, .int (nI S))]) hx hb dX6_best_90 hl (by decide) rfl (fun ls hl => ?_)
            refine lv_iconst (v := 1) hx hb dX6_best_92 (by decide) ?_
            refine lv_istore (lv' := [(8, .int 1), (7, .int 0), (0, .ref (Y 10 0)), (1, .int (nI (b_fr σ))), (2, .ref a1), (3, .ref a2), (4, .int (nI b)), (5, .int (nI (b_W (b_w σ) b 16))), (6, .int (nI S))]) hx hb dX6_best_93 hl (by decide) rfl (fun ls hl => ?_)
            refine lv_iconst (v := 0) hx hb dX6_best_95 (by decide) ?_
            refine lv_istore (lv' := [(9, .int 0), (8, .int 1), (7, .int 0), (0, .ref (Y 10 0)), (1, .int (nI (b_fr σ))), (2, .ref a1), (3, .ref a2), (4, .int (nI b)), (5, .int (nI (b_W (b_w σ) b 16))), (6, .int (nI S))]) hx hb dX6_best_96 hl (by decide) rfl (fun ls hl => ?_)
            have hl : lv_has ls 10 [(9, .int (nI 0)), (8, .int (wk_b (!f_any (b_bad σ S) 0))), (7, .int (nI (b_W (b_w σ) S 0))), (0, .ref (Y 10 0)), (1, .int (nI (b_fr σ))), (2, .ref a1), (3, .ref a2), (4, .int (nI b)), (5, .int (nI (b_W (b_w σ) b 16))), (6, .int (nI S))] := hl
            have L_98 : ∀ (n_98 : Nat) (k : Nat), z_n σ 2 - k < n_98 → (k ≤ z_n σ 2) → ∀ ls : Array Slot, lv_has ls 10 [(0, .ref (Y 10 0)), (1, .int (nI (b_fr σ))), (2, .ref a1), (3, .ref a2), (4, .int (nI b)), (5, .int (nI (b_W (b_w σ) b 16))), (6, .int (nI S)), (7, .int (nI (b_W (b_w σ) S k))), (8, .int (wk_b (!f_any (b_bad σ S) k))), (9, .int (nI k))] → W p l e (headSpec wsX6_best rme_X6_best).room s m ([.ref (Y 10 0)] : List Value).toArray below meth c H locs (0 + 1 + 1) (0 + (z_n σ 2) + (z_n σ 2)) (MQ below (fun _ _ oc t => (∃ v, oc = .returned v ∧ (fun v H1 => ∃ b1 : Nat, v = some (.int (nI b1)) ∧ b_best (b_w σ) (b_fr σ) (f_cfl σ) b1 ∧ MA E T Y σ 0 gt H1) v t.heap) ∧ s.heap.size ≤ t.heap.size ∧ ∀ q : Nat, q < s.heap.size → ¬ (z_FM T) q → t.heap[q]? = s.heap[q]?) ([.ref (Y 10 0)] : List Value).toArray s 2 32 (fun q => (z_FM T) q ∨ s.heap.size ≤ q)) (F0 m 98 ls []) := by
              intro n_98
              induction n_98 with
              | zero => intro k hm; exact absurd hm (Nat.not_lt_zero _)
              | succ n_98 ih_98 =>
                intro k hm_98 hk_k ls hl
                refine lv_iload hx hb dX6_best_98 (lv_at hl 9 rfl) ?_
                refine lv_aload_n hx hb dX6_best_100 rfl (lv_at hl 0 rfl) ?_
                refine wk_get (own := RX6) (C := RX6) (T := TX6) (N := 26) (ci := 7) (v := .int (nI (z_n σ 2))) hx hb hts i_X6 hown hK hA.obj rfl 18 (by decide) (hts _ (List.mem_of_getElem? (i := 2) rfl)) (fun _ h9 => h9) rfl dX6_best_101 ?_
                refine lv_icmp_ge (tgt := 157) hx hb dX6_best_104 (by decide) (fun c_104 => ?_) (fun c_104 => ?_)
                · skip
                  have e_104 : (z_n σ 2) ≤ k := wk_cget (by omega) (by omega) c_104
                  have hkN : k = z_n σ 2 := by omega
                  refine lv_iload hx hb dX6_best_157 (lv_at hl 8 rfl) ?_
                  refine lv_if_eq (tgt := 200) hx hb dX6_best_159 (by decide) (fun c_159 => ?_) (fun c_159 => ?_)
                  · skip
                    have e_159 : (!f_any (b_bad σ S) k) = false := wk_b0 c_159
                    refine lv_iload hx hb dX6_best_200 (lv_at hl 6 rfl) ?_
                    refine lv_iconst (v := 1) hx hb dX6_best_202 (by decide) ?_
                    refine lv_isub hx hb dX6_best_203 ?_
                    refine wk_eqi (show nI S - 1 = nI (S - 1) from pk_sub (b := 1) (by omega)) ?_
                    refine lv_iload_n hx hb dX6_best_204 rfl (lv_at hl 1 rfl) ?_
                    refine lv_iand hx hb dX6_best_205 ?_
                    refine wk_eqi (show (nI (S - 1)) &&& (nI (b_fr σ)) = nI ((S - 1) &&& (b_fr σ)) from fa_and (S - 1) (b_fr σ)) ?_
                    refine lv_istore (lv' := [(6, .int (nI ((S - 1) &&& (b_fr σ)))), (0, .ref (Y 10 0)), (1, .int (nI (b_fr σ))), (2, .ref a1), (3, .ref a2), (4, .int (nI b)), (5, .int (nI (b_W (b_w σ) b 16))), (7, .int (nI (b_W (b_w σ) S k))), (8, .int (wk_b (!f_any (b_bad σ S) k))), (9, .int (nI k))]) hx hb dX6_best_206 hl (by decide) rfl (fun ls hl => ?_)
                    refine lv_goto (tgt := 84) hx hb dX6_best_208 (by decide) ?_
                    exact ih_84 ((S - 1) &&& b_fr σ) b (Nat.lt_of_lt_of_le (b_ltM e_86) (Nat.le_of_lt_succ hm_84)) b_subM hbk (hbs.imp id (fun z => Nat.lt_trans (b_ltM e_86) z)) (b_stepM hSf hall (fun z => absurd z (b_noM e_159))) ls (lv_sub hl [1, 2, 3, 4, 5, 6, 0] rfl)
                  have e_159 : (!f_any (b_bad σ S) k) = true := wk_b1 c_159
                  have hf : f_any (b_bad σ S) (z_n σ 2) = false := by rw [← Bool.not_eq_true', ← hkN]; exact e_159
                  have hu : b_W (b_w σ) S k = b_W (b_w σ) S 16 := by rw [hkN, hW16]
                  have hWk : b_W (b_w σ) S k ≤ 86400 := by rw [hu]; exact hWS
                  refine lv_iload hx hb dX6_best_162 (lv_at hl 7 rfl) ?_
                  refine lv_iload hx hb dX6_best_164 (lv_at hl 5 rfl) ?_
                  refine lv_icmp_lt (tgt := 200) hx hb dX6_best_166 (by decide) (fun c_166 => ?_) (fun c_166 => ?_)
                  · skip
                    have e_166 : (b_W (b_w σ) S k) < (b_W (b_w σ) b 16) := wk_cltt (by omega) (by omega) c_166
                    refine lv_iload hx hb dX6_best_200 (lv_at hl 6 rfl) ?_
                    refine lv_iconst (v := 1) hx hb dX6_best_202 (by decide) ?_
                    refine lv_isub hx hb dX6_best_203 ?_
                    refine wk_eqi (show nI S - 1 = nI (S - 1) from pk_sub (b := 1) (by omega)) ?_
                    refine lv_iload_n hx hb dX6_best_204 rfl (lv_at hl 1 rfl) ?_
                    refine lv_iand hx hb dX6_best_205 ?_
                    refine wk_eqi (show (nI (S - 1)) &&& (nI (b_fr σ)) = nI ((S - 1) &&& (b_fr σ)) from fa_and (S - 1) (b_fr σ)) ?_
                    refine lv_istore (lv' := [(6, .int (nI ((S - 1) &&& (b_fr σ)))), (0, .ref (Y 10 0)), (1, .int (nI (b_fr σ))), (2, .ref a1), (3, .ref a2), (4, .int (nI b)), (5, .int (nI (b_W (b_w σ) b 16))), (7, .int (nI (b_W (b_w σ) S k))), (8, .int (wk_b (!f_any (b_bad σ S) k))), (9, .int (nI k))]) hx hb dX6_best_206 hl (by decide) rfl (fun ls hl => ?_)
                    refine lv_goto (tgt := 84) hx hb dX6_best_208 (by decide) ?_
                    exact ih_84 ((S - 1) &&& b_fr σ) b (Nat.lt_of_lt_of_le (b_ltM e_86) (Nat.le_of_lt_succ hm_84)) b_subM hbk (hbs.imp id (fun z => Nat.lt_trans (b_ltM e_86) z)) (b_stepM hSf hall (fun _ => b_lessM hu rfl e_166)) ls (lv_sub hl [1, 2, 3, 4, 5, 6, 0] rfl)
                  have e_166 : (b_W (b_w σ) b 16) ≤ (b_W (b_w σ) S k) := wk_cltf (by omega) (by omega) c_166
                  refine lv_iload hx hb dX6_best_169 (lv_at hl 7 rfl) ?_
                  refine lv_iload hx hb dX6_best_171 (lv_at hl 5 rfl) ?_
                  refine lv_icmp_ne (tgt := 192) hx hb dX6_best_173 (by decide) (fun c_173 => ?_) (fun c_173 => ?_)
                  · skip
                    have e_173 : ¬ (b_W (b_w σ) S k) = (b_W (b_w σ) b 16) := wk_cnet (by omega) (by omega) c_173
                    have hbt : b_bt (b_w σ) S b := b_moreM hu rfl e_166 e_173
                    have hW16 : b_W (b_w σ) S 16 = b_W (b_w σ) S k := hu.symm
                    refine lv_iload hx hb dX6_best_192 (lv_at hl 6 rfl) ?_
                    refine lv_istore (lv' := [(4, .int (nI S)), (0, .ref (Y 10 0)), (1, .int (nI (b_fr σ))), (2, .ref a1), (3, .ref a2), (5, .int (nI (b_W (b_w σ) b 16))), (6, .int (nI S)), (7, .int (nI (b_W (b_w σ) S k))), (8, .int (wk_b (!f_any (b_bad σ S) k))), (9, .int (nI k))]) hx hb dX6_best_194 hl (by decide) rfl (fun ls hl => ?_)
                    refine lv_iload hx hb dX6_best_196 (lv_at hl 7 rfl) ?_
                    refine lv_istore (lv' := [(5, .int (nI (b_W (b_w σ) S k))), (4, .int (nI S)), (0, .ref (Y 10 0)), (1, .int (nI (b_fr σ))), (2, .ref a1), (3, .ref a2), (6, .int (nI S)), (7, .int (nI (b_W (b_w σ) S k))), (8, .int (wk_b (!f_any (b_bad σ S) k))), (9, .int (nI k))]) hx hb dX6_best_198 hl (by decide) rfl (fun ls hl => ?_)
                    refine lv_iload hx hb dX6_best_200 (lv_at hl 6 rfl) ?_
                    refine lv_iconst (v := 1) hx hb dX6_best_202 (by decide) ?_
                    refine lv_isub hx hb dX6_best_203 ?_
                    refine wk_eqi (show nI S - 1 = nI (S - 1) from pk_sub (b := 1) (by omega)) ?_
                    refine lv_iload_n hx hb dX6_best_204 rfl (lv_at hl 3 rfl) ?_
                    refine lv_iand hx hb dX6_best_205 ?_
                    refine wk_eqi (show (nI (S - 1)) &&& (nI (b_fr σ)) = nI ((S - 1) &&& (b_fr σ)) from fa_and (S - 1) (b_fr σ)) ?_
                    refine lv_istore (lv' := [(6, .int (nI ((S - 1) &&& (b_fr σ)))), (5, .int (nI (b_W (b_w σ) S k))), (4, .int (nI S)), (0, .ref (Y 10 0)), (1, .int (nI (b_fr σ))), (2, .ref a1), (3, .ref a2), (7, .int (nI (b_W (b_w σ) S k))), (8, .int (wk_b (!f_any (b_bad σ S) k))), (9, .int (nI k))]) hx hb dX6_best_206 hl (by decide) rfl (fun ls hl => ?_)
                    refine lv_goto (tgt := 84) hx hb dX6_best_208 (by decide) ?_
                    have hl : lv_has ls 10 [(6, .int (nI ((S - 1) &&& (b_fr σ)))), (5, .int (nI (b_W (b_w σ) S 16))), (4, .int (nI S)), (0, .ref (Y 10 0)), (1, .int (nI (b_fr σ))), (2, .ref a1), (3, .ref a2), (7, .int (nI (b_W (b_w σ) S k))), (8, .int (wk_b (!f_any (b_bad σ S) k))), (9, .int (nI k))] := by rw [hW16]; exact hl
                    exact ih_84 ((S - 1) &&& b_fr σ) S (Nat.lt_of_lt_of_le (b_ltM e_86) (Nat.le_of_lt_succ hm_84)) b_subM (b_okM hI hSf hf) (Or.inr (b_ltM e_86)) (b_takeM hSf hbt hall) ls (lv_sub hl [3, 4, 5, 6, 2, 1, 0] rfl)
                  have e_173 : (b_W (b_w σ) S k) = (b_W (b_w σ) b 16) := wk_cnef (by omega) (by omega) c_173
                  refine lv_iload hx hb dX6_best_176 (lv_at hl 6 rfl) ?_
                  refine wk_S (As := [.int (nI S)]) (rest := []) ⟨hx, hb, hml, hown, hts⟩ (c_J6_bitCount_0f7a4 l E) (va_cwS 1 hts gX6_best_J6_bitCount_0f7a4 rfl rfl rfl (by decide +kernel) ⟨(Nat.le_of_ble_eq_true rfl), (Nat.le_of_ble_eq_true rfl)⟩) hK rfl hl.1 rfl (Nat.le_of_ble_eq_true rfl) dX6_best_178 ⟨Nat.le_of_ble_eq_true rfl, (by show _ ≤ 32; omega)⟩ ?_
                  refine lv_iload hx hb dX6_best_181 (lv_at hl 4 rfl) ?_
                  refine wk_S (As := [.int (nI b)]) (rest := [.int (f_bc (nI S))]) ⟨hx, hb, hml, hown, hts⟩ (c_J6_bitCount_0f7a4 l E) (va_cwS 1 hts gX6_best_J6_bitCount_0f7a4 rfl rfl rfl (by decide +kernel) ⟨(Nat.le_of_ble_eq_true rfl), (Nat.le_of_ble_eq_true rfl)⟩) hK rfl hl.1 rfl (Nat.le_of_ble_eq_true rfl) dX6_best_183 ⟨Nat.le_of_ble_eq_true rfl, (by show _ ≤ 32; omega)⟩ ?_
                  refine lv_icmp_le (tgt := 192) hx hb dX6_best_186 (by decide) (fun c_186 => ?_) (fun c_186 => ?_)
                  · skip
                    have d_186 := Int32.not_lt.mpr c_186
                    have hbt : b_bt (b_w σ) S b := b_fewM hI hSf e_86 hbs hu rfl e_173 c_186
                    have hW16 : b_W (b_w σ) S 16 = b_W (b_w σ) S k := hu.symm
                    refine lv_iload hx hb dX6_best_192 (lv_at hl 6 rfl) ?_
                    refine lv_istore (lv' := [(4, .int (nI S)), (0, .ref (Y 10 0)), (1, .int (nI (b_fr σ))), (2, .ref a1), (3, .ref a2), (5, .int (nI (b_W (b_w σ) b 16))), (6, .int (nI S)), (7, .int (nI (b_W (b_w σ) S k))), (8, .int (wk_b (!f_any (b_bad σ S) k))), (9, .int (nI k))]) hx hb dX6_best_194 hl (by decide) rfl (fun ls hl => ?_)
                    refine lv_iload hx hb dX6_best_196 (lv_at hl 7 rfl) ?_
                    refine lv_istore (lv' := [(5, .int (nI (b_W (b_w σ) S k))), (4, .int (nI S)), (0, .ref (Y 10 0)), (1, .int (nI (b_fr σ))), (2, .ref a1), (3, .ref a2), (6, .int (nI S)), (7, .int (nI (b_W (b_w σ) S k))), (8, .int (wk_b (!f_any (b_bad σ S) k))), (9, .int (nI k))]) hx hb dX6_best_198 hl (by decide) rfl (fun ls hl => ?_)
                    refine lv_iload hx hb dX6_best_200 (lv_at hl 6 rfl) ?_
                    refine lv_iconst (v := 1) hx hb dX6_best_202 (by decide) ?_
                    refine lv_isub hx hb dX6_best_203 ?_
                    refine wk_eqi (show nI S - 1 = nI (S - 1) from pk_sub (b := 1) (by omega)) ?_
                    refine lv_iload_n hx hb dX6_best_204 rfl (lv_at hl 3 rfl) ?_
                    refine lv_iand hx hb dX6_best_205 ?_
                    refine wk_eqi (show (nI (S - 1)) &&& (nI (b_fr σ)) = nI ((S - 1) &&& (b_fr σ)) from fa_and (S - 1) (b_fr σ)) ?_
                    refine lv_istore (lv' := [(6, .int (nI ((S - 1) &&& (b_fr σ)))), (5, .int (nI (b_W (b_w σ) S k))), (4, .int (nI S)), (0, .ref (Y 10 0)), (1, .int (nI (b_fr σ))), (2, .ref a1), (3, .ref a2), (7, .int (nI (b_W (b_w σ) S k))), (8, .int (wk_b (!f_any (b_bad σ S) k))), (9, .int (nI k))]) hx hb dX6_best_206 hl (by decide) rfl (fun ls hl => ?_)
                    refine lv_goto (tgt := 84) hx hb dX6_best_208 (by decide) ?_
                    have hl : lv_has ls 10 [(6, .int (nI ((S - 1) &&& (b_fr σ)))), (5, .int (nI (b_W (b_w σ) S 16))), (4, .int (nI S)), (0, .ref (Y 10 0)), (1, .int (nI (b_fr σ))), (2, .ref a1), (3, .ref a2), (7, .int (nI (b_W (b_w σ) S k))), (8, .int (wk_b (!f_any (b_bad σ S) k))), (9, .int (nI k))] := by rw [hW16]; exact hl
                    exact ih_84 ((S - 1) &&& b_fr σ) S (Nat.lt_of_lt_of_le (b_ltM e_86) (Nat.le_of_lt_succ hm_84)) b_subM (b_okM hI hSf hf) (Or.inr (b_ltM e_86)) (b_takeM hSf hbt hall) ls (lv_sub hl [3, 4, 5, 6, 2, 1, 0] rfl)
                  have d_186 := Int32.not_le.mp c_186
                  refine lv_goto (tgt := 200) hx hb dX6_best_189 (by decide) ?_
                  refine lv_iload hx hb dX6_best_200 (lv_at hl 6 rfl) ?_
                  refine lv_iconst (v := 1) hx hb dX6_best_202 (by decide) ?_
                  refine lv_isub hx hb dX6_best_203 ?_
                  refine wk_eqi (show nI S - 1 = nI (S - 1) from pk_sub (b := 1) (by omega)) ?_
                  refine lv_iload_n hx hb dX6_best_204 rfl (lv_at hl 1 rfl) ?_
                  refine lv_iand hx hb dX6_best_205 ?_
                  refine wk_eqi (show (nI (S - 1)) &&& (nI (b_fr σ)) = nI ((S - 1) &&& (b_fr σ)) from fa_and (S - 1) (b_fr σ)) ?_
                  refine lv_istore (lv' := [(6, .int (nI ((S - 1) &&& (b_fr σ)))), (0, .ref (Y 10 0)), (1, .int (nI (b_fr σ))), (2, .ref a1), (3, .ref a2), (4, .int (nI b)), (5, .int (nI (b_W (b_w σ) b 16))), (7, .int (nI (b_W (b_w σ) S k))), (8, .int (wk_b (!f_any (b_bad σ S) k))), (9, .int (nI k))]) hx hb dX6_best_206 hl (by decide) rfl (fun ls hl => ?_)
                  refine lv_goto (tgt := 84) hx hb dX6_best_208 (by decide) ?_
                  exact ih_84 ((S - 1) &&& b_fr σ) b (Nat.lt_of_lt_of_le (b_ltM e_86) (Nat.le_of_lt_succ hm_84)) b_subM hbk (hbs.imp id (fun z => Nat.lt_trans (b_ltM e_86) z)) (b_stepM hSf hall (fun _ => b_evenM hu rfl e_173 c_186)) ls (lv_sub hl [1, 2, 3, 4, 5, 6, 0] rfl)
                have e_104 : k < (z_n σ 2) := wk_cgef (by omega) (by omega) c_104
                refine lv_iload hx hb dX6_best_107 (lv_at hl 8 rfl) ?_
                refine lv_if_eq (tgt := 157) hx hb dX6_best_109 (by decide) (fun c_109 => ?_) (fun c_109 => ?_)
                · skip
                  have e_109 : (!f_any (b_bad σ S) k) = false := wk_b0 c_109
                  refine lv_iload hx hb dX6_best_157 (lv_at hl 8 rfl) ?_
                  refine lv_if_eq (tgt := 200) hx hb dX6_best_159 (by decide) (fun c_159 => ?_) (fun c_159 => ?_)
                  · skip
                    have e_159 : (!f_any (b_bad σ S) k) = false := wk_b0 c_159
                    refine lv_iload hx hb dX6_best_200 (lv_at hl 6 rfl) ?_
                    refine lv_iconst (v := 1) hx hb dX6_best_202 (by decide) ?_
                    refine lv_isub hx hb dX6_best_203 ?_
                    refine wk_eqi (show nI S - 1 = nI (S - 1) from pk_sub (b := 1) (by omega)) ?_
                    refine lv_iload_n hx hb dX6_best_204 rfl (lv_at hl 1 rfl) ?_
                    refine lv_iand hx hb dX6_best_205 ?_
                    refine wk_eqi (show (nI (S - 1)) &&& (nI (b_fr σ)) = nI ((S - 1) &&& (b_fr σ)) from fa_and (S - 1) (b_fr σ)) ?_
                    refine lv_istore (lv' := [(6, .int (nI ((S - 1) &&& (b_fr σ)))), (0, .ref (Y 10 0)), (1, .int (nI (b_fr σ))), (2, .ref a1), (3, .ref a2), (4, .int (nI b)), (5, .int (nI (b_W (b_w σ) b 16))), (7, .int (nI (b_W (b_w σ) S k))), (8, .int (wk_b (!f_any (b_bad σ S) k))), (9, .int (nI k))]) hx hb dX6_best_206 hl (by decide) rfl (fun ls hl => ?_)
                    refine lv_goto (tgt := 84) hx hb dX6_best_208 (by decide) ?_
                    exact ih_84 ((S - 1) &&& b_fr σ) b (Nat.lt_of_lt_of_le (b_ltM e_86) (Nat.le_of_lt_succ hm_84)) b_subM hbk (hbs.imp id (fun z => Nat.lt_trans (b_ltM e_86) z)) (b_stepM hSf hall (fun z => absurd z (b_noM e_159))) ls (lv_sub hl [1, 2, 3, 4, 5, 6, 0] rfl)
                  have e_159 : (!f_any (b_bad σ S) k) = true := wk_b1 c_159
                  exact absurd (e_109.symm.trans e_159) (by decide)
                have e_109 : (!f_any (b_bad σ S) k) = true := wk_b1 c_109
                have hf : f_any (b_bad σ S) k = false := by rw [← Bool.not_eq_true']; exact e_109
                refine lv_iload hx hb dX6_best_112 (lv_at hl 6 rfl) ?_
                refine lv_iload hx hb dX6_best_114 (lv_at hl 9 rfl) ?_
                refine wk_S (As := [.int (nI S), .int (nI k)]) (rest := []) ⟨hx, hb, hml, hown, hts⟩ (c_X6_has l E (mm := S) (k := k) (Nat.lt_trans hS16 (by decide)) (by omega)) (va_cwS 2 hts gX6_best_X6_has rfl rfl rfl (by decide +kernel) ⟨(Nat.le_of_ble_eq_true rfl), (Nat.le_of_ble_eq_true rfl)⟩) hK rfl hl.1 rfl (Nat.le_of_ble_eq_true rfl) dX6_best_116 ⟨Nat.le_of_ble_eq_true rfl, (by show _ ≤ 32; omega)⟩ ?_
                refine lv_if_ne (tgt := 125) hx hb dX6_best_119 (by decide) (fun c_119 => ?_) (fun c_119 => ?_)
                · skip
                  have e_119 : (Nat.testBit S k) = true := wk_b1 c_119
                  refine lv_aload_n hx hb dX6_best_125 rfl (lv_at hl 2 rfl) ?_
                  refine lv_iload hx hb dX6_best_126 (lv_at hl 9 rfl) ?_
                  refine wk_iald (n := z_n σ 2) (f := fc) hx hb hK h_a1 k rfl (by omega) (by omega) dX6_best_128 ?_
                  refine wk_eqi (hrows k e_104).1 ?_
                  refine lv_iload hx hb dX6_best_129 (lv_at hl 6 rfl) ?_
                  refine lv_iand hx hb dX6_best_131 ?_
                  refine wk_eqi (show (nI (f_cfl σ k)) &&& (nI S) = nI ((f_cfl σ k) &&& S) from fa_and (f_cfl σ k) S) ?_
                  refine lv_if_ne (tgt := 139) hx hb dX6_best_132 (by decide) (fun c_132 => ?_) (fun c_132 => ?_)
                  · skip
                    have e_132 : ¬ ((f_cfl σ k) &&& S) = 0 := wk_cnet (b := 0) (Nat.lt_of_le_of_lt Nat.and_le_left (f_cfl_lt hI k)) (by decide) c_132
                    refine lv_iconst (v := 0) hx hb dX6_best_139 (by decide) ?_
                    refine lv_istore (lv' := [(8, .int 0), (0, .ref (Y 10 0)), (1, .int (nI (b_fr σ))), (2, .ref a1), (3, .ref a2), (4, .int (nI b)), (5, .int (nI (b_W (b_w σ) b 16))), (6, .int (nI S)), (7, .int (nI (b_W (b_w σ) S k))), (9, .int (nI k))]) hx hb dX6_best_140 hl (by decide) rfl (fun ls hl => ?_)
                    refine lv_iload hx hb dX6_best_142 (lv_at hl 8 rfl) ?_
                    refine lv_aload_n hx hb dX6_best_144 rfl (lv_at hl 4 rfl) ?_
                    refine lv_iload hx hb dX6_best_145 (lv_at hl 9 rfl) ?_
                    refine wk_iald (n := z_n σ 2) (f := fw) hx hb hK h_a2 k rfl (by omega) (by omega) dX6_best_147 ?_
                    refine wk_eqi ((hrows k e_104).2.trans (f_worthN hI e_104).1) ?_
                    refine lv_iadd hx hb dX6_best_148 ?_
                    refine wk_eqi (show (nI (b_W (b_w σ) S k)) + (nI (b_w σ k)) = nI ((b_W (b_w σ) S k) + (b_w σ k)) from nI_add (b_W (b_w σ) S k) (b_w σ k)) ?_
                    refine lv_istore (lv' := [(7, .int (nI ((b_W (b_w σ) S k) + (b_w σ k)))), (8, .int 0), (0, .ref (Y 10 0)), (1, .int (nI (b_fr σ))), (2, .ref a1), (3, .ref a2), (4, .int (nI b)), (5, .int (nI (b_W (b_w σ) b 16))), (6, .int (nI S)), (9, .int (nI k))]) hx hb dX6_best_149 hl (by decide) rfl (fun ls hl => ?_)
                    refine lv_iinc (v := nI (k + 1)) (lv' := [(9, .int (nI (k + 1))), (7, .int (nI ((b_W (b_w σ) S k) + (b_w σ k)))), (8, .int 0), (0, .ref (Y 10 0)), (1, .int (nI (b_fr σ))), (2, .ref a1), (3, .ref a2), (4, .int (nI b)), (5, .int (nI (b_W (b_w σ) b 16))), (6, .int (nI S))]) hx hb dX6_best_151 hl (k := 9) rfl (nI_1 _) (by decide) rfl (fun ls hl => ?_)
                    refine lv_goto (tgt := 98) hx hb dX6_best_154 (by decide) ?_
                    have hl : lv_has ls 10 [(9, .int (nI (k + 1))), (7, .int (nI (b_W (b_w σ) S (k + 1)))), (8, .int (wk_b (!f_any (b_bad σ S) (k + 1)))), (0, .ref (Y 10 0)), (1, .int (nI (b_fr σ))), (2, .ref a1), (3, .ref a2), (4, .int (nI b)), (5, .int (nI (b_W (b_w σ) b 16))), (6, .int (nI S))] := by rw [show nI (b_W (b_w σ) S (k + 1)) = nI ((b_W (b_w σ) S k) + (b_w σ k)) from (by rw [b_Ws, if_pos e_119]), show wk_b (!f_any (b_bad σ S) (k + 1)) = 0 from (wk_bf (by rw [f_any_yes (k := k) (Nat.lt_succ_self k) (by simp [b_bad, e_119, e_132])]; rfl))]; exact hl
                    exact ih_98 (k + 1) (by omega) (by omega) ls (lv_sub hl [3, 4, 5, 6, 7, 8, 9, 1, 2, 0] rfl)
                  have e_132 : ((f_cfl σ k) &&& S) = 0 := wk_cnef (b := 0) (Nat.lt_of_le_of_lt Nat.and_le_left (f_cfl_lt hI k)) (by decide) c_132
                  refine lv_iconst (v := 1) hx hb dX6_best_135 (by decide) ?_
                  refine lv_goto (tgt := 140) hx hb dX6_best_136 (by decide) ?_
                  refine lv_istore (lv' := [(8, .int 1), (0, .ref (Y 10 0)), (1, .int (nI (b_fr σ))), (2, .ref a1), (3, .ref a2), (4, .int (nI b)), (5, .int (nI (b_W (b_w σ) b 16))), (6, .int (nI S)), (7, .int (nI (b_W (b_w σ) S k))), (9, .int (nI k))]) hx hb dX6_best_140 hl (by decide) rfl (fun ls hl => ?_)
                  refine lv_iload hx hb dX6_best_142 (lv_at hl 8 rfl) ?_
                  refine lv_aload_n hx hb dX6_best_144 rfl (lv_at hl 4 rfl) ?_
                  refine lv_iload hx hb dX6_best_145 (lv_at hl 9 rfl) ?_
                  refine wk_iald (n := z_n σ 2) (f := fw) hx hb hK h_a2 k rfl (by omega) (by omega) dX6_best_147 ?_
                  refine wk_eqi ((hrows k e_104).2.trans (f_worthN hI e_104).1) ?_
                  refine lv_iadd hx hb dX6_best_148 ?_
                  refine wk_eqi (show (nI (b_W (b_w σ) S k)) + (nI (b_w σ k)) = nI ((b_W (b_w σ) S k) + (b_w σ k)) from nI_add (b_W (b_w σ) S k) (b_w σ k)) ?_
                  refine lv_istore (lv' := [(7, .int (nI ((b_W (b_w σ) S k) + (b_w σ k)))), (8, .int 1), (0, .ref (Y 10 0)), (1, .int (nI (b_fr σ))), (2, .ref a1), (3, .ref a2), (4, .int (nI b)), (5, .int (nI (b_W (b_w σ) b 16))), (6, .int (nI S)), (9, .int (nI k))]) hx hb dX6_best_149 hl (by decide) rfl (fun ls hl => ?_)
                  refine lv_iinc (v := nI (k + 1)) (lv' := [(9, .int (nI (k + 1))), (7, .int (nI ((b_W (b_w σ) S k) + (b_w σ k)))), (8, .int 1), (0, .ref (Y 10 0)), (1, .int (nI (b_fr σ))), (2, .ref a1), (3, .ref a2), (4, .int (nI b)), (5, .int (nI (b_W (b_w σ) b 16))), (6, .int (nI S))]) hx hb dX6_best_151 hl (k := 9) rfl (nI_1 _) (by decide) rfl (fun ls hl => ?_)
                  refine lv_goto (tgt := 98) hx hb dX6_best_154 (by decide) ?_
                  have hl : lv_has ls 10 [(9, .int (nI (k + 1))), (7, .int (nI (b_W (b_w σ) S (k + 1)))), (8, .int (wk_b (!f_any (b_bad σ S) (k + 1)))), (0, .ref (Y 10 0)), (1, .int (nI (b_fr σ))), (2, .ref a1), (3, .ref a2), (4, .int (nI b)), (5, .int (nI (b_W (b_w σ) b 16))), (6, .int (nI S))] := by rw [show nI (b_W (b_w σ) S (k + 1)) = nI ((b_W (b_w σ) S k) + (b_w σ k)) from (by rw [b_Ws, if_pos e_119]), show wk_b (!f_any (b_bad σ S) (k + 1)) = 1 from (wk_bt (by rw [f_any_step hf (by simp [b_bad, e_119, e_132])]; rfl))]; exact hl
                  exact ih_98 (k + 1) (by omega) (by omega) ls (lv_sub hl [3, 4, 5, 6, 7, 8, 9, 1, 2, 0] rfl)
                have e_119 : (Nat.testBit S k) = false := wk_b0 c_119
                refine lv_goto (tgt := 151) hx hb dX6_best_122 (by decide) ?_
                refine lv_iinc (v := nI (k + 1)) (lv' := [(9, .int (nI (k + 1))), (0, .ref (Y 10 0)), (1, .int (nI (b_fr σ))), (2, .ref a1), (3, .ref a2), (4, .int (nI b)), (5, .int (nI (b_W (b_w σ) b 16))), (6, .int (nI S)), (7, .int (nI (b_W (b_w σ) S k))), (8, .int (wk_b (!f_any (b_bad σ S) k)))]) hx hb dX6_best_151 hl (k := 9) rfl (nI_1 _) (by decide) rfl (fun ls hl => ?_)
                refine lv_goto (tgt := 98) hx hb dX6_best_154 (by decide) ?_
                have hl : lv_has ls 10 [(9, .int (nI (k + 1))), (0, .ref (Y 10 0)), (1, .int (nI (b_fr σ))), (2, .ref a1), (3, .ref a2), (4, .int (nI b)), (5, .int (nI (b_W (b_w σ) b 16))), (6, .int (nI S)), (7, .int (nI (b_W (b_w σ) S (k + 1)))), (8, .int (wk_b (!f_any (b_bad σ S) (k + 1))))] := by rw [show nI (b_W (b_w σ) S (k + 1)) = nI (b_W (b_w σ) S k) from (by rw [b_Ws, if_neg (by rw [e_119]; decide)]; rfl), show wk_b (!f_any (b_bad σ S) (k + 1)) = wk_b (!f_any (b_bad σ S) k) from (by rw [f_any_step hf (by simp [b_bad, e_119]), hf])]; exact hl
                exact ih_98 (k + 1) (by omega) (by omega) ls (lv_sub hl [1, 2, 3, 4, 5, 6, 7, 8, 9, 0] rfl)
            exact L_98 _ 0 (Nat.lt_succ_self _) (Nat.zero_le _) ls (lv_sub hl [3, 4, 5, 6, 7, 8, 9, 2, 1, 0] rfl)
        exact L_84 _ (b_fr σ) 0 (Nat.lt_succ_self _) (fun _ h => h) (b_ok0 _ _) (Or.inl rfl) (fun m hm hlt => absurd (b_le_of hm.1 ▸ (Nat.and_le_right : m &&& b_fr σ ≤ b_fr σ)) (Nat.not_le.mpr hlt)) ls (lv_sub hl [3, 4, 5, 6, 2, 1, 0] rfl)
      have e_30 : k < (z_n σ 2) := wk_cgef (by omega) (by omega) c_30
      refine lv_aload_n hx hb dX6_best_33 rfl (lv_at hl 0 rfl) ?_
      refine lv_iload hx hb dX6_best_34 (lv_at hl 4 rfl) ?_
      refine wk_V (As := [.int (nI k)]) (rest := []) ⟨hx, hb, hml, hown, hts⟩ (c_X6_canBeTaken l E hA hI e_30) (cwV 1 hts gX6_best_X6_canBeTaken rfl rfl rfl (by decide +kernel) ⟨(Nat.le_of_ble_eq_true rfl), (Nat.le_of_ble_eq_true rfl)⟩) (wk_recv hK hA.obj rfl) hK rfl hl.1 rfl (Nat.le_of_ble_eq_true rfl) dX6_best_36 ⟨Nat.le_of_ble_eq_true rfl, (by show _ ≤ 32; omega)⟩ ?_
      refine lv_if_eq (tgt := 49) hx hb dX6_best_39 (by decide) (fun c_39 => ?_) (fun c_39 => ?_)
      · skip
        have e_39 : (f_free σ k) = false := wk_b0 c_39
        refine lv_aload_n hx hb dX6_best_49 rfl (lv_at hl 2 rfl) ?_
        refine lv_iload hx hb dX6_best_50 (lv_at hl 4 rfl) ?_
        refine lv_aload_n hx hb dX6_best_52 rfl (lv_at hl 0 rfl) ?_
        refine lv_iload hx hb dX6_best_53 (lv_at hl 4 rfl) ?_
        refine wk_V (As := [.int (nI k)]) (rest := [.int (nI k), .ref a1]) ⟨hx, hb, hml, hown, hts⟩ (c_X6_conflictsOf l E hA hI e_30) (cwV 1 hts gX6_best_X6_conflictsOf rfl rfl rfl (by decide +kernel) ⟨(Nat.le_of_ble_eq_true rfl), (Nat.le_of_ble_eq_true rfl)⟩) (wk_recv hK hA.obj rfl) hK rfl hl.1 rfl (Nat.le_of_ble_eq_true rfl) dX6_best_55 ⟨Nat.le_of_ble_eq_true rfl, (by show _ ≤ 32; omega)⟩ ?_
        refine wk_iast (nn := z_n σ 2) hx hb hK h_a1 (Or.inr (Nat.le_trans hz0 p_a1)) hS k rfl e_30 (by omega) dX6_best_58 (fun H locs hP9 hz9 hk9 hS => ?_)
        have h_a1 := hP9
        have h_a2 := va_at.kept h_a2 (hk9 _ (Nat.ne_of_gt q12))
        have hM : ∀ q : Nat, q < H0.size → H[q]? = H0[q]? := fun q hq => (hk9 q (Nat.ne_of_lt (Nat.lt_of_lt_of_le hq p_a1))).trans (hM q hq)
        have hA : MA E T Y σ 0 gt H := hA0.kept (fun q hq _ => hM q hq)
        refine lv_aload_n hx hb dX6_best_59 rfl (lv_at hl 3 rfl) ?_
        refine lv_iload hx hb dX6_best_60 (lv_at hl 4 rfl) ?_
        refine lv_aload_n hx hb dX6_best_62 rfl (lv_at hl 0 rfl) ?_
        refine lv_iload hx hb dX6_best_63 (lv_at hl 4 rfl) ?_
        refine wk_V (As := [.int (nI k)]) (rest := [.int (nI k), .ref a2]) ⟨hx, hb, hml, hown, hts⟩ (c_X6_weightOf l E hA hI e_30) (cwV 1 hts gX6_best_X6_weightOf rfl rfl rfl (by decide +kernel) ⟨(Nat.le_of_ble_eq_true rfl), (Nat.le_of_ble_eq_true rfl)⟩) (wk_recv hK hA.obj rfl) hK rfl hl.1 rfl (Nat.le_of_ble_eq_true rfl) dX6_best_65 ⟨Nat.le_of_ble_eq_true rfl, (by show _ ≤ 32; omega)⟩ ?_
        refine wk_iast (nn := z_n σ 2) hx hb hK h_a2 (Or.inr (Nat.le_trans hz0 p_a2)) hS k rfl e_30 (by omega) dX6_best_68 (fun H locs hP9 hz9 hk9 hS => ?_)
        have h_a2 := hP9
        have h_a1 := va_at.kept h_a1 (hk9 _ (Nat.ne_of_lt q12))
        have hM : ∀ q : Nat, q < H0.size → H[q]? = H0[q]? := fun q hq => (hk9 q (Nat.ne_of_lt (Nat.lt_of_lt_of_le hq p_a2))).trans (hM q hq)
        have hA : MA E T Y σ 0 gt H := hA0.kept (fun q hq _ => hM q hq)
        refine lv_iinc (v := nI (k + 1)) (lv' := [(4, .int (nI (k + 1))), (0, .ref (Y 10 0)), (1, .int (nI (f_set (f_free σ) k))), (2, .ref a1), (3, .ref a2)]) hx hb dX6_best_69 hl (k := 4) rfl (nI_1 _) (by decide) rfl (fun ls hl => ?_)
        refine lv_goto (tgt := 24) hx hb dX6_best_72 (by decide) ?_
        have hl : lv_has ls 10 [(4, .int (nI (k + 1))), (0, .ref (Y 10 0)), (1, .int (nI (f_set (f_free σ) (k + 1)))), (2, .ref a1), (3, .ref a2)] := by rw [show nI (f_set (f_free σ) (k + 1)) = nI (f_set (f_free σ) k) from (by simp [f_set, e_39])]; exact hl
        exact ih_24 (k + 1) (upd fc k (nI (f_cfl σ k))) (upd fw k (f_worth σ k)) H locs (by omega) (by omega) h_a1 h_a2 hM (b_rowsM hrows) hS ls (lv_sub hl [1, 2, 3, 4, 0] rfl)
      have e_39 : (f_free σ k) = true := wk_b1 c_39
      refine lv_iload_n hx hb dX6_best_42 rfl (lv_at hl 1 rfl) ?_
      refine lv_iconst (v := 1) hx hb dX6_best_43 (by decide) ?_
      refine lv_iload hx hb dX6_best_44 (lv_at hl 4 rfl) ?_
      refine lv_ishl hx hb dX6_best_46 ?_
      refine lv_ior hx hb dX6_best_47 ?_
      refine lv_istore_n (lv' := [(1, .int ((nI (f_set (f_free σ) k)) ||| (1 <<< ((nI k) &&& 31)))), (0, .ref (Y 10 0)), (2, .ref a1), (3, .ref a2), (4, .int (nI k))]) hx hb dX6_best_48 rfl hl (by decide) rfl (fun ls hl => ?_)
      refine lv_aload_n hx hb dX6_best_49 rfl (lv_at hl 2 rfl) ?_
      refine lv_iload hx hb dX6_best_50 (lv_at hl 4 rfl) ?_
      refine lv_aload_n hx hb dX6_best_52 rfl (lv_at hl 1 rfl) ?_
      refine lv_iload hx hb dX6_best_53 (lv_at hl 4 rfl) ?_
      refine wk_V (As := [.int (nI k)]) (rest := [.int (nI k), .ref a1]) ⟨hx, hb, hml, hown, hts⟩ (c_X6_conflictsOf l E hA hI e_30) (cwV 1 hts gX6_best_X6_conflictsOf rfl rfl rfl (by decide +kernel) ⟨(Nat.le_of_ble_eq_true rfl), (Nat.le_of_ble_eq_true rfl)⟩) (wk_recv hK hA.obj rfl) hK rfl hl.1 rfl (Nat.le_of_ble_eq_true rfl) dX6_best_55 ⟨Nat.le_of_ble_eq_true rfl, (by show _ ≤ 32; omega)⟩ ?_
      refine wk_iast (nn := z_n σ 2) hx hb hK h_a1 (Or.inr (Nat.le_trans hz0 p_a1)) hS k rfl e_30 (by omega) dX6_best_58 (fun H locs hP9 hz9 hk9 hS => ?_)
      have h_a1 := hP9
      have h_a2 := va_at.kept h_a2 (hk9 _ (Nat.ne_of_gt q12))
      have hM : ∀ q : Nat, q < H0.size → H[q]? = H0[q]? := fun q hq => (hk9 q (Nat.ne_of_lt (Nat.lt_of_lt_of_le hq p_a1))).trans (hM q hq)
      have hA : MA E T Y σ 0 gt H := hA0.kept (fun q hq _ => hM q hq)
      refine lv_aload_n hx hb dX6_best_59 rfl (lv_at hl 3 rfl) ?_
      refine lv_iload hx hb dX6_best_60 (lv_at hl 4 rfl) ?_
      refine lv_aload_n hx hb dX6_best_62 rfl (lv_at hl 1 rfl) ?_
      refine lv_iload hx hb dX6_best_63 (lv_at hl 4 rfl) ?_
      refine wk_V (As := [.int (nI k)]) (rest := [.int (nI k), .ref a2]) ⟨hx, hb, hml, hown, hts⟩ (c_X6_weightOf l E hA hI e_30) (cwV 1 hts gX6_best_X6_weightOf rfl rfl rfl (by decide +kernel) ⟨(Nat.le_of_ble_eq_true rfl), (Nat.le_of_ble_eq_true rfl)⟩) (wk_recv hK hA.obj rfl) hK rfl hl.1 rfl (Nat.le_of_ble_eq_true rfl) dX6_best_65 ⟨Nat.le_of_ble_eq_true rfl, (by show _ ≤ 32; omega)⟩ ?_
      refine wk_iast (nn := z_n σ 2) hx hb hK h_a2 (Or.inr (Nat.le_trans hz0 p_a2)) hS k rfl e_30 (by omega) dX6_best_68 (fun H locs hP9 hz9 hk9 hS => ?_)
      have h_a2 := hP9
      have h_a1 := va_at.kept h_a1 (hk9 _ (Nat.ne_of_lt q12))
      have hM : ∀ q : Nat, q < H0.size → H[q]? = H0[q]? := fun q hq => (hk9 q (Nat.ne_of_lt (Nat.lt_of_lt_of_le hq p_a2))).trans (hM q hq)
      have hA : MA E T Y σ 0 gt H := hA0.kept (fun q hq _ => hM q hq)
      refine lv_iinc (v := nI (k + 1)) (lv' := [(4, .int (nI (k + 1))), (1, .int ((nI (f_set (f_free σ) k)) ||| (1 <<< ((nI k) &&& 31)))), (0, .ref (Y 10 0)), (2, .ref a1), (3, .ref a2)]) hx hb dX6_best_69 hl (k := 4) rfl (nI_1 _) (by decide) rfl (fun ls hl => ?_)
      refine lv_goto (tgt := 24) hx hb dX6_best_72 (by decide) ?_
      have hl : lv_has ls 10 [(4, .int (nI (k + 1))), (1, .int (nI (f_set (f_free σ) (k + 1)))), (0, .ref (Y 10 0)), (2, .ref a1), (3, .ref a2)] := by rw [show nI (f_set (f_free σ) (k + 1)) = (nI (f_set (f_free σ) k)) ||| (1 <<< ((nI k) &&& 31)) from (by simp [f_set, e_39, wk_or1 (k := k) (show k < 31 by omega)])]; exact hl
      exact ih_24 (k + 1) (upd fc k (nI (f_cfl σ k))) (upd fw k (f_worth σ k)) H locs (by omega) (by omega) h_a1 h_a2 hM (b_rowsM hrows) hS ls (lv_sub hl [2, 1, 3, 4, 0] rfl)
  exact L_24 _ 0 (fun _ => 0) (fun _ => 0) H locs (Nat.lt_succ_self _) (Nat.zero_le _) h_a1 h_a2 hM (fun i hi => absurd hi (Nat.not_lt_zero _)) hS ls (lv_sub hl [4, 3, 2, 1, 0] rfl)
