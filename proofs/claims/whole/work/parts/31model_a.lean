abbrev rme_X6_step : Room := { frames := 3, cells := 0, slots := 0, locals := 66 }
set_option maxHeartbeats 4000000 in
set_option maxRecDepth 100000 in
theorem e_X6_step (l : Launch) (E : wk_E) {T : Nat → Nat × Nat} {Y : Nat → Nat → Nat} {σ0 : z_S} {th : Int32} {gt : Int64} {H : Heap} (hA : MA E T Y σ0 th gt H) (hI : z_Ok σ0) (hSm : z_Sm σ0) : we_Met l yX6_step wsX6_step rme_X6_step E H [.ref (Y 10 0)] (z_FM T) 0 0 (fun v H1 => v = some (.int (f_min σ0).2) ∧ MA E T Y (f_min σ0).1 th (f_gsum σ0 gt (z_n σ0 1)) H1) := by
  refine Met.ofW (cc := cX6_step) (maxL := 4) (ret := (some .int)) (by decide) rfl ?_
  intro p e s m args below meth c s₁ B hml hv
  obtain ⟨rfl, hH, hV⟩ := hv
  subst hH
  have hK := hV.k
  have hx := B.exec
  have hb := B.bytes
  have hr := B.returns
  have hts := atoms_spec (ws := wsX6_step) B.pre
  have hown : s.vm.findClass RX6 = some m.cls := findClass_of_methodNamed B.named
  have hlocks := B.notSynchronized
  have hS : va_S (fun q => (z_FM T) q ∨ s.heap.size ≤ q) s.heap s.heap [] := va_S.rf
  have hA9 : ∀ q : Nat, s.heap.size ≤ q → ((z_FM T) q ∨ s.heap.size ≤ q) := fun _ h => Or.inr h
  have hbA : ∀ q : Nat, q < E.2.2.1 → ¬ ((z_FM T) q ∨ s.heap.size ≤ q) := fun q hq z => z.elim (z_FMb hA.2 hq) (fun z => absurd (Nat.lt_of_lt_of_le hq hV.2.2.2.2.2.2) (Nat.not_lt.mpr z))
  have i_X6 : ∀ w ∈ u_ws RX6 TX6 26, w ∈ wsX6_step := fun w h => (List.mem_cons_of_mem _ (List.mem_append_right _ h))
  have hl := lv_entry [.ref (Y 10 0)] (n := 4) (Nat.le_of_ble_eq_true rfl)
  rw [lg_entry_eq]
  generalize (lg_sl [.ref (Y 10 0)] ++ List.replicate (4 - (lg_sl [.ref (Y 10 0)]).length) Slot.unset).toArray = ls at hl ⊢
  have hl : lv_has ls 4 [(0, .ref (Y 10 0))] := hl
  have b0 := hI.n0
  have b1 := hI.n1
  have b2 := hI.n2
  have b3 := hI.n3
  have hI0 := hI
  refine lv_iconst (v := 0) hx hb dX6_step_0 (by decide) ?_
  refine lv_istore_n (lv' := [(1, .int 0), (0, .ref (Y 10 0))]) hx hb dX6_step_1 rfl hl (by decide) rfl (fun ls hl => ?_)
  have L_2 : ∀ (n_2 : Nat) (k : Nat) (σ : z_S) (g1 : Int64) (H : Heap) (locs : List Loc), z_n σ0 1 - k < n_2 → (k ≤ z_n σ0 1) → (σ = f_gatherTo σ0 k) → (g1 = f_gsum σ0 gt k) → (MA E T Y σ th g1 H) → (z_Ok σ) → (va_S (fun q => (z_FM T) q ∨ s.heap.size ≤ q) s.heap H locs) → ∀ ls : Array Slot, lv_has ls 4 [(0, .ref (Y 10 0)), (1, .int (nI k))] → W p l e (headSpec wsX6_step rme_X6_step).room s m ([.ref (Y 10 0)] : List Value).toArray below meth c H locs 0 0 (MQ below (fun _ _ oc t => (∃ v, oc = .returned v ∧ (fun v H1 => v = some (.int (f_min σ0).2) ∧ MA E T Y (f_min σ0).1 th (f_gsum σ0 gt (z_n σ0 1)) H1) v t.heap) ∧ s.heap.size ≤ t.heap.size ∧ ∀ q : Nat, q < s.heap.size → ¬ (z_FM T) q → t.heap[q]? = s.heap[q]?) ([.ref (Y 10 0)] : List Value).toArray s 0 0 (fun q => (z_FM T) q ∨ s.heap.size ≤ q)) (F0 m 2 ls []) := by
    intro n_2
    induction n_2 with
    | zero => intro k σ g1 H locs hm; exact absurd hm (Nat.not_lt_zero _)
    | succ n_2 ih_2 =>
      intro k σ g1 H locs hm_2 hk_k heq heqg hA hI hS ls hl
      have hn9 : z_n σ 1 = z_n σ0 1 := by rw [heq]; exact congrFun (congrFun (f_gatherTo_2 σ0 k) 0) 1
      have b0 := hI.n0
      have b1 := hI.n1
      have b2 := hI.n2
      have b3 := hI.n3
      refine lv_iload_n hx hb dX6_step_2 rfl (lv_at hl 1 rfl) ?_
      refine lv_aload_n hx hb dX6_step_3 rfl (lv_at hl 0 rfl) ?_
      refine wk_get (own := RX6) (C := RX6) (T := TX6) (N := 26) (ci := 7) (v := .int (nI (z_n σ 1))) hx hb hts i_X6 hown hK hA.obj rfl 10 (by decide) (hts _ (List.mem_of_getElem? (i := 1) rfl)) (fun _ h9 => h9) rfl dX6_step_4 ?_
      refine lv_icmp_ge (tgt := 84) hx hb dX6_step_7 (by decide) (fun c_7 => ?_) (fun c_7 => ?_)
      · skip
        have e_7 : (z_n σ 1) ≤ k := wk_cget (by omega) (by omega) c_7
        have hkN : k = z_n σ0 1 := by omega
        have hA : MA E T Y (f_gath σ0) th (f_gsum σ0 gt (z_n σ0 1)) H := by rw [heq, heqg, hkN] at hA; exact hA
        have hI : z_Ok (f_gath σ0) := hI0.gatherTo _
        refine lv_iconst (v := 0) hx hb dX6_step_84 (by decide) ?_
        refine lv_istore_n (lv' := [(1, .int 0), (0, .ref (Y 10 0))]) hx hb dX6_step_85 rfl hl (by decide) rfl (fun ls hl => ?_)
        refine lv_iconst (v := 0) hx hb dX6_step_86 (by decide) ?_
        refine lv_istore_n (lv' := [(2, .int 0), (1, .int 0), (0, .ref (Y 10 0))]) hx hb dX6_step_87 rfl hl (by decide) rfl (fun ls hl => ?_)
        have L_88 : ∀ (n_88 : Nat) (k : Nat) (σ : z_S) (H : Heap) (locs : List Loc), z_n (f_gath σ0) 2 - k < n_88 → (k ≤ z_n (f_gath σ0) 2) → (σ = (f_bringTo (f_gath σ0) k).1) → (MA E T Y σ th (f_gsum σ0 gt (z_n σ0 1)) H) → (z_Ok σ) → (va_S (fun q => (z_FM T) q ∨ s.heap.size ≤ q) s.heap H locs) → ∀ ls : Array Slot, lv_has ls 4 [(0, .ref (Y 10 0)), (1, .int ((f_bringTo (f_gath σ0) k).2)), (2, .int (nI k))] → W p l e (headSpec wsX6_step rme_X6_step).room s m ([.ref (Y 10 0)] : List Value).toArray below meth c H locs 0 0 (MQ below (fun _ _ oc t => (∃ v, oc = .returned v ∧ (fun v H1 => v = some (.int (f_min σ0).2) ∧ MA E T Y (f_min σ0).1 th (f_gsum σ0 gt (z_n σ0 1)) H1) v t.heap) ∧ s.heap.size ≤ t.heap.size ∧ ∀ q : Nat, q < s.heap.size → ¬ (z_FM T) q → t.heap[q]? = s.heap[q]?) ([.ref (Y 10 0)] : List Value).toArray s 0 0 (fun q => (z_FM T) q ∨ s.heap.size ≤ q)) (F0 m 88 ls []) := by
          intro n_88
          induction n_88 with
          | zero => intro k σ H locs hm; exact absurd hm (Nat.not_lt_zero _)
          | succ n_88 ih_88 =>
            intro k σ H locs hm_88 hk_k heq hA hI hS ls hl
            have hn9 : z_n σ 2 = z_n (f_gath σ0) 2 := by rw [heq]; exact congrFun (congrFun (f_bringTo_2 (f_gath σ0) k) 0) 2
            have b0 := hI.n0
            have b1 := hI.n1
            have b2 := hI.n2
            have b3 := hI.n3
            refine lv_iload_n hx hb dX6_step_88 rfl (lv_at hl 2 rfl) ?_
            refine lv_aload_n hx hb dX6_step_89 rfl (lv_at hl 0 rfl) ?_
            refine wk_get (own := RX6) (C := RX6) (T := TX6) (N := 26) (ci := 7) (v := .int (nI (z_n σ 2))) hx hb hts i_X6 hown hK hA.obj rfl 18 (by decide) (hts _ (List.mem_of_getElem? (i := 11) rfl)) (fun _ h9 => h9) rfl dX6_step_90 ?_
            refine lv_icmp_ge (tgt := 211) hx hb dX6_step_93 (by decide) (fun c_93 => ?_) (fun c_93 => ?_)
            · skip
              have e_93 : (z_n σ 2) ≤ k := wk_cget (by omega) (by omega) c_93
              have hkN : k = z_n (f_gath σ0) 2 := by omega
              refine lv_aload_n hx hb dX6_step_211 rfl (lv_at hl 0 rfl) ?_
              refine lv_dup hx hb dX6_step_212 rfl ?_
              refine wk_get (own := RX6) (C := RX6) (T := TX6) (N := 26) (ci := 7) (v := .int (z_now σ)) hx hb hts i_X6 hown hK hA.obj rfl 1 (by decide) (hts _ (List.mem_of_getElem? (i := 21) rfl)) (fun _ h9 => h9) rfl dX6_step_213 ?_
              refine lv_iconst (v := 1) hx hb dX6_step_216 (by decide) ?_
              refine lv_iadd hx hb dX6_step_217 ?_
              refine wk_put (own := RX6) (C := RX6) (T := TX6) (N := 26) (ci := 7) (v := .int ((z_now σ) + 1)) hx hb hts i_X6 tyX6 tyX6_ok nmX6 hown hK hA.obj (Or.inl hA.tagO) hS rfl 1 (by decide) (hts _ (List.mem_of_getElem? (i := 21) rfl)) (fun _ h9 => h9) rfl (tyX6_ok 1 (by decide)) rfl rfl (Nat.le_of_ble_eq_true rfl) dX6_step_218 (fun H locs hP9 hz9 hk9 hS => ?_)
              have hA := hA.setNow (v := (z_now σ) + 1) hP9 hk9
              refine lv_iload_n hx hb dX6_step_221 rfl (lv_at hl 1 rfl) ?_
              exact W.iret hx hb hr (we_end (Rt := fun v H1 => v = some (.int (f_min σ0).2) ∧ MA E T Y (f_min σ0).1 th (f_gsum σ0 gt (z_n σ0 1)) H1) (F := z_FM T) (⟨by rw [hkN]; rfl, by rw [heq, hkN, f_min_step] at hA; exact hA⟩) hS) hS.2.2 dX6_step_222
            have e_93 : k < (z_n σ 2) := wk_cgef (by omega) (by omega) c_93
            refine lv_aload_n hx hb dX6_step_96 rfl (lv_at hl 0 rfl) ?_
            refine lv_iload_n hx hb dX6_step_97 rfl (lv_at hl 2 rfl) ?_
            refine wk_V (As := [.int (nI k)]) (rest := []) ⟨hx, hb, hml, hown, hts⟩ (c_X6_isHeard l E hA hI e_93) (cwV 1 hts gX6_step_X6_isHeard rfl rfl rfl (by decide +kernel) ⟨(Nat.le_of_ble_eq_true rfl), (Nat.le_of_ble_eq_true rfl)⟩) (wk_recv hK hA.obj rfl) hK rfl hl.1 rfl (Nat.le_of_ble_eq_true rfl) dX6_step_98 ⟨Nat.zero_le _, Nat.zero_le _⟩ ?_
            refine lv_if_eq (tgt := 205) hx hb dX6_step_101 (by decide) (fun c_101 => ?_) (fun c_101 => ?_)
            · skip
              have e_101 : (f_heard σ k) = false := wk_b0 c_101
              refine lv_iinc (v := nI (k + 1)) (lv' := [(2, .int (nI (k + 1))), (0, .ref (Y 10 0)), (1, .int ((f_bringTo (f_gath σ0) k).2))]) hx hb dX6_step_205 hl (k := 2) rfl (nI_1 _) (by decide) rfl (fun ls hl => ?_)
              refine lv_goto (tgt := 88) hx hb dX6_step_208 (by decide) ?_
              have hl : lv_has ls 4 [(2, .int (nI (k + 1))), (0, .ref (Y 10 0)), (1, .int ((f_bringTo (f_gath σ0) (k + 1)).2))] := by rw [show (f_bringTo (f_gath σ0) (k + 1)).2 = (f_bringTo (f_gath σ0) k).2 from (by simp [f_bringTo, ← heq, f_brings, e_101])]; exact hl
              exact ih_88 (k + 1) σ H locs (by omega) (by omega) (by simp [f_bringTo, ← heq, f_brings, e_101]) hA hI hS ls (lv_sub hl [1, 2, 0] rfl)
            have e_101 : (f_heard σ k) = true := wk_b1 c_101
            refine lv_aload_n hx hb dX6_step_104 rfl (lv_at hl 0 rfl) ?_
            refine lv_aload_n hx hb dX6_step_105 rfl (lv_at hl 0 rfl) ?_
            refine wk_get (own := RX6) (C := RX6) (T := TX6) (N := 26) (ci := 7) (v := .ref (Y 11 13)) hx hb hts i_X6 hown hK hA.obj rfl 20 (by decide) (hts _ (List.mem_of_getElem? (i := 12) rfl)) (fun _ h9 => h9) rfl dX6_step_106 ?_
            refine lv_iload_n hx hb dX6_step_109 rfl (lv_at hl 2 rfl) ?_
            refine wk_iald (n := 16) (f := fun j => nI (z_pA σ j)) hx hb hK hA.a13 k rfl (by have := e_93; omega) (by decide) dX6_step_110 ?_
            refine wk_V (As := [.int (nI (z_pA σ k))]) (rest := []) ⟨hx, hb, hml, hown, hts⟩ (c_X6_isOut l E hA hI (hI.pA e_93)) (cwV 1 hts gX6_step_X6_isOut rfl rfl rfl (by decide +kernel) ⟨(Nat.le_of_ble_eq_true rfl), (Nat.le_of_ble_eq_true rfl)⟩) (wk_recv hK hA.obj rfl) hK rfl hl.1 rfl (Nat.le_of_ble_eq_true rfl) dX6_step_111 ⟨Nat.zero_le _, Nat.zero_le _⟩ ?_
            refine lv_if_eq (tgt := 120) hx hb dX6_step_114 (by decide) (fun c_114 => ?_) (fun c_114 => ?_)
            · skip
              have e_114 : (f_out σ (z_pA σ k) (z_now σ) (z_now σ + 1)) = false := wk_b0 c_114
              refine lv_aload_n hx hb dX6_step_120 rfl (lv_at hl 0 rfl) ?_
              refine wk_get (own := RX6) (C := RX6) (T := TX6) (N := 26) (ci := 7) (v := .ref (Y 11 2)) hx hb hts i_X6 hown hK hA.obj rfl 6 (by decide) (hts _ (List.mem_of_getElem? (i := 13) rfl)) (fun _ h9 => h9) rfl dX6_step_121 ?_
              refine lv_aload_n hx hb dX6_step_124 rfl (lv_at hl 0 rfl) ?_
              refine wk_get (own := RX6) (C := RX6) (T := TX6) (N := 26) (ci := 7) (v := .ref (Y 11 13)) hx hb hts i_X6 hown hK hA.obj rfl 20 (by decide) (hts _ (List.mem_of_getElem? (i := 12) rfl)) (fun _ h9 => h9) rfl dX6_step_125 ?_
              refine lv_iload_n hx hb dX6_step_128 rfl (lv_at hl 2 rfl) ?_
              refine wk_iald (n := 16) (f := fun j => nI (z_pA σ j)) hx hb hK hA.a13 k rfl (by have := e_93; omega) (by decide) dX6_step_129 ?_
              refine wk_iald (n := 5) (f := fun j => z_ar σ j) hx hb hK hA.a2 (z_pA σ k) rfl (by have := (hI.pA e_93); omega) (by decide) dX6_step_130 ?_
              refine lv_aload_n hx hb dX6_step_131 rfl (lv_at hl 0 rfl) ?_
              refine wk_get (own := RX6) (C := RX6) (T := TX6) (N := 26) (ci := 7) (v := .ref (Y 11 9)) hx hb hts i_X6 hown hK hA.obj rfl 15 (by decide) (hts _ (List.mem_of_getElem? (i := 2) rfl)) (fun _ h9 => h9) rfl dX6_step_132 ?_
              refine lv_aload_n hx hb dX6_step_135 rfl (lv_at hl 0 rfl) ?_
              refine wk_get (own := RX6) (C := RX6) (T := TX6) (N := 26) (ci := 7) (v := .ref (Y 11 12)) hx hb hts i_X6 hown hK hA.obj rfl 19 (by decide) (hts _ (List.mem_of_getElem? (i := 14) rfl)) (fun _ h9 => h9) rfl dX6_step_136 ?_
              refine lv_iload_n hx hb dX6_step_139 rfl (lv_at hl 2 rfl) ?_
              refine wk_iald (n := 16) (f := fun j => nI (z_pS σ j)) hx hb hK hA.a12 k rfl (by have := e_93; omega) (by decide) dX6_step_140 ?_
              refine wk_iald (n := 8) (f := fun j => z_su σ j) hx hb hK hA.a9 (z_pS σ k) rfl (by have := (hI.pS e_93); omega) (by decide) dX6_step_141 ?_
              refine va_mmin (own := RX6) hx hb (hml.trans hl.1.symm) hown (hts _ (List.mem_of_getElem? (i := 15) rfl)) (hts _ (List.mem_of_getElem? (i := 16) rfl)) (hts _ (List.mem_of_getElem? (i := 7) rfl)) (hts _ (List.mem_of_getElem? (i := 17) rfl)) (Nat.le_of_ble_eq_true rfl) (Nat.le_trans (Nat.le_of_ble_eq_true rfl : _ ≤ 21) (Nat.le_of_ble_eq_true rfl)) (Nat.zero_le _) (Nat.zero_le _) dX6_step_142 ?_
              refine wk_eqi (show _ = f_come σ k from rfl) ?_
              refine lv_istore_n (lv' := [(3, .int (f_come σ k)), (0, .ref (Y 10 0)), (1, .int ((f_bringTo (f_gath σ0) k).2)), (2, .int (nI k))]) hx hb dX6_step_145 rfl hl (by decide) rfl (fun ls hl => ?_)
              refine lv_aload_n hx hb dX6_step_146 rfl (lv_at hl 1 rfl) ?_
              refine wk_get (own := RX6) (C := RX6) (T := TX6) (N := 26) (ci := 7) (v := .ref (Y 11 9)) hx hb hts i_X6 hown hK hA.obj rfl 15 (by decide) (hts _ (List.mem_of_getElem? (i := 2) rfl)) (fun _ h9 => h9) rfl dX6_step_147 ?_
              refine lv_aload_n hx hb dX6_step_150 rfl (lv_at hl 1 rfl) ?_
              refine wk_get (own := RX6) (C := RX6) (T := TX6) (N := 26) (ci := 7) (v := .ref (Y 11 12)) hx hb hts i_X6 hown hK hA.obj rfl 19 (by decide) (hts _ (List.mem_of_getElem? (i := 14) rfl)) (fun _ h9 => h9) rfl dX6_step_151 ?_
              refine lv_iload_n hx hb dX6_step_154 rfl (lv_at hl 3 rfl) ?_
              refine wk_iald (n := 16) (f := fun j => nI (z_pS σ j)) hx hb hK hA.a12 k rfl (by have := e_93; omega) (by decide) dX6_step_155 ?_
              refine lv_dup2_11 hx hb dX6_step_156 rfl rfl ?_
              refine wk_iald (n := 8) (f := fun j => z_su σ j) hx hb hK hA.a9 (z_pS σ k) rfl (by have := (hI.pS e_93); omega) (by decide) dX6_step_157 ?_
              refine lv_iload_n hx hb dX6_step_158 rfl (lv_at hl 0 rfl) ?_
              refine lv_isub hx hb dX6_step_159 ?_
              refine wk_iast (nn := 8) hx hb hK hA.a9 (Or.inl (hA.tagA (k := 9) rfl)) hS (z_pS σ k) rfl (by have := hI.pS e_93; have := hI.pA e_93; omega) (by decide) dX6_step_160 (fun H locs hP9 hz9 hk9 hS => ?_)
              have hA := hA.setA9 (j := z_pS σ k) (v := (z_su σ (z_pS σ k)) - (f_come σ k)) hP9 hk9
              refine lv_aload_n hx hb dX6_step_161 rfl (lv_at hl 1 rfl) ?_
              refine wk_get (own := RX6) (C := RX6) (T := TX6) (N := 26) (ci := 7) (v := .ref (Y 11 11)) hx hb hts i_X6 hown hK hA.obj rfl 17 (by decide) (hts _ (List.mem_of_getElem? (i := 18) rfl)) (fun _ h9 => h9) rfl dX6_step_162 ?_
              refine lv_aload_n hx hb dX6_step_165 rfl (lv_at hl 1 rfl) ?_
              refine wk_get (own := RX6) (C := RX6) (T := TX6) (N := 26) (ci := 7) (v := .ref (Y 11 12)) hx hb hts i_X6 hown hK hA.obj rfl 19 (by decide) (hts _ (List.mem_of_getElem? (i := 14) rfl)) (fun _ h9 => h9) rfl dX6_step_166 ?_
              refine lv_iload_n hx hb dX6_step_169 rfl (lv_at hl 3 rfl) ?_
              refine wk_iald (n := 16) (f := fun j => nI (z_pS σ j)) hx hb hK hA.a12 k rfl (by have := e_93; omega) (by decide) dX6_step_170 ?_
              refine lv_dup2_11 hx hb dX6_step_171 rfl rfl ?_
              refine wk_iald (n := 8) (f := fun j => z_sd (s1 σ 24 (z_pS σ k) ((z_su σ (z_pS σ k)) - (f_come σ k))) j) hx hb hK hA.a11 (z_pS σ k) rfl (by have := (hI.pS e_93); omega) (by decide) dX6_step_172 ?_
              refine lv_iload_n hx hb dX6_step_173 rfl (lv_at hl 0 rfl) ?_
              refine lv_iadd hx hb dX6_step_174 ?_
              refine wk_iast (nn := 8) hx hb hK hA.a11 (Or.inl (hA.tagA (k := 11) rfl)) hS (z_pS σ k) rfl (by have := hI.pS e_93; have := hI.pA e_93; omega) (by decide) dX6_step_175 (fun H locs hP9 hz9 hk9 hS => ?_)
              have hA := hA.setA11 (j := z_pS σ k) (v := (z_sd (s1 σ 24 (z_pS σ k) ((z_su σ (z_pS σ k)) - (f_come σ k))) (z_pS (s1 σ 24 (z_pS σ k) ((z_su σ (z_pS σ k)) - (f_come σ k))) k)) + (f_come σ k)) hP9 hk9
              refine lv_aload_n hx hb dX6_step_176 rfl (lv_at hl 1 rfl) ?_
              refine wk_get (own := RX6) (C := RX6) (T := TX6) (N := 26) (ci := 7) (v := .ref (Y 11 16)) hx hb hts i_X6 hown hK hA.obj rfl 23 (by decide) (hts _ (List.mem_of_getElem? (i := 19) rfl)) (fun _ h9 => h9) rfl dX6_step_177 ?_
              refine lv_iload_n hx hb dX6_step_180 rfl (lv_at hl 3 rfl) ?_
              refine lv_dup2_11 hx hb dX6_step_181 rfl rfl ?_
              refine wk_iald (n := 16) (f := fun j => z_pd (s1 (s1 σ 24 (z_pS σ k) ((z_su σ (z_pS σ k)) - (f_come σ k))) 26 (z_pS σ k) ((z_sd (s1 σ 24 (z_pS σ k) ((z_su σ (z_pS σ k)) - (f_come σ k))) (z_pS (s1 σ 24 (z_pS σ k) ((z_su σ (z_pS σ k)) - (f_come σ k))) k)) + (f_come σ k))) j) hx hb hK hA.a16 k rfl (by have := e_93; omega) (by decide) dX6_step_182 ?_
              refine lv_iload_n hx hb dX6_step_183 rfl (lv_at hl 0 rfl) ?_
              refine lv_iadd hx hb dX6_step_184 ?_
              refine wk_iast (nn := 16) hx hb hK hA.a16 (Or.inl (hA.tagA (k := 16) rfl)) hS k rfl (by have := hI.pS e_93; have := hI.pA e_93; omega) (by decide) dX6_step_185 (fun H locs hP9 hz9 hk9 hS => ?_)
              have hA := hA.setA16 (j := k) (v := (z_pd (s1 (s1 σ 24 (z_pS σ k) ((z_su σ (z_pS σ k)) - (f_come σ k))) 26 (z_pS σ k) ((z_sd (s1 σ 24 (z_pS σ k) ((z_su σ (z_pS σ k)) - (f_come σ k))) (z_pS (s1 σ 24 (z_pS σ k) ((z_su σ (z_pS σ k)) - (f_come σ k))) k)) + (f_come σ k))) k) + (f_come σ k)) hP9 hk9
              refine lv_aload_n hx hb dX6_step_186 rfl (lv_at hl 1 rfl) ?_
              refine wk_get (own := RX6) (C := RX6) (T := TX6) (N := 26) (ci := 7) (v := .ref (Y 11 3)) hx hb hts i_X6 hown hK hA.obj rfl 7 (by decide) (hts _ (List.mem_of_getElem? (i := 20) rfl)) (fun _ h9 => h9) rfl dX6_step_187 ?_
              refine lv_aload_n hx hb dX6_step_190 rfl (lv_at hl 1 rfl) ?_
              refine wk_get (own := RX6) (C := RX6) (T := TX6) (N := 26) (ci := 7) (v := .ref (Y 11 13)) hx hb hts i_X6 hown hK hA.obj rfl 20 (by decide) (hts _ (List.mem_of_getElem? (i := 12) rfl)) (fun _ h9 => h9) rfl dX6_step_191 ?_
              refine lv_iload_n hx hb dX6_step_194 rfl (lv_at hl 3 rfl) ?_
              refine wk_iald (n := 16) (f := fun j => nI (z_pA σ j)) hx hb hK hA.a13 k rfl (by have := e_93; omega) (by decide) dX6_step_195 ?_
              refine lv_dup2_11 hx hb dX6_step_196 rfl rfl ?_
              refine wk_iald (n := 5) (f := fun j => z_ad (s1 (s1 (s1 σ 24 (z_pS σ k) ((z_su σ (z_pS σ k)) - (f_come σ k))) 26 (z_pS σ k) ((z_sd (s1 σ 24 (z_pS σ k) ((z_su σ (z_pS σ k)) - (f_come σ k))) (z_pS (s1 σ 24 (z_pS σ k) ((z_su σ (z_pS σ k)) - (f_come σ k))) k)) + (f_come σ k))) 32 k ((z_pd (s1 (s1 σ 24 (z_pS σ k) ((z_su σ (z_pS σ k)) - (f_come σ k))) 26 (z_pS σ k) ((z_sd (s1 σ 24 (z_pS σ k) ((z_su σ (z_pS σ k)) - (f_come σ k))) (z_pS (s1 σ 24 (z_pS σ k) ((z_su σ (z_pS σ k)) - (f_come σ k))) k)) + (f_come σ k))) k) + (f_come σ k))) j) hx hb hK hA.a3 (z_pA σ k) rfl (by have := (hI.pA e_93); omega) (by decide) dX6_step_197 ?_
              refine lv_iload_n hx hb dX6_step_198 rfl (lv_at hl 0 rfl) ?_
              refine lv_iadd hx hb dX6_step_199 ?_
              refine wk_iast (nn := 5) hx hb hK hA.a3 (Or.inl (hA.tagA (k := 3) rfl)) hS (z_pA σ k) rfl (by have := hI.pS e_93; have := hI.pA e_93; omega) (by decide) dX6_step_200 (fun H locs hP9 hz9 hk9 hS => ?_)
              have hA := hA.setA3 (j := z_pA σ k) (v := (z_ad (s1 (s1 (s1 σ 24 (z_pS σ k) ((z_su σ (z_pS σ k)) - (f_come σ k))) 26 (z_pS σ k) ((z_sd (s1 σ 24 (z_pS σ k) ((z_su σ (z_pS σ k)) - (f_come σ k))) (z_pS (s1 σ 24 (z_pS σ k) ((z_su σ (z_pS σ k)) - (f_come σ k))) k)) + (f_come σ k))) 32 k ((z_pd (s1 (s1 σ 24 (z_pS σ k) ((z_su σ (z_pS σ k)) - (f_come σ k))) 26 (z_pS σ k) ((z_sd (s1 σ 24 (z_pS σ k) ((z_su σ (z_pS σ k)) - (f_come σ k))) (z_pS (s1 σ 24 (z_pS σ k) ((z_su σ (z_pS σ k)) - (f_come σ k))) k)) + (f_come σ k))) k) + (f_come σ k))) (z_pA (s1 (s1 (s1 σ 24 (z_pS σ k) ((z_su σ (z_pS σ k)) - (f_come σ k))) 26 (z_pS σ k) ((z_sd (s1 σ 24 (z_pS σ k) ((z_su σ (z_pS σ k)) - (f_come σ k))) (z_pS (s1 σ 24 (z_pS σ k) ((z_su σ (z_pS σ k)) - (f_come σ k))) k)) + (f_come σ k))) 32 k ((z_pd (s1 (s1 σ 24 (z_pS σ k) ((z_su σ (z_pS σ k)) - (f_come σ k))) 26 (z_pS σ k) ((z_sd (s1 σ 24 (z_pS σ k) ((z_su σ (z_pS σ k)) - (f_come σ k))) (z_pS (s1 σ 24 (z_pS σ k) ((z_su σ (z_pS σ k)) - (f_come σ k))) k)) + (f_come σ k))) k) + (f_come σ k))) k)) + (f_come σ k)) hP9 hk9
              have hA : MA E T Y (f_bring1 σ k) th (f_gsum σ0 gt (z_n σ0 1)) H := (congrArg (fun z => MA E T Y z th (f_gsum σ0 gt (z_n σ0 1)) H) (f_bring1m σ k)).mp hA
              have hI := hI.bring1 (k := k)
              refine lv_iload_n hx hb dX6_step_201 rfl (lv_at hl 2 rfl) ?_
              refine lv_iload_n hx hb dX6_step_202 rfl (lv_at hl 0 rfl) ?_
              refine lv_iadd hx hb dX6_step_203 ?_
              refine lv_istore_n (lv' := [(1, .int (((f_bringTo (f_gath σ0) k).2) + (f_come σ k))), (3, .int (f_come σ k)), (0, .ref (Y 10 0)), (2, .int (nI k))]) hx hb dX6_step_204 rfl hl (by decide) rfl (fun ls hl => ?_)
              refine lv_iinc (v := nI (k + 1)) (lv' := [(2, .int (nI (k + 1))), (1, .int (((f_bringTo (f_gath σ0) k).2) + (f_come σ k))), (3, .int (f_come σ k)), (0, .ref (Y 10 0))]) hx hb dX6_step_205 hl (k := 3) rfl (nI_1 _) (by decide) rfl (fun ls hl => ?_)
              refine lv_goto (tgt := 88) hx hb dX6_step_208 (by decide) ?_
              have hl : lv_has ls 4 [(2, .int (nI (k + 1))), (1, .int ((f_bringTo (f_gath σ0) (k + 1)).2)), (3, .int (f_come σ k)), (0, .ref (Y 10 0))] := by rw [show (f_bringTo (f_gath σ0) (k + 1)).2 = ((f_bringTo (f_gath σ0) k).2) + (f_come σ k) from (by simp [f_bringTo, ← heq, f_brings, e_101, e_114])]; exact hl
              exact ih_88 (k + 1) (f_bring1 σ k) H locs (by omega) (by omega) (by simp [f_bringTo, ← heq, f_brings, e_101, e_114]) hA hI hS ls (lv_sub hl [3, 1, 0] rfl)
            have e_114 : (f_out σ (z_pA σ k) (z_now σ) (z_now σ + 1)) = true := wk_b1 c_114
            refine lv_goto (tgt := 205) hx hb dX6_step_117 (by decide) ?_
            refine lv_iinc (v := nI (k + 1)) (lv' := [(2, .int (nI (k + 1))), (0, .ref (Y 10 0)), (1, .int ((f_bringTo (f_gath σ0) k).2))]) hx hb dX6_step_205 hl (k := 2) rfl (nI_1 _) (by decide) rfl (fun ls hl => ?_)
            refine lv_goto (tgt := 88) hx hb dX6_step_208 (by decide) ?_
            have hl : lv_has ls 4 [(2, .int (nI (k + 1))), (0, .ref (Y 10 0)), (1, .int ((f_bringTo (f_gath σ0) (k + 1)).2))] := by rw [show (f_bringTo (f_gath σ0) (k + 1)).2 = (f_bringTo (f_gath σ0) k).2 from (by simp [f_bringTo, ← heq, f_brings, e_101, e_114])]; exact hl
            exact ih_88 (k + 1) σ H locs (by omega) (by omega) (by simp [f_bringTo, ← heq, f_brings, e_101, e_114]) hA hI hS ls (lv_sub hl [1, 2, 0] rfl)
        exact L_88 _ 0 (f_gath σ0) H locs (Nat.lt_succ_self _) (Nat.zero_le _) rfl hA hI hS ls (lv_sub hl [2, 1, 0] rfl)
      have e_7 : k < (z_n σ 1) := wk_cgef (by omega) (by omega) c_7
      refine lv_iconst (v := 0) hx hb dX6_step_10 (by decide) ?_
      refine lv_aload_n hx hb dX6_step_11 rfl (lv_at hl 0 rfl) ?_
      refine wk_get (own := RX6) (C := RX6) (T := TX6) (N := 26) (ci := 7) (v := .ref (Y 11 9)) hx hb hts i_X6 hown hK hA.obj rfl 15 (by decide) (hts _ (List.mem_of_getElem? (i := 2) rfl)) (fun _ h9 => h9) rfl dX6_step_12 ?_
      refine lv_iload_n hx hb dX6_step_15 rfl (lv_at hl 1 rfl) ?_
      refine wk_iald (n := 8) (f := fun j => z_su σ j) hx hb hK hA.a9 k rfl (by have := e_7; omega) (by decide) dX6_step_16 ?_
      refine lv_aload_n hx hb dX6_step_17 rfl (lv_at hl 0 rfl) ?_
      refine wk_get (own := RX6) (C := RX6) (T := TX6) (N := 26) (ci := 7) (v := .ref (Y 11 7)) hx hb hts i_X6 hown hK hA.obj rfl 13 (by decide) (hts _ (List.mem_of_getElem? (i := 3) rfl)) (fun _ h9 => h9) rfl dX6_step_18 ?_
      refine lv_iload_n hx hb dX6_step_21 rfl (lv_at hl 1 rfl) ?_
      refine wk_iald (n := 8) (f := fun j => z_sg σ j) hx hb hK hA.a7 k rfl (by have := e_7; omega) (by decide) dX6_step_22 ?_
      refine lv_iadd hx hb dX6_step_23 ?_
      refine lv_aload_n hx hb dX6_step_24 rfl (lv_at hl 0 rfl) ?_
      refine wk_get (own := RX6) (C := RX6) (T := TX6) (N := 26) (ci := 7) (v := .ref (Y 11 8)) hx hb hts i_X6 hown hK hA.obj rfl 14 (by decide) (hts _ (List.mem_of_getElem? (i := 4) rfl)) (fun _ h9 => h9) rfl dX6_step_25 ?_
      refine lv_iload_n hx hb dX6_step_28 rfl (lv_at hl 1 rfl) ?_
      refine wk_iald (n := 8) (f := fun j => z_sm σ j) hx hb hK hA.a8 k rfl (by have := e_7; omega) (by decide) dX6_step_29 ?_
      refine lv_isub hx hb dX6_step_30 ?_
      refine va_mmax (own := RX6) hx hb (hml.trans hl.1.symm) hown (hts _ (List.mem_of_getElem? (i := 5) rfl)) (hts _ (List.mem_of_getElem? (i := 6) rfl)) (hts _ (List.mem_of_getElem? (i := 7) rfl)) (hts _ (List.mem_of_getElem? (i := 8) rfl)) (Nat.le_of_ble_eq_true rfl) (Nat.le_trans (Nat.le_of_ble_eq_true rfl : _ ≤ 21) (Nat.le_of_ble_eq_true rfl)) (Nat.zero_le _) (Nat.zero_le _) dX6_step_31 ?_
      have hu9 : 0 ≤ (z_su σ k).toInt ∧ (z_su σ k).toInt ≤ (z_sm σ k).toInt := by rw [heq]; exact gT_u hSm (by omega)
      refine wk_eqi (f_over hI e_7 hu9) ?_
      refine lv_istore_n (lv' := [(2, .int (z_sg σ k - f_kept σ k)), (0, .ref (Y 10 0)), (1, .int (nI k))]) hx hb dX6_step_34 rfl hl (by decide) rfl (fun ls hl => ?_)
      refine lv_aload_n hx hb dX6_step_35 rfl (lv_at hl 1 rfl) ?_
      refine wk_get (own := RX6) (C := RX6) (T := TX6) (N := 26) (ci := 7) (v := .ref (Y 11 9)) hx hb hts i_X6 hown hK hA.obj rfl 15 (by decide) (hts _ (List.mem_of_getElem? (i := 2) rfl)) (fun _ h9 => h9) rfl dX6_step_36 ?_
      refine lv_iload_n hx hb dX6_step_39 rfl (lv_at hl 2 rfl) ?_
      refine lv_dup2_11 hx hb dX6_step_40 rfl rfl ?_
      refine wk_iald (n := 8) (f := fun j => z_su σ j) hx hb hK hA.a9 k rfl (by have := e_7; omega) (by decide) dX6_step_41 ?_
      refine lv_aload_n hx hb dX6_step_42 rfl (lv_at hl 1 rfl) ?_
      refine wk_get (own := RX6) (C := RX6) (T := TX6) (N := 26) (ci := 7) (v := .ref (Y 11 7)) hx hb hts i_X6 hown hK hA.obj rfl 13 (by decide) (hts _ (List.mem_of_getElem? (i := 3) rfl)) (fun _ h9 => h9) rfl dX6_step_43 ?_
      refine lv_iload_n hx hb dX6_step_46 rfl (lv_at hl 2 rfl) ?_
      refine wk_iald (n := 8) (f := fun j => z_sg σ j) hx hb hK hA.a7 k rfl (by have := e_7; omega) (by decide) dX6_step_47 ?_
      refine lv_iload_n hx hb dX6_step_48 rfl (lv_at hl 0 rfl) ?_
      refine lv_isub hx hb dX6_step_49 ?_
      refine wk_eqi (f_subkept hI e_7 hu9) ?_
      refine lv_iadd hx hb dX6_step_50 ?_
      refine wk_iast (nn := 8) hx hb hK hA.a9 (Or.inl (hA.tagA (k := 9) rfl)) hS k rfl (by omega) (by decide) dX6_step_51 (fun H locs hP9 hz9 hk9 hS => ?_)
      have hA := hA.setA9 (j := k) (v := (z_su σ k) + (f_kept σ k)) hP9 hk9
      refine lv_aload_n hx hb dX6_step_52 rfl (lv_at hl 1 rfl) ?_
      refine wk_get (own := RX6) (C := RX6) (T := TX6) (N := 26) (ci := 7) (v := .ref (Y 11 10)) hx hb hts i_X6 hown hK hA.obj rfl 16 (by decide) (hts _ (List.mem_of_getElem? (i := 9) rfl)) (fun _ h9 => h9) rfl dX6_step_53 ?_
      refine lv_iload_n hx hb dX6_step_56 rfl (lv_at hl 2 rfl) ?_
      refine lv_dup2_11 hx hb dX6_step_57 rfl rfl ?_
      refine wk_iald (n := 8) (f := fun j => z_sl (s1 σ 24 k ((z_su σ k) + (f_kept σ k))) j) hx hb hK hA.a10 k rfl (by have := e_7; omega) (by decide) dX6_step_58 ?_
      refine lv_iload_n hx hb dX6_step_59 rfl (lv_at hl 0 rfl) ?_
      refine lv_iadd hx hb dX6_step_60 ?_
      refine wk_iast (nn := 8) hx hb hK hA.a10 (Or.inl (hA.tagA (k := 10) rfl)) hS k rfl (by omega) (by decide) dX6_step_61 (fun H locs hP9 hz9 hk9 hS => ?_)
      have hA := hA.setA10 (j := k) (v := (z_sl (s1 σ 24 k ((z_su σ k) + (f_kept σ k))) k) + (z_sg σ k - f_kept σ k)) hP9 hk9
      refine lv_aload_n hx hb dX6_step_62 rfl (lv_at hl 1 rfl) ?_
      refine lv_dup hx hb dX6_step_63 rfl ?_
      refine wk_get (own := RX6) (C := RX6) (T := TX6) (N := 26) (ci := 7) (v := .long g1) hx hb hts i_X6 hown hK hA.obj rfl 25 (by decide) (hts _ (List.mem_of_getElem? (i := 10) rfl)) (fun _ h9 => h9) rfl dX6_step_64 ?_
      refine lv_aload_n hx hb dX6_step_67 rfl (lv_at hl 1 rfl) ?_
      refine wk_get (own := RX6) (C := RX6) (T := TX6) (N := 26) (ci := 7) (v := .ref (Y 11 7)) hx hb hts i_X6 hown hK hA.obj rfl 13 (by decide) (hts _ (List.mem_of_getElem? (i := 3) rfl)) (fun _ h9 => h9) rfl dX6_step_68 ?_
      refine lv_iload_n hx hb dX6_step_71 rfl (lv_at hl 2 rfl) ?_
      refine wk_iald (n := 8) (f := fun j => z_sg (s1 (s1 σ 24 k ((z_su σ k) + (f_kept σ k))) 25 k ((z_sl (s1 σ 24 k ((z_su σ k) + (f_kept σ k))) k) + (z_sg σ k - f_kept σ k))) j) hx hb hK hA.a7 k rfl (by have := e_7; omega) (by decide) dX6_step_72 ?_
      refine lv_i2l (v := (z_sg (s1 (s1 σ 24 k ((z_su σ k) + (f_kept σ k))) 25 k ((z_sl (s1 σ 24 k ((z_su σ k) + (f_kept σ k))) k) + (z_sg σ k - f_kept σ k))) k).toInt64) hx hb dX6_step_73 rfl ?_
      refine lv_ladd hx hb dX6_step_74 ?_
      refine wk_put (own := RX6) (C := RX6) (T := TX6) (N := 26) (ci := 7) (v := .long (g1 + ((z_sg (s1 (s1 σ 24 k ((z_su σ k) + (f_kept σ k))) 25 k ((z_sl (s1 σ 24 k ((z_su σ k) + (f_kept σ k))) k) + (z_sg σ k - f_kept σ k))) k).toInt64))) hx hb hts i_X6 tyX6 tyX6_ok nmX6 hown hK hA.obj (Or.inl hA.tagO) hS rfl 25 (by decide) (hts _ (List.mem_of_getElem? (i := 10) rfl)) (fun _ h9 => h9) rfl (tyX6_ok 25 (by decide)) rfl rfl (Nat.le_of_ble_eq_true rfl) dX6_step_75 (fun H locs hP9 hz9 hk9 hS => ?_)
      have hA := hA.setGt hP9 hk9
      refine lv_iinc (v := nI (k + 1)) (lv' := [(1, .int (nI (k + 1))), (2, .int (z_sg σ k - f_kept σ k)), (0, .ref (Y 10 0))]) hx hb dX6_step_78 hl (k := 2) rfl (nI_1 _) (by decide) rfl (fun ls hl => ?_)
      refine lv_goto (tgt := 2) hx hb dX6_step_81 (by decide) ?_
      exact ih_2 (k + 1) (s1 (s1 σ 24 k ((z_su σ k) + (f_kept σ k))) 25 k ((z_sl (s1 σ 24 k ((z_su σ k) + (f_kept σ k))) k) + (z_sg σ k - f_kept σ k))) (g1 + ((z_sg (s1 (s1 σ 24 k ((z_su σ k) + (f_kept σ k))) 25 k ((z_sl (s1 σ 24 k ((z_su σ k) + (f_kept σ k))) k) + (z_sg σ k - f_kept σ k))) k).toInt64)) H locs (by omega) (by omega) (by rw [heq]; rfl) (by rw [heqg, heq]; exact congrArg (fun z => f_gsum σ0 gt k + Int32.toInt64 z) (gT_c σ0 k k).1) hA hI hS ls (lv_sub hl [2, 0] rfl)
  exact L_2 _ 0 σ0 gt s.heap ([]) (Nat.lt_succ_self _) (Nat.zero_le _) rfl rfl hA hI hS ls (lv_sub hl [1, 0] rfl)
