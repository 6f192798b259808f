abbrev rme_X6_digest : Room := { frames := 5, cells := 0, slots := 0, locals := 110 }
set_option maxHeartbeats 4000000 in
set_option maxRecDepth 100000 in
theorem e_X6_digest (l : Launch) (E : wk_E) {T : Nat → Nat × Nat} {Y : Nat → Nat → Nat} {σ : z_S} {th : Int32} {gt : Int64} {H : Heap} (hA : MA E T Y σ th gt H) (hI : z_Ok σ) (hSm : z_Sm σ) : we_Met l yX6_digest wsX6_digest rme_X6_digest E H [.ref (Y 10 0)] (z_FM T) 0 0 (fun v H1 => v = some (.long (f_digest σ)) ∧ MA E T Y σ 0 gt H1) := by
  refine Met.ofW (cc := cX6_digest) (maxL := 5) (ret := (some .long)) (by decide) rfl ?_
  intro p e s m args below meth c s₁ B hml hv
  obtain ⟨rfl, hH, hV⟩ := hv
  subst hH
  have hK := hV.k
  have hx := B.exec
  have hb := B.bytes
  have hr := B.returns
  have hts := atoms_spec (ws := wsX6_digest) B.pre
  have hown : s.vm.findClass RX6 = some m.cls := findClass_of_methodNamed B.named
  have hlocks := B.notSynchronized
  have hS : va_S (fun q => (z_FM T) q ∨ s.heap.size ≤ q) s.heap s.heap [] := va_S.rf
  have hA9 : ∀ q : Nat, s.heap.size ≤ q → ((z_FM T) q ∨ s.heap.size ≤ q) := fun _ h => Or.inr h
  have hbA : ∀ q : Nat, q < E.2.2.1 → ¬ ((z_FM T) q ∨ s.heap.size ≤ q) := fun q hq z => z.elim (z_FMb hA.2 hq) (fun z => absurd (Nat.lt_of_lt_of_le hq hV.2.2.2.2.2.2) (Nat.not_lt.mpr z))
  have i_X6 : ∀ w ∈ u_ws RX6 TX6 26, w ∈ wsX6_digest := fun w h => (List.mem_cons_of_mem _ (List.mem_append_right _ h))
  have hl := lv_entry [.ref (Y 10 0)] (n := 5) (Nat.le_of_ble_eq_true rfl)
  rw [lg_entry_eq]
  generalize (lg_sl [.ref (Y 10 0)] ++ List.replicate (5 - (lg_sl [.ref (Y 10 0)]).length) Slot.unset).toArray = ls at hl ⊢
  have hl : lv_has ls 5 [(0, .ref (Y 10 0))] := hl
  have b0 := hI.n0
  have b1 := hI.n1
  have b2 := hI.n2
  have b3 := hI.n3
  refine lv_aload_n hx hb dX6_digest_0 rfl (lv_at hl 0 rfl) ?_
  refine lv_iconst (v := 0) hx hb dX6_digest_1 (by decide) ?_
  refine wk_put (own := RX6) (C := RX6) (T := TX6) (N := 26) (ci := 7) (v := .int 0) hx hb hts i_X6 tyX6 tyX6_ok nmX6 hown hK hA.obj (Or.inl hA.tagO) hS rfl 0 (by decide) (hts _ (List.mem_of_getElem? (i := 1) rfl)) (fun _ h9 => h9) rfl (tyX6_ok 0 (by decide)) rfl rfl (Nat.le_of_ble_eq_true rfl) dX6_digest_2 (fun H locs hP9 hz9 hk9 hS => ?_)
  have hA := hA.setTh hP9 hk9
  refine lv_ldc2 (own := RX6) (v := (7037)) hx hb hown (hts _ (List.mem_of_getElem? (i := 2) rfl)) dX6_digest_5 ?_
  refine lv_aload_n hx hb dX6_digest_8 rfl (lv_at hl 0 rfl) ?_
  refine wk_get (own := RX6) (C := RX6) (T := TX6) (N := 26) (ci := 7) (v := .int (z_now σ)) hx hb hts i_X6 hown hK hA.obj rfl 1 (by decide) (hts _ (List.mem_of_getElem? (i := 3) rfl)) (fun _ h9 => h9) rfl dX6_digest_9 ?_
  refine lv_i2l (v := (z_now σ).toInt64) hx hb dX6_digest_12 rfl ?_
  refine lv_ladd hx hb dX6_digest_13 ?_
  refine lv_ldc2 (own := RX6) (v := (31)) hx hb hown (hts _ (List.mem_of_getElem? (i := 4) rfl)) dX6_digest_14 ?_
  refine lv_lmul hx hb dX6_digest_17 ?_
  refine lv_aload_n hx hb dX6_digest_18 rfl (lv_at hl 0 rfl) ?_
  refine wk_get (own := RX6) (C := RX6) (T := TX6) (N := 26) (ci := 7) (v := .int (z_ho σ)) hx hb hts i_X6 hown hK hA.obj rfl 2 (by decide) (hts _ (List.mem_of_getElem? (i := 5) rfl)) (fun _ h9 => h9) rfl dX6_digest_19 ?_
  refine lv_i2l (v := (z_ho σ).toInt64) hx hb dX6_digest_22 rfl ?_
  refine lv_ladd hx hb dX6_digest_23 ?_
  refine lv_ldc2 (own := RX6) (v := (31)) hx hb hown (hts _ (List.mem_of_getElem? (i := 4) rfl)) dX6_digest_24 ?_
  refine lv_lmul hx hb dX6_digest_27 ?_
  refine lv_aload_n hx hb dX6_digest_28 rfl (lv_at hl 0 rfl) ?_
  refine wk_get (own := RX6) (C := RX6) (T := TX6) (N := 26) (ci := 7) (v := .int (nI (z_n σ 0))) hx hb hts i_X6 hown hK hA.obj rfl 3 (by decide) (hts _ (List.mem_of_getElem? (i := 6) rfl)) (fun _ h9 => h9) rfl dX6_digest_29 ?_
  refine lv_i2l (v := (nI (z_n σ 0)).toInt64) hx hb dX6_digest_32 rfl ?_
  refine lv_ladd hx hb dX6_digest_33 ?_
  refine wk_eql (f_dig0m σ) ?_
  refine lv_lstore_n (lv' := [(1, .long (f_dig0 σ)), (0, .ref (Y 10 0))]) hx hb dX6_digest_34 rfl hl (by decide) rfl (fun ls hl => ?_)
  refine lv_iconst (v := 0) hx hb dX6_digest_35 (by decide) ?_
  refine lv_istore_n (lv' := [(3, .int 0), (1, .long (f_dig0 σ)), (0, .ref (Y 10 0))]) hx hb dX6_digest_36 rfl hl (by decide) rfl (fun ls hl => ?_)
  have L_37 : ∀ (n_37 : Nat) (k : Nat), z_n σ 0 - k < n_37 → (k ≤ z_n σ 0) → ∀ ls : Array Slot, lv_has ls 5 [(0, .ref (Y 10 0)), (1, .long (f_fold2 (f_ant σ) 4 (f_dig0 σ) k)), (3, .int (nI k))] → W p l e (headSpec wsX6_digest rme_X6_digest).room s m ([.ref (Y 10 0)] : List Value).toArray below meth c H locs 0 0 (MQ below (fun _ _ oc t => (∃ v, oc = .returned v ∧ (fun v H1 => v = some (.long (f_digest σ)) ∧ MA E T Y σ 0 gt H1) v t.heap) ∧ s.heap.size ≤ t.heap.size ∧ ∀ q : Nat, q < s.heap.size → ¬ (z_FM T) q → t.heap[q]? = s.heap[q]?) ([.ref (Y 10 0)] : List Value).toArray s 0 0 (fun q => (z_FM T) q ∨ s.heap.size ≤ q)) (F0 m 37 ls []) := by
    intro n_37
    induction n_37 with
    | zero => intro k hm; exact absurd hm (Nat.not_lt_zero _)
    | succ n_37 ih_37 =>
      intro k hm_37 hk_k ls hl
      refine lv_iload_n hx hb dX6_digest_37 rfl (lv_at hl 2 rfl) ?_
      refine lv_aload_n hx hb dX6_digest_38 rfl (lv_at hl 0 rfl) ?_
      refine wk_get (own := RX6) (C := RX6) (T := TX6) (N := 26) (ci := 7) (v := .int (nI (z_n σ 0))) hx hb hts i_X6 hown hK hA.obj rfl 3 (by decide) (hts _ (List.mem_of_getElem? (i := 6) rfl)) (fun _ h9 => h9) rfl dX6_digest_39 ?_
      refine lv_icmp_ge (tgt := 81) hx hb dX6_digest_42 (by decide) (fun c_42 => ?_) (fun c_42 => ?_)
      · skip
        have e_42 : (z_n σ 0) ≤ k := wk_cget (by omega) (by omega) c_42
        have hkN : k = z_n σ 0 := by omega
        refine lv_lload_n hx hb dX6_digest_81 rfl (lv_at hl 1 rfl) ?_
        refine lv_ldc2 (own := RX6) (v := (31)) hx hb hown (hts _ (List.mem_of_getElem? (i := 4) rfl)) dX6_digest_82 ?_
        refine lv_lmul hx hb dX6_digest_85 ?_
        refine lv_aload_n hx hb dX6_digest_86 rfl (lv_at hl 0 rfl) ?_
        refine wk_get (own := RX6) (C := RX6) (T := TX6) (N := 26) (ci := 7) (v := .int (nI (z_n σ 1))) hx hb hts i_X6 hown hK hA.obj rfl 10 (by decide) (hts _ (List.mem_of_getElem? (i := 7) rfl)) (fun _ h9 => h9) rfl dX6_digest_87 ?_
        refine lv_i2l (v := (nI (z_n σ 1)).toInt64) hx hb dX6_digest_90 rfl ?_
        refine lv_ladd hx hb dX6_digest_91 ?_
        refine wk_eql (show ((f_fold2 (f_ant σ) 4 (f_dig0 σ) k) * (31)) + ((nI (z_n σ 1)).toInt64) = f_dig1 σ from by rw [hkN]; rfl) ?_
        refine lv_lstore_n (lv' := [(1, .long (f_dig1 σ)), (0, .ref (Y 10 0)), (3, .int (nI k))]) hx hb dX6_digest_92 rfl hl (by decide) rfl (fun ls hl => ?_)
        refine lv_iconst (v := 0) hx hb dX6_digest_93 (by decide) ?_
        refine lv_istore_n (lv' := [(3, .int 0), (1, .long (f_dig1 σ)), (0, .ref (Y 10 0))]) hx hb dX6_digest_94 rfl hl (by decide) rfl (fun ls hl => ?_)
        have L_95 : ∀ (n_95 : Nat) (k : Nat), z_n σ 1 - k < n_95 → (k ≤ z_n σ 1) → ∀ ls : Array Slot, lv_has ls 5 [(0, .ref (Y 10 0)), (1, .long (f_fold2 (f_sat σ) 4 (f_dig1 σ) k)), (3, .int (nI k))] → W p l e (headSpec wsX6_digest rme_X6_digest).room s m ([.ref (Y 10 0)] : List Value).toArray below meth c H locs 0 0 (MQ below (fun _ _ oc t => (∃ v, oc = .returned v ∧ (fun v H1 => v = some (.long (f_digest σ)) ∧ MA E T Y σ 0 gt H1) v t.heap) ∧ s.heap.size ≤ t.heap.size ∧ ∀ q : Nat, q < s.heap.size → ¬ (z_FM T) q → t.heap[q]? = s.heap[q]?) ([.ref (Y 10 0)] : List Value).toArray s 0 0 (fun q => (z_FM T) q ∨ s.heap.size ≤ q)) (F0 m 95 ls []) := by
          intro n_95
          induction n_95 with
          | zero => intro k hm; exact absurd hm (Nat.not_lt_zero _)
          | succ n_95 ih_95 =>
            intro k hm_95 hk_k ls hl
            refine lv_iload_n hx hb dX6_digest_95 rfl (lv_at hl 2 rfl) ?_
            refine lv_aload_n hx hb dX6_digest_96 rfl (lv_at hl 0 rfl) ?_
            refine wk_get (own := RX6) (C := RX6) (T := TX6) (N := 26) (ci := 7) (v := .int (nI (z_n σ 1))) hx hb hts i_X6 hown hK hA.obj rfl 10 (by decide) (hts _ (List.mem_of_getElem? (i := 7) rfl)) (fun _ h9 => h9) rfl dX6_digest_97 ?_
            refine lv_icmp_ge (tgt := 139) hx hb dX6_digest_100 (by decide) (fun c_100 => ?_) (fun c_100 => ?_)
            · skip
              have e_100 : (z_n σ 1) ≤ k := wk_cget (by omega) (by omega) c_100
              have hkN : k = z_n σ 1 := by omega
              refine lv_lload_n hx hb dX6_digest_139 rfl (lv_at hl 1 rfl) ?_
              refine lv_ldc2 (own := RX6) (v := (31)) hx hb hown (hts _ (List.mem_of_getElem? (i := 4) rfl)) dX6_digest_140 ?_
              refine lv_lmul hx hb dX6_digest_143 ?_
              refine lv_aload_n hx hb dX6_digest_144 rfl (lv_at hl 0 rfl) ?_
              refine wk_get (own := RX6) (C := RX6) (T := TX6) (N := 26) (ci := 7) (v := .int (nI (z_n σ 2))) hx hb hts i_X6 hown hK hA.obj rfl 18 (by decide) (hts _ (List.mem_of_getElem? (i := 8) rfl)) (fun _ h9 => h9) rfl dX6_digest_145 ?_
              refine lv_i2l (v := (nI (z_n σ 2)).toInt64) hx hb dX6_digest_148 rfl ?_
              refine lv_ladd hx hb dX6_digest_149 ?_
              refine wk_eql (show ((f_fold2 (f_sat σ) 4 (f_dig1 σ) k) * (31)) + ((nI (z_n σ 2)).toInt64) = f_dig2 σ from by rw [hkN]; rfl) ?_
              refine lv_lstore_n (lv' := [(1, .long (f_dig2 σ)), (0, .ref (Y 10 0)), (3, .int (nI k))]) hx hb dX6_digest_150 rfl hl (by decide) rfl (fun ls hl => ?_)
              refine lv_iconst (v := 0) hx hb dX6_digest_151 (by decide) ?_
              refine lv_istore_n (lv' := [(3, .int 0), (1, .long (f_dig2 σ)), (0, .ref (Y 10 0))]) hx hb dX6_digest_152 rfl hl (by decide) rfl (fun ls hl => ?_)
              have L_153 : ∀ (n_153 : Nat) (k : Nat), z_n σ 2 - k < n_153 → (k ≤ z_n σ 2) → ∀ ls : Array Slot, lv_has ls 5 [(0, .ref (Y 10 0)), (1, .long (f_fold2 (f_pass σ) 8 (f_dig2 σ) k)), (3, .int (nI k))] → W p l e (headSpec wsX6_digest rme_X6_digest).room s m ([.ref (Y 10 0)] : List Value).toArray below meth c H locs 0 0 (MQ below (fun _ _ oc t => (∃ v, oc = .returned v ∧ (fun v H1 => v = some (.long (f_digest σ)) ∧ MA E T Y σ 0 gt H1) v t.heap) ∧ s.heap.size ≤ t.heap.size ∧ ∀ q : Nat, q < s.heap.size → ¬ (z_FM T) q → t.heap[q]? = s.heap[q]?) ([.ref (Y 10 0)] : List Value).toArray s 0 0 (fun q => (z_FM T) q ∨ s.heap.size ≤ q)) (F0 m 153 ls []) := by
                intro n_153
                induction n_153 with
                | zero => intro k hm; exact absurd hm (Nat.not_lt_zero _)
                | succ n_153 ih_153 =>
                  intro k hm_153 hk_k ls hl
                  refine lv_iload_n hx hb dX6_digest_153 rfl (lv_at hl 2 rfl) ?_
                  refine lv_aload_n hx hb dX6_digest_154 rfl (lv_at hl 0 rfl) ?_
                  refine wk_get (own := RX6) (C := RX6) (T := TX6) (N := 26) (ci := 7) (v := .int (nI (z_n σ 2))) hx hb hts i_X6 hown hK hA.obj rfl 18 (by decide) (hts _ (List.mem_of_getElem? (i := 8) rfl)) (fun _ h9 => h9) rfl dX6_digest_155 ?_
                  refine lv_icmp_ge (tgt := 198) hx hb dX6_digest_158 (by decide) (fun c_158 => ?_) (fun c_158 => ?_)
                  · skip
                    have e_158 : (z_n σ 2) ≤ k := wk_cget (by omega) (by omega) c_158
                    have hkN : k = z_n σ 2 := by omega
                    refine lv_lload_n hx hb dX6_digest_198 rfl (lv_at hl 1 rfl) ?_
                    exact W.lret hx hb hr (we_end (Rt := fun v H1 => v = some (.long (f_digest σ)) ∧ MA E T Y σ 0 gt H1) (F := z_FM T) (⟨by rw [hkN]; rfl, hA⟩) hS) hS.2.2 dX6_digest_199
                  have e_158 : k < (z_n σ 2) := wk_cgef (by omega) (by omega) c_158
                  refine lv_iconst (v := 0) hx hb dX6_digest_161 (by decide) ?_
                  refine lv_istore (lv' := [(4, .int 0), (0, .ref (Y 10 0)), (1, .long (f_fold2 (f_pass σ) 8 (f_dig2 σ) k)), (3, .int (nI k))]) hx hb dX6_digest_162 hl (by decide) rfl (fun ls hl => ?_)
                  have L_164 : ∀ (n_164 : Nat) (w : Nat), 8 - w < n_164 → (w ≤ 8) → ∀ ls : Array Slot, lv_has ls 5 [(0, .ref (Y 10 0)), (1, .long (f_fold (f_pass σ k) (f_fold2 (f_pass σ) 8 (f_dig2 σ) k) w)), (3, .int (nI k)), (4, .int (nI w))] → W p l e (headSpec wsX6_digest rme_X6_digest).room s m ([.ref (Y 10 0)] : List Value).toArray below meth c H locs 0 0 (MQ below (fun _ _ oc t => (∃ v, oc = .returned v ∧ (fun v H1 => v = some (.long (f_digest σ)) ∧ MA E T Y σ 0 gt H1) v t.heap) ∧ s.heap.size ≤ t.heap.size ∧ ∀ q : Nat, q < s.heap.size → ¬ (z_FM T) q → t.heap[q]? = s.heap[q]?) ([.ref (Y 10 0)] : List Value).toArray s 0 0 (fun q => (z_FM T) q ∨ s.heap.size ≤ q)) (F0 m 164 ls []) := by
                    intro n_164
                    induction n_164 with
                    | zero => intro w hm; exact absurd hm (Nat.not_lt_zero _)
                    | succ n_164 ih_164 =>
                      intro w hm_164 hk_w ls hl
                      refine lv_iload hx hb dX6_digest_164 (lv_at hl 3 rfl) ?_
                      refine lv_bipush (v := 8) hx hb dX6_digest_166 (by decide) ?_
                      refine lv_icmp_ge (tgt := 192) hx hb dX6_digest_168 (by decide) (fun c_168 => ?_) (fun c_168 => ?_)
                      · skip
                        have e_168 : 8 ≤ w := wk_cget (by omega) (by omega) c_168
                        have hkw_164 : w = 8 := by omega
                        refine lv_iinc (v := nI (k + 1)) (lv' := [(3, .int (nI (k + 1))), (0, .ref (Y 10 0)), (1, .long (f_fold (f_pass σ k) (f_fold2 (f_pass σ) 8 (f_dig2 σ) k) w)), (4, .int (nI w))]) hx hb dX6_digest_192 hl (k := 2) rfl (nI_1 _) (by decide) rfl (fun ls hl => ?_)
                        refine lv_goto (tgt := 153) hx hb dX6_digest_195 (by decide) ?_
                        have hl : lv_has ls 5 [(3, .int (nI (k + 1))), (0, .ref (Y 10 0)), (1, .long (f_fold2 (f_pass σ) 8 (f_dig2 σ) (k + 1))), (4, .int (nI w))] := by rw [show f_fold2 (f_pass σ) 8 (f_dig2 σ) (k + 1) = f_fold (f_pass σ k) (f_fold2 (f_pass σ) 8 (f_dig2 σ) k) w from (by rw [hkw_164]; rfl)]; exact hl
                        exact ih_153 (k + 1) (by omega) (by omega) ls (lv_sub hl [1, 2, 0] rfl)
                      have e_168 : w < 8 := wk_cgef (by omega) (by omega) c_168
                      refine lv_lload_n hx hb dX6_digest_171 rfl (lv_at hl 1 rfl) ?_
                      refine lv_ldc2 (own := RX6) (v := (31)) hx hb hown (hts _ (List.mem_of_getElem? (i := 4) rfl)) dX6_digest_172 ?_
                      refine lv_lmul hx hb dX6_digest_175 ?_
                      refine lv_aload_n hx hb dX6_digest_176 rfl (lv_at hl 0 rfl) ?_
                      refine lv_iload_n hx hb dX6_digest_177 rfl (lv_at hl 2 rfl) ?_
                      refine lv_iload hx hb dX6_digest_178 (lv_at hl 3 rfl) ?_
                      refine wk_V (As := [.int (nI k), .int (nI w)]) (rest := [.long ((f_fold (f_pass σ k) (f_fold2 (f_pass σ) 8 (f_dig2 σ) k) w) * (31))]) ⟨hx, hb, hml, hown, hts⟩ (c_X6_told l E hA hI e_158 (by omega)) (cwV 2 hts gX6_digest_X6_told rfl rfl rfl (by decide +kernel) ⟨(Nat.le_of_ble_eq_true rfl), (Nat.le_of_ble_eq_true rfl)⟩) (wk_recv hK hA.obj rfl) hK rfl hl.1 rfl (Nat.le_of_ble_eq_true rfl) dX6_digest_180 ⟨Nat.zero_le _, Nat.zero_le _⟩ ?_
                      refine lv_i2l (v := (f_pass σ k w).toInt64) hx hb dX6_digest_183 rfl ?_
                      refine lv_ladd hx hb dX6_digest_184 ?_
                      refine lv_lstore_n (lv' := [(1, .long (((f_fold (f_pass σ k) (f_fold2 (f_pass σ) 8 (f_dig2 σ) k) w) * (31)) + ((f_pass σ k w).toInt64))), (0, .ref (Y 10 0)), (3, .int (nI k)), (4, .int (nI w))]) hx hb dX6_digest_185 rfl hl (by decide) rfl (fun ls hl => ?_)
                      refine lv_iinc (v := nI (w + 1)) (lv' := [(4, .int (nI (w + 1))), (1, .long (((f_fold (f_pass σ k) (f_fold2 (f_pass σ) 8 (f_dig2 σ) k) w) * (31)) + ((f_pass σ k w).toInt64))), (0, .ref (Y 10 0)), (3, .int (nI k))]) hx hb dX6_digest_186 hl (k := 3) rfl (nI_1 _) (by decide) rfl (fun ls hl => ?_)
                      refine lv_goto (tgt := 164) hx hb dX6_digest_189 (by decide) ?_
                      have hl : lv_has ls 5 [(4, .int (nI (w + 1))), (1, .long (f_fold (f_pass σ k) (f_fold2 (f_pass σ) 8 (f_dig2 σ) k) (w + 1))), (0, .ref (Y 10 0)), (3, .int (nI k))] := by rw [show f_fold (f_pass σ k) (f_fold2 (f_pass σ) 8 (f_dig2 σ) k) (w + 1) = ((f_fold (f_pass σ k) (f_fold2 (f_pass σ) 8 (f_dig2 σ) k) w) * (31)) + ((f_pass σ k w).toInt64) from rfl]; exact hl
                      exact ih_164 (w + 1) (by omega) (by omega) ls (lv_sub hl [2, 1, 3, 0] rfl)
                  exact L_164 _ 0 (Nat.lt_succ_self _) (Nat.zero_le _) ls (lv_sub hl [1, 2, 3, 0] rfl)
              exact L_153 _ 0 (Nat.lt_succ_self _) (Nat.zero_le _) ls (lv_sub hl [2, 1, 0] rfl)
            have e_100 : k < (z_n σ 1) := wk_cgef (by omega) (by omega) c_100
            refine lv_iconst (v := 0) hx hb dX6_digest_103 (by decide) ?_
            refine lv_istore (lv' := [(4, .int 0), (0, .ref (Y 10 0)), (1, .long (f_fold2 (f_sat σ) 4 (f_dig1 σ) k)), (3, .int (nI k))]) hx hb dX6_digest_104 hl (by decide) rfl (fun ls hl => ?_)
            have L_106 : ∀ (n_106 : Nat) (w : Nat), 4 - w < n_106 → (w ≤ 4) → ∀ ls : Array Slot, lv_has ls 5 [(0, .ref (Y 10 0)), (1, .long (f_fold (f_sat σ k) (f_fold2 (f_sat σ) 4 (f_dig1 σ) k) w)), (3, .int (nI k)), (4, .int (nI w))] → W p l e (headSpec wsX6_digest rme_X6_digest).room s m ([.ref (Y 10 0)] : List Value).toArray below meth c H locs 0 0 (MQ below (fun _ _ oc t => (∃ v, oc = .returned v ∧ (fun v H1 => v = some (.long (f_digest σ)) ∧ MA E T Y σ 0 gt H1) v t.heap) ∧ s.heap.size ≤ t.heap.size ∧ ∀ q : Nat, q < s.heap.size → ¬ (z_FM T) q → t.heap[q]? = s.heap[q]?) ([.ref (Y 10 0)] : List Value).toArray s 0 0 (fun q => (z_FM T) q ∨ s.heap.size ≤ q)) (F0 m 106 ls []) := by
              intro n_106
              induction n_106 with
              | zero => intro w hm; exact absurd hm (Nat.not_lt_zero _)
              | succ n_106 ih_106 =>
                intro w hm_106 hk_w ls hl
                refine lv_iload hx hb dX6_digest_106 (lv_at hl 3 rfl) ?_
                refine lv_iconst (v := 4) hx hb dX6_digest_108 (by decide) ?_
                refine lv_icmp_ge (tgt := 133) hx hb dX6_digest_109 (by decide) (fun c_109 => ?_) (fun c_109 => ?_)
                · skip
                  have e_109 : 4 ≤ w := wk_cget (by omega) (by omega) c_109
                  have hkw_106 : w = 4 := by omega
                  refine lv_iinc (v := nI (k + 1)) (lv' := [(3, .int (nI (k + 1))), (0, .ref (Y 10 0)), (1, .long (f_fold (f_sat σ k) (f_fold2 (f_sat σ) 4 (f_dig1 σ) k) w)), (4, .int (nI w))]) hx hb dX6_digest_133 hl (k := 2) rfl (nI_1 _) (by decide) rfl (fun ls hl => ?_)
                  refine lv_goto (tgt := 95) hx hb dX6_digest_136 (by decide) ?_
                  have hl : lv_has ls 5 [(3, .int (nI (k + 1))), (0, .ref (Y 10 0)), (1, .long (f_fold2 (f_sat σ) 4 (f_dig1 σ) (k + 1))), (4, .int (nI w))] := by rw [show f_fold2 (f_sat σ) 4 (f_dig1 σ) (k + 1) = f_fold (f_sat σ k) (f_fold2 (f_sat σ) 4 (f_dig1 σ) k) w from (by rw [hkw_106]; rfl)]; exact hl
                  exact ih_95 (k + 1) (by omega) (by omega) ls (lv_sub hl [1, 2, 0] rfl)
                have e_109 : w < 4 := wk_cgef (by omega) (by omega) c_109
                refine lv_lload_n hx hb dX6_digest_112 rfl (lv_at hl 1 rfl) ?_
                refine lv_ldc2 (own := RX6) (v := (31)) hx hb hown (hts _ (List.mem_of_getElem? (i := 4) rfl)) dX6_digest_113 ?_
                refine lv_lmul hx hb dX6_digest_116 ?_
                refine lv_aload_n hx hb dX6_digest_117 rfl (lv_at hl 0 rfl) ?_
                refine lv_iload_n hx hb dX6_digest_118 rfl (lv_at hl 2 rfl) ?_
                refine lv_iload hx hb dX6_digest_119 (lv_at hl 3 rfl) ?_
                refine wk_V (As := [.int (nI k), .int (nI w)]) (rest := [.long ((f_fold (f_sat σ k) (f_fold2 (f_sat σ) 4 (f_dig1 σ) k) w) * (31))]) ⟨hx, hb, hml, hown, hts⟩ (c_X6_known l E hA hI e_100 (by omega) hSm) (cwV 2 hts gX6_digest_X6_known rfl rfl rfl (by decide +kernel) ⟨(Nat.le_of_ble_eq_true rfl), (Nat.le_of_ble_eq_true rfl)⟩) (wk_recv hK hA.obj rfl) hK rfl hl.1 rfl (Nat.le_of_ble_eq_true rfl) dX6_digest_121 ⟨Nat.zero_le _, Nat.zero_le _⟩ ?_
                refine lv_i2l (v := (f_sat σ k w).toInt64) hx hb dX6_digest_124 rfl ?_
                refine lv_ladd hx hb dX6_digest_125 ?_
                refine lv_lstore_n (lv' := [(1, .long (((f_fold (f_sat σ k) (f_fold2 (f_sat σ) 4 (f_dig1 σ) k) w) * (31)) + ((f_sat σ k w).toInt64))), (0, .ref (Y 10 0)), (3, .int (nI k)), (4, .int (nI w))]) hx hb dX6_digest_126 rfl hl (by decide) rfl (fun ls hl => ?_)
                refine lv_iinc (v := nI (w + 1)) (lv' := [(4, .int (nI (w + 1))), (1, .long (((f_fold (f_sat σ k) (f_fold2 (f_sat σ) 4 (f_dig1 σ) k) w) * (31)) + ((f_sat σ k w).toInt64))), (0, .ref (Y 10 0)), (3, .int (nI k))]) hx hb dX6_digest_127 hl (k := 3) rfl (nI_1 _) (by decide) rfl (fun ls hl => ?_)
                refine lv_goto (tgt := 106) hx hb dX6_digest_130 (by decide) ?_
                have hl : lv_has ls 5 [(4, .int (nI (w + 1))), (1, .long (f_fold (f_sat σ k) (f_fold2 (f_sat σ) 4 (f_dig1 σ) k) (w + 1))), (0, .ref (Y 10 0)), (3, .int (nI k))] := by rw [show f_fold (f_sat σ k) (f_fold2 (f_sat σ) 4 (f_dig1 σ) k) (w + 1) = ((f_fold (f_sat σ k) (f_fold2 (f_sat σ) 4 (f_dig1 σ) k) w) * (31)) + ((f_sat σ k w).toInt64) from rfl]; exact hl
                exact ih_106 (w + 1) (by omega) (by omega) ls (lv_sub hl [2, 1, 3, 0] rfl)
            exact L_106 _ 0 (Nat.lt_succ_self _) (Nat.zero_le _) ls (lv_sub hl [1, 2, 3, 0] rfl)
        exact L_95 _ 0 (Nat.lt_succ_self _) (Nat.zero_le _) ls (lv_sub hl [2, 1, 0] rfl)
      have e_42 : k < (z_n σ 0) := wk_cgef (by omega) (by omega) c_42
      refine lv_iconst (v := 0) hx hb dX6_digest_45 (by decide) ?_
      refine lv_istore (lv' := [(4, .int 0), (0, .ref (Y 10 0)), (1, .long (f_fold2 (f_ant σ) 4 (f_dig0 σ) k)), (3, .int (nI k))]) hx hb dX6_digest_46 hl (by decide) rfl (fun ls hl => ?_)
      have L_48 : ∀ (n_48 : Nat) (w : Nat), 4 - w < n_48 → (w ≤ 4) → ∀ ls : Array Slot, lv_has ls 5 [(0, .ref (Y 10 0)), (1, .long (f_fold (f_ant σ k) (f_fold2 (f_ant σ) 4 (f_dig0 σ) k) w)), (3, .int (nI k)), (4, .int (nI w))] → W p l e (headSpec wsX6_digest rme_X6_digest).room s m ([.ref (Y 10 0)] : List Value).toArray below meth c H locs 0 0 (MQ below (fun _ _ oc t => (∃ v, oc = .returned v ∧ (fun v H1 => v = some (.long (f_digest σ)) ∧ MA E T Y σ 0 gt H1) v t.heap) ∧ s.heap.size ≤ t.heap.size ∧ ∀ q : Nat, q < s.heap.size → ¬ (z_FM T) q → t.heap[q]? = s.heap[q]?) ([.ref (Y 10 0)] : List Value).toArray s 0 0 (fun q => (z_FM T) q ∨ s.heap.size ≤ q)) (F0 m 48 ls []) := by
        intro n_48
        induction n_48 with
        | zero => intro w hm; exact absurd hm (Nat.not_lt_zero _)
        | succ n_48 ih_48 =>
          intro w hm_48 hk_w ls hl
          refine lv_iload hx hb dX6_digest_48 (lv_at hl 3 rfl) ?_
          refine lv_iconst (v := 4) hx hb dX6_digest_50 (by decide) ?_
          refine lv_icmp_ge (tgt := 75) hx hb dX6_digest_51 (by decide) (fun c_51 => ?_) (fun c_51 => ?_)
          · skip
            have e_51 : 4 ≤ w := wk_cget (by omega) (by omega) c_51
            have hkw_48 : w = 4 := by omega
            refine lv_iinc (v := nI (k + 1)) (lv' := [(3, .int (nI (k + 1))), (0, .ref (Y 10 0)), (1, .long (f_fold (f_ant σ k) (f_fold2 (f_ant σ) 4 (f_dig0 σ) k) w)), (4, .int (nI w))]) hx hb dX6_digest_75 hl (k := 2) rfl (nI_1 _) (by decide) rfl (fun ls hl => ?_)
            refine lv_goto (tgt := 37) hx hb dX6_digest_78 (by decide) ?_
            have hl : lv_has ls 5 [(3, .int (nI (k + 1))), (0, .ref (Y 10 0)), (1, .long (f_fold2 (f_ant σ) 4 (f_dig0 σ) (k + 1))), (4, .int (nI w))] := by rw [show f_fold2 (f_ant σ) 4 (f_dig0 σ) (k + 1) = f_fold (f_ant σ k) (f_fold2 (f_ant σ) 4 (f_dig0 σ) k) w from (by rw [hkw_48]; rfl)]; exact hl
            exact ih_37 (k + 1) (by omega) (by omega) ls (lv_sub hl [1, 2, 0] rfl)
          have e_51 : w < 4 := wk_cgef (by omega) (by omega) c_51
          refine lv_lload_n hx hb dX6_digest_54 rfl (lv_at hl 1 rfl) ?_
          refine lv_ldc2 (own := RX6) (v := (31)) hx hb hown (hts _ (List.mem_of_getElem? (i := 4) rfl)) dX6_digest_55 ?_
          refine lv_lmul hx hb dX6_digest_58 ?_
          refine lv_aload_n hx hb dX6_digest_59 rfl (lv_at hl 0 rfl) ?_
          refine lv_iload_n hx hb dX6_digest_60 rfl (lv_at hl 2 rfl) ?_
          refine lv_iload hx hb dX6_digest_61 (lv_at hl 3 rfl) ?_
          refine wk_V (As := [.int (nI k), .int (nI w)]) (rest := [.long ((f_fold (f_ant σ k) (f_fold2 (f_ant σ) 4 (f_dig0 σ) k) w) * (31))]) ⟨hx, hb, hml, hown, hts⟩ (c_X6_seen l E hA hI e_42 (by omega)) (cwV 2 hts gX6_digest_X6_seen rfl rfl rfl (by decide +kernel) ⟨(Nat.le_of_ble_eq_true rfl), (Nat.le_of_ble_eq_true rfl)⟩) (wk_recv hK hA.obj rfl) hK rfl hl.1 rfl (Nat.le_of_ble_eq_true rfl) dX6_digest_63 ⟨Nat.zero_le _, Nat.zero_le _⟩ ?_
          refine lv_i2l (v := (f_ant σ k w).toInt64) hx hb dX6_digest_66 rfl ?_
          refine lv_ladd hx hb dX6_digest_67 ?_
          refine lv_lstore_n (lv' := [(1, .long (((f_fold (f_ant σ k) (f_fold2 (f_ant σ) 4 (f_dig0 σ) k) w) * (31)) + ((f_ant σ k w).toInt64))), (0, .ref (Y 10 0)), (3, .int (nI k)), (4, .int (nI w))]) hx hb dX6_digest_68 rfl hl (by decide) rfl (fun ls hl => ?_)
          refine lv_iinc (v := nI (w + 1)) (lv' := [(4, .int (nI (w + 1))), (1, .long (((f_fold (f_ant σ k) (f_fold2 (f_ant σ) 4 (f_dig0 σ) k) w) * (31)) + ((f_ant σ k w).toInt64))), (0, .ref (Y 10 0)), (3, .int (nI k))]) hx hb dX6_digest_69 hl (k := 3) rfl (nI_1 _) (by decide) rfl (fun ls hl => ?_)
          refine lv_goto (tgt := 48) hx hb dX6_digest_72 (by decide) ?_
          have hl : lv_has ls 5 [(4, .int (nI (w + 1))), (1, .long (f_fold (f_ant σ k) (f_fold2 (f_ant σ) 4 (f_dig0 σ) k) (w + 1))), (0, .ref (Y 10 0)), (3, .int (nI k))] := by rw [show f_fold (f_ant σ k) (f_fold2 (f_ant σ) 4 (f_dig0 σ) k) (w + 1) = ((f_fold (f_ant σ k) (f_fold2 (f_ant σ) 4 (f_dig0 σ) k) w) * (31)) + ((f_ant σ k w).toInt64) from rfl]; exact hl
          exact ih_48 (w + 1) (by omega) (by omega) ls (lv_sub hl [2, 1, 3, 0] rfl)
      exact L_48 _ 0 (Nat.lt_succ_self _) (Nat.zero_le _) ls (lv_sub hl [1, 2, 3, 0] rfl)
  exact L_37 _ 0 (Nat.lt_succ_self _) (Nat.zero_le _) ls (lv_sub hl [2, 1, 0] rfl)
