abbrev rme_L_build : Room := { frames := 14, cells := 40, slots := 600, locals := 448 }
set_option maxHeartbeats 4000000 in
set_option maxRecDepth 100000 in
theorem e_L_build (l : Launch) (E : wk_E) (hlf : l.stackTraces = false) {T0 : Nat → Nat × Nat} {X0 : z_X} {H : Heap} {b L o aa sa pa : Nat} {xs fa fs fp : Nat → Int32} (hL : L ≤ 260) (hA : DA E T0 X0 z_0 H) (hx0 : X0.1 0 0 = o) (ta : T0 aa = (20, 0)) (ts : T0 sa = (20, 1)) (tp : T0 pa = (20, 2)) (haa : va_at E.1 vwCl (aa, .inl (E.2.1.1, 15, .inl fa)) H) (hsa : va_at E.1 vwCl (sa, .inl (E.2.1.1, 32, .inl fs)) H) (hpa : va_at E.1 vwCl (pa, .inl (E.2.1.1, 80, .inl fp)) H) (ea : E.2.2.1 ≤ aa) (es : E.2.2.1 ≤ sa) (ep : E.2.2.1 ≤ pa) (hbE : b < E.2.2.1) : we_MetP (q_X b L xs H) l yL_build wsL_build rme_L_build E H [.ref o, .ref b, .int 0, .int 12, .ref aa, .ref sa, .ref pa] (fun q => z_FD T0 q ∨ q = aa ∨ q = sa ∨ q = pa) 40 600 (fun v H1 => ∃ (ct : Nat) (T1 : Nat → Nat × Nat) (X1 : z_X) (σ1 : z_S) (fa fs fp fc : Nat → Int32), v = some (.ref ct) ∧ q_B E H.size T0 T1 X1 σ1 H1 o aa sa pa ct fa fs fp fc ∧ q_L σ1 fs fp ∧ z_n σ1 2 ≤ 12 ∧ fc 2 = nI (z_n σ1 2)) := by
  refine wl_ofWH (cc := cL_build) (maxL := 18) (ret := (some (.array .int))) (hh := [(449, 463, 466, 32)]) (by decide) rfl ?_
  intro p e s m args below meth c s₁ B hml hv
  obtain ⟨rfl, ⟨hH, hV⟩, hMi⟩ := hv
  subst hH
  have hK := hV.k
  have hx := B.exec
  have hb := B.bytes
  have hr := B.returns
  have hts := atoms_spec (ws := wsL_build) B.pre
  have hown : s.vm.findClass RL = some m.cls := findClass_of_methodNamed B.named
  have hlocks := B.notSynchronized
  have hS : va_S (fun q => (fun q => z_FD T0 q ∨ q = aa ∨ q = sa ∨ q = pa) q ∨ s.heap.size ≤ q) s.heap s.heap [] := va_S.rf
  have hA9 : ∀ q : Nat, s.heap.size ≤ q → ((fun q => z_FD T0 q ∨ q = aa ∨ q = sa ∨ q = pa) q ∨ s.heap.size ≤ q) := fun _ h => Or.inr h
  have hbA : ∀ q : Nat, q < E.2.2.1 → ¬ ((fun q => z_FD T0 q ∨ q = aa ∨ q = sa ∨ q = pa) q ∨ s.heap.size ≤ q) := fun q hq z => z.elim (fun z => q_notF hA.2.1 ea es ep hq z) (fun z => absurd (Nat.lt_of_lt_of_le hq hV.2.2.2.2.2.2) (Nat.not_lt.mpr z))
  have hl := lv_entry [.ref o, .ref b, .int 0, .int 12, .ref aa, .ref sa, .ref pa] (n := 18) (Nat.le_of_ble_eq_true rfl)
  rw [lg_entry_eq]
  generalize (lg_sl [.ref o, .ref b, .int 0, .int 12, .ref aa, .ref sa, .ref pa] ++ List.replicate (18 - (lg_sl [.ref o, .ref b, .int 0, .int 12, .ref aa, .ref sa, .ref pa]).length) Slot.unset).toArray = ls at hl ⊢
  have hl : lv_has ls 18 [(0, .ref o), (1, .ref b), (2, .int 0), (3, .int 12), (4, .ref aa), (5, .ref sa), (6, .ref pa)] := hl
  have htab : c.exceptionTable.toList = [{ startPc := 449, endPc := 463, handlerPc := 466, catchType := 32 }] := vx_table (x := yL_build) B (hts _ List.mem_cons_self)
  have hX0 : va_X b L xs s s.heap := hMi
  have hI := z_0Ok
  have hZ := z_0Zr
  have hnow : z_now z_0 = 0 := rfl
  refine lv_iconst (v := 3) hx hb dL_build_0 (by decide) ?_
  refine wk_newiv hx hb (hts _ (List.mem_of_getElem? (i := 2) rfl)) hK hS 3 rfl (by omega) (Nat.le_of_ble_eq_true rfl) (Nat.le_of_ble_eq_true rfl) dL_build_1 (fun ct H ho9 hN9 hz9 hk9 hS => ?_)
  have hct := hN9
  have hctn : s.heap.size ≤ ct := by rw [ho9]; exact Nat.le_refl _
  obtain ⟨T1, hT1⟩ : ∃ T1 : Nat → Nat × Nat, T1 = fun q => if q = ct then (20, 3) else T0 q := ⟨_, rfl⟩
  have tc : T1 ct = (20, 3) := by rw [hT1]; exact if_pos rfl
  have hT : ∀ q, q < s.heap.size → T1 q = T0 q := fun q hq => by rw [hT1]; exact if_neg (by omega)
  have ta : T1 aa = (20, 0) := (hT _ haa.lt).trans ta
  have ts : T1 sa = (20, 1) := (hT _ hsa.lt).trans ts
  have tp : T1 pa = (20, 2) := (hT _ hpa.lt).trans tp
  have hA := (hA.retag hV.2.2.2.2.2.2 hT).kept (fun q hq _ => hk9 q hq)
  have haa := va_at.kept haa (hk9 _ haa.lt)
  have hsa := va_at.kept hsa (hk9 _ hsa.lt)
  have hpa := va_at.kept hpa (hk9 _ hpa.lt)
  refine lv_dup hx hb dL_build_3 rfl ?_
  refine lv_iconst (v := 0) hx hb dL_build_4 (by decide) ?_
  refine lv_iconst (v := 1) hx hb dL_build_5 (by decide) ?_
  refine lv_aload_n hx hb dL_build_6 rfl (lv_at hl 1 rfl) ?_
  refine lv_iload_n hx hb dL_build_7 rfl (lv_at hl 2 rfl) ?_
  refine wk_eqls (st' := [.int (nI 0), .ref b, .int 1, .int 0, .ref ct, .ref ct]) rfl ?_
  have hX9 : va_X b L xs s H := (va_X.kept hX0 (hS.2.1 b (q_Xlt hX0) (hbA b hbE)))
  refine wk_SX (As := [.ref b, .int (nI 0)]) (rest := [.int 1, .int 0, .ref ct, .ref ct]) ⟨hx, hb, hml, hown, hts⟩ (c_L_cell l E hL (k := 0) (by omega)) (fun U hW => q_X.warm hW hX9) (fun U g mk a h => q_X.call g mk a h) (va_cwS 2 hts gL_build_L_cell rfl rfl rfl (by decide +kernel) ⟨(Nat.le_of_ble_eq_true rfl), (Nat.le_of_ble_eq_true rfl)⟩) hK rfl hl.1 rfl (Nat.le_of_ble_eq_true rfl) dL_build_8 ⟨by show _ ≤ 40; omega, by show _ ≤ 600; omega⟩ ?_
  refine wk_geni (fun y8 => ?_)
  refine lv_iconst (v := 3) hx hb dL_build_11 (by decide) ?_
  refine wk_eqls (st' := [.int (nI 3), .int y8, .int 1, .int 0, .ref ct, .ref ct]) rfl ?_
  refine wk_S (As := [.int y8, .int (nI 3)]) (rest := [.int 1, .int 0, .ref ct, .ref ct]) ⟨hx, hb, hml, hown, hts⟩ (c_L_below l E y8 (k := 3) (by omega) (by omega)) (va_cwS 2 hts gL_build_L_below rfl rfl rfl (by decide +kernel) ⟨(Nat.le_of_ble_eq_true rfl), (Nat.le_of_ble_eq_true rfl)⟩) hK rfl hl.1 rfl (Nat.le_of_ble_eq_true rfl) dL_build_12 ⟨by show _ ≤ 40; omega, by show _ ≤ 600; omega⟩ ?_
  refine wk_genb (q_b_lt y8 (by omega)) (fun j12 hj12 => ?_)
  refine lv_iadd hx hb dL_build_15 ?_
  refine wk_eqi (show 1 + (nI j12) = nI (1 + j12) from nI_add 1 j12) ?_
  refine wk_iast (nn := 3) hx hb hK hct (Or.inr hctn) hS 0 rfl (by omega) (by decide) dL_build_16 (fun H locs hP9 hz9 hk9 hS => ?_)
  have hct := hP9
  have haa := va_at.kept haa (hk9 _ (q_ne ta tc (by decide)))
  have hsa := va_at.kept hsa (hk9 _ (q_ne ts tc (by decide)))
  have hpa := va_at.kept hpa (hk9 _ (q_ne tp tc (by decide)))
  have hA := hA.kept (fun q _ hf => hk9 q (q_nf tc hf))
  refine lv_dup hx hb dL_build_17 rfl ?_
  refine lv_iconst (v := 1) hx hb dL_build_18 (by decide) ?_
  refine lv_iconst (v := 1) hx hb dL_build_19 (by decide) ?_
  refine lv_aload_n hx hb dL_build_20 rfl (lv_at hl 1 rfl) ?_
  refine lv_iload_n hx hb dL_build_21 rfl (lv_at hl 2 rfl) ?_
  refine wk_eqls (st' := [.int (nI 0), .ref b, .int 1, .int 1, .ref ct, .ref ct]) rfl ?_
  have hX9 : va_X b L xs s H := (va_X.kept hX0 (hS.2.1 b (q_Xlt hX0) (hbA b hbE)))
  refine wk_SX (As := [.ref b, .int (nI 0)]) (rest := [.int 1, .int 1, .ref ct, .ref ct]) ⟨hx, hb, hml, hown, hts⟩ (c_L_cell l E hL (k := 0) (by omega)) (fun U hW => q_X.warm hW hX9) (fun U g mk a h => q_X.call g mk a h) (va_cwS 2 hts gL_build_L_cell rfl rfl rfl (by decide +kernel) ⟨(Nat.le_of_ble_eq_true rfl), (Nat.le_of_ble_eq_true rfl)⟩) hK rfl hl.1 rfl (Nat.le_of_ble_eq_true rfl) dL_build_22 ⟨by show _ ≤ 40; omega, by show _ ≤ 600; omega⟩ ?_
  refine wk_geni (fun y22 => ?_)
  refine lv_iconst (v := 3) hx hb dL_build_25 (by decide) ?_
  refine lv_ishr hx hb dL_build_26 ?_
  refine lv_iconst (v := 3) hx hb dL_build_27 (by decide) ?_
  refine wk_eqls (st' := [.int (nI 3), .int (y22 >>> (3 &&& 31)), .int 1, .int 1, .ref ct, .ref ct]) rfl ?_
  refine wk_S (As := [.int (y22 >>> (3 &&& 31)), .int (nI 3)]) (rest := [.int 1, .int 1, .ref ct, .ref ct]) ⟨hx, hb, hml, hown, hts⟩ (c_L_below l E (y22 >>> (3 &&& 31)) (k := 3) (by omega) (by omega)) (va_cwS 2 hts gL_build_L_below rfl rfl rfl (by decide +kernel) ⟨(Nat.le_of_ble_eq_true rfl), (Nat.le_of_ble_eq_true rfl)⟩) hK rfl hl.1 rfl (Nat.le_of_ble_eq_true rfl) dL_build_28 ⟨by show _ ≤ 40; omega, by show _ ≤ 600; omega⟩ ?_
  refine wk_genb (q_b_lt (y22 >>> (3 &&& 31)) (by omega)) (fun j28 hj28 => ?_)
  refine lv_iadd hx hb dL_build_31 ?_
  refine wk_eqi (show 1 + (nI j28) = nI (1 + j28) from nI_add 1 j28) ?_
  refine wk_iast (nn := 3) hx hb hK hct (Or.inr hctn) hS 1 rfl (by omega) (by decide) dL_build_32 (fun H locs hP9 hz9 hk9 hS => ?_)
  have hct := hP9
  have haa := va_at.kept haa (hk9 _ (q_ne ta tc (by decide)))
  have hsa := va_at.kept hsa (hk9 _ (q_ne ts tc (by decide)))
  have hpa := va_at.kept hpa (hk9 _ (q_ne tp tc (by decide)))
  have hA := hA.kept (fun q _ hf => hk9 q (q_nf tc hf))
  refine lv_dup hx hb dL_build_33 rfl ?_
  refine lv_iconst (v := 2) hx hb dL_build_34 (by decide) ?_
  refine lv_iconst (v := 0) hx hb dL_build_35 (by decide) ?_
  refine wk_iast (nn := 3) hx hb hK hct (Or.inr hctn) hS 2 rfl (by omega) (by decide) dL_build_36 (fun H locs hP9 hz9 hk9 hS => ?_)
  have hct := hP9
  have haa := va_at.kept haa (hk9 _ (q_ne ta tc (by decide)))
  have hsa := va_at.kept hsa (hk9 _ (q_ne ts tc (by decide)))
  have hpa := va_at.kept hpa (hk9 _ (q_ne tp tc (by decide)))
  have hA := hA.kept (fun q _ hf => hk9 q (q_nf tc hf))
  obtain ⟨n0, hn0⟩ : ∃ n, n = 1 + j12 := ⟨_, rfl⟩
  obtain ⟨n1, hn1⟩ : ∃ n, n = 1 + j28 := ⟨_, rfl⟩
  obtain ⟨fc, hfc⟩ : ∃ f : Nat → Int32, f = upd (upd (upd (fun _ => 0) 0 (nI (1 + j12))) 1 (nI (1 + j28))) 2 0 := ⟨_, rfl⟩
  rw [← hfc] at hct
  have hc0 : fc 0 = nI n0 := by rw [hfc, hn0]; rfl
  have hc1 : fc 1 = nI n1 := by rw [hfc, hn1]; rfl
  have hc2 : fc 2 = nI 0 := by rw [hfc]; exact nI_0.symm
  refine lv_astore (lv' := [(7, .ref ct), (0, .ref o), (1, .ref b), (2, .int 0), (3, .int 12), (4, .ref aa), (5, .ref sa), (6, .ref pa)]) hx hb dL_build_37 hl (by decide) rfl (fun ls hl => ?_)
  refine lv_iconst (v := 0) hx hb dL_build_39 (by decide) ?_
  refine lv_istore (lv' := [(8, .int 0), (7, .ref ct), (0, .ref o), (1, .ref b), (2, .int 0), (3, .int 12), (4, .ref aa), (5, .ref sa), (6, .ref pa)]) hx hb dL_build_40 hl (by decide) rfl (fun ls hl => ?_)
  refine W.widen (k := 1 + 2 * 0) (n := 3 + 30 * 0) (by omega) (by omega) ?_
  have L_42 : ∀ (n_42 : Nat) (a : Nat) (T : Nat → Nat × Nat) (X : z_X) (σ : z_S) (H : Heap) (locs : List Loc) (fa : Nat → Int32), n0 - a < n_42 → (a ≤ n0) → (q_B E s.heap.size T0 T X σ H o aa sa pa ct fa fs fp fc) → (z_n σ 0 = a) → (z_n σ 1 = 0) → (z_n σ 2 = 0) → (∀ j, j < a → fa (3 * j) = z_ab σ j) → (va_S (fun q => (fun q => z_FD T0 q ∨ q = aa ∨ q = sa ∨ q = pa) q ∨ s.heap.size ≤ q) s.heap H locs) → ∀ ls : Array Slot, lv_has ls 18 [(0, .ref o), (1, .ref b), (2, .int 0), (3, .int 12), (4, .ref aa), (5, .ref sa), (6, .ref pa), (7, .ref ct), (8, .int (nI a))] → W p l e (headSpec wsL_build rme_L_build).room s m ([.ref o, .ref b, .int 0, .int 12, .ref aa, .ref sa, .ref pa] : List Value).toArray below meth c H locs (1 + 2 * a) (3 + 30 * a) (MQ below (fun _ _ oc t => (∃ v, oc = .returned v ∧ (fun v H1 => ∃ (ct : Nat) (T1 : Nat → Nat × Nat) (X1 : z_X) (σ1 : z_S) (fa fs fp fc : Nat → Int32), v = some (.ref ct) ∧ q_B E s.heap.size T0 T1 X1 σ1 H1 o aa sa pa ct fa fs fp fc ∧ q_L σ1 fs fp ∧ z_n σ1 2 ≤ 12 ∧ fc 2 = nI (z_n σ1 2)) v t.heap) ∧ s.heap.size ≤ t.heap.size ∧ ∀ q : Nat, q < s.heap.size → ¬ (fun q => z_FD T0 q ∨ q = aa ∨ q = sa ∨ q = pa) q → t.heap[q]? = s.heap[q]?) ([.ref o, .ref b, .int 0, .int 12, .ref aa, .ref sa, .ref pa] : List Value).toArray s 40 600 (fun q => (fun q => z_FD T0 q ∨ q = aa ∨ q = sa ∨ q = pa) q ∨ s.heap.size ≤ q)) (F0 m 42 ls []) := by
    intro n_42
    induction n_42 with
    | zero => intro a T X σ H locs fa hm; exact absurd hm (Nat.not_lt_zero _)
    | succ n_42 ih_42 =>
      intro a T X σ H locs fa hm_42 hka hB hna hnb hnc hfa hS ls hl
      obtain ⟨hA, hx0, ⟨ta, ts, tp, tc⟩, ⟨haa, hsa, hpa, hct⟩, hT, hI, hZ, hnow⟩ := hB
      refine lv_iload hx hb dL_build_42 (lv_at hl 8 rfl) ?_
      refine lv_aload hx hb dL_build_44 (lv_at hl 7 rfl) ?_
      refine lv_iconst (v := 0) hx hb dL_build_46 (by decide) ?_
      refine wk_iald (n := 3) (f := fc) hx hb hK hct 0 rfl (by omega) (by omega) dL_build_47 ?_
      refine wk_eqls (st' := [.int (nI n0), .int (nI a)]) (by rw [hc0]) ?_
      refine lv_icmp_ge (tgt := 187) hx hb dL_build_48 (by decide) (fun c_48 => ?_) (fun c_48 => ?_)
      · skip
        have e_48 : n0 ≤ a := wk_cget (by omega) (by omega) c_48
        have hkN : a = n0 := by omega
        rw [hkN] at hna hfa
        refine lv_iconst (v := 0) hx hb dL_build_187 (by decide) ?_
        refine lv_istore (lv' := [(8, .int 0), (0, .ref o), (1, .ref b), (2, .int 0), (3, .int 12), (4, .ref aa), (5, .ref sa), (6, .ref pa), (7, .ref ct)]) hx hb dL_build_188 hl (by decide) rfl (fun ls hl => ?_)
        refine W.widen (k := 7 + 2 * 0) (n := 93 + 30 * 0) (by omega) (by omega) ?_
        have L_190 : ∀ (n_190 : Nat) (k : Nat) (T : Nat → Nat × Nat) (X : z_X) (σ : z_S) (H : Heap) (locs : List Loc) (fs : Nat → Int32), n1 - k < n_190 → (k ≤ n1) → (q_B E s.heap.size T0 T X σ H o aa sa pa ct fa fs fp fc) → (z_n σ 0 = n0) → (z_n σ 1 = k) → (z_n σ 2 = 0) → (∀ j, j < n0 → fa (3 * j) = z_ab σ j) → (∀ j, j < k → fs (4 * j) = z_sb σ j ∧ fs (4 * j + 1) = z_sp σ j) → (va_S (fun q => (fun q => z_FD T0 q ∨ q = aa ∨ q = sa ∨ q = pa) q ∨ s.heap.size ≤ q) s.heap H locs) → ∀ ls : Array Slot, lv_has ls 18 [(0, .ref o), (1, .ref b), (2, .int 0), (3, .int 12), (4, .ref aa), (5, .ref sa), (6, .ref pa), (7, .ref ct), (8, .int (nI k))] → W p l e (headSpec wsL_build rme_L_build).room s m ([.ref o, .ref b, .int 0, .int 12, .ref aa, .ref sa, .ref pa] : List Value).toArray below meth c H locs (7 + 2 * k) (93 + 30 * k) (MQ below (fun _ _ oc t => (∃ v, oc = .returned v ∧ (fun v H1 => ∃ (ct : Nat) (T1 : Nat → Nat × Nat) (X1 : z_X) (σ1 : z_S) (fa fs fp fc : Nat → Int32), v = some (.ref ct) ∧ q_B E s.heap.size T0 T1 X1 σ1 H1 o aa sa pa ct fa fs fp fc ∧ q_L σ1 fs fp ∧ z_n σ1 2 ≤ 12 ∧ fc 2 = nI (z_n σ1 2)) v t.heap) ∧ s.heap.size ≤ t.heap.size ∧ ∀ q : Nat, q < s.heap.size → ¬ (fun q => z_FD T0 q ∨ q = aa ∨ q = sa ∨ q = pa) q → t.heap[q]? = s.heap[q]?) ([.ref o, .ref b, .int 0, .int 12, .ref aa, .ref sa, .ref pa] : List Value).toArray s 40 600 (fun q => (fun q => z_FD T0 q ∨ q = aa ∨ q = sa ∨ q = pa) q ∨ s.heap.size ≤ q)) (F0 m 190 ls []) := by
          intro n_190
          induction n_190 with
          | zero => intro k T X σ H locs fs hm; exact absurd hm (Nat.not_lt_zero _)
          | succ n_190 ih_190 =>
            intro k T X σ H locs fs hm_190 hkk hB hna hnb hnc hfa hfs hS ls hl
            obtain ⟨hA, hx0, ⟨ta, ts, tp, tc⟩, ⟨haa, hsa, hpa, hct⟩, hT, hI, hZ, hnow⟩ := hB
            refine lv_iload hx hb dL_build_190 (lv_at hl 8 rfl) ?_
            refine lv_aload hx hb dL_build_192 (lv_at hl 7 rfl) ?_
            refine lv_iconst (v := 1) hx hb dL_build_194 (by decide) ?_
            refine wk_iald (n := 3) (f := fc) hx hb hK hct 1 rfl (by omega) (by omega) dL_build_195 ?_
            refine wk_eqls (st' := [.int (nI n1), .int (nI k)]) (by rw [hc1]) ?_
            refine lv_icmp_ge (tgt := 337) hx hb dL_build_196 (by decide) (fun c_196 => ?_) (fun c_196 => ?_)
            · skip
              have e_196 : n1 ≤ k := wk_cget (by omega) (by omega) c_196
              have hkN : k = n1 := by omega
              rw [hkN] at hnb hfs
              refine lv_aload_n hx hb dL_build_337 rfl (lv_at hl 1 rfl) ?_
              refine lv_iload_n hx hb dL_build_338 rfl (lv_at hl 2 rfl) ?_
              refine wk_eqls (st' := [.int (nI 0), .ref b]) rfl ?_
              have hX9 : va_X b L xs s H := (va_X.kept hX0 (hS.2.1 b (q_Xlt hX0) (hbA b hbE)))
              refine wk_SX (As := [.ref b, .int (nI 0)]) (rest := []) ⟨hx, hb, hml, hown, hts⟩ (c_L_cell l E hL (k := 0) (by omega)) (fun U hW => q_X.warm hW hX9) (fun U g mk a h => q_X.call g mk a h) (va_cwS 2 hts gL_build_L_cell rfl rfl rfl (by decide +kernel) ⟨(Nat.le_of_ble_eq_true rfl), (Nat.le_of_ble_eq_true rfl)⟩) hK rfl hl.1 rfl (Nat.le_of_ble_eq_true rfl) dL_build_339 ⟨by show _ ≤ 40; omega, by show _ ≤ 600; omega⟩ ?_
              refine wk_geni (fun y339 => ?_)
              refine lv_bipush (v := 6) hx hb dL_build_342 (by decide) ?_
              refine lv_ishr hx hb dL_build_344 ?_
              refine lv_iload_n hx hb dL_build_345 rfl (lv_at hl 3 rfl) ?_
              refine lv_iconst (v := 1) hx hb dL_build_346 (by decide) ?_
              refine lv_iadd hx hb dL_build_347 ?_
              refine wk_eqls (st' := [.int (nI 13), .int (y339 >>> (6 &&& 31))]) rfl ?_
              refine wk_S (As := [.int (y339 >>> (6 &&& 31)), .int (nI 13)]) (rest := []) ⟨hx, hb, hml, hown, hts⟩ (c_L_below l E (y339 >>> (6 &&& 31)) (k := 13) (by omega) (by omega)) (va_cwS 2 hts gL_build_L_below rfl rfl rfl (by decide +kernel) ⟨(Nat.le_of_ble_eq_true rfl), (Nat.le_of_ble_eq_true rfl)⟩) hK rfl hl.1 rfl (Nat.le_of_ble_eq_true rfl) dL_build_348 ⟨by show _ ≤ 40; omega, by show _ ≤ 600; omega⟩ ?_
              refine wk_genb (q_b_lt (y339 >>> (6 &&& 31)) (by omega)) (fun j348 hj348 => ?_)
              refine lv_istore (lv' := [(8, .int (nI j348)), (0, .ref o), (1, .ref b), (2, .int 0), (3, .int 12), (4, .ref aa), (5, .ref sa), (6, .ref pa), (7, .ref ct)]) hx hb dL_build_351 hl (by decide) rfl (fun ls hl => ?_)
              refine lv_iconst (v := 0) hx hb dL_build_353 (by decide) ?_
              refine lv_istore (lv' := [(9, .int 0), (8, .int (nI j348)), (0, .ref o), (1, .ref b), (2, .int 0), (3, .int 12), (4, .ref aa), (5, .ref sa), (6, .ref pa), (7, .ref ct)]) hx hb dL_build_354 hl (by decide) rfl (fun ls hl => ?_)
              refine W.widen (k := 13 + 2 * 0) (n := 183 + 30 * 0) (by omega) (by omega) ?_
              have L_356 : ∀ (n_356 : Nat) (t : Nat) (T : Nat → Nat × Nat) (X : z_X) (σ : z_S) (H : Heap) (locs : List Loc) (fp : Nat → Int32) (fc : Nat → Int32), j348 - t < n_356 → (t ≤ j348) → (q_B E s.heap.size T0 T X σ H o aa sa pa ct fa fs fp fc) → (z_n σ 0 = n0) → (z_n σ 1 = n1) → (z_n σ 2 ≤ t) → (∀ j, j < n0 → fa (3 * j) = z_ab σ j) → (∀ j, j < n1 → fs (4 * j) = z_sb σ j ∧ fs (4 * j + 1) = z_sp σ j) → (∀ j, j < z_n σ 2 → fp (5 * j) = nI (z_pS σ j) ∧ fp (5 * j + 2) = z_pb σ j ∧ fp (5 * j + 3) = z_pe σ j) → (fc 0 = nI n0) → (fc 1 = nI n1) → (fc 2 = nI (z_n σ 2)) → (va_S (fun q => (fun q => z_FD T0 q ∨ q = aa ∨ q = sa ∨ q = pa) q ∨ s.heap.size ≤ q) s.heap H locs) → ∀ ls : Array Slot, lv_has ls 18 [(0, .ref o), (1, .ref b), (2, .int 0), (3, .int 12), (4, .ref aa), (5, .ref sa), (6, .ref pa), (7, .ref ct), (8, .int (nI j348)), (9, .int (nI t))] → W p l e (headSpec wsL_build rme_L_build).room s m ([.ref o, .ref b, .int 0, .int 12, .ref aa, .ref sa, .ref pa] : List Value).toArray below meth c H locs (13 + 2 * t) (183 + 30 * t) (MQ below (fun _ _ oc t => (∃ v, oc = .returned v ∧ (fun v H1 => ∃ (ct : Nat) (T1 : Nat → Nat × Nat) (X1 : z_X) (σ1 : z_S) (fa fs fp fc : Nat → Int32), v = some (.ref ct) ∧ q_B E s.heap.size T0 T1 X1 σ1 H1 o aa sa pa ct fa fs fp fc ∧ q_L σ1 fs fp ∧ z_n σ1 2 ≤ 12 ∧ fc 2 = nI (z_n σ1 2)) v t.heap) ∧ s.heap.size ≤ t.heap.size ∧ ∀ q : Nat, q < s.heap.size → ¬ (fun q => z_FD T0 q ∨ q = aa ∨ q = sa ∨ q = pa) q → t.heap[q]? = s.heap[q]?) ([.ref o, .ref b, .int 0, .int 12, .ref aa, .ref sa, .ref pa] : List Value).toArray s 40 600 (fun q => (fun q => z_FD T0 q ∨ q = aa ∨ q = sa ∨ q = pa) q ∨ s.heap.size ≤ q)) (F0 m 356 ls []) := by
                intro n_356
                induction n_356 with
                | zero => intro t T X σ H locs fp fc hm; exact absurd hm (Nat.not_lt_zero _)
                | succ n_356 ih_356 =>
                  intro t T X σ H locs fp fc hm_356 hkt hB hna hnb hnc hfa hfs hfp hc0 hc1 hc2 hS ls hl
                  obtain ⟨hA, hx0, ⟨ta, ts, tp, tc⟩, ⟨haa, hsa, hpa, hct⟩, hT, hI, hZ, hnow⟩ := hB
                  refine lv_iload hx hb dL_build_356 (lv_at hl 9 rfl) ?_
                  refine lv_iload hx hb dL_build_358 (lv_at hl 8 rfl) ?_
                  refine lv_icmp_ge (tgt := 577) hx hb dL_build_360 (by decide) (fun c_360 => ?_) (fun c_360 => ?_)
                  · skip
                    have e_360 : j348 ≤ t := wk_cget (by omega) (by omega) c_360
                    refine lv_iconst (v := 0) hx hb dL_build_577 (by decide) ?_
                    refine lv_istore (lv' := [(9, .int 0), (0, .ref o), (1, .ref b), (2, .int 0), (3, .int 12), (4, .ref aa), (5, .ref sa), (6, .ref pa), (7, .ref ct), (8, .int (nI j348))]) hx hb dL_build_578 hl (by decide) rfl (fun ls hl => ?_)
                    refine W.widen (k := 40) (n := 600) (by omega) (by omega) ?_
                    have hcw : ∀ w, w < 3 → fc w = nI (z_n σ w) := fun w hw => match w, hw with | 0, _ => by rw [hna]; exact hc0 | 1, _ => by rw [hnb]; exact hc1 | 2, _ => hc2 | w + 3, hw => absurd hw (by omega)
                    have L_580 : ∀ (n_580 : Nat) (w : Nat), 3 - w < n_580 → (w ≤ 3) → ∀ ls : Array Slot, lv_has ls 18 [(0, .ref o), (7, .ref ct), (9, .int (nI w))] → W p l e (headSpec wsL_build rme_L_build).room s m ([.ref o, .ref b, .int 0, .int 12, .ref aa, .ref sa, .ref pa] : List Value).toArray below meth c H locs 40 600 (MQ below (fun _ _ oc t => (∃ v, oc = .returned v ∧ (fun v H1 => ∃ (ct : Nat) (T1 : Nat → Nat × Nat) (X1 : z_X) (σ1 : z_S) (fa fs fp fc : Nat → Int32), v = some (.ref ct) ∧ q_B E s.heap.size T0 T1 X1 σ1 H1 o aa sa pa ct fa fs fp fc ∧ q_L σ1 fs fp ∧ z_n σ1 2 ≤ 12 ∧ fc 2 = nI (z_n σ1 2)) v t.heap) ∧ s.heap.size ≤ t.heap.size ∧ ∀ q : Nat, q < s.heap.size → ¬ (fun q => z_FD T0 q ∨ q = aa ∨ q = sa ∨ q = pa) q → t.heap[q]? = s.heap[q]?) ([.ref o, .ref b, .int 0, .int 12, .ref aa, .ref sa, .ref pa] : List Value).toArray s 40 600 (fun q => (fun q => z_FD T0 q ∨ q = aa ∨ q = sa ∨ q = pa) q ∨ s.heap.size ≤ q)) (F0 m 580 ls []) := by
                      intro n_580
                      induction n_580 with
                      | zero => intro w hm; exact absurd hm (Nat.not_lt_zero _)
                      | succ n_580 ih_580 =>
                        intro w hm_580 hkw ls hl
                        refine lv_iload hx hb dL_build_580 (lv_at hl 2 rfl) ?_
                        refine lv_iconst (v := 3) hx hb dL_build_582 (by decide) ?_
                        refine lv_icmp_ge (tgt := 608) hx hb dL_build_583 (by decide) (fun c_583 => ?_) (fun c_583 => ?_)
                        · skip
                          have e_583 : 3 ≤ w := wk_cget (by omega) (by omega) c_583
                          refine lv_aload hx hb dL_build_608 (lv_at hl 1 rfl) ?_
                          exact W.aret hx hb hr (Or.inr ⟨_, rfl⟩) (Or.inr ⟨_, rfl⟩) (we_end (Rt := fun v H1 => ∃ (ct : Nat) (T1 : Nat → Nat × Nat) (X1 : z_X) (σ1 : z_S) (fa fs fp fc : Nat → Int32), v = some (.ref ct) ∧ q_B E s.heap.size T0 T1 X1 σ1 H1 o aa sa pa ct fa fs fp fc ∧ q_L σ1 fs fp ∧ z_n σ1 2 ≤ 12 ∧ fc 2 = nI (z_n σ1 2)) (F := fun q => z_FD T0 q ∨ q = aa ∨ q = sa ∨ q = pa) (⟨ct, T, X, σ, fa, fs, fp, fc, rfl, ⟨hA, hx0, ⟨ta, ts, tp, tc⟩, ⟨haa, hsa, hpa, hct⟩, hT, hI, hZ, hnow⟩, fun j hj => ⟨(hfp j hj).1, (hfp j hj).2.1, (hfp j hj).2.2, (hfs _ (by have h9 := hI.pS hj; omega)).2⟩, by omega, hc2⟩) hS) hS.2.2 dL_build_610
                        have e_583 : w < 3 := wk_cgef (by omega) (by omega) c_583
                        refine lv_aload_n hx hb dL_build_586 rfl (lv_at hl 0 rfl) ?_
                        refine lv_iload hx hb dL_build_587 (lv_at hl 2 rfl) ?_
                        refine wk_eqls (st' := [.int (nI w), .ref (X.1 0 0)]) (by rw [hx0]) ?_
                        refine wk_V (As := [.int (nI w)]) (rest := []) ⟨hx, hb, hml, hown, hts⟩ (c_X5_count l E hA hI (w := w) (by omega)) (cwV 1 hts gL_build_X5_count rfl rfl rfl (by decide +kernel) ⟨(Nat.le_of_ble_eq_true rfl), (Nat.le_of_ble_eq_true rfl)⟩) (wk_recv hK hA.desk rfl) hK rfl hl.1 rfl (Nat.le_of_ble_eq_true rfl) dL_build_589 ⟨by show _ ≤ 40; omega, by show _ ≤ 600; omega⟩ ?_
                        refine lv_aload hx hb dL_build_592 (lv_at hl 1 rfl) ?_
                        refine lv_iload hx hb dL_build_594 (lv_at hl 2 rfl) ?_
                        refine wk_iald (n := 3) (f := fc) hx hb hK hct w rfl (by omega) (by omega) dL_build_596 ?_
                        refine wk_eqls (st' := [.int (nI (z_n σ w)), .int (nI (z_n σ w))]) (by rw [hcw w e_583]) ?_
                        refine lv_icmp_eq (tgt := 602) hx hb dL_build_597 (by decide) (fun c_597 => ?_) (fun c_597 => ?_)
                        · skip
                          refine lv_iinc (v := nI (w + 1)) (lv' := [(9, .int (nI (w + 1))), (0, .ref o), (7, .ref ct)]) hx hb dL_build_602 hl (k := 2) rfl (nI_1 _) (by decide) rfl (fun ls hl => ?_)
                          refine lv_goto (tgt := 580) hx hb dL_build_605 (by decide) ?_
                          exact ih_580 (w + 1) (by omega) (by omega) ls (lv_sub hl [1, 2, 0] rfl)
                        exact absurd rfl c_597
                    exact L_580 _ 0 (Nat.lt_succ_self _) (Nat.zero_le _) ls (lv_sub hl [1, 8, 0] rfl)
                  have e_360 : t < j348 := wk_cgef (by omega) (by omega) c_360
                  refine lv_aload_n hx hb dL_build_363 rfl (lv_at hl 1 rfl) ?_
                  refine lv_iload_n hx hb dL_build_364 rfl (lv_at hl 2 rfl) ?_
                  refine lv_iconst (v := 3) hx hb dL_build_365 (by decide) ?_
                  refine lv_iadd hx hb dL_build_366 ?_
                  refine wk_eqls (st' := [.int (nI 3), .ref b]) rfl ?_
                  refine lv_iload hx hb dL_build_367 (lv_at hl 9 rfl) ?_
                  refine lv_iconst (v := 5) hx hb dL_build_369 (by decide) ?_
                  refine lv_irem hx hb dL_build_370 (by decide) ?_
                  refine wk_eqi (q_mod5 (by omega)) ?_
                  refine lv_iadd hx hb dL_build_371 ?_
                  refine wk_eqi (show (nI 3) + (nI (t % 5)) = nI (3 + (t % 5)) from nI_add 3 (t % 5)) ?_
                  refine wk_eqls (st' := [.int (nI (3 + (t % 5))), .ref b]) rfl ?_
                  have hX9 : va_X b L xs s H := (va_X.kept hX0 (hS.2.1 b (q_Xlt hX0) (hbA b hbE)))
                  refine wk_SX (As := [.ref b, .int (nI (3 + (t % 5)))]) (rest := []) ⟨hx, hb, hml, hown, hts⟩ (c_L_cell l E hL (k := (3 + (t % 5))) (by omega)) (fun U hW => q_X.warm hW hX9) (fun U g mk a h => q_X.call g mk a h) (va_cwS 2 hts gL_build_L_cell rfl rfl rfl (by decide +kernel) ⟨(Nat.le_of_ble_eq_true rfl), (Nat.le_of_ble_eq_true rfl)⟩) hK rfl hl.1 rfl (Nat.le_of_ble_eq_true rfl) dL_build_372 ⟨by show _ ≤ 40; omega, by show _ ≤ 600; omega⟩ ?_
                  refine wk_geni (fun y372 => ?_)
                  refine lv_iload hx hb dL_build_375 (lv_at hl 9 rfl) ?_
                  refine lv_iconst (v := 5) hx hb dL_build_377 (by decide) ?_
                  refine lv_idiv hx hb dL_build_378 (by decide) ?_
                  refine wk_eqi (q_div5 (by omega)) ?_
                  refine lv_bipush (v := 9) hx hb dL_build_379 (by decide) ?_
                  refine lv_imul hx hb dL_build_381 ?_
                  refine wk_eqi (show (nI (t / 5)) * 9 = nI ((t / 5) * 9) from pk_mul (t / 5) 9) ?_
                  refine lv_ishr hx hb dL_build_382 ?_
                  refine wk_geni (fun x383 => ?_)
                  refine lv_istore (lv' := [(10, .int x383), (0, .ref o), (1, .ref b), (2, .int 0), (3, .int 12), (4, .ref aa), (5, .ref sa), (6, .ref pa), (7, .ref ct), (8, .int (nI j348)), (9, .int (nI t))]) hx hb dL_build_383 hl (by decide) rfl (fun ls hl => ?_)
                  refine lv_iload hx hb dL_build_385 (lv_at hl 0 rfl) ?_
                  refine lv_aload hx hb dL_build_387 (lv_at hl 8 rfl) ?_
                  refine lv_iconst (v := 1) hx hb dL_build_389 (by decide) ?_
                  refine wk_iald (n := 3) (f := fc) hx hb hK hct 1 rfl (by omega) (by omega) dL_build_390 ?_
                  refine wk_eqls (st' := [.int (nI n1), .int x383]) (by rw [hc1]) ?_
                  refine wk_eqls (st' := [.int (nI n1), .int x383]) rfl ?_
                  refine wk_S (As := [.int x383, .int (nI n1)]) (rest := []) ⟨hx, hb, hml, hown, hts⟩ (c_L_below l E x383 (k := n1) (by omega) (by omega)) (va_cwS 2 hts gL_build_L_below rfl rfl rfl (by decide +kernel) ⟨(Nat.le_of_ble_eq_true rfl), (Nat.le_of_ble_eq_true rfl)⟩) hK rfl hl.1 rfl (Nat.le_of_ble_eq_true rfl) dL_build_391 ⟨by show _ ≤ 40; omega, by show _ ≤ 600; omega⟩ ?_
                  refine wk_genb (q_b_lt x383 (by omega)) (fun j391 hj391 => ?_)
                  refine lv_istore (lv' := [(11, .int (nI j391)), (10, .int x383), (0, .ref o), (1, .ref b), (2, .int 0), (3, .int 12), (4, .ref aa), (5, .ref sa), (6, .ref pa), (7, .ref ct), (8, .int (nI j348)), (9, .int (nI t))]) hx hb dL_build_394 hl (by decide) rfl (fun ls hl => ?_)
                  refine lv_iload hx hb dL_build_396 (lv_at hl 1 rfl) ?_
                  refine lv_iconst (v := 2) hx hb dL_build_398 (by decide) ?_
                  refine lv_ishr hx hb dL_build_399 ?_
                  refine lv_aload hx hb dL_build_400 (lv_at hl 9 rfl) ?_
                  refine lv_iconst (v := 0) hx hb dL_build_402 (by decide) ?_
                  refine wk_iald (n := 3) (f := fc) hx hb hK hct 0 rfl (by omega) (by omega) dL_build_403 ?_
                  refine wk_eqls (st' := [.int (nI n0), .int (x383 >>> (2 &&& 31))]) (by rw [hc0]) ?_
                  refine wk_eqls (st' := [.int (nI n0), .int (x383 >>> (2 &&& 31))]) rfl ?_
                  refine wk_S (As := [.int (x383 >>> (2 &&& 31)), .int (nI n0)]) (rest := []) ⟨hx, hb, hml, hown, hts⟩ (c_L_below l E (x383 >>> (2 &&& 31)) (k := n0) (by omega) (by omega)) (va_cwS 2 hts gL_build_L_below rfl rfl rfl (by decide +kernel) ⟨(Nat.le_of_ble_eq_true rfl), (Nat.le_of_ble_eq_true rfl)⟩) hK rfl hl.1 rfl (Nat.le_of_ble_eq_true rfl) dL_build_404 ⟨by show _ ≤ 40; omega, by show _ ≤ 600; omega⟩ ?_
                  refine wk_genb (q_b_lt (x383 >>> (2 &&& 31)) (by omega)) (fun j404 hj404 => ?_)
                  refine lv_istore (lv' := [(12, .int (nI j404)), (11, .int (nI j391)), (10, .int x383), (0, .ref o), (1, .ref b), (2, .int 0), (3, .int 12), (4, .ref aa), (5, .ref sa), (6, .ref pa), (7, .ref ct), (8, .int (nI j348)), (9, .int (nI t))]) hx hb dL_build_407 hl (by decide) rfl (fun ls hl => ?_)
                  refine lv_iload hx hb dL_build_409 (lv_at hl 2 rfl) ?_
                  refine lv_iconst (v := 4) hx hb dL_build_411 (by decide) ?_
                  refine lv_ishr hx hb dL_build_412 ?_
                  refine lv_bipush (v := 80) hx hb dL_build_413 (by decide) ?_
                  refine wk_eqls (st' := [.int (nI 80), .int (x383 >>> (4 &&& 31))]) rfl ?_
                  refine wk_S (As := [.int (x383 >>> (4 &&& 31)), .int (nI 80)]) (rest := []) ⟨hx, hb, hml, hown, hts⟩ (c_L_below l E (x383 >>> (4 &&& 31)) (k := 80) (by omega) (by omega)) (va_cwS 2 hts gL_build_L_below rfl rfl rfl (by decide +kernel) ⟨(Nat.le_of_ble_eq_true rfl), (Nat.le_of_ble_eq_true rfl)⟩) hK rfl hl.1 rfl (Nat.le_of_ble_eq_true rfl) dL_build_415 ⟨by show _ ≤ 40; omega, by show _ ≤ 600; omega⟩ ?_
                  refine wk_genb (q_b_lt (x383 >>> (4 &&& 31)) (by omega)) (fun j415 hj415 => ?_)
                  refine lv_istore (lv' := [(13, .int (nI j415)), (12, .int (nI j404)), (11, .int (nI j391)), (10, .int x383), (0, .ref o), (1, .ref b), (2, .int 0), (3, .int 12), (4, .ref aa), (5, .ref sa), (6, .ref pa), (7, .ref ct), (8, .int (nI j348)), (9, .int (nI t))]) hx hb dL_build_418 hl (by decide) rfl (fun ls hl => ?_)
                  refine lv_iload hx hb dL_build_420 (lv_at hl 0 rfl) ?_
                  refine lv_iconst (v := 1) hx hb dL_build_422 (by decide) ?_
                  refine lv_iadd hx hb dL_build_423 ?_
                  refine wk_eqi (show (nI j415) + 1 = nI (j415 + 1) from nI_add j415 1) ?_
                  refine lv_iload hx hb dL_build_424 (lv_at hl 3 rfl) ?_
                  refine lv_bipush (v := 7) hx hb dL_build_426 (by decide) ?_
                  refine lv_ishr hx hb dL_build_428 ?_
                  refine lv_bipush (v := 40) hx hb dL_build_429 (by decide) ?_
                  refine wk_eqls (st' := [.int (nI 40), .int (x383 >>> (7 &&& 31)), .int (nI (j415 + 1))]) rfl ?_
                  refine wk_S (As := [.int (x383 >>> (7 &&& 31)), .int (nI 40)]) (rest := [.int (nI (j415 + 1))]) ⟨hx, hb, hml, hown, hts⟩ (c_L_below l E (x383 >>> (7 &&& 31)) (k := 40) (by omega) (by omega)) (va_cwS 2 hts gL_build_L_below rfl rfl rfl (by decide +kernel) ⟨(Nat.le_of_ble_eq_true rfl), (Nat.le_of_ble_eq_true rfl)⟩) hK rfl hl.1 rfl (Nat.le_of_ble_eq_true rfl) dL_build_431 ⟨by show _ ≤ 40; omega, by show _ ≤ 600; omega⟩ ?_
                  refine wk_genb (q_b_lt (x383 >>> (7 &&& 31)) (by omega)) (fun j431 hj431 => ?_)
                  refine lv_iadd hx hb dL_build_434 ?_
                  refine wk_eqi (show (nI (j415 + 1)) + (nI j431) = nI ((j415 + 1) + j431) from nI_add (j415 + 1) j431) ?_
                  refine lv_istore (lv' := [(14, .int (nI ((j415 + 1) + j431))), (13, .int (nI j415)), (12, .int (nI j404)), (11, .int (nI j391)), (10, .int x383), (0, .ref o), (1, .ref b), (2, .int 0), (3, .int 12), (4, .ref aa), (5, .ref sa), (6, .ref pa), (7, .ref ct), (8, .int (nI j348)), (9, .int (nI t))]) hx hb dL_build_435 hl (by decide) rfl (fun ls hl => ?_)
                  refine lv_iconst (v := 5) hx hb dL_build_437 (by decide) ?_
                  refine lv_aload hx hb dL_build_438 (lv_at hl 12 rfl) ?_
                  refine lv_iconst (v := 2) hx hb dL_build_440 (by decide) ?_
                  refine wk_iald (n := 3) (f := fc) hx hb hK hct 2 rfl (by omega) (by omega) dL_build_441 ?_
                  refine wk_eqls (st' := [.int (nI (z_n σ 2)), .int 5]) (by rw [hc2]) ?_
                  refine lv_imul hx hb dL_build_442 ?_
                  refine wk_eqi (show 5 * (nI (z_n σ 2)) = nI (5 * (z_n σ 2)) from pk_mul 5 (z_n σ 2)) ?_
                  refine lv_istore (lv' := [(15, .int (nI (5 * (z_n σ 2)))), (14, .int (nI ((j415 + 1) + j431))), (13, .int (nI j415)), (12, .int (nI j404)), (11, .int (nI j391)), (10, .int x383), (0, .ref o), (1, .ref b), (2, .int 0), (3, .int 12), (4, .ref aa), (5, .ref sa), (6, .ref pa), (7, .ref ct), (8, .int (nI j348)), (9, .int (nI t))]) hx hb dL_build_443 hl (by decide) rfl (fun ls hl => ?_)
                  refine lv_bipush (v := (-2)) hx hb dL_build_445 (by decide) ?_
                  refine lv_istore (lv' := [(16, .int (-2)), (15, .int (nI (5 * (z_n σ 2)))), (14, .int (nI ((j415 + 1) + j431))), (13, .int (nI j415)), (12, .int (nI j404)), (11, .int (nI j391)), (10, .int x383), (0, .ref o), (1, .ref b), (2, .int 0), (3, .int 12), (4, .ref aa), (5, .ref sa), (6, .ref pa), (7, .ref ct), (8, .int (nI j348)), (9, .int (nI t))]) hx hb dL_build_447 hl (by decide) rfl (fun ls hl => ?_)
                  refine lv_aload_n hx hb dL_build_449 rfl (lv_at hl 7 rfl) ?_
                  refine lv_iload hx hb dL_build_450 (lv_at hl 5 rfl) ?_
                  refine lv_iload hx hb dL_build_452 (lv_at hl 4 rfl) ?_
                  refine lv_iload hx hb dL_build_454 (lv_at hl 3 rfl) ?_
                  refine lv_iload hx hb dL_build_456 (lv_at hl 2 rfl) ?_
                  refine wk_eqls (st' := [.int (nI ((j415 + 1) + j431)), .int (nI j415), .int (nI j404), .int (nI j391), .ref (X.1 0 0)]) (by rw [hx0]) ?_
                  have hSz := hS.1
                  have hsp : v_span σ (nI j415) (nI ((j415 + 1) + j431)) = true := q_span hnow (by omega) (by omega)
                  have hle9 : nI ((j415 + 1) + j431) - nI j415 ≤ (600 : Int32) := q_len (by omega) (by omega)
                  have hi9 : j391 < z_n σ 1 := by omega
                  have ha9 : j404 < z_n σ 0 := by omega
                  have hn9 : z_n σ 2 < 16 := by omega
                  obtain ⟨mm, bb, hmm, hbb, emm, ebb, ehe⟩ := f_hearsN hI ha9 hi9
                  have hbit : (fa (3 * j404) >>> (fs (4 * j391) &&& 31)) &&& 1 = wk_b (f_hears σ j404 j391) := by rw [hfa _ (by omega), (hfs _ (by omega)).1, emm, ebb, ehe]; exact q_shb (by omega) (by omega)
                  rcases Bool.eq_false_or_eq_true (f_hears σ j404 j391) with hh | hh
                  · skip
                    refine we_V (As := [.int (nI j391), .int (nI j404), .int (nI j415), .int (nI ((j415 + 1) + j431))]) (rest := []) ⟨hx, hb, hml, hown, hts⟩ (e_X5_addPass l E hA hI hZ hi9 ha9 hsp hle9 hh hn9) (cwV 4 hts gL_build_X5_addPass rfl rfl rfl (by decide +kernel) ⟨(Nat.le_of_ble_eq_true rfl), (Nat.le_of_ble_eq_true rfl)⟩) (wk_recv hK hA.desk rfl) (hV.heap hS.1 (fun q hq => hS.2.1 q (Nat.lt_of_lt_of_le hq hV.2.2.2.2.2.2) (hbA q hq))) hS (q_FDs hT) hA9 rfl hl.1 rfl (Nat.le_of_ble_eq_true rfl) dL_build_458 ⟨by show _ ≤ 40; omega, by show _ ≤ 600; omega⟩ (fun v9 H locs hR9 hz9 hk9 hS => ?_)
                    obtain ⟨rfl, T9, X9, hT9, hX9, hA⟩ := hR9
                    have la := haa.lt
                    have lsa := hsa.lt
                    have lp := hpa.lt
                    have lc := hct.lt
                    have hx0 : X9.1 0 0 = o := hX9.trans hx0
                    have haa := va_at.kept haa (hk9 _ haa.lt (q_ff ta))
                    have hsa := va_at.kept hsa (hk9 _ hsa.lt (q_ff ts))
                    have hpa := va_at.kept hpa (hk9 _ hpa.lt (q_ff tp))
                    have hct := va_at.kept hct (hk9 _ hct.lt (q_ff tc))
                    have ta : T9 aa = (20, 0) := (hT9 _ la).trans ta
                    have ts : T9 sa = (20, 1) := (hT9 _ lsa).trans ts
                    have tp : T9 pa = (20, 2) := (hT9 _ lp).trans tp
                    have tc : T9 ct = (20, 3) := (hT9 _ lc).trans tc
                    have hT : ∀ q, q < s.heap.size → T9 q = T0 q := fun q hq => (hT9 q (Nat.lt_of_lt_of_le hq hSz)).trans (hT q hq)
                    have hI : z_Ok (f_addP σ j391 j404 (nI j415) (nI ((j415 + 1) + j431))) := hI.addP hn9 hi9 ha9 hsp (v_len hI hsp hle9)
                    have hZ : z_Zr (f_addP σ j391 j404 (nI j415) (nI ((j415 + 1) + j431))) := q_ZrP hZ
                    have hnow : z_now (f_addP σ j391 j404 (nI j415) (nI ((j415 + 1) + j431))) = 0 := hnow
                    refine wk_eqls (st' := [.int (nI (z_n σ 2))]) rfl ?_
                    refine lv_istore (lv' := [(16, .int (nI (z_n σ 2))), (15, .int (nI (5 * (z_n σ 2)))), (14, .int (nI ((j415 + 1) + j431))), (13, .int (nI j415)), (12, .int (nI j404)), (11, .int (nI j391)), (10, .int x383), (0, .ref o), (1, .ref b), (2, .int 0), (3, .int 12), (4, .ref aa), (5, .ref sa), (6, .ref pa), (7, .ref ct), (8, .int (nI j348)), (9, .int (nI t))]) hx hb dL_build_461 hl (by decide) rfl (fun ls hl => ?_)
                    refine lv_goto (tgt := 472) hx hb dL_build_463 (by decide) ?_
                    refine lv_aload hx hb dL_build_472 (lv_at hl 11 rfl) ?_
                    refine lv_iconst (v := 3) hx hb dL_build_474 (by decide) ?_
                    refine lv_iload hx hb dL_build_475 (lv_at hl 4 rfl) ?_
                    refine lv_imul hx hb dL_build_477 ?_
                    refine wk_eqi (show 3 * (nI j404) = nI (3 * j404) from pk_mul 3 j404) ?_
                    refine wk_iald (n := 15) (f := fa) hx hb hK haa (3 * j404) rfl (by omega) (by omega) dL_build_478 ?_
                    refine lv_aload hx hb dL_build_479 (lv_at hl 12 rfl) ?_
                    refine lv_iconst (v := 4) hx hb dL_build_481 (by decide) ?_
                    refine lv_iload hx hb dL_build_482 (lv_at hl 5 rfl) ?_
                    refine lv_imul hx hb dL_build_484 ?_
                    refine wk_eqi (show 4 * (nI j391) = nI (4 * j391) from pk_mul 4 j391) ?_
                    refine wk_iald (n := 32) (f := fs) hx hb hK hsa (4 * j391) rfl (by omega) (by omega) dL_build_485 ?_
                    refine lv_ishr hx hb dL_build_486 ?_
                    refine lv_iconst (v := 1) hx hb dL_build_487 (by decide) ?_
                    refine lv_iand hx hb dL_build_488 ?_
                    refine wk_eqls (st' := [.int 1]) (by rw [hbit, hh]; rfl) ?_
                    refine lv_iconst (v := 1) hx hb dL_build_489 (by decide) ?_
                    refine lv_icmp_ne (tgt := 497) hx hb dL_build_490 (by decide) (fun c_490 => ?_) (fun c_490 => ?_)
                    · skip
                      exact absurd c_490 (by decide)
                    refine lv_iconst (v := 1) hx hb dL_build_493 (by decide) ?_
                    refine lv_goto (tgt := 498) hx hb dL_build_494 (by decide) ?_
                    refine lv_istore (lv' := [(17, .int 1), (16, .int (nI (z_n σ 2))), (15, .int (nI (5 * (z_n σ 2)))), (14, .int (nI ((j415 + 1) + j431))), (13, .int (nI j415)), (12, .int (nI j404)), (11, .int (nI j391)), (10, .int x383), (0, .ref o), (1, .ref b), (2, .int 0), (3, .int 12), (4, .ref aa), (5, .ref sa), (6, .ref pa), (7, .ref ct), (8, .int (nI j348)), (9, .int (nI t))]) hx hb dL_build_498 hl (by decide) rfl (fun ls hl => ?_)
                    refine lv_iload hx hb dL_build_500 (lv_at hl 1 rfl) ?_
                    refine lv_iload hx hb dL_build_502 (lv_at hl 0 rfl) ?_
                    refine lv_if_eq (tgt := 514) hx hb dL_build_504 (by decide) (fun c_504 => ?_) (fun c_504 => ?_)
                    · skip
                      exact absurd c_504 (by decide)
                    refine lv_aload hx hb dL_build_507 (lv_at hl 15 rfl) ?_
                    refine lv_iconst (v := 2) hx hb dL_build_509 (by decide) ?_
                    refine wk_iald (n := 3) (f := fc) hx hb hK hct 2 rfl (by omega) (by omega) dL_build_510 ?_
                    refine wk_eqls (st' := [.int (nI (z_n σ 2)), .int (nI (z_n σ 2))]) (by rw [hc2]) ?_
                    refine lv_goto (tgt := 516) hx hb dL_build_511 (by decide) ?_
                    refine lv_icmp_eq (tgt := 521) hx hb dL_build_516 (by decide) (fun c_516 => ?_) (fun c_516 => ?_)
                    · skip
                      refine lv_iload hx hb dL_build_521 (lv_at hl 0 rfl) ?_
                      refine lv_if_ne (tgt := 529) hx hb dL_build_523 (by decide) (fun c_523 => ?_) (fun c_523 => ?_)
                      · skip
                        refine lv_aload hx hb dL_build_529 (lv_at hl 14 rfl) ?_
                        refine lv_iload hx hb dL_build_531 (lv_at hl 2 rfl) ?_
                        refine lv_iload hx hb dL_build_533 (lv_at hl 6 rfl) ?_
                        refine wk_iast (nn := 80) hx hb hK hpa (Or.inl (Or.inr (Or.inr (Or.inr rfl)))) hS (5 * (z_n σ 2)) rfl (by omega) (by decide) dL_build_535 (fun H locs hP9 hz9 hk9 hS => ?_)
                        have hpa := hP9
                        have haa := va_at.kept haa (hk9 _ (q_ne ta tp (by decide)))
                        have hsa := va_at.kept hsa (hk9 _ (q_ne ts tp (by decide)))
                        have hct := va_at.kept hct (hk9 _ (q_ne tc tp (by decide)))
                        have hA := hA.kept (fun q _ hf => hk9 q (q_nf tp hf))
                        refine lv_aload hx hb dL_build_536 (lv_at hl 14 rfl) ?_
                        refine lv_iload hx hb dL_build_538 (lv_at hl 2 rfl) ?_
                        refine lv_iconst (v := 1) hx hb dL_build_540 (by decide) ?_
                        refine lv_iadd hx hb dL_build_541 ?_
                        refine wk_eqi (show (nI (5 * (z_n σ 2))) + 1 = nI ((5 * (z_n σ 2)) + 1) from nI_add (5 * (z_n σ 2)) 1) ?_
                        refine lv_iload hx hb dL_build_542 (lv_at hl 5 rfl) ?_
                        refine wk_iast (nn := 80) hx hb hK hpa (Or.inl (Or.inr (Or.inr (Or.inr rfl)))) hS ((5 * (z_n σ 2)) + 1) rfl (by omega) (by decide) dL_build_544 (fun H locs hP9 hz9 hk9 hS => ?_)
                        have hpa := hP9
                        have haa := va_at.kept haa (hk9 _ (q_ne ta tp (by decide)))
                        have hsa := va_at.kept hsa (hk9 _ (q_ne ts tp (by decide)))
                        have hct := va_at.kept hct (hk9 _ (q_ne tc tp (by decide)))
                        have hA := hA.kept (fun q _ hf => hk9 q (q_nf tp hf))
                        refine lv_aload hx hb dL_build_545 (lv_at hl 14 rfl) ?_
                        refine lv_iload hx hb dL_build_547 (lv_at hl 2 rfl) ?_
                        refine lv_iconst (v := 2) hx hb dL_build_549 (by decide) ?_
                        refine lv_iadd hx hb dL_build_550 ?_
                        refine wk_eqi (show (nI (5 * (z_n σ 2))) + 2 = nI ((5 * (z_n σ 2)) + 2) from nI_add (5 * (z_n σ 2)) 2) ?_
                        refine lv_iload hx hb dL_build_551 (lv_at hl 4 rfl) ?_
                        refine wk_iast (nn := 80) hx hb hK hpa (Or.inl (Or.inr (Or.inr (Or.inr rfl)))) hS ((5 * (z_n σ 2)) + 2) rfl (by omega) (by decide) dL_build_553 (fun H locs hP9 hz9 hk9 hS => ?_)
                        have hpa := hP9
                        have haa := va_at.kept haa (hk9 _ (q_ne ta tp (by decide)))
                        have hsa := va_at.kept hsa (hk9 _ (q_ne ts tp (by decide)))
                        have hct := va_at.kept hct (hk9 _ (q_ne tc tp (by decide)))
                        have hA := hA.kept (fun q _ hf => hk9 q (q_nf tp hf))
                        refine lv_aload hx hb dL_build_554 (lv_at hl 14 rfl) ?_
                        refine lv_iload hx hb dL_build_556 (lv_at hl 2 rfl) ?_
                        refine lv_iconst (v := 3) hx hb dL_build_558 (by decide) ?_
                        refine lv_iadd hx hb dL_build_559 ?_
                        refine wk_eqi (show (nI (5 * (z_n σ 2))) + 3 = nI ((5 * (z_n σ 2)) + 3) from nI_add (5 * (z_n σ 2)) 3) ?_
                        refine lv_iload hx hb dL_build_560 (lv_at hl 3 rfl) ?_
                        refine wk_iast (nn := 80) hx hb hK hpa (Or.inl (Or.inr (Or.inr (Or.inr rfl)))) hS ((5 * (z_n σ 2)) + 3) rfl (by omega) (by decide) dL_build_562 (fun H locs hP9 hz9 hk9 hS => ?_)
                        have hpa := hP9
                        have haa := va_at.kept haa (hk9 _ (q_ne ta tp (by decide)))
                        have hsa := va_at.kept hsa (hk9 _ (q_ne ts tp (by decide)))
                        have hct := va_at.kept hct (hk9 _ (q_ne tc tp (by decide)))
                        have hA := hA.kept (fun q _ hf => hk9 q (q_nf tp hf))
                        obtain ⟨fp1, hfp1⟩ : ∃ f : Nat → Int32, f = upd (upd (upd (upd fp (5 * (z_n σ 2)) (nI j391)) ((5 * (z_n σ 2)) + 1) (nI j404)) ((5 * (z_n σ 2)) + 2) (nI j415)) ((5 * (z_n σ 2)) + 3) (nI ((j415 + 1) + j431)) := ⟨_, rfl⟩
                        obtain ⟨g0, g1, g2, g3⟩ := q_up5 fp (z_n σ 2) (nI j391) (nI j404) (nI j415) (nI ((j415 + 1) + j431)) fp1 hfp1
                        rw [← hfp1] at hpa
                        have hfp := q_RP (i := j391) (a9 := j404) hfp g0 g1 g2 g3
                        refine lv_aload hx hb dL_build_563 (lv_at hl 15 rfl) ?_
                        refine lv_iconst (v := 2) hx hb dL_build_565 (by decide) ?_
                        refine lv_dup2_11 hx hb dL_build_566 rfl rfl ?_
                        refine wk_iald (n := 3) (f := fc) hx hb hK hct 2 rfl (by omega) (by omega) dL_build_567 ?_
                        refine wk_eqls (st' := [.int (nI (z_n σ 2)), .int 2, .ref ct]) (by rw [hc2]) ?_
                        refine lv_iconst (v := 1) hx hb dL_build_568 (by decide) ?_
                        refine lv_iadd hx hb dL_build_569 ?_
                        refine wk_eqi (show (nI (z_n σ 2)) + 1 = nI ((z_n σ 2) + 1) from nI_add (z_n σ 2) 1) ?_
                        refine wk_iast (nn := 3) hx hb hK hct (Or.inr hctn) hS 2 rfl (by omega) (by decide) dL_build_570 (fun H locs hP9 hz9 hk9 hS => ?_)
                        have hct := hP9
                        have haa := va_at.kept haa (hk9 _ (q_ne ta tc (by decide)))
                        have hsa := va_at.kept hsa (hk9 _ (q_ne ts tc (by decide)))
                        have hpa := va_at.kept hpa (hk9 _ (q_ne tp tc (by decide)))
                        have hA := hA.kept (fun q _ hf => hk9 q (q_nf tc hf))
                        obtain ⟨fc1, hfc1⟩ : ∃ f : Nat → Int32, f = upd fc 2 (nI ((z_n σ 2) + 1)) := ⟨_, rfl⟩
                        rw [← hfc1] at hct
                        have k0 : fc1 0 = nI n0 := by rw [hfc1]; exact hc0
                        have k1 : fc1 1 = nI n1 := by rw [hfc1]; exact hc1
                        have k2 : fc1 2 = nI (z_n (f_addP σ j391 j404 (nI j415) (nI ((j415 + 1) + j431))) 2) := by rw [hfc1]; rfl
                        refine lv_iinc (v := nI (t + 1)) (lv' := [(9, .int (nI (t + 1))), (17, .int 1), (16, .int (nI (z_n σ 2))), (15, .int (nI (5 * (z_n σ 2)))), (14, .int (nI ((j415 + 1) + j431))), (13, .int (nI j415)), (12, .int (nI j404)), (11, .int (nI j391)), (10, .int x383), (0, .ref o), (1, .ref b), (2, .int 0), (3, .int 12), (4, .ref aa), (5, .ref sa), (6, .ref pa), (7, .ref ct), (8, .int (nI j348))]) hx hb dL_build_571 hl (k := 17) rfl (nI_1 _) (by decide) rfl (fun ls hl => ?_)
                        refine lv_goto (tgt := 356) hx hb dL_build_574 (by decide) ?_
                        refine W.widen (k := 13 + 2 * (t + 1)) (n := 183 + 30 * (t + 1)) (by omega) (by omega) ?_
                        exact ih_356 (t + 1) T9 X9 (f_addP σ j391 j404 (nI j415) (nI ((j415 + 1) + j431))) H locs fp1 fc1 (by omega) (by omega) (⟨hA, hx0, ⟨ta, ts, tp, tc⟩, ⟨haa, hsa, hpa, hct⟩, hT, hI, hZ, hnow⟩) hna hnb (by show z_n σ 2 + 1 ≤ t + 1; omega) hfa hfs hfp k0 k1 k2 hS ls (lv_sub hl [9, 10, 11, 12, 13, 14, 15, 16, 17, 0] rfl)
                      exact absurd c_523 (by decide)
                    exact absurd rfl c_516
                  · skip
                    refine wx_V (As := [.int (nI j391), .int (nI j404), .int (nI j415), .int (nI ((j415 + 1) + j431))]) (rest := []) ⟨hx, hb, hml, hown, hts⟩ (t5_X5_addPass l hlf E hA hI hi9 ha9 hsp hle9 hh) (cwV 4 hts gL_build_X5_addPass rfl rfl rfl (by decide +kernel) ⟨(Nat.le_of_ble_eq_true rfl), (Nat.le_of_ble_eq_true rfl)⟩) (wk_recv hK hA.desk rfl) (hV.heap hS.1 (fun q hq => hS.2.1 q (Nat.lt_of_lt_of_le hq hV.2.2.2.2.2.2) (hbA q hq))) rfl hl.1 rfl (Nat.le_of_ble_eq_true rfl) dL_build_458 ⟨by show _ ≤ 40; omega, by show _ ≤ 600; omega⟩ (fun ce q9 H hz9 hk9 hc9 hv9 hcl9 => ?_)
                    refine vx_catch (name := "java/lang/IllegalArgumentException") (E := "java/lang/IllegalArgumentException") hown [] { startPc := 449, endPc := 463, handlerPc := 466, catchType := 32 } [] htab (fun _ h => absurd h List.not_mem_nil) (by decide) (by decide) (hts _ (List.mem_of_getElem? (i := 1) rfl)) (va_Nw.use rfl (hV.2.2.1.1 "java/lang/IllegalArgumentException" (by decide))) hc9 hv9 hcl9 ?_
                    have hS := q_Sg hS hz9 hk9
                    have hA := hA.kept (fun q hq _ => hk9 q hq)
                    have haa := va_at.kept haa (hk9 _ haa.lt)
                    have hsa := va_at.kept hsa (hk9 _ hsa.lt)
                    have hpa := va_at.kept hpa (hk9 _ hpa.lt)
                    have hct := va_at.kept hct (hk9 _ hct.lt)
                    refine lv_astore (lv' := [(17, .ref q9), (16, .int (-2)), (15, .int (nI (5 * (z_n σ 2)))), (14, .int (nI ((j415 + 1) + j431))), (13, .int (nI j415)), (12, .int (nI j404)), (11, .int (nI j391)), (10, .int x383), (0, .ref o), (1, .ref b), (2, .int 0), (3, .int 12), (4, .ref aa), (5, .ref sa), (6, .ref pa), (7, .ref ct), (8, .int (nI j348)), (9, .int (nI t))]) hx hb dL_build_466 hl (by decide) rfl (fun ls hl => ?_)
                    refine lv_bipush (v := (-2)) hx hb dL_build_468 (by decide) ?_
                    refine lv_istore (lv' := [(16, .int (-2)), (17, .ref q9), (15, .int (nI (5 * (z_n σ 2)))), (14, .int (nI ((j415 + 1) + j431))), (13, .int (nI j415)), (12, .int (nI j404)), (11, .int (nI j391)), (10, .int x383), (0, .ref o), (1, .ref b), (2, .int 0), (3, .int 12), (4, .ref aa), (5, .ref sa), (6, .ref pa), (7, .ref ct), (8, .int (nI j348)), (9, .int (nI t))]) hx hb dL_build_470 hl (by decide) rfl (fun ls hl => ?_)
                    refine lv_aload hx hb dL_build_472 (lv_at hl 12 rfl) ?_
                    refine lv_iconst (v := 3) hx hb dL_build_474 (by decide) ?_
                    refine lv_iload hx hb dL_build_475 (lv_at hl 5 rfl) ?_
                    refine lv_imul hx hb dL_build_477 ?_
                    refine wk_eqi (show 3 * (nI j404) = nI (3 * j404) from pk_mul 3 j404) ?_
                    refine wk_iald (n := 15) (f := fa) hx hb hK haa (3 * j404) rfl (by omega) (by omega) dL_build_478 ?_
                    refine lv_aload hx hb dL_build_479 (lv_at hl 13 rfl) ?_
                    refine lv_iconst (v := 4) hx hb dL_build_481 (by decide) ?_
                    refine lv_iload hx hb dL_build_482 (lv_at hl 6 rfl) ?_
                    refine lv_imul hx hb dL_build_484 ?_
                    refine wk_eqi (show 4 * (nI j391) = nI (4 * j391) from pk_mul 4 j391) ?_
                    refine wk_iald (n := 32) (f := fs) hx hb hK hsa (4 * j391) rfl (by omega) (by omega) dL_build_485 ?_
                    refine lv_ishr hx hb dL_build_486 ?_
                    refine lv_iconst (v := 1) hx hb dL_build_487 (by decide) ?_
                    refine lv_iand hx hb dL_build_488 ?_
                    refine wk_eqls (st' := [.int 0]) (by rw [hbit, hh]; rfl) ?_
                    refine lv_iconst (v := 1) hx hb dL_build_489 (by decide) ?_
                    refine lv_icmp_ne (tgt := 497) hx hb dL_build_490 (by decide) (fun c_490 => ?_) (fun c_490 => ?_)
                    · skip
                      refine lv_iconst (v := 0) hx hb dL_build_497 (by decide) ?_
                      refine lv_istore (lv' := [(17, .int 0), (16, .int (-2)), (15, .int (nI (5 * (z_n σ 2)))), (14, .int (nI ((j415 + 1) + j431))), (13, .int (nI j415)), (12, .int (nI j404)), (11, .int (nI j391)), (10, .int x383), (0, .ref o), (1, .ref b), (2, .int 0), (3, .int 12), (4, .ref aa), (5, .ref sa), (6, .ref pa), (7, .ref ct), (8, .int (nI j348)), (9, .int (nI t))]) hx hb dL_build_498 hl (by decide) rfl (fun ls hl => ?_)
                      refine lv_iload hx hb dL_build_500 (lv_at hl 1 rfl) ?_
                      refine lv_iload hx hb dL_build_502 (lv_at hl 0 rfl) ?_
                      refine lv_if_eq (tgt := 514) hx hb dL_build_504 (by decide) (fun c_504 => ?_) (fun c_504 => ?_)
                      · skip
                        refine lv_bipush (v := (-2)) hx hb dL_build_514 (by decide) ?_
                        refine lv_icmp_eq (tgt := 521) hx hb dL_build_516 (by decide) (fun c_516 => ?_) (fun c_516 => ?_)
                        · skip
                          refine lv_iload hx hb dL_build_521 (lv_at hl 0 rfl) ?_
                          refine lv_if_ne (tgt := 529) hx hb dL_build_523 (by decide) (fun c_523 => ?_) (fun c_523 => ?_)
                          · skip
                            exact absurd c_523 (by decide)
                          refine lv_goto (tgt := 571) hx hb dL_build_526 (by decide) ?_
                          refine lv_iinc (v := nI (t + 1)) (lv' := [(9, .int (nI (t + 1))), (17, .int 0), (16, .int (-2)), (15, .int (nI (5 * (z_n σ 2)))), (14, .int (nI ((j415 + 1) + j431))), (13, .int (nI j415)), (12, .int (nI j404)), (11, .int (nI j391)), (10, .int x383), (0, .ref o), (1, .ref b), (2, .int 0), (3, .int 12), (4, .ref aa), (5, .ref sa), (6, .ref pa), (7, .ref ct), (8, .int (nI j348))]) hx hb dL_build_571 hl (k := 17) rfl (nI_1 _) (by decide) rfl (fun ls hl => ?_)
                          refine lv_goto (tgt := 356) hx hb dL_build_574 (by decide) ?_
                          refine W.widen (k := 13 + 2 * (t + 1)) (n := 183 + 30 * (t + 1)) (by omega) (by omega) ?_
                          exact ih_356 (t + 1) T X σ H locs fp fc (by omega) (by omega) (⟨hA, hx0, ⟨ta, ts, tp, tc⟩, ⟨haa, hsa, hpa, hct⟩, hT, hI, hZ, hnow⟩) hna hnb (by omega) hfa hfs hfp hc0 hc1 hc2 hS ls (lv_sub hl [9, 10, 11, 12, 13, 14, 15, 16, 17, 0] rfl)
                        exact absurd c_516 (by decide)
                      exact absurd c_504 (by decide)
                    exact absurd c_490 (by decide)
              exact L_356 _ 0 T X σ H locs fp fc (Nat.lt_succ_self _) (Nat.zero_le _) (⟨hA, hx0, ⟨ta, ts, tp, tc⟩, ⟨haa, hsa, hpa, hct⟩, hT, hI, hZ, hnow⟩) hna hnb (by omega) hfa hfs (fun j hj => absurd hj (by omega)) hc0 hc1 (by rw [hnc]; exact hc2) hS ls (lv_sub hl [2, 3, 4, 5, 6, 7, 8, 9, 1, 0] rfl)
            have e_196 : k < n1 := wk_cgef (by omega) (by omega) c_196
            refine lv_aload_n hx hb dL_build_199 rfl (lv_at hl 1 rfl) ?_
            refine lv_iload_n hx hb dL_build_200 rfl (lv_at hl 2 rfl) ?_
            refine lv_iconst (v := 2) hx hb dL_build_201 (by decide) ?_
            refine lv_iadd hx hb dL_build_202 ?_
            refine wk_eqls (st' := [.int (nI 2), .ref b]) rfl ?_
            have hX9 : va_X b L xs s H := (va_X.kept hX0 (hS.2.1 b (q_Xlt hX0) (hbA b hbE)))
            refine wk_SX (As := [.ref b, .int (nI 2)]) (rest := []) ⟨hx, hb, hml, hown, hts⟩ (c_L_cell l E hL (k := 2) (by omega)) (fun U hW => q_X.warm hW hX9) (fun U g mk a h => q_X.call g mk a h) (va_cwS 2 hts gL_build_L_cell rfl rfl rfl (by decide +kernel) ⟨(Nat.le_of_ble_eq_true rfl), (Nat.le_of_ble_eq_true rfl)⟩) hK rfl hl.1 rfl (Nat.le_of_ble_eq_true rfl) dL_build_203 ⟨by show _ ≤ 40; omega, by show _ ≤ 600; omega⟩ ?_
            refine wk_geni (fun y203 => ?_)
            refine lv_bipush (v := 6) hx hb dL_build_206 (by decide) ?_
            refine lv_iload hx hb dL_build_208 (lv_at hl 8 rfl) ?_
            refine lv_imul hx hb dL_build_210 ?_
            refine wk_eqi (show 6 * (nI k) = nI (6 * k) from pk_mul 6 k) ?_
            refine lv_ishr hx hb dL_build_211 ?_
            refine wk_geni (fun x212 => ?_)
            refine lv_istore (lv' := [(9, .int x212), (0, .ref o), (1, .ref b), (2, .int 0), (3, .int 12), (4, .ref aa), (5, .ref sa), (6, .ref pa), (7, .ref ct), (8, .int (nI k))]) hx hb dL_build_212 hl (by decide) rfl (fun ls hl => ?_)
            refine lv_aload hx hb dL_build_214 (lv_at hl 6 rfl) ?_
            refine lv_iconst (v := 4) hx hb dL_build_216 (by decide) ?_
            refine lv_iload hx hb dL_build_217 (lv_at hl 9 rfl) ?_
            refine lv_imul hx hb dL_build_219 ?_
            refine wk_eqi (show 4 * (nI k) = nI (4 * k) from pk_mul 4 k) ?_
            refine lv_iload hx hb dL_build_220 (lv_at hl 0 rfl) ?_
            refine lv_iconst (v := 4) hx hb dL_build_222 (by decide) ?_
            refine wk_eqls (st' := [.int (nI 4), .int x212, .int (nI (4 * k)), .ref sa]) rfl ?_
            refine wk_S (As := [.int x212, .int (nI 4)]) (rest := [.int (nI (4 * k)), .ref sa]) ⟨hx, hb, hml, hown, hts⟩ (c_L_below l E x212 (k := 4) (by omega) (by omega)) (va_cwS 2 hts gL_build_L_below rfl rfl rfl (by decide +kernel) ⟨(Nat.le_of_ble_eq_true rfl), (Nat.le_of_ble_eq_true rfl)⟩) hK rfl hl.1 rfl (Nat.le_of_ble_eq_true rfl) dL_build_223 ⟨by show _ ≤ 40; omega, by show _ ≤ 600; omega⟩ ?_
            refine wk_genb (q_b_lt x212 (by omega)) (fun j223 hj223 => ?_)
            refine wk_iast (nn := 32) hx hb hK hsa (Or.inl (Or.inr (Or.inr (Or.inl rfl)))) hS (4 * k) rfl (by omega) (by decide) dL_build_226 (fun H locs hP9 hz9 hk9 hS => ?_)
            have hsa := hP9
            have haa := va_at.kept haa (hk9 _ (q_ne ta ts (by decide)))
            have hpa := va_at.kept hpa (hk9 _ (q_ne tp ts (by decide)))
            have hct := va_at.kept hct (hk9 _ (q_ne tc ts (by decide)))
            have hA := hA.kept (fun q _ hf => hk9 q (q_nf ts hf))
            refine lv_aload hx hb dL_build_227 (lv_at hl 6 rfl) ?_
            refine lv_iconst (v := 4) hx hb dL_build_229 (by decide) ?_
            refine lv_iload hx hb dL_build_230 (lv_at hl 9 rfl) ?_
            refine lv_imul hx hb dL_build_232 ?_
            refine wk_eqi (show 4 * (nI k) = nI (4 * k) from pk_mul 4 k) ?_
            refine lv_iconst (v := 1) hx hb dL_build_233 (by decide) ?_
            refine lv_iadd hx hb dL_build_234 ?_
            refine wk_eqi (show (nI (4 * k)) + 1 = nI ((4 * k) + 1) from nI_add (4 * k) 1) ?_
            refine lv_iconst (v := 1) hx hb dL_build_235 (by decide) ?_
            refine lv_iload hx hb dL_build_236 (lv_at hl 0 rfl) ?_
            refine lv_iconst (v := 2) hx hb dL_build_238 (by decide) ?_
            refine lv_ishr hx hb dL_build_239 ?_
            refine lv_bipush (v := 9) hx hb dL_build_240 (by decide) ?_
            refine wk_eqls (st' := [.int (nI 9), .int (x212 >>> (2 &&& 31)), .int 1, .int (nI ((4 * k) + 1)), .ref sa]) rfl ?_
            refine wk_S (As := [.int (x212 >>> (2 &&& 31)), .int (nI 9)]) (rest := [.int 1, .int (nI ((4 * k) + 1)), .ref sa]) ⟨hx, hb, hml, hown, hts⟩ (c_L_below l E (x212 >>> (2 &&& 31)) (k := 9) (by omega) (by omega)) (va_cwS 2 hts gL_build_L_below rfl rfl rfl (by decide +kernel) ⟨(Nat.le_of_ble_eq_true rfl), (Nat.le_of_ble_eq_true rfl)⟩) hK rfl hl.1 rfl (Nat.le_of_ble_eq_true rfl) dL_build_242 ⟨by show _ ≤ 40; omega, by show _ ≤ 600; omega⟩ ?_
            refine wk_genb (q_b_lt (x212 >>> (2 &&& 31)) (by omega)) (fun j242 hj242 => ?_)
            refine lv_iadd hx hb dL_build_245 ?_
            refine wk_eqi (show 1 + (nI j242) = nI (1 + j242) from nI_add 1 j242) ?_
            refine wk_iast (nn := 32) hx hb hK hsa (Or.inl (Or.inr (Or.inr (Or.inl rfl)))) hS ((4 * k) + 1) rfl (by omega) (by decide) dL_build_246 (fun H locs hP9 hz9 hk9 hS => ?_)
            have hsa := hP9
            have haa := va_at.kept haa (hk9 _ (q_ne ta ts (by decide)))
            have hpa := va_at.kept hpa (hk9 _ (q_ne tp ts (by decide)))
            have hct := va_at.kept hct (hk9 _ (q_ne tc ts (by decide)))
            have hA := hA.kept (fun q _ hf => hk9 q (q_nf ts hf))
            refine lv_aload hx hb dL_build_247 (lv_at hl 6 rfl) ?_
            refine lv_iconst (v := 4) hx hb dL_build_249 (by decide) ?_
            refine lv_iload hx hb dL_build_250 (lv_at hl 9 rfl) ?_
            refine lv_imul hx hb dL_build_252 ?_
            refine wk_eqi (show 4 * (nI k) = nI (4 * k) from pk_mul 4 k) ?_
            refine lv_iconst (v := 2) hx hb dL_build_253 (by decide) ?_
            refine lv_iadd hx hb dL_build_254 ?_
            refine wk_eqi (show (nI (4 * k)) + 2 = nI ((4 * k) + 2) from nI_add (4 * k) 2) ?_
            refine lv_iload hx hb dL_build_255 (lv_at hl 0 rfl) ?_
            refine lv_iconst (v := 3) hx hb dL_build_257 (by decide) ?_
            refine lv_ishr hx hb dL_build_258 ?_
            refine lv_bipush (v := 30) hx hb dL_build_259 (by decide) ?_
            refine wk_eqls (st' := [.int (nI 30), .int (x212 >>> (3 &&& 31)), .int (nI ((4 * k) + 2)), .ref sa]) rfl ?_
            refine wk_S (As := [.int (x212 >>> (3 &&& 31)), .int (nI 30)]) (rest := [.int (nI ((4 * k) + 2)), .ref sa]) ⟨hx, hb, hml, hown, hts⟩ (c_L_below l E (x212 >>> (3 &&& 31)) (k := 30) (by omega) (by omega)) (va_cwS 2 hts gL_build_L_below rfl rfl rfl (by decide +kernel) ⟨(Nat.le_of_ble_eq_true rfl), (Nat.le_of_ble_eq_true rfl)⟩) hK rfl hl.1 rfl (Nat.le_of_ble_eq_true rfl) dL_build_261 ⟨by show _ ≤ 40; omega, by show _ ≤ 600; omega⟩ ?_
            refine wk_genb (q_b_lt (x212 >>> (3 &&& 31)) (by omega)) (fun j261 hj261 => ?_)
            refine wk_iast (nn := 32) hx hb hK hsa (Or.inl (Or.inr (Or.inr (Or.inl rfl)))) hS ((4 * k) + 2) rfl (by omega) (by decide) dL_build_264 (fun H locs hP9 hz9 hk9 hS => ?_)
            have hsa := hP9
            have haa := va_at.kept haa (hk9 _ (q_ne ta ts (by decide)))
            have hpa := va_at.kept hpa (hk9 _ (q_ne tp ts (by decide)))
            have hct := va_at.kept hct (hk9 _ (q_ne tc ts (by decide)))
            have hA := hA.kept (fun q _ hf => hk9 q (q_nf ts hf))
            refine lv_aload hx hb dL_build_265 (lv_at hl 6 rfl) ?_
            refine lv_iconst (v := 4) hx hb dL_build_267 (by decide) ?_
            refine lv_iload hx hb dL_build_268 (lv_at hl 9 rfl) ?_
            refine lv_imul hx hb dL_build_270 ?_
            refine wk_eqi (show 4 * (nI k) = nI (4 * k) from pk_mul 4 k) ?_
            refine lv_iconst (v := 3) hx hb dL_build_271 (by decide) ?_
            refine lv_iadd hx hb dL_build_272 ?_
            refine wk_eqi (show (nI (4 * k)) + 3 = nI ((4 * k) + 3) from nI_add (4 * k) 3) ?_
            refine lv_iconst (v := 1) hx hb dL_build_273 (by decide) ?_
            refine lv_iload hx hb dL_build_274 (lv_at hl 0 rfl) ?_
            refine lv_iconst (v := 4) hx hb dL_build_276 (by decide) ?_
            refine lv_ishr hx hb dL_build_277 ?_
            refine lv_sipush (v := 900) hx hb dL_build_278 (by decide) ?_
            refine wk_eqls (st' := [.int (nI 900), .int (x212 >>> (4 &&& 31)), .int 1, .int (nI ((4 * k) + 3)), .ref sa]) rfl ?_
            refine wk_S (As := [.int (x212 >>> (4 &&& 31)), .int (nI 900)]) (rest := [.int 1, .int (nI ((4 * k) + 3)), .ref sa]) ⟨hx, hb, hml, hown, hts⟩ (c_L_below l E (x212 >>> (4 &&& 31)) (k := 900) (by omega) (by omega)) (va_cwS 2 hts gL_build_L_below rfl rfl rfl (by decide +kernel) ⟨(Nat.le_of_ble_eq_true rfl), (Nat.le_of_ble_eq_true rfl)⟩) hK rfl hl.1 rfl (Nat.le_of_ble_eq_true rfl) dL_build_281 ⟨by show _ ≤ 40; omega, by show _ ≤ 600; omega⟩ ?_
            refine wk_genb (q_b_lt (x212 >>> (4 &&& 31)) (by omega)) (fun j281 hj281 => ?_)
            refine lv_iadd hx hb dL_build_284 ?_
            refine wk_eqi (show 1 + (nI j281) = nI (1 + j281) from nI_add 1 j281) ?_
            refine wk_iast (nn := 32) hx hb hK hsa (Or.inl (Or.inr (Or.inr (Or.inl rfl)))) hS ((4 * k) + 3) rfl (by omega) (by decide) dL_build_285 (fun H locs hP9 hz9 hk9 hS => ?_)
            have hsa := hP9
            have haa := va_at.kept haa (hk9 _ (q_ne ta ts (by decide)))
            have hpa := va_at.kept hpa (hk9 _ (q_ne tp ts (by decide)))
            have hct := va_at.kept hct (hk9 _ (q_ne tc ts (by decide)))
            have hA := hA.kept (fun q _ hf => hk9 q (q_nf ts hf))
            obtain ⟨fs1, hfs1⟩ : ∃ f : Nat → Int32, f = upd (upd (upd (upd fs (4 * k) (nI j223)) ((4 * k) + 1) (nI (1 + j242))) ((4 * k) + 2) (nI j261)) ((4 * k) + 3) (nI (1 + j281)) := ⟨_, rfl⟩
            obtain ⟨g0, g1, g2, g9, g3⟩ := q_up4 fs k (nI j223) (nI (1 + j242)) (nI j261) (nI (1 + j281)) fs1 hfs1
            rw [← hfs1] at hsa
            refine lv_aload_n hx hb dL_build_286 rfl (lv_at hl 1 rfl) ?_
            refine lv_aload hx hb dL_build_287 (lv_at hl 6 rfl) ?_
            refine lv_iconst (v := 4) hx hb dL_build_289 (by decide) ?_
            refine lv_iload hx hb dL_build_290 (lv_at hl 9 rfl) ?_
            refine lv_imul hx hb dL_build_292 ?_
            refine wk_eqi (show 4 * (nI k) = nI (4 * k) from pk_mul 4 k) ?_
            refine wk_iald (n := 32) (f := fs1) hx hb hK hsa (4 * k) rfl (by omega) (by omega) dL_build_293 ?_
            refine lv_aload hx hb dL_build_294 (lv_at hl 6 rfl) ?_
            refine lv_iconst (v := 4) hx hb dL_build_296 (by decide) ?_
            refine lv_iload hx hb dL_build_297 (lv_at hl 9 rfl) ?_
            refine lv_imul hx hb dL_build_299 ?_
            refine wk_eqi (show 4 * (nI k) = nI (4 * k) from pk_mul 4 k) ?_
            refine lv_iconst (v := 1) hx hb dL_build_300 (by decide) ?_
            refine lv_iadd hx hb dL_build_301 ?_
            refine wk_eqi (show (nI (4 * k)) + 1 = nI ((4 * k) + 1) from nI_add (4 * k) 1) ?_
            refine wk_iald (n := 32) (f := fs1) hx hb hK hsa ((4 * k) + 1) rfl (by omega) (by omega) dL_build_302 ?_
            refine lv_aload hx hb dL_build_303 (lv_at hl 6 rfl) ?_
            refine lv_iconst (v := 4) hx hb dL_build_305 (by decide) ?_
            refine lv_iload hx hb dL_build_306 (lv_at hl 9 rfl) ?_
            refine lv_imul hx hb dL_build_308 ?_
            refine wk_eqi (show 4 * (nI k) = nI (4 * k) from pk_mul 4 k) ?_
            refine lv_iconst (v := 2) hx hb dL_build_309 (by decide) ?_
            refine lv_iadd hx hb dL_build_310 ?_
            refine wk_eqi (show (nI (4 * k)) + 2 = nI ((4 * k) + 2) from nI_add (4 * k) 2) ?_
            refine wk_iald (n := 32) (f := fs1) hx hb hK hsa ((4 * k) + 2) rfl (by omega) (by omega) dL_build_311 ?_
            refine lv_aload hx hb dL_build_312 (lv_at hl 6 rfl) ?_
            refine lv_iconst (v := 4) hx hb dL_build_314 (by decide) ?_
            refine lv_iload hx hb dL_build_315 (lv_at hl 9 rfl) ?_
            refine lv_imul hx hb dL_build_317 ?_
            refine wk_eqi (show 4 * (nI k) = nI (4 * k) from pk_mul 4 k) ?_
            refine lv_iconst (v := 3) hx hb dL_build_318 (by decide) ?_
            refine lv_iadd hx hb dL_build_319 ?_
            refine wk_eqi (show (nI (4 * k)) + 3 = nI ((4 * k) + 3) from nI_add (4 * k) 3) ?_
            refine wk_iald (n := 32) (f := fs1) hx hb hK hsa ((4 * k) + 3) rfl (by omega) (by omega) dL_build_320 ?_
            have hok : v_sat (nI j223) (nI (1 + j242)) (nI j261) (nI (1 + j281)) = true := q_sat (by omega) ⟨by omega, by omega⟩ (by omega) ⟨by omega, by omega⟩
            have hSz := hS.1
            refine wk_eqls (st' := [.int (nI (1 + j281)), .int (nI j261), .int (nI (1 + j242)), .int (nI j223), .ref (X.1 0 0)]) (by rw [g0, g1, g2, g9, hx0]) ?_
            refine we_V (As := [.int (nI j223), .int (nI (1 + j242)), .int (nI j261), .int (nI (1 + j281))]) (rest := []) ⟨hx, hb, hml, hown, hts⟩ (e_X5_addSatellite l E hA hI hZ hok (by omega)) (cwV 4 hts gL_build_X5_addSatellite rfl rfl rfl (by decide +kernel) ⟨(Nat.le_of_ble_eq_true rfl), (Nat.le_of_ble_eq_true rfl)⟩) (wk_recv hK hA.desk rfl) (hV.heap hS.1 (fun q hq => hS.2.1 q (Nat.lt_of_lt_of_le hq hV.2.2.2.2.2.2) (hbA q hq))) hS (q_FDs hT) hA9 rfl hl.1 rfl (Nat.le_of_ble_eq_true rfl) dL_build_321 ⟨by show _ ≤ 40; omega, by show _ ≤ 600; omega⟩ (fun v9 H locs hR9 hz9 hk9 hS => ?_)
            obtain ⟨rfl, T9, X9, hT9, hX9, hA⟩ := hR9
            have la := haa.lt
            have lsa := hsa.lt
            have lp := hpa.lt
            have lc := hct.lt
            have hx0 : X9.1 0 0 = o := hX9.trans hx0
            have haa := va_at.kept haa (hk9 _ haa.lt (q_ff ta))
            have hsa := va_at.kept hsa (hk9 _ hsa.lt (q_ff ts))
            have hpa := va_at.kept hpa (hk9 _ hpa.lt (q_ff tp))
            have hct := va_at.kept hct (hk9 _ hct.lt (q_ff tc))
            have ta : T9 aa = (20, 0) := (hT9 _ la).trans ta
            have ts : T9 sa = (20, 1) := (hT9 _ lsa).trans ts
            have tp : T9 pa = (20, 2) := (hT9 _ lp).trans tp
            have tc : T9 ct = (20, 3) := (hT9 _ lc).trans tc
            have hT : ∀ q, q < s.heap.size → T9 q = T0 q := fun q hq => (hT9 q (Nat.lt_of_lt_of_le hq hSz)).trans (hT q hq)
            have hfs := q_RS (w := nI j223) (x := nI (1 + j242)) (y := nI j261) (z := nI (1 + j281)) hnb hfs g0 g1 g3
            have hnb0 := hnb
            have hI := hI.addS (by omega) hok
            have hZ : z_Zr (f_addS σ (nI j223) (nI (1 + j242)) (nI j261) (nI (1 + j281))) := q_ZrS hZ
            have hnow : z_now (f_addS σ (nI j223) (nI (1 + j242)) (nI j261) (nI (1 + j281))) = 0 := hnow
            have hnb : z_n (f_addS σ (nI j223) (nI (1 + j242)) (nI j261) (nI (1 + j281))) 1 = k + 1 := by show z_n σ 1 + 1 = k + 1; rw [hnb]
            have hna : z_n (f_addS σ (nI j223) (nI (1 + j242)) (nI j261) (nI (1 + j281))) 0 = n0 := hna
            have hnc : z_n (f_addS σ (nI j223) (nI (1 + j242)) (nI j261) (nI (1 + j281))) 2 = 0 := hnc
            refine wk_eqls (st' := [.int (nI (z_n σ 1))]) rfl ?_
            refine lv_iload hx hb dL_build_324 (lv_at hl 9 rfl) ?_
            refine lv_icmp_eq (tgt := 331) hx hb dL_build_326 (by decide) (fun c_326 => ?_) (fun c_326 => ?_)
            · skip
              have e_326 : (z_n σ 1) = k := wk_ceqt (by omega) (by omega) c_326
              refine lv_iinc (v := nI (k + 1)) (lv' := [(8, .int (nI (k + 1))), (9, .int x212), (0, .ref o), (1, .ref b), (2, .int 0), (3, .int 12), (4, .ref aa), (5, .ref sa), (6, .ref pa), (7, .ref ct)]) hx hb dL_build_331 hl (k := 9) rfl (nI_1 _) (by decide) rfl (fun ls hl => ?_)
              refine lv_goto (tgt := 190) hx hb dL_build_334 (by decide) ?_
              refine W.widen (k := 7 + 2 * (k + 1)) (n := 93 + 30 * (k + 1)) (by omega) (by omega) ?_
              exact ih_190 (k + 1) T9 X9 (f_addS σ (nI j223) (nI (1 + j242)) (nI j261) (nI (1 + j281))) H locs fs1 (by omega) (by omega) (⟨hA, hx0, ⟨ta, ts, tp, tc⟩, ⟨haa, hsa, hpa, hct⟩, hT, hI, hZ, hnow⟩) hna hnb hnc hfa hfs hS ls (lv_sub hl [2, 3, 4, 5, 6, 7, 8, 9, 0] rfl)
            have e_326 : ¬ (z_n σ 1) = k := wk_ceqf (by omega) (by omega) c_326
            exact absurd hnb0 e_326
        exact L_190 _ 0 T X σ H locs fs (Nat.lt_succ_self _) (Nat.zero_le _) (⟨hA, hx0, ⟨ta, ts, tp, tc⟩, ⟨haa, hsa, hpa, hct⟩, hT, hI, hZ, hnow⟩) hna hnb hnc hfa (fun j hj => absurd hj (Nat.not_lt_zero _)) hS ls (lv_sub hl [1, 2, 3, 4, 5, 6, 7, 8, 0] rfl)
      have e_48 : a < n0 := wk_cgef (by omega) (by omega) c_48
      refine lv_aload_n hx hb dL_build_51 rfl (lv_at hl 1 rfl) ?_
      refine lv_iload_n hx hb dL_build_52 rfl (lv_at hl 2 rfl) ?_
      refine lv_iconst (v := 1) hx hb dL_build_53 (by decide) ?_
      refine lv_iadd hx hb dL_build_54 ?_
      refine wk_eqls (st' := [.int (nI 1), .ref b]) rfl ?_
      have hX9 : va_X b L xs s H := (va_X.kept hX0 (hS.2.1 b (q_Xlt hX0) (hbA b hbE)))
      refine wk_SX (As := [.ref b, .int (nI 1)]) (rest := []) ⟨hx, hb, hml, hown, hts⟩ (c_L_cell l E hL (k := 1) (by omega)) (fun U hW => q_X.warm hW hX9) (fun U g mk a h => q_X.call g mk a h) (va_cwS 2 hts gL_build_L_cell rfl rfl rfl (by decide +kernel) ⟨(Nat.le_of_ble_eq_true rfl), (Nat.le_of_ble_eq_true rfl)⟩) hK rfl hl.1 rfl (Nat.le_of_ble_eq_true rfl) dL_build_55 ⟨by show _ ≤ 40; omega, by show _ ≤ 600; omega⟩ ?_
      refine wk_geni (fun y55 => ?_)
      refine lv_bipush (v := 6) hx hb dL_build_58 (by decide) ?_
      refine lv_iload hx hb dL_build_60 (lv_at hl 8 rfl) ?_
      refine lv_imul hx hb dL_build_62 ?_
      refine wk_eqi (show 6 * (nI a) = nI (6 * a) from pk_mul 6 a) ?_
      refine lv_ishr hx hb dL_build_63 ?_
      refine wk_geni (fun x64 => ?_)
      refine lv_istore (lv' := [(9, .int x64), (0, .ref o), (1, .ref b), (2, .int 0), (3, .int 12), (4, .ref aa), (5, .ref sa), (6, .ref pa), (7, .ref ct), (8, .int (nI a))]) hx hb dL_build_64 hl (by decide) rfl (fun ls hl => ?_)
      refine lv_aload hx hb dL_build_66 (lv_at hl 5 rfl) ?_
      refine lv_iconst (v := 3) hx hb dL_build_68 (by decide) ?_
      refine lv_iload hx hb dL_build_69 (lv_at hl 9 rfl) ?_
      refine lv_imul hx hb dL_build_71 ?_
      refine wk_eqi (show 3 * (nI a) = nI (3 * a) from pk_mul 3 a) ?_
      refine lv_iload hx hb dL_build_72 (lv_at hl 0 rfl) ?_
      refine lv_iconst (v := 3) hx hb dL_build_74 (by decide) ?_
      refine wk_eqls (st' := [.int (nI 3), .int x64, .int (nI (3 * a)), .ref aa]) rfl ?_
      refine wk_S (As := [.int x64, .int (nI 3)]) (rest := [.int (nI (3 * a)), .ref aa]) ⟨hx, hb, hml, hown, hts⟩ (c_L_below l E x64 (k := 3) (by omega) (by omega)) (va_cwS 2 hts gL_build_L_below rfl rfl rfl (by decide +kernel) ⟨(Nat.le_of_ble_eq_true rfl), (Nat.le_of_ble_eq_true rfl)⟩) hK rfl hl.1 rfl (Nat.le_of_ble_eq_true rfl) dL_build_75 ⟨by show _ ≤ 40; omega, by show _ ≤ 600; omega⟩ ?_
      refine wk_genb (q_b_lt x64 (by omega)) (fun j75 hj75 => ?_)
      refine lv_if_le (tgt := 86) hx hb dL_build_78 (by decide) (fun c_78 => ?_) (fun c_78 => ?_)
      · skip
        have d_78 := Int32.not_lt.mpr c_78
        refine lv_iconst (v := 1) hx hb dL_build_86 (by decide) ?_
        refine lv_iload hx hb dL_build_87 (lv_at hl 0 rfl) ?_
        refine lv_iconst (v := 1) hx hb dL_build_89 (by decide) ?_
        refine lv_ishr hx hb dL_build_90 ?_
        refine lv_bipush (v := 15) hx hb dL_build_91 (by decide) ?_
        refine wk_eqls (st' := [.int (nI 15), .int (x64 >>> (1 &&& 31)), .int 1, .int (nI (3 * a)), .ref aa]) rfl ?_
        refine wk_S (As := [.int (x64 >>> (1 &&& 31)), .int (nI 15)]) (rest := [.int 1, .int (nI (3 * a)), .ref aa]) ⟨hx, hb, hml, hown, hts⟩ (c_L_below l E (x64 >>> (1 &&& 31)) (k := 15) (by omega) (by omega)) (va_cwS 2 hts gL_build_L_below rfl rfl rfl (by decide +kernel) ⟨(Nat.le_of_ble_eq_true rfl), (Nat.le_of_ble_eq_true rfl)⟩) hK rfl hl.1 rfl (Nat.le_of_ble_eq_true rfl) dL_build_93 ⟨by show _ ≤ 40; omega, by show _ ≤ 600; omega⟩ ?_
        refine wk_genb (q_b_lt (x64 >>> (1 &&& 31)) (by omega)) (fun j93 hj93 => ?_)
        refine lv_iadd hx hb dL_build_96 ?_
        refine wk_eqi (show 1 + (nI j93) = nI (1 + j93) from nI_add 1 j93) ?_
        refine wk_iast (nn := 15) hx hb hK haa (Or.inl (Or.inr (Or.inl rfl))) hS (3 * a) rfl (by omega) (by decide) dL_build_97 (fun H locs hP9 hz9 hk9 hS => ?_)
        have haa := hP9
        have hsa := va_at.kept hsa (hk9 _ (q_ne ts ta (by decide)))
        have hpa := va_at.kept hpa (hk9 _ (q_ne tp ta (by decide)))
        have hct := va_at.kept hct (hk9 _ (q_ne tc ta (by decide)))
        have hA := hA.kept (fun q _ hf => hk9 q (q_nf ta hf))
        refine lv_aload hx hb dL_build_98 (lv_at hl 5 rfl) ?_
        refine lv_iconst (v := 3) hx hb dL_build_100 (by decide) ?_
        refine lv_iload hx hb dL_build_101 (lv_at hl 9 rfl) ?_
        refine lv_imul hx hb dL_build_103 ?_
        refine wk_eqi (show 3 * (nI a) = nI (3 * a) from pk_mul 3 a) ?_
        refine lv_iconst (v := 1) hx hb dL_build_104 (by decide) ?_
        refine lv_iadd hx hb dL_build_105 ?_
        refine wk_eqi (show (nI (3 * a)) + 1 = nI ((3 * a) + 1) from nI_add (3 * a) 1) ?_
        refine lv_iload hx hb dL_build_106 (lv_at hl 0 rfl) ?_
        refine lv_iconst (v := 2) hx hb dL_build_108 (by decide) ?_
        refine lv_ishr hx hb dL_build_109 ?_
        refine lv_iconst (v := 2) hx hb dL_build_110 (by decide) ?_
        refine wk_eqls (st' := [.int (nI 2), .int (x64 >>> (2 &&& 31)), .int (nI ((3 * a) + 1)), .ref aa]) rfl ?_
        refine wk_S (As := [.int (x64 >>> (2 &&& 31)), .int (nI 2)]) (rest := [.int (nI ((3 * a) + 1)), .ref aa]) ⟨hx, hb, hml, hown, hts⟩ (c_L_below l E (x64 >>> (2 &&& 31)) (k := 2) (by omega) (by omega)) (va_cwS 2 hts gL_build_L_below rfl rfl rfl (by decide +kernel) ⟨(Nat.le_of_ble_eq_true rfl), (Nat.le_of_ble_eq_true rfl)⟩) hK rfl hl.1 rfl (Nat.le_of_ble_eq_true rfl) dL_build_111 ⟨by show _ ≤ 40; omega, by show _ ≤ 600; omega⟩ ?_
        refine wk_genb (q_b_lt (x64 >>> (2 &&& 31)) (by omega)) (fun j111 hj111 => ?_)
        refine lv_iload hx hb dL_build_114 (lv_at hl 0 rfl) ?_
        refine lv_iconst (v := 3) hx hb dL_build_116 (by decide) ?_
        refine lv_ishr hx hb dL_build_117 ?_
        refine lv_bipush (v := 12) hx hb dL_build_118 (by decide) ?_
        refine wk_eqls (st' := [.int (nI 12), .int (x64 >>> (3 &&& 31)), .int (nI j111), .int (nI ((3 * a) + 1)), .ref aa]) rfl ?_
        refine wk_S (As := [.int (x64 >>> (3 &&& 31)), .int (nI 12)]) (rest := [.int (nI j111), .int (nI ((3 * a) + 1)), .ref aa]) ⟨hx, hb, hml, hown, hts⟩ (c_L_below l E (x64 >>> (3 &&& 31)) (k := 12) (by omega) (by omega)) (va_cwS 2 hts gL_build_L_below rfl rfl rfl (by decide +kernel) ⟨(Nat.le_of_ble_eq_true rfl), (Nat.le_of_ble_eq_true rfl)⟩) hK rfl hl.1 rfl (Nat.le_of_ble_eq_true rfl) dL_build_120 ⟨by show _ ≤ 40; omega, by show _ ≤ 600; omega⟩ ?_
        refine wk_genb (q_b_lt (x64 >>> (3 &&& 31)) (by omega)) (fun j120 hj120 => ?_)
        refine lv_imul hx hb dL_build_123 ?_
        refine wk_eqi (show (nI j111) * (nI j120) = nI (j111 * j120) from pk_mul j111 j120) ?_
        refine wk_iast (nn := 15) hx hb hK haa (Or.inl (Or.inr (Or.inl rfl))) hS ((3 * a) + 1) rfl (by omega) (by decide) dL_build_124 (fun H locs hP9 hz9 hk9 hS => ?_)
        have haa := hP9
        have hsa := va_at.kept hsa (hk9 _ (q_ne ts ta (by decide)))
        have hpa := va_at.kept hpa (hk9 _ (q_ne tp ta (by decide)))
        have hct := va_at.kept hct (hk9 _ (q_ne tc ta (by decide)))
        have hA := hA.kept (fun q _ hf => hk9 q (q_nf ta hf))
        refine lv_aload hx hb dL_build_125 (lv_at hl 5 rfl) ?_
        refine lv_iconst (v := 3) hx hb dL_build_127 (by decide) ?_
        refine lv_iload hx hb dL_build_128 (lv_at hl 9 rfl) ?_
        refine lv_imul hx hb dL_build_130 ?_
        refine wk_eqi (show 3 * (nI a) = nI (3 * a) from pk_mul 3 a) ?_
        refine lv_iconst (v := 2) hx hb dL_build_131 (by decide) ?_
        refine lv_iadd hx hb dL_build_132 ?_
        refine wk_eqi (show (nI (3 * a)) + 2 = nI ((3 * a) + 2) from nI_add (3 * a) 2) ?_
        refine lv_iconst (v := 1) hx hb dL_build_133 (by decide) ?_
        refine lv_iload hx hb dL_build_134 (lv_at hl 0 rfl) ?_
        refine lv_iconst (v := 5) hx hb dL_build_136 (by decide) ?_
        refine lv_ishr hx hb dL_build_137 ?_
        refine lv_bipush (v := 40) hx hb dL_build_138 (by decide) ?_
        refine wk_eqls (st' := [.int (nI 40), .int (x64 >>> (5 &&& 31)), .int 1, .int (nI ((3 * a) + 2)), .ref aa]) rfl ?_
        refine wk_S (As := [.int (x64 >>> (5 &&& 31)), .int (nI 40)]) (rest := [.int 1, .int (nI ((3 * a) + 2)), .ref aa]) ⟨hx, hb, hml, hown, hts⟩ (c_L_below l E (x64 >>> (5 &&& 31)) (k := 40) (by omega) (by omega)) (va_cwS 2 hts gL_build_L_below rfl rfl rfl (by decide +kernel) ⟨(Nat.le_of_ble_eq_true rfl), (Nat.le_of_ble_eq_true rfl)⟩) hK rfl hl.1 rfl (Nat.le_of_ble_eq_true rfl) dL_build_140 ⟨by show _ ≤ 40; omega, by show _ ≤ 600; omega⟩ ?_
        refine wk_genb (q_b_lt (x64 >>> (5 &&& 31)) (by omega)) (fun j140 hj140 => ?_)
        refine lv_iadd hx hb dL_build_143 ?_
        refine wk_eqi (show 1 + (nI j140) = nI (1 + j140) from nI_add 1 j140) ?_
        refine wk_iast (nn := 15) hx hb hK haa (Or.inl (Or.inr (Or.inl rfl))) hS ((3 * a) + 2) rfl (by omega) (by decide) dL_build_144 (fun H locs hP9 hz9 hk9 hS => ?_)
        have haa := hP9
        have hsa := va_at.kept hsa (hk9 _ (q_ne ts ta (by decide)))
        have hpa := va_at.kept hpa (hk9 _ (q_ne tp ta (by decide)))
        have hct := va_at.kept hct (hk9 _ (q_ne tc ta (by decide)))
        have hA := hA.kept (fun q _ hf => hk9 q (q_nf ta hf))
        obtain ⟨g0, g1, g2, g3⟩ := q_up3 fa a (nI (1 + j93)) (nI (j111 * j120)) (nI (1 + j140))
        obtain ⟨fa1, hfa1⟩ : ∃ f : Nat → Int32, f = upd (upd (upd fa (3 * a) (nI (1 + j93))) ((3 * a) + 1) (nI (j111 * j120))) ((3 * a) + 2) (nI (1 + j140)) := ⟨_, rfl⟩
        rw [← hfa1] at haa g0 g1 g2 g3
        refine lv_aload_n hx hb dL_build_145 rfl (lv_at hl 1 rfl) ?_
        refine lv_aload hx hb dL_build_146 (lv_at hl 5 rfl) ?_
        refine lv_iconst (v := 3) hx hb dL_build_148 (by decide) ?_
        refine lv_iload hx hb dL_build_149 (lv_at hl 9 rfl) ?_
        refine lv_imul hx hb dL_build_151 ?_
        refine wk_eqi (show 3 * (nI a) = nI (3 * a) from pk_mul 3 a) ?_
        refine wk_iald (n := 15) (f := fa1) hx hb hK haa (3 * a) rfl (by omega) (by omega) dL_build_152 ?_
        refine lv_aload hx hb dL_build_153 (lv_at hl 5 rfl) ?_
        refine lv_iconst (v := 3) hx hb dL_build_155 (by decide) ?_
        refine lv_iload hx hb dL_build_156 (lv_at hl 9 rfl) ?_
        refine lv_imul hx hb dL_build_158 ?_
        refine wk_eqi (show 3 * (nI a) = nI (3 * a) from pk_mul 3 a) ?_
        refine lv_iconst (v := 1) hx hb dL_build_159 (by decide) ?_
        refine lv_iadd hx hb dL_build_160 ?_
        refine wk_eqi (show (nI (3 * a)) + 1 = nI ((3 * a) + 1) from nI_add (3 * a) 1) ?_
        refine wk_iald (n := 15) (f := fa1) hx hb hK haa ((3 * a) + 1) rfl (by omega) (by omega) dL_build_161 ?_
        refine lv_aload hx hb dL_build_162 (lv_at hl 5 rfl) ?_
        refine lv_iconst (v := 3) hx hb dL_build_164 (by decide) ?_
        refine lv_iload hx hb dL_build_165 (lv_at hl 9 rfl) ?_
        refine lv_imul hx hb dL_build_167 ?_
        refine wk_eqi (show 3 * (nI a) = nI (3 * a) from pk_mul 3 a) ?_
        refine lv_iconst (v := 2) hx hb dL_build_168 (by decide) ?_
        refine lv_iadd hx hb dL_build_169 ?_
        refine wk_eqi (show (nI (3 * a)) + 2 = nI ((3 * a) + 2) from nI_add (3 * a) 2) ?_
        refine wk_iald (n := 15) (f := fa1) hx hb hK haa ((3 * a) + 2) rfl (by omega) (by omega) dL_build_170 ?_
        have hm9 : j111 * j120 ≤ 1 * 11 := Nat.mul_le_mul (by omega) (by omega)
        have hok : v_ant (nI (1 + j93)) (nI (j111 * j120)) (nI (1 + j140)) = true := q_ant ⟨by omega, by omega⟩ (by omega) ⟨by omega, by omega⟩
        have hSz := hS.1
        refine wk_eqls (st' := [.int (nI (1 + j140)), .int (nI (j111 * j120)), .int (nI (1 + j93)), .ref (X.1 0 0)]) (by rw [g0, g1, g2, hx0]) ?_
        refine we_V (As := [.int (nI (1 + j93)), .int (nI (j111 * j120)), .int (nI (1 + j140))]) (rest := []) ⟨hx, hb, hml, hown, hts⟩ (e_X5_addAntenna l E hA hI hZ hok (by omega)) (cwV 3 hts gL_build_X5_addAntenna rfl rfl rfl (by decide +kernel) ⟨(Nat.le_of_ble_eq_true rfl), (Nat.le_of_ble_eq_true rfl)⟩) (wk_recv hK hA.desk rfl) (hV.heap hS.1 (fun q hq => hS.2.1 q (Nat.lt_of_lt_of_le hq hV.2.2.2.2.2.2) (hbA q hq))) hS (q_FDs hT) hA9 rfl hl.1 rfl (Nat.le_of_ble_eq_true rfl) dL_build_171 ⟨by show _ ≤ 40; omega, by show _ ≤ 600; omega⟩ (fun v9 H locs hR9 hz9 hk9 hS => ?_)
        obtain ⟨rfl, T9, X9, hT9, hX9, hA⟩ := hR9
        have la := haa.lt
        have lsa := hsa.lt
        have lp := hpa.lt
        have lc := hct.lt
        have hx0 : X9.1 0 0 = o := hX9.trans hx0
        have haa := va_at.kept haa (hk9 _ haa.lt (q_ff ta))
        have hsa := va_at.kept hsa (hk9 _ hsa.lt (q_ff ts))
        have hpa := va_at.kept hpa (hk9 _ hpa.lt (q_ff tp))
        have hct := va_at.kept hct (hk9 _ hct.lt (q_ff tc))
        have ta : T9 aa = (20, 0) := (hT9 _ la).trans ta
        have ts : T9 sa = (20, 1) := (hT9 _ lsa).trans ts
        have tp : T9 pa = (20, 2) := (hT9 _ lp).trans tp
        have tc : T9 ct = (20, 3) := (hT9 _ lc).trans tc
        have hT : ∀ q, q < s.heap.size → T9 q = T0 q := fun q hq => (hT9 q (Nat.lt_of_lt_of_le hq hSz)).trans (hT q hq)
        have hfa := q_RA (x := nI (1 + j93)) (y := nI (j111 * j120)) (z := nI (1 + j140)) hna hfa g0 g3
        have hna0 := hna
        have hI := hI.addA (by omega) hok
        have hZ : z_Zr (f_addA σ (nI (1 + j93)) (nI (j111 * j120)) (nI (1 + j140))) := q_ZrA hZ
        have hnow : z_now (f_addA σ (nI (1 + j93)) (nI (j111 * j120)) (nI (1 + j140))) = 0 := hnow
        have hna : z_n (f_addA σ (nI (1 + j93)) (nI (j111 * j120)) (nI (1 + j140))) 0 = a + 1 := by show z_n σ 0 + 1 = a + 1; rw [hna]
        have hnb : z_n (f_addA σ (nI (1 + j93)) (nI (j111 * j120)) (nI (1 + j140))) 1 = 0 := hnb
        have hnc : z_n (f_addA σ (nI (1 + j93)) (nI (j111 * j120)) (nI (1 + j140))) 2 = 0 := hnc
        refine wk_eqls (st' := [.int (nI (z_n σ 0))]) rfl ?_
        refine lv_iload hx hb dL_build_174 (lv_at hl 9 rfl) ?_
        refine lv_icmp_eq (tgt := 181) hx hb dL_build_176 (by decide) (fun c_176 => ?_) (fun c_176 => ?_)
        · skip
          have e_176 : (z_n σ 0) = a := wk_ceqt (by omega) (by omega) c_176
          refine lv_iinc (v := nI (a + 1)) (lv' := [(8, .int (nI (a + 1))), (9, .int x64), (0, .ref o), (1, .ref b), (2, .int 0), (3, .int 12), (4, .ref aa), (5, .ref sa), (6, .ref pa), (7, .ref ct)]) hx hb dL_build_181 hl (k := 9) rfl (nI_1 _) (by decide) rfl (fun ls hl => ?_)
          refine lv_goto (tgt := 42) hx hb dL_build_184 (by decide) ?_
          refine W.widen (k := 1 + 2 * (a + 1)) (n := 3 + 30 * (a + 1)) (by omega) (by omega) ?_
          exact ih_42 (a + 1) T9 X9 (f_addA σ (nI (1 + j93)) (nI (j111 * j120)) (nI (1 + j140))) H locs fa1 (by omega) (by omega) (⟨hA, hx0, ⟨ta, ts, tp, tc⟩, ⟨haa, hsa, hpa, hct⟩, hT, hI, hZ, hnow⟩) hna hnb hnc hfa hS ls (lv_sub hl [2, 3, 4, 5, 6, 7, 8, 9, 0] rfl)
        have e_176 : ¬ (z_n σ 0) = a := wk_ceqf (by omega) (by omega) c_176
        exact absurd hna0 e_176
      have d_78 := Int32.not_le.mp c_78
      refine lv_bipush (v := 15) hx hb dL_build_81 (by decide) ?_
      refine lv_goto (tgt := 97) hx hb dL_build_83 (by decide) ?_
      refine wk_eqls (st' := [.int (nI 15), .int (nI (3 * a)), .ref aa]) rfl ?_
      refine wk_iast (nn := 15) hx hb hK haa (Or.inl (Or.inr (Or.inl rfl))) hS (3 * a) rfl (by omega) (by decide) dL_build_97 (fun H locs hP9 hz9 hk9 hS => ?_)
      have haa := hP9
      have hsa := va_at.kept hsa (hk9 _ (q_ne ts ta (by decide)))
      have hpa := va_at.kept hpa (hk9 _ (q_ne tp ta (by decide)))
      have hct := va_at.kept hct (hk9 _ (q_ne tc ta (by decide)))
      have hA := hA.kept (fun q _ hf => hk9 q (q_nf ta hf))
      refine lv_aload hx hb dL_build_98 (lv_at hl 5 rfl) ?_
      refine lv_iconst (v := 3) hx hb dL_build_100 (by decide) ?_
      refine lv_iload hx hb dL_build_101 (lv_at hl 9 rfl) ?_
      refine lv_imul hx hb dL_build_103 ?_
      refine wk_eqi (show 3 * (nI a) = nI (3 * a) from pk_mul 3 a) ?_
      refine lv_iconst (v := 1) hx hb dL_build_104 (by decide) ?_
      refine lv_iadd hx hb dL_build_105 ?_
      refine wk_eqi (show (nI (3 * a)) + 1 = nI ((3 * a) + 1) from nI_add (3 * a) 1) ?_
      refine lv_iload hx hb dL_build_106 (lv_at hl 0 rfl) ?_
      refine lv_iconst (v := 2) hx hb dL_build_108 (by decide) ?_
      refine lv_ishr hx hb dL_build_109 ?_
      refine lv_iconst (v := 2) hx hb dL_build_110 (by decide) ?_
      refine wk_eqls (st' := [.int (nI 2), .int (x64 >>> (2 &&& 31)), .int (nI ((3 * a) + 1)), .ref aa]) rfl ?_
      refine wk_S (As := [.int (x64 >>> (2 &&& 31)), .int (nI 2)]) (rest := [.int (nI ((3 * a) + 1)), .ref aa]) ⟨hx, hb, hml, hown, hts⟩ (c_L_below l E (x64 >>> (2 &&& 31)) (k := 2) (by omega) (by omega)) (va_cwS 2 hts gL_build_L_below rfl rfl rfl (by decide +kernel) ⟨(Nat.le_of_ble_eq_true rfl), (Nat.le_of_ble_eq_true rfl)⟩) hK rfl hl.1 rfl (Nat.le_of_ble_eq_true rfl) dL_build_111 ⟨by show _ ≤ 40; omega, by show _ ≤ 600; omega⟩ ?_
      refine wk_genb (q_b_lt (x64 >>> (2 &&& 31)) (by omega)) (fun j111 hj111 => ?_)
      refine lv_iload hx hb dL_build_114 (lv_at hl 0 rfl) ?_
      refine lv_iconst (v := 3) hx hb dL_build_116 (by decide) ?_
      refine lv_ishr hx hb dL_build_117 ?_
      refine lv_bipush (v := 12) hx hb dL_build_118 (by decide) ?_
      refine wk_eqls (st' := [.int (nI 12), .int (x64 >>> (3 &&& 31)), .int (nI j111), .int (nI ((3 * a) + 1)), .ref aa]) rfl ?_
      refine wk_S (As := [.int (x64 >>> (3 &&& 31)), .int (nI 12)]) (rest := [.int (nI j111), .int (nI ((3 * a) + 1)), .ref aa]) ⟨hx, hb, hml, hown, hts⟩ (c_L_below l E (x64 >>> (3 &&& 31)) (k := 12) (by omega) (by omega)) (va_cwS 2 hts gL_build_L_below rfl rfl rfl (by decide +kernel) ⟨(Nat.le_of_ble_eq_true rfl), (Nat.le_of_ble_eq_true rfl)⟩) hK rfl hl.1 rfl (Nat.le_of_ble_eq_true rfl) dL_build_120 ⟨by show _ ≤ 40; omega, by show _ ≤ 600; omega⟩ ?_
      refine wk_genb (q_b_lt (x64 >>> (3 &&& 31)) (by omega)) (fun j120 hj120 => ?_)
      refine lv_imul hx hb dL_build_123 ?_
      refine wk_eqi (show (nI j111) * (nI j120) = nI (j111 * j120) from pk_mul j111 j120) ?_
      refine wk_iast (nn := 15) hx hb hK haa (Or.inl (Or.inr (Or.inl rfl))) hS ((3 * a) + 1) rfl (by omega) (by decide) dL_build_124 (fun H locs hP9 hz9 hk9 hS => ?_)
      have haa := hP9
      have hsa := va_at.kept hsa (hk9 _ (q_ne ts ta (by decide)))
      have hpa := va_at.kept hpa (hk9 _ (q_ne tp ta (by decide)))
      have hct := va_at.kept hct (hk9 _ (q_ne tc ta (by decide)))
      have hA := hA.kept (fun q _ hf => hk9 q (q_nf ta hf))
      refine lv_aload hx hb dL_build_125 (lv_at hl 5 rfl) ?_
      refine lv_iconst (v := 3) hx hb dL_build_127 (by decide) ?_
      refine lv_iload hx hb dL_build_128 (lv_at hl 9 rfl) ?_
      refine lv_imul hx hb dL_build_130 ?_
      refine wk_eqi (show 3 * (nI a) = nI (3 * a) from pk_mul 3 a) ?_
      refine lv_iconst (v := 2) hx hb dL_build_131 (by decide) ?_
      refine lv_iadd hx hb dL_build_132 ?_
      refine wk_eqi (show (nI (3 * a)) + 2 = nI ((3 * a) + 2) from nI_add (3 * a) 2) ?_
      refine lv_iconst (v := 1) hx hb dL_build_133 (by decide) ?_
      refine lv_iload hx hb dL_build_134 (lv_at hl 0 rfl) ?_
      refine lv_iconst (v := 5) hx hb dL_build_136 (by decide) ?_
      refine lv_ishr hx hb dL_build_137 ?_
      refine lv_bipush (v := 40) hx hb dL_build_138 (by decide) ?_
      refine wk_eqls (st' := [.int (nI 40), .int (x64 >>> (5 &&& 31)), .int 1, .int (nI ((3 * a) + 2)), .ref aa]) rfl ?_
      refine wk_S (As := [.int (x64 >>> (5 &&& 31)), .int (nI 40)]) (rest := [.int 1, .int (nI ((3 * a) + 2)), .ref aa]) ⟨hx, hb, hml, hown, hts⟩ (c_L_below l E (x64 >>> (5 &&& 31)) (k := 40) (by omega) (by omega)) (va_cwS 2 hts gL_build_L_below rfl rfl rfl (by decide +kernel) ⟨(Nat.le_of_ble_eq_true rfl), (Nat.le_of_ble_eq_true rfl)⟩) hK rfl hl.1 rfl (Nat.le_of_ble_eq_true rfl) dL_build_140 ⟨by show _ ≤ 40; omega, by show _ ≤ 600; omega⟩ ?_
      refine wk_genb (q_b_lt (x64 >>> (5 &&& 31)) (by omega)) (fun j140 hj140 => ?_)
      refine lv_iadd hx hb dL_build_143 ?_
      refine wk_eqi (show 1 + (nI j140) = nI (1 + j140) from nI_add 1 j140) ?_
      refine wk_iast (nn := 15) hx hb hK haa (Or.inl (Or.inr (Or.inl rfl))) hS ((3 * a) + 2) rfl (by omega) (by decide) dL_build_144 (fun H locs hP9 hz9 hk9 hS => ?_)
      have haa := hP9
      have hsa := va_at.kept hsa (hk9 _ (q_ne ts ta (by decide)))
      have hpa := va_at.kept hpa (hk9 _ (q_ne tp ta (by decide)))
      have hct := va_at.kept hct (hk9 _ (q_ne tc ta (by decide)))
      have hA := hA.kept (fun q _ hf => hk9 q (q_nf ta hf))
      obtain ⟨g0, g1, g2, g3⟩ := q_up3 fa a (nI 15) (nI (j111 * j120)) (nI (1 + j140))
      obtain ⟨fa1, hfa1⟩ : ∃ f : Nat → Int32, f = upd (upd (upd fa (3 * a) (nI 15)) ((3 * a) + 1) (nI (j111 * j120))) ((3 * a) + 2) (nI (1 + j140)) := ⟨_, rfl⟩
      rw [← hfa1] at haa g0 g1 g2 g3
      refine lv_aload_n hx hb dL_build_145 rfl (lv_at hl 1 rfl) ?_
      refine lv_aload hx hb dL_build_146 (lv_at hl 5 rfl) ?_
      refine lv_iconst (v := 3) hx hb dL_build_148 (by decide) ?_
      refine lv_iload hx hb dL_build_149 (lv_at hl 9 rfl) ?_
      refine lv_imul hx hb dL_build_151 ?_
      refine wk_eqi (show 3 * (nI a) = nI (3 * a) from pk_mul 3 a) ?_
      refine wk_iald (n := 15) (f := fa1) hx hb hK haa (3 * a) rfl (by omega) (by omega) dL_build_152 ?_
      refine lv_aload hx hb dL_build_153 (lv_at hl 5 rfl) ?_
      refine lv_iconst (v := 3) hx hb dL_build_155 (by decide) ?_
      refine lv_iload hx hb dL_build_156 (lv_at hl 9 rfl) ?_
      refine lv_imul hx hb dL_build_158 ?_
      refine wk_eqi (show 3 * (nI a) = nI (3 * a) from pk_mul 3 a) ?_
      refine lv_iconst (v := 1) hx hb dL_build_159 (by decide) ?_
      refine lv_iadd hx hb dL_build_160 ?_
      refine wk_eqi (show (nI (3 * a)) + 1 = nI ((3 * a) + 1) from nI_add (3 * a) 1) ?_
      refine wk_iald (n := 15) (f := fa1) hx hb hK haa ((3 * a) + 1) rfl (by omega) (by omega) dL_build_161 ?_
      refine lv_aload hx hb dL_build_162 (lv_at hl 5 rfl) ?_
      refine lv_iconst (v := 3) hx hb dL_build_164 (by decide) ?_
      refine lv_iload hx hb dL_build_165 (lv_at hl 9 rfl) ?_
      refine lv_imul hx hb dL_build_167 ?_
      refine wk_eqi (show 3 * (nI a) = nI (3 * a) from pk_mul 3 a) ?_
      refine lv_iconst (v := 2) hx hb dL_build_168 (by decide) ?_
      refine lv_iadd hx hb dL_build_169 ?_
      refine wk_eqi (show (nI (3 * a)) + 2 = nI ((3 * a) + 2) from nI_add (3 * a) 2) ?_
      refine wk_iald (n := 15) (f := fa1) hx hb hK haa ((3 * a) + 2) rfl (by omega) (by omega) dL_build_170 ?_
      have hm9 : j111 * j120 ≤ 1 * 11 := Nat.mul_le_mul (by omega) (by omega)
      have hok : v_ant (nI 15) (nI (j111 * j120)) (nI (1 + j140)) = true := q_ant ⟨by omega, by omega⟩ (by omega) ⟨by omega, by omega⟩
      have hSz := hS.1
      refine wk_eqls (st' := [.int (nI (1 + j140)), .int (nI (j111 * j120)), .int (nI 15), .ref (X.1 0 0)]) (by rw [g0, g1, g2, hx0]) ?_
      refine we_V (As := [.int (nI 15), .int (nI (j111 * j120)), .int (nI (1 + j140))]) (rest := []) ⟨hx, hb, hml, hown, hts⟩ (e_X5_addAntenna l E hA hI hZ hok (by omega)) (cwV 3 hts gL_build_X5_addAntenna rfl rfl rfl (by decide +kernel) ⟨(Nat.le_of_ble_eq_true rfl), (Nat.le_of_ble_eq_true rfl)⟩) (wk_recv hK hA.desk rfl) (hV.heap hS.1 (fun q hq => hS.2.1 q (Nat.lt_of_lt_of_le hq hV.2.2.2.2.2.2) (hbA q hq))) hS (q_FDs hT) hA9 rfl hl.1 rfl (Nat.le_of_ble_eq_true rfl) dL_build_171 ⟨by show _ ≤ 40; omega, by show _ ≤ 600; omega⟩ (fun v9 H locs hR9 hz9 hk9 hS => ?_)
      obtain ⟨rfl, T9, X9, hT9, hX9, hA⟩ := hR9
      have la := haa.lt
      have lsa := hsa.lt
      have lp := hpa.lt
      have lc := hct.lt
      have hx0 : X9.1 0 0 = o := hX9.trans hx0
      have haa := va_at.kept haa (hk9 _ haa.lt (q_ff ta))
      have hsa := va_at.kept hsa (hk9 _ hsa.lt (q_ff ts))
      have hpa := va_at.kept hpa (hk9 _ hpa.lt (q_ff tp))
      have hct := va_at.kept hct (hk9 _ hct.lt (q_ff tc))
      have ta : T9 aa = (20, 0) := (hT9 _ la).trans ta
      have ts : T9 sa = (20, 1) := (hT9 _ lsa).trans ts
      have tp : T9 pa = (20, 2) := (hT9 _ lp).trans tp
      have tc : T9 ct = (20, 3) := (hT9 _ lc).trans tc
      have hT : ∀ q, q < s.heap.size → T9 q = T0 q := fun q hq => (hT9 q (Nat.lt_of_lt_of_le hq hSz)).trans (hT q hq)
      have hfa := q_RA (x := nI 15) (y := nI (j111 * j120)) (z := nI (1 + j140)) hna hfa g0 g3
      have hna0 := hna
      have hI := hI.addA (by omega) hok
      have hZ : z_Zr (f_addA σ (nI 15) (nI (j111 * j120)) (nI (1 + j140))) := q_ZrA hZ
      have hnow : z_now (f_addA σ (nI 15) (nI (j111 * j120)) (nI (1 + j140))) = 0 := hnow
      have hna : z_n (f_addA σ (nI 15) (nI (j111 * j120)) (nI (1 + j140))) 0 = a + 1 := by show z_n σ 0 + 1 = a + 1; rw [hna]
      have hnb : z_n (f_addA σ (nI 15) (nI (j111 * j120)) (nI (1 + j140))) 1 = 0 := hnb
      have hnc : z_n (f_addA σ (nI 15) (nI (j111 * j120)) (nI (1 + j140))) 2 = 0 := hnc
      refine wk_eqls (st' := [.int (nI (z_n σ 0))]) rfl ?_
      refine lv_iload hx hb dL_build_174 (lv_at hl 9 rfl) ?_
      refine lv_icmp_eq (tgt := 181) hx hb dL_build_176 (by decide) (fun c_176 => ?_) (fun c_176 => ?_)
      · skip
        have e_176 : (z_n σ 0) = a := wk_ceqt (by omega) (by omega) c_176
        refine lv_iinc (v := nI (a + 1)) (lv' := [(8, .int (nI (a + 1))), (9, .int x64), (0, .ref o), (1, .ref b), (2, .int 0), (3, .int 12), (4, .ref aa), (5, .ref sa), (6, .ref pa), (7, .ref ct)]) hx hb dL_build_181 hl (k := 9) rfl (nI_1 _) (by decide) rfl (fun ls hl => ?_)
        refine lv_goto (tgt := 42) hx hb dL_build_184 (by decide) ?_
        refine W.widen (k := 1 + 2 * (a + 1)) (n := 3 + 30 * (a + 1)) (by omega) (by omega) ?_
        exact ih_42 (a + 1) T9 X9 (f_addA σ (nI 15) (nI (j111 * j120)) (nI (1 + j140))) H locs fa1 (by omega) (by omega) (⟨hA, hx0, ⟨ta, ts, tp, tc⟩, ⟨haa, hsa, hpa, hct⟩, hT, hI, hZ, hnow⟩) hna hnb hnc hfa hS ls (lv_sub hl [2, 3, 4, 5, 6, 7, 8, 9, 0] rfl)
      have e_176 : ¬ (z_n σ 0) = a := wk_ceqf (by omega) (by omega) c_176
      exact absurd hna0 e_176
  exact L_42 _ 0 T1 X0 z_0 H locs fa (Nat.lt_succ_self _) (Nat.zero_le _) (⟨hA, hx0, ⟨ta, ts, tp, tc⟩, ⟨haa, hsa, hpa, hct⟩, hT, hI, hZ, hnow⟩) rfl rfl rfl (fun j hj => absurd hj (Nat.not_lt_zero _)) hS ls (lv_sub hl [2, 3, 4, 5, 6, 7, 8, 1, 0] rfl)
