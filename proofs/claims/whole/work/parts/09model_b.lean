abbrev rmX6_canBeTaken : Room := { frames := 3, cells := 0, slots := 0, locals := 69 }
set_option maxHeartbeats 4000000 in
set_option maxRecDepth 100000 in
theorem c_X6_canBeTaken (l : Launch) (E : wk_E) {T : Nat → Nat × Nat} {Y : Nat → Nat → Nat} {σ : z_S} {th : Int32} {gt : Int64} {H : Heap} (hA : MA E T Y σ th gt H) (hI : z_Ok σ) {i : Nat} (hi : i < z_n σ 2) : wk_Met l yX6_canBeTaken wsX6_canBeTaken rmX6_canBeTaken E H [.ref (Y 10 0), .int (nI i)] (some (.int (wk_b (f_free σ i)))) := by
  refine Met.ofW (cc := cX6_canBeTaken) (maxL := 4) (ret := (some .boolean)) (by decide) rfl ?_
  intro p e s m args below meth c s₁ B hml hv
  obtain ⟨rfl, hH, hK⟩ := hv
  subst hH
  have hx := B.exec
  have hb := B.bytes
  have hr := B.returns
  have hts := atoms_spec (ws := wsX6_canBeTaken) B.pre
  have hown : s.vm.findClass RX6 = some m.cls := findClass_of_methodNamed B.named
  have hlocks := B.notSynchronized
  have i_X6 : ∀ w ∈ u_ws RX6 TX6 26, w ∈ wsX6_canBeTaken := fun w h => (List.mem_cons_of_mem _ (List.mem_append_right _ h))
  have hl := lv_entry [.ref (Y 10 0), .int (nI i)] (n := 4) (Nat.le_of_ble_eq_true rfl)
  rw [lg_entry_eq]
  generalize (lg_sl [.ref (Y 10 0), .int (nI i)] ++ List.replicate (4 - (lg_sl [.ref (Y 10 0), .int (nI i)]).length) Slot.unset).toArray = ls at hl ⊢
  have hl : lv_has ls 4 [(0, .ref (Y 10 0)), (1, .int (nI i))] := hl
  have b0 := hI.n0
  have b1 := hI.n1
  have b2 := hI.n2
  have b3 := hI.n3
  refine lv_aload_n hx hb dX6_canBeTaken_0 rfl (lv_at hl 0 rfl) ?_
  refine wk_get (own := RX6) (C := RX6) (T := TX6) (N := 26) (ci := 7) (v := .int (nI (z_mk σ))) hx hb hts i_X6 hown hK hA.obj rfl 24 (by decide) (hts _ (List.mem_of_getElem? (i := 1) rfl)) (fun _ h9 => h9) rfl dX6_canBeTaken_1 ?_
  refine lv_iload_n hx hb dX6_canBeTaken_4 rfl (lv_at hl 1 rfl) ?_
  refine wk_S (As := [.int (nI (z_mk σ)), .int (nI i)]) (rest := []) ⟨hx, hb, hml, hown, hts⟩ (c_X6_has l E (mm := z_mk σ) (k := i) (z_mklt hI) (by omega)) (va_cwS 2 hts gX6_canBeTaken_X6_has rfl rfl rfl (by decide +kernel) ⟨(Nat.le_of_ble_eq_true rfl), (Nat.le_of_ble_eq_true rfl)⟩) hK rfl hl.1 rfl (Nat.le_of_ble_eq_true rfl) dX6_canBeTaken_5 ⟨Nat.zero_le _, Nat.zero_le _⟩ ?_
  refine lv_if_ne (tgt := 41) hx hb dX6_canBeTaken_8 (by decide) (fun c_8 => ?_) (fun c_8 => ?_)
  · skip
    have e_8 : (z_tk σ i) = true := wk_b1 c_8
    refine lv_iconst (v := 0) hx hb dX6_canBeTaken_41 (by decide) ?_
    refine lv_istore_n (lv' := [(2, .int 0), (0, .ref (Y 10 0)), (1, .int (nI i))]) hx hb dX6_canBeTaken_42 rfl hl (by decide) rfl (fun ls hl => ?_)
    refine lv_iconst (v := 0) hx hb dX6_canBeTaken_43 (by decide) ?_
    refine lv_istore_n (lv' := [(3, .int 0), (2, .int 0), (0, .ref (Y 10 0)), (1, .int (nI i))]) hx hb dX6_canBeTaken_44 rfl hl (by decide) rfl (fun ls hl => ?_)
    have L_45 : ∀ (n_45 : Nat) (k : Nat) (bb : Bool), z_n σ 3 - k < n_45 → (k ≤ z_n σ 3) → (bb = (!z_tk σ i && (decide (z_now σ ≤ z_pb σ i) && !f_inc σ i))) → ∀ ls : Array Slot, lv_has ls 4 [(0, .ref (Y 10 0)), (1, .int (nI i)), (2, .int (wk_b (bb && !f_any (fun k => decide (z_oA σ k = z_pA σ i) && f_meets σ k (z_pb σ i) (z_pe σ i)) k))), (3, .int (nI k))] → W p l e (headSpec wsX6_canBeTaken rmX6_canBeTaken).room s m ([.ref (Y 10 0), .int (nI i)] : List Value).toArray below meth c s.heap [] 0 0 (MQ below (wk_Q (some (.int (wk_b (f_free σ i))))) ([.ref (Y 10 0), .int (nI i)] : List Value).toArray s 0 0 (fun _ => False)) (F0 m 45 ls []) := by
      intro n_45
      induction n_45 with
      | zero => intro k bb hm; exact absurd hm (Nat.not_lt_zero _)
      | succ n_45 ih_45 =>
        intro k bb hm_45 hk_k hbb ls hl
        refine lv_iload_n hx hb dX6_canBeTaken_45 rfl (lv_at hl 3 rfl) ?_
        refine lv_aload_n hx hb dX6_canBeTaken_46 rfl (lv_at hl 0 rfl) ?_
        refine wk_get (own := RX6) (C := RX6) (T := TX6) (N := 26) (ci := 7) (v := .int (nI (z_n σ 3))) hx hb hts i_X6 hown hK hA.obj rfl 8 (by decide) (hts _ (List.mem_of_getElem? (i := 4) rfl)) (fun _ h9 => h9) rfl dX6_canBeTaken_47 ?_
        refine lv_icmp_ge (tgt := 78) hx hb dX6_canBeTaken_50 (by decide) (fun c_50 => ?_) (fun c_50 => ?_)
        · skip
          have e_50 : (z_n σ 3) ≤ k := wk_cget (by omega) (by omega) c_50
          have hkN : k = z_n σ 3 := by omega
          refine lv_iload_n hx hb dX6_canBeTaken_78 rfl (lv_at hl 2 rfl) ?_
          exact W.zret hx hb hr (wk_nz _) (fun t ht _ => wk_ret (congrArg Value.int (by rw [f_free, f_out, hbb, ← hkN]; congr 1; cases z_tk σ i <;> cases decide (z_now σ ≤ z_pb σ i) <;> cases f_inc σ i <;> simp)) ht) wk_nil dX6_canBeTaken_79
        have e_50 : k < (z_n σ 3) := wk_cgef (by omega) (by omega) c_50
        refine lv_iload_n hx hb dX6_canBeTaken_53 rfl (lv_at hl 2 rfl) ?_
        refine lv_if_eq (tgt := 70) hx hb dX6_canBeTaken_54 (by decide) (fun c_54 => ?_) (fun c_54 => ?_)
        · skip
          have e_54 : (bb && !f_any (fun k => decide (z_oA σ k = z_pA σ i) && f_meets σ k (z_pb σ i) (z_pe σ i)) k) = false := wk_b0 c_54
          refine lv_iconst (v := 0) hx hb dX6_canBeTaken_70 (by decide) ?_
          refine lv_istore_n (lv' := [(2, .int 0), (0, .ref (Y 10 0)), (1, .int (nI i)), (3, .int (nI k))]) hx hb dX6_canBeTaken_71 rfl hl (by decide) rfl (fun ls hl => ?_)
          refine lv_iinc (v := nI (k + 1)) (lv' := [(3, .int (nI (k + 1))), (2, .int 0), (0, .ref (Y 10 0)), (1, .int (nI i))]) hx hb dX6_canBeTaken_72 hl (k := 3) rfl (nI_1 _) (by decide) rfl (fun ls hl => ?_)
          refine lv_goto (tgt := 45) hx hb dX6_canBeTaken_75 (by decide) ?_
          have hl : lv_has ls 4 [(3, .int (nI (k + 1))), (2, .int (wk_b (bb && !f_any (fun k => decide (z_oA σ k = z_pA σ i) && f_meets σ k (z_pb σ i) (z_pe σ i)) (k + 1)))), (0, .ref (Y 10 0)), (1, .int (nI i))] := by rw [show wk_b (bb && !f_any (fun k => decide (z_oA σ k = z_pA σ i) && f_meets σ k (z_pb σ i) (z_pe σ i)) (k + 1)) = 0 from (wk_can0 e_54)]; exact hl
          exact ih_45 (k + 1) bb (by omega) (by omega) hbb ls (lv_sub hl [2, 3, 1, 0] rfl)
        have e_54 : (bb && !f_any (fun k => decide (z_oA σ k = z_pA σ i) && f_meets σ k (z_pb σ i) (z_pe σ i)) k) = true := wk_b1 c_54
        refine lv_aload_n hx hb dX6_canBeTaken_57 rfl (lv_at hl 0 rfl) ?_
        refine lv_iload_n hx hb dX6_canBeTaken_58 rfl (lv_at hl 3 rfl) ?_
        refine lv_iload_n hx hb dX6_canBeTaken_59 rfl (lv_at hl 1 rfl) ?_
        refine wk_V (As := [.int (nI k), .int (nI i)]) (rest := []) ⟨hx, hb, hml, hown, hts⟩ (c_X6_isOutIn l E hA hI e_50 hi) (cwV 2 hts gX6_canBeTaken_X6_isOutIn rfl rfl rfl (by decide +kernel) ⟨(Nat.le_of_ble_eq_true rfl), (Nat.le_of_ble_eq_true rfl)⟩) (wk_recv hK hA.obj rfl) hK rfl hl.1 rfl (Nat.le_of_ble_eq_true rfl) dX6_canBeTaken_60 ⟨Nat.zero_le _, Nat.zero_le _⟩ ?_
        refine lv_if_ne (tgt := 70) hx hb dX6_canBeTaken_63 (by decide) (fun c_63 => ?_) (fun c_63 => ?_)
        · skip
          have e_63 : (decide (z_oA σ k = z_pA σ i) && f_meets σ k (z_pb σ i) (z_pe σ i)) = true := wk_b1 c_63
          refine lv_iconst (v := 0) hx hb dX6_canBeTaken_70 (by decide) ?_
          refine lv_istore_n (lv' := [(2, .int 0), (0, .ref (Y 10 0)), (1, .int (nI i)), (3, .int (nI k))]) hx hb dX6_canBeTaken_71 rfl hl (by decide) rfl (fun ls hl => ?_)
          refine lv_iinc (v := nI (k + 1)) (lv' := [(3, .int (nI (k + 1))), (2, .int 0), (0, .ref (Y 10 0)), (1, .int (nI i))]) hx hb dX6_canBeTaken_72 hl (k := 3) rfl (nI_1 _) (by decide) rfl (fun ls hl => ?_)
          refine lv_goto (tgt := 45) hx hb dX6_canBeTaken_75 (by decide) ?_
          have hl : lv_has ls 4 [(3, .int (nI (k + 1))), (2, .int (wk_b (bb && !f_any (fun k => decide (z_oA σ k = z_pA σ i) && f_meets σ k (z_pb σ i) (z_pe σ i)) (k + 1)))), (0, .ref (Y 10 0)), (1, .int (nI i))] := by rw [show wk_b (bb && !f_any (fun k => decide (z_oA σ k = z_pA σ i) && f_meets σ k (z_pb σ i) (z_pe σ i)) (k + 1)) = 0 from (wk_can2 e_63)]; exact hl
          exact ih_45 (k + 1) bb (by omega) (by omega) hbb ls (lv_sub hl [2, 3, 1, 0] rfl)
        have e_63 : (decide (z_oA σ k = z_pA σ i) && f_meets σ k (z_pb σ i) (z_pe σ i)) = false := wk_b0 c_63
        refine lv_iconst (v := 1) hx hb dX6_canBeTaken_66 (by decide) ?_
        refine lv_goto (tgt := 71) hx hb dX6_canBeTaken_67 (by decide) ?_
        refine lv_istore_n (lv' := [(2, .int 1), (0, .ref (Y 10 0)), (1, .int (nI i)), (3, .int (nI k))]) hx hb dX6_canBeTaken_71 rfl hl (by decide) rfl (fun ls hl => ?_)
        refine lv_iinc (v := nI (k + 1)) (lv' := [(3, .int (nI (k + 1))), (2, .int 1), (0, .ref (Y 10 0)), (1, .int (nI i))]) hx hb dX6_canBeTaken_72 hl (k := 3) rfl (nI_1 _) (by decide) rfl (fun ls hl => ?_)
        refine lv_goto (tgt := 45) hx hb dX6_canBeTaken_75 (by decide) ?_
        have hl : lv_has ls 4 [(3, .int (nI (k + 1))), (2, .int (wk_b (bb && !f_any (fun k => decide (z_oA σ k = z_pA σ i) && f_meets σ k (z_pb σ i) (z_pe σ i)) (k + 1)))), (0, .ref (Y 10 0)), (1, .int (nI i))] := by rw [show wk_b (bb && !f_any (fun k => decide (z_oA σ k = z_pA σ i) && f_meets σ k (z_pb σ i) (z_pe σ i)) (k + 1)) = 1 from (wk_can1 e_54 e_63)]; exact hl
        exact ih_45 (k + 1) bb (by omega) (by omega) hbb ls (lv_sub hl [2, 3, 1, 0] rfl)
    exact L_45 _ 0 false (Nat.lt_succ_self _) (Nat.zero_le _) (by rw [f_inc_cfl hI]; simp [e_8]) ls (lv_sub hl [2, 3, 1, 0] rfl)
  have e_8 : (z_tk σ i) = false := wk_b0 c_8
  refine lv_aload_n hx hb dX6_canBeTaken_11 rfl (lv_at hl 0 rfl) ?_
  refine wk_get (own := RX6) (C := RX6) (T := TX6) (N := 26) (ci := 7) (v := .ref (Y 11 14)) hx hb hts i_X6 hown hK hA.obj rfl 21 (by decide) (hts _ (List.mem_of_getElem? (i := 2) rfl)) (fun _ h9 => h9) rfl dX6_canBeTaken_12 ?_
  refine lv_iload_n hx hb dX6_canBeTaken_15 rfl (lv_at hl 1 rfl) ?_
  refine wk_iald (n := 16) (f := fun j => z_pb σ j) hx hb hK hA.a14 i rfl (by have := hi; omega) (by decide) dX6_canBeTaken_16 ?_
  refine lv_aload_n hx hb dX6_canBeTaken_17 rfl (lv_at hl 0 rfl) ?_
  refine wk_get (own := RX6) (C := RX6) (T := TX6) (N := 26) (ci := 7) (v := .int (z_now σ)) hx hb hts i_X6 hown hK hA.obj rfl 1 (by decide) (hts _ (List.mem_of_getElem? (i := 3) rfl)) (fun _ h9 => h9) rfl dX6_canBeTaken_18 ?_
  refine lv_icmp_lt (tgt := 41) hx hb dX6_canBeTaken_21 (by decide) (fun c_21 => ?_) (fun c_21 => ?_)
  · skip
    have d_21 := Int32.not_le.mpr c_21
    refine lv_iconst (v := 0) hx hb dX6_canBeTaken_41 (by decide) ?_
    refine lv_istore_n (lv' := [(2, .int 0), (0, .ref (Y 10 0)), (1, .int (nI i))]) hx hb dX6_canBeTaken_42 rfl hl (by decide) rfl (fun ls hl => ?_)
    refine lv_iconst (v := 0) hx hb dX6_canBeTaken_43 (by decide) ?_
    refine lv_istore_n (lv' := [(3, .int 0), (2, .int 0), (0, .ref (Y 10 0)), (1, .int (nI i))]) hx hb dX6_canBeTaken_44 rfl hl (by decide) rfl (fun ls hl => ?_)
    have L_45 : ∀ (n_45 : Nat) (k : Nat) (bb : Bool), z_n σ 3 - k < n_45 → (k ≤ z_n σ 3) → (bb = (!z_tk σ i && (decide (z_now σ ≤ z_pb σ i) && !f_inc σ i))) → ∀ ls : Array Slot, lv_has ls 4 [(0, .ref (Y 10 0)), (1, .int (nI i)), (2, .int (wk_b (bb && !f_any (fun k => decide (z_oA σ k = z_pA σ i) && f_meets σ k (z_pb σ i) (z_pe σ i)) k))), (3, .int (nI k))] → W p l e (headSpec wsX6_canBeTaken rmX6_canBeTaken).room s m ([.ref (Y 10 0), .int (nI i)] : List Value).toArray below meth c s.heap [] 0 0 (MQ below (wk_Q (some (.int (wk_b (f_free σ i))))) ([.ref (Y 10 0), .int (nI i)] : List Value).toArray s 0 0 (fun _ => False)) (F0 m 45 ls []) := by
      intro n_45
      induction n_45 with
      | zero => intro k bb hm; exact absurd hm (Nat.not_lt_zero _)
      | succ n_45 ih_45 =>
        intro k bb hm_45 hk_k hbb ls hl
        refine lv_iload_n hx hb dX6_canBeTaken_45 rfl (lv_at hl 3 rfl) ?_
        refine lv_aload_n hx hb dX6_canBeTaken_46 rfl (lv_at hl 0 rfl) ?_
        refine wk_get (own := RX6) (C := RX6) (T := TX6) (N := 26) (ci := 7) (v := .int (nI (z_n σ 3))) hx hb hts i_X6 hown hK hA.obj rfl 8 (by decide) (hts _ (List.mem_of_getElem? (i := 4) rfl)) (fun _ h9 => h9) rfl dX6_canBeTaken_47 ?_
        refine lv_icmp_ge (tgt := 78) hx hb dX6_canBeTaken_50 (by decide) (fun c_50 => ?_) (fun c_50 => ?_)
        · skip
          have e_50 : (z_n σ 3) ≤ k := wk_cget (by omega) (by omega) c_50
          have hkN : k = z_n σ 3 := by omega
          refine lv_iload_n hx hb dX6_canBeTaken_78 rfl (lv_at hl 2 rfl) ?_
          exact W.zret hx hb hr (wk_nz _) (fun t ht _ => wk_ret (congrArg Value.int (by rw [f_free, f_out, hbb, ← hkN]; congr 1; cases z_tk σ i <;> cases decide (z_now σ ≤ z_pb σ i) <;> cases f_inc σ i <;> simp)) ht) wk_nil dX6_canBeTaken_79
        have e_50 : k < (z_n σ 3) := wk_cgef (by omega) (by omega) c_50
        refine lv_iload_n hx hb dX6_canBeTaken_53 rfl (lv_at hl 2 rfl) ?_
        refine lv_if_eq (tgt := 70) hx hb dX6_canBeTaken_54 (by decide) (fun c_54 => ?_) (fun c_54 => ?_)
        · skip
          have e_54 : (bb && !f_any (fun k => decide (z_oA σ k = z_pA σ i) && f_meets σ k (z_pb σ i) (z_pe σ i)) k) = false := wk_b0 c_54
          refine lv_iconst (v := 0) hx hb dX6_canBeTaken_70 (by decide) ?_
          refine lv_istore_n (lv' := [(2, .int 0), (0, .ref (Y 10 0)), (1, .int (nI i)), (3, .int (nI k))]) hx hb dX6_canBeTaken_71 rfl hl (by decide) rfl (fun ls hl => ?_)
          refine lv_iinc (v := nI (k + 1)) (lv' := [(3, .int (nI (k + 1))), (2, .int 0), (0, .ref (Y 10 0)), (1, .int (nI i))]) hx hb dX6_canBeTaken_72 hl (k := 3) rfl (nI_1 _) (by decide) rfl (fun ls hl => ?_)
          refine lv_goto (tgt := 45) hx hb dX6_canBeTaken_75 (by decide) ?_
          have hl : lv_has ls 4 [(3, .int (nI (k + 1))), (2, .int (wk_b (bb && !f_any (fun k => decide (z_oA σ k = z_pA σ i) && f_meets σ k (z_pb σ i) (z_pe σ i)) (k + 1)))), (0, .ref (Y 10 0)), (1, .int (nI i))] := by rw [show wk_b (bb && !f_any (fun k => decide (z_oA σ k = z_pA σ i) && f_meets σ k (z_pb σ i) (z_pe σ i)) (k + 1)) = 0 from (wk_can0 e_54)]; exact hl
          exact ih_45 (k + 1) bb (by omega) (by omega) hbb ls (lv_sub hl [2, 3, 1, 0] rfl)
        have e_54 : (bb && !f_any (fun k => decide (z_oA σ k = z_pA σ i) && f_meets σ k (z_pb σ i) (z_pe σ i)) k) = true := wk_b1 c_54
        refine lv_aload_n hx hb dX6_canBeTaken_57 rfl (lv_at hl 0 rfl) ?_
        refine lv_iload_n hx hb dX6_canBeTaken_58 rfl (lv_at hl 3 rfl) ?_
        refine lv_iload_n hx hb dX6_canBeTaken_59 rfl (lv_at hl 1 rfl) ?_
        refine wk_V (As := [.int (nI k), .int (nI i)]) (rest := []) ⟨hx, hb, hml, hown, hts⟩ (c_X6_isOutIn l E hA hI e_50 hi) (cwV 2 hts gX6_canBeTaken_X6_isOutIn rfl rfl rfl (by decide +kernel) ⟨(Nat.le_of_ble_eq_true rfl), (Nat.le_of_ble_eq_true rfl)⟩) (wk_recv hK hA.obj rfl) hK rfl hl.1 rfl (Nat.le_of_ble_eq_true rfl) dX6_canBeTaken_60 ⟨Nat.zero_le _, Nat.zero_le _⟩ ?_
        refine lv_if_ne (tgt := 70) hx hb dX6_canBeTaken_63 (by decide) (fun c_63 => ?_) (fun c_63 => ?_)
        · skip
          have e_63 : (decide (z_oA σ k = z_pA σ i) && f_meets σ k (z_pb σ i) (z_pe σ i)) = true := wk_b1 c_63
          refine lv_iconst (v := 0) hx hb dX6_canBeTaken_70 (by decide) ?_
          refine lv_istore_n (lv' := [(2, .int 0), (0, .ref (Y 10 0)), (1, .int (nI i)), (3, .int (nI k))]) hx hb dX6_canBeTaken_71 rfl hl (by decide) rfl (fun ls hl => ?_)
          refine lv_iinc (v := nI (k + 1)) (lv' := [(3, .int (nI (k + 1))), (2, .int 0), (0, .ref (Y 10 0)), (1, .int (nI i))]) hx hb dX6_canBeTaken_72 hl (k := 3) rfl (nI_1 _) (by decide) rfl (fun ls hl => ?_)
          refine lv_goto (tgt := 45) hx hb dX6_canBeTaken_75 (by decide) ?_
          have hl : lv_has ls 4 [(3, .int (nI (k + 1))), (2, .int (wk_b (bb && !f_any (fun k => decide (z_oA σ k = z_pA σ i) && f_meets σ k (z_pb σ i) (z_pe σ i)) (k + 1)))), (0, .ref (Y 10 0)), (1, .int (nI i))] := by rw [show wk_b (bb && !f_any (fun k => decide (z_oA σ k = z_pA σ i) && f_meets σ k (z_pb σ i) (z_pe σ i)) (k + 1)) = 0 from (wk_can2 e_63)]; exact hl
          exact ih_45 (k + 1) bb (by omega) (by omega) hbb ls (lv_sub hl [2, 3, 1, 0] rfl)
        have e_63 : (decide (z_oA σ k = z_pA σ i) && f_meets σ k (z_pb σ i) (z_pe σ i)) = false := wk_b0 c_63
        refine lv_iconst (v := 1) hx hb dX6_canBeTaken_66 (by decide) ?_
        refine lv_goto (tgt := 71) hx hb dX6_canBeTaken_67 (by decide) ?_
        refine lv_istore_n (lv' := [(2, .int 1), (0, .ref (Y 10 0)), (1, .int (nI i)), (3, .int (nI k))]) hx hb dX6_canBeTaken_71 rfl hl (by decide) rfl (fun ls hl => ?_)
        refine lv_iinc (v := nI (k + 1)) (lv' := [(3, .int (nI (k + 1))), (2, .int 1), (0, .ref (Y 10 0)), (1, .int (nI i))]) hx hb dX6_canBeTaken_72 hl (k := 3) rfl (nI_1 _) (by decide) rfl (fun ls hl => ?_)
        refine lv_goto (tgt := 45) hx hb dX6_canBeTaken_75 (by decide) ?_
        have hl : lv_has ls 4 [(3, .int (nI (k + 1))), (2, .int (wk_b (bb && !f_any (fun k => decide (z_oA σ k = z_pA σ i) && f_meets σ k (z_pb σ i) (z_pe σ i)) (k + 1)))), (0, .ref (Y 10 0)), (1, .int (nI i))] := by rw [show wk_b (bb && !f_any (fun k => decide (z_oA σ k = z_pA σ i) && f_meets σ k (z_pb σ i) (z_pe σ i)) (k + 1)) = 1 from (wk_can1 e_54 e_63)]; exact hl
        exact ih_45 (k + 1) bb (by omega) (by omega) hbb ls (lv_sub hl [2, 3, 1, 0] rfl)
    exact L_45 _ 0 false (Nat.lt_succ_self _) (Nat.zero_le _) (by rw [f_inc_cfl hI]; simp [e_8, c_21, d_21]) ls (lv_sub hl [2, 3, 1, 0] rfl)
  have d_21 := Int32.not_lt.mp c_21
  refine lv_aload_n hx hb dX6_canBeTaken_24 rfl (lv_at hl 0 rfl) ?_
  refine lv_iload_n hx hb dX6_canBeTaken_25 rfl (lv_at hl 1 rfl) ?_
  refine wk_V (As := [.int (nI i)]) (rest := []) ⟨hx, hb, hml, hown, hts⟩ (c_X6_conflictsOf l E hA hI hi) (cwV 1 hts gX6_canBeTaken_X6_conflictsOf rfl rfl rfl (by decide +kernel) ⟨(Nat.le_of_ble_eq_true rfl), (Nat.le_of_ble_eq_true rfl)⟩) (wk_recv hK hA.obj rfl) hK rfl hl.1 rfl (Nat.le_of_ble_eq_true rfl) dX6_canBeTaken_26 ⟨Nat.zero_le _, Nat.zero_le _⟩ ?_
  refine lv_aload_n hx hb dX6_canBeTaken_29 rfl (lv_at hl 0 rfl) ?_
  refine wk_get (own := RX6) (C := RX6) (T := TX6) (N := 26) (ci := 7) (v := .int (nI (z_mk σ))) hx hb hts i_X6 hown hK hA.obj rfl 24 (by decide) (hts _ (List.mem_of_getElem? (i := 1) rfl)) (fun _ h9 => h9) rfl dX6_canBeTaken_30 ?_
  refine lv_iand hx hb dX6_canBeTaken_33 ?_
  refine wk_eqi (show (nI (f_cfl σ i)) &&& (nI (z_mk σ)) = nI ((f_cfl σ i) &&& (z_mk σ)) from fa_and (f_cfl σ i) (z_mk σ)) ?_
  refine lv_if_ne (tgt := 41) hx hb dX6_canBeTaken_34 (by decide) (fun c_34 => ?_) (fun c_34 => ?_)
  · skip
    have e_34 : ¬ ((f_cfl σ i) &&& (z_mk σ)) = 0 := wk_cnet (b := 0) (Nat.lt_of_le_of_lt Nat.and_le_left (f_cfl_lt hI i)) (by decide) c_34
    refine lv_iconst (v := 0) hx hb dX6_canBeTaken_41 (by decide) ?_
    refine lv_istore_n (lv' := [(2, .int 0), (0, .ref (Y 10 0)), (1, .int (nI i))]) hx hb dX6_canBeTaken_42 rfl hl (by decide) rfl (fun ls hl => ?_)
    refine lv_iconst (v := 0) hx hb dX6_canBeTaken_43 (by decide) ?_
    refine lv_istore_n (lv' := [(3, .int 0), (2, .int 0), (0, .ref (Y 10 0)), (1, .int (nI i))]) hx hb dX6_canBeTaken_44 rfl hl (by decide) rfl (fun ls hl => ?_)
    have L_45 : ∀ (n_45 : Nat) (k : Nat) (bb : Bool), z_n σ 3 - k < n_45 → (k ≤ z_n σ 3) → (bb = (!z_tk σ i && (decide (z_now σ ≤ z_pb σ i) && !f_inc σ i))) → ∀ ls : Array Slot, lv_has ls 4 [(0, .ref (Y 10 0)), (1, .int (nI i)), (2, .int (wk_b (bb && !f_any (fun k => decide (z_oA σ k = z_pA σ i) && f_meets σ k (z_pb σ i) (z_pe σ i)) k))), (3, .int (nI k))] → W p l e (headSpec wsX6_canBeTaken rmX6_canBeTaken).room s m ([.ref (Y 10 0), .int (nI i)] : List Value).toArray below meth c s.heap [] 0 0 (MQ below (wk_Q (some (.int (wk_b (f_free σ i))))) ([.ref (Y 10 0), .int (nI i)] : List Value).toArray s 0 0 (fun _ => False)) (F0 m 45 ls []) := by
      intro n_45
      induction n_45 with
      | zero => intro k bb hm; exact absurd hm (Nat.not_lt_zero _)
      | succ n_45 ih_45 =>
        intro k bb hm_45 hk_k hbb ls hl
        refine lv_iload_n hx hb dX6_canBeTaken_45 rfl (lv_at hl 3 rfl) ?_
        refine lv_aload_n hx hb dX6_canBeTaken_46 rfl (lv_at hl 0 rfl) ?_
        refine wk_get (own := RX6) (C := RX6) (T := TX6) (N := 26) (ci := 7) (v := .int (nI (z_n σ 3))) hx hb hts i_X6 hown hK hA.obj rfl 8 (by decide) (hts _ (List.mem_of_getElem? (i := 4) rfl)) (fun _ h9 => h9) rfl dX6_canBeTaken_47 ?_
        refine lv_icmp_ge (tgt := 78) hx hb dX6_canBeTaken_50 (by decide) (fun c_50 => ?_) (fun c_50 => ?_)
        · skip
          have e_50 : (z_n σ 3) ≤ k := wk_cget (by omega) (by omega) c_50
          have hkN : k = z_n σ 3 := by omega
          refine lv_iload_n hx hb dX6_canBeTaken_78 rfl (lv_at hl 2 rfl) ?_
          exact W.zret hx hb hr (wk_nz _) (fun t ht _ => wk_ret (congrArg Value.int (by rw [f_free, f_out, hbb, ← hkN]; congr 1; cases z_tk σ i <;> cases decide (z_now σ ≤ z_pb σ i) <;> cases f_inc σ i <;> simp)) ht) wk_nil dX6_canBeTaken_79
        have e_50 : k < (z_n σ 3) := wk_cgef (by omega) (by omega) c_50
        refine lv_iload_n hx hb dX6_canBeTaken_53 rfl (lv_at hl 2 rfl) ?_
        refine lv_if_eq (tgt := 70) hx hb dX6_canBeTaken_54 (by decide) (fun c_54 => ?_) (fun c_54 => ?_)
        · skip
          have e_54 : (bb && !f_any (fun k => decide (z_oA σ k = z_pA σ i) && f_meets σ k (z_pb σ i) (z_pe σ i)) k) = false := wk_b0 c_54
          refine lv_iconst (v := 0) hx hb dX6_canBeTaken_70 (by decide) ?_
          refine lv_istore_n (lv' := [(2, .int 0), (0, .ref (Y 10 0)), (1, .int (nI i)), (3, .int (nI k))]) hx hb dX6_canBeTaken_71 rfl hl (by decide) rfl (fun ls hl => ?_)
          refine lv_iinc (v := nI (k + 1)) (lv' := [(3, .int (nI (k + 1))), (2, .int 0), (0, .ref (Y 10 0)), (1, .int (nI i))]) hx hb dX6_canBeTaken_72 hl (k := 3) rfl (nI_1 _) (by decide) rfl (fun ls hl => ?_)
          refine lv_goto (tgt := 45) hx hb dX6_canBeTaken_75 (by decide) ?_
          have hl : lv_has ls 4 [(3, .int (nI (k + 1))), (2, .int (wk_b (bb && !f_any (fun k => decide (z_oA σ k = z_pA σ i) && f_meets σ k (z_pb σ i) (z_pe σ i)) (k + 1)))), (0, .ref (Y 10 0)), (1, .int (nI i))] := by rw [show wk_b (bb && !f_any (fun k => decide (z_oA σ k = z_pA σ i) && f_meets σ k (z_pb σ i) (z_pe σ i)) (k + 1)) = 0 from (wk_can0 e_54)]; exact hl
          exact ih_45 (k + 1) bb (by omega) (by omega) hbb ls (lv_sub hl [2, 3, 1, 0] rfl)
        have e_54 : (bb && !f_any (fun k => decide (z_oA σ k = z_pA σ i) && f_meets σ k (z_pb σ i) (z_pe σ i)) k) = true := wk_b1 c_54
        refine lv_aload_n hx hb dX6_canBeTaken_57 rfl (lv_at hl 0 rfl) ?_
        refine lv_iload_n hx hb dX6_canBeTaken_58 rfl (lv_at hl 3 rfl) ?_
        refine lv_iload_n hx hb dX6_canBeTaken_59 rfl (lv_at hl 1 rfl) ?_
        refine wk_V (As := [.int (nI k), .int (nI i)]) (rest := []) ⟨hx, hb, hml, hown, hts⟩ (c_X6_isOutIn l E hA hI e_50 hi) (cwV 2 hts gX6_canBeTaken_X6_isOutIn rfl rfl rfl (by decide +kernel) ⟨(Nat.le_of_ble_eq_true rfl), (Nat.le_of_ble_eq_true rfl)⟩) (wk_recv hK hA.obj rfl) hK rfl hl.1 rfl (Nat.le_of_ble_eq_true rfl) dX6_canBeTaken_60 ⟨Nat.zero_le _, Nat.zero_le _⟩ ?_
        refine lv_if_ne (tgt := 70) hx hb dX6_canBeTaken_63 (by decide) (fun c_63 => ?_) (fun c_63 => ?_)
        · skip
          have e_63 : (decide (z_oA σ k = z_pA σ i) && f_meets σ k (z_pb σ i) (z_pe σ i)) = true := wk_b1 c_63
          refine lv_iconst (v := 0) hx hb dX6_canBeTaken_70 (by decide) ?_
          refine lv_istore_n (lv' := [(2, .int 0), (0, .ref (Y 10 0)), (1, .int (nI i)), (3, .int (nI k))]) hx hb dX6_canBeTaken_71 rfl hl (by decide) rfl (fun ls hl => ?_)
          refine lv_iinc (v := nI (k + 1)) (lv' := [(3, .int (nI (k + 1))), (2, .int 0), (0, .ref (Y 10 0)), (1, .int (nI i))]) hx hb dX6_canBeTaken_72 hl (k := 3) rfl (nI_1 _) (by decide) rfl (fun ls hl => ?_)
          refine lv_goto (tgt := 45) hx hb dX6_canBeTaken_75 (by decide) ?_
          have hl : lv_has ls 4 [(3, .int (nI (k + 1))), (2, .int (wk_b (bb && !f_any (fun k => decide (z_oA σ k = z_pA σ i) && f_meets σ k (z_pb σ i) (z_pe σ i)) (k + 1)))), (0, .ref (Y 10 0)), (1, .int (nI i))] := by rw [show wk_b (bb && !f_any (fun k => decide (z_oA σ k = z_pA σ i) && f_meets σ k (z_pb σ i) (z_pe σ i)) (k + 1)) = 0 from (wk_can2 e_63)]; exact hl
          exact ih_45 (k + 1) bb (by omega) (by omega) hbb ls (lv_sub hl [2, 3, 1, 0] rfl)
        have e_63 : (decide (z_oA σ k = z_pA σ i) && f_meets σ k (z_pb σ i) (z_pe σ i)) = false := wk_b0 c_63
        refine lv_iconst (v := 1) hx hb dX6_canBeTaken_66 (by decide) ?_
        refine lv_goto (tgt := 71) hx hb dX6_canBeTaken_67 (by decide) ?_
        refine lv_istore_n (lv' := [(2, .int 1), (0, .ref (Y 10 0)), (1, .int (nI i)), (3, .int (nI k))]) hx hb dX6_canBeTaken_71 rfl hl (by decide) rfl (fun ls hl => ?_)
        refine lv_iinc (v := nI (k + 1)) (lv' := [(3, .int (nI (k + 1))), (2, .int 1), (0, .ref (Y 10 0)), (1, .int (nI i))]) hx hb dX6_canBeTaken_72 hl (k := 3) rfl (nI_1 _) (by decide) rfl (fun ls hl => ?_)
        refine lv_goto (tgt := 45) hx hb dX6_canBeTaken_75 (by decide) ?_
        have hl : lv_has ls 4 [(3, .int (nI (k + 1))), (2, .int (wk_b (bb && !f_any (fun k => decide (z_oA σ k = z_pA σ i) && f_meets σ k (z_pb σ i) (z_pe σ i)) (k + 1)))), (0, .ref (Y 10 0)), (1, .int (nI i))] := by rw [show wk_b (bb && !f_any (fun k => decide (z_oA σ k = z_pA σ i) && f_meets σ k (z_pb σ i) (z_pe σ i)) (k + 1)) = 1 from (wk_can1 e_54 e_63)]; exact hl
        exact ih_45 (k + 1) bb (by omega) (by omega) hbb ls (lv_sub hl [2, 3, 1, 0] rfl)
    exact L_45 _ 0 false (Nat.lt_succ_self _) (Nat.zero_le _) (by rw [f_inc_cfl hI]; simp [e_8, c_21, d_21, e_34]) ls (lv_sub hl [2, 3, 1, 0] rfl)
  have e_34 : ((f_cfl σ i) &&& (z_mk σ)) = 0 := wk_cnef (b := 0) (Nat.lt_of_le_of_lt Nat.and_le_left (f_cfl_lt hI i)) (by decide) c_34
  refine lv_iconst (v := 1) hx hb dX6_canBeTaken_37 (by decide) ?_
  refine lv_goto (tgt := 42) hx hb dX6_canBeTaken_38 (by decide) ?_
  refine lv_istore_n (lv' := [(2, .int 1), (0, .ref (Y 10 0)), (1, .int (nI i))]) hx hb dX6_canBeTaken_42 rfl hl (by decide) rfl (fun ls hl => ?_)
  refine lv_iconst (v := 0) hx hb dX6_canBeTaken_43 (by decide) ?_
  refine lv_istore_n (lv' := [(3, .int 0), (2, .int 1), (0, .ref (Y 10 0)), (1, .int (nI i))]) hx hb dX6_canBeTaken_44 rfl hl (by decide) rfl (fun ls hl => ?_)
  have L_45 : ∀ (n_45 : Nat) (k : Nat) (bb : Bool), z_n σ 3 - k < n_45 → (k ≤ z_n σ 3) → (bb = (!z_tk σ i && (decide (z_now σ ≤ z_pb σ i) && !f_inc σ i))) → ∀ ls : Array Slot, lv_has ls 4 [(0, .ref (Y 10 0)), (1, .int (nI i)), (2, .int (wk_b (bb && !f_any (fun k => decide (z_oA σ k = z_pA σ i) && f_meets σ k (z_pb σ i) (z_pe σ i)) k))), (3, .int (nI k))] → W p l e (headSpec wsX6_canBeTaken rmX6_canBeTaken).room s m ([.ref (Y 10 0), .int (nI i)] : List Value).toArray below meth c s.heap [] 0 0 (MQ below (wk_Q (some (.int (wk_b (f_free σ i))))) ([.ref (Y 10 0), .int (nI i)] : List Value).toArray s 0 0 (fun _ => False)) (F0 m 45 ls []) := by
    intro n_45
    induction n_45 with
    | zero => intro k bb hm; exact absurd hm (Nat.not_lt_zero _)
    | succ n_45 ih_45 =>
      intro k bb hm_45 hk_k hbb ls hl
      refine lv_iload_n hx hb dX6_canBeTaken_45 rfl (lv_at hl 3 rfl) ?_
      refine lv_aload_n hx hb dX6_canBeTaken_46 rfl (lv_at hl 0 rfl) ?_
      refine wk_get (own := RX6) (C := RX6) (T := TX6) (N := 26) (ci := 7) (v := .int (nI (z_n σ 3))) hx hb hts i_X6 hown hK hA.obj rfl 8 (by decide) (hts _ (List.mem_of_getElem? (i := 4) rfl)) (fun _ h9 => h9) rfl dX6_canBeTaken_47 ?_
      refine lv_icmp_ge (tgt := 78) hx hb dX6_canBeTaken_50 (by decide) (fun c_50 => ?_) (fun c_50 => ?_)
      · skip
        have e_50 : (z_n σ 3) ≤ k := wk_cget (by omega) (by omega) c_50
        have hkN : k = z_n σ 3 := by omega
        refine lv_iload_n hx hb dX6_canBeTaken_78 rfl (lv_at hl 2 rfl) ?_
        exact W.zret hx hb hr (wk_nz _) (fun t ht _ => wk_ret (congrArg Value.int (by rw [f_free, f_out, hbb, ← hkN]; congr 1; cases z_tk σ i <;> cases decide (z_now σ ≤ z_pb σ i) <;> cases f_inc σ i <;> simp)) ht) wk_nil dX6_canBeTaken_79
      have e_50 : k < (z_n σ 3) := wk_cgef (by omega) (by omega) c_50
      refine lv_iload_n hx hb dX6_canBeTaken_53 rfl (lv_at hl 2 rfl) ?_
      refine lv_if_eq (tgt := 70) hx hb dX6_canBeTaken_54 (by decide) (fun c_54 => ?_) (fun c_54 => ?_)
      · skip
        have e_54 : (bb && !f_any (fun k => decide (z_oA σ k = z_pA σ i) && f_meets σ k (z_pb σ i) (z_pe σ i)) k) = false := wk_b0 c_54
        refine lv_iconst (v := 0) hx hb dX6_canBeTaken_70 (by decide) ?_
        refine lv_istore_n (lv' := [(2, .int 0), (0, .ref (Y 10 0)), (1, .int (nI i)), (3, .int (nI k))]) hx hb dX6_canBeTaken_71 rfl hl (by decide) rfl (fun ls hl => ?_)
        refine lv_iinc (v := nI (k + 1)) (lv' := [(3, .int (nI (k + 1))), (2, .int 0), (0, .ref (Y 10 0)), (1, .int (nI i))]) hx hb dX6_canBeTaken_72 hl (k := 3) rfl (nI_1 _) (by decide) rfl (fun ls hl => ?_)
        refine lv_goto (tgt := 45) hx hb dX6_canBeTaken_75 (by decide) ?_
        have hl : lv_has ls 4 [(3, .int (nI (k + 1))), (2, .int (wk_b (bb && !f_any (fun k => decide (z_oA σ k = z_pA σ i) && f_meets σ k (z_pb σ i) (z_pe σ i)) (k + 1)))), (0, .ref (Y 10 0)), (1, .int (nI i))] := by rw [show wk_b (bb && !f_any (fun k => decide (z_oA σ k = z_pA σ i) && f_meets σ k (z_pb σ i) (z_pe σ i)) (k + 1)) = 0 from (wk_can0 e_54)]; exact hl
        exact ih_45 (k + 1) bb (by omega) (by omega) hbb ls (lv_sub hl [2, 3, 1, 0] rfl)
      have e_54 : (bb && !f_any (fun k => decide (z_oA σ k = z_pA σ i) && f_meets σ k (z_pb σ i) (z_pe σ i)) k) = true := wk_b1 c_54
      refine lv_aload_n hx hb dX6_canBeTaken_57 rfl (lv_at hl 0 rfl) ?_
      refine lv_iload_n hx hb dX6_canBeTaken_58 rfl (lv_at hl 3 rfl) ?_
      refine lv_iload_n hx hb dX6_canBeTaken_59 rfl (lv_at hl 1 rfl) ?_
      refine wk_V (As := [.int (nI k), .int (nI i)]) (rest := []) ⟨hx, hb, hml, hown, hts⟩ (c_X6_isOutIn l E hA hI e_50 hi) (cwV 2 hts gX6_canBeTaken_X6_isOutIn rfl rfl rfl (by decide +kernel) ⟨(Nat.le_of_ble_eq_true rfl), (Nat.le_of_ble_eq_true rfl)⟩) (wk_recv hK hA.obj rfl) hK rfl hl.1 rfl (Nat.le_of_ble_eq_true rfl) dX6_canBeTaken_60 ⟨Nat.zero_le _, Nat.zero_le _⟩ ?_
      refine lv_if_ne (tgt := 70) hx hb dX6_canBeTaken_63 (by decide) (fun c_63 => ?_) (fun c_63 => ?_)
      · skip
        have e_63 : (decide (z_oA σ k = z_pA σ i) && f_meets σ k (z_pb σ i) (z_pe σ i)) = true := wk_b1 c_63
        refine lv_iconst (v := 0) hx hb dX6_canBeTaken_70 (by decide) ?_
        refine lv_istore_n (lv' := [(2, .int 0), (0, .ref (Y 10 0)), (1, .int (nI i)), (3, .int (nI k))]) hx hb dX6_canBeTaken_71 rfl hl (by decide) rfl (fun ls hl => ?_)
        refine lv_iinc (v := nI (k + 1)) (lv' := [(3, .int (nI (k + 1))), (2, .int 0), (0, .ref (Y 10 0)), (1, .int (nI i))]) hx hb dX6_canBeTaken_72 hl (k := 3) rfl (nI_1 _) (by decide) rfl (fun ls hl => ?_)
        refine lv_goto (tgt := 45) hx hb dX6_canBeTaken_75 (by decide) ?_
        have hl : lv_has ls 4 [(3, .int (nI (k + 1))), (2, .int (wk_b (bb && !f_any (fun k => decide (z_oA σ k = z_pA σ i) && f_meets σ k (z_pb σ i) (z_pe σ i)) (k + 1)))), (0, .ref (Y 10 0)), (1, .int (nI i))] := by rw [show wk_b (bb && !f_any (fun k => decide (z_oA σ k = z_pA σ i) && f_meets σ k (z_pb σ i) (z_pe σ i)) (k + 1)) = 0 from (wk_can2 e_63)]; exact hl
        exact ih_45 (k + 1) bb (by omega) (by omega) hbb ls (lv_sub hl [2, 3, 1, 0] rfl)
      have e_63 : (decide (z_oA σ k = z_pA σ i) && f_meets σ k (z_pb σ i) (z_pe σ i)) = false := wk_b0 c_63
      refine lv_iconst (v := 1) hx hb dX6_canBeTaken_66 (by decide) ?_
      refine lv_goto (tgt := 71) hx hb dX6_canBeTaken_67 (by decide) ?_
      refine lv_istore_n (lv' := [(2, .int 1), (0, .ref (Y 10 0)), (1, .int (nI i)), (3, .int (nI k))]) hx hb dX6_canBeTaken_71 rfl hl (by decide) rfl (fun ls hl => ?_)
      refine lv_iinc (v := nI (k + 1)) (lv' := [(3, .int (nI (k + 1))), (2, .int 1), (0, .ref (Y 10 0)), (1, .int (nI i))]) hx hb dX6_canBeTaken_72 hl (k := 3) rfl (nI_1 _) (by decide) rfl (fun ls hl => ?_)
      refine lv_goto (tgt := 45) hx hb dX6_canBeTaken_75 (by decide) ?_
      have hl : lv_has ls 4 [(3, .int (nI (k + 1))), (2, .int (wk_b (bb && !f_any (fun k => decide (z_oA σ k = z_pA σ i) && f_meets σ k (z_pb σ i) (z_pe σ i)) (k + 1)))), (0, .ref (Y 10 0)), (1, .int (nI i))] := by rw [show wk_b (bb && !f_any (fun k => decide (z_oA σ k = z_pA σ i) && f_meets σ k (z_pb σ i) (z_pe σ i)) (k + 1)) = 1 from (wk_can1 e_54 e_63)]; exact hl
      exact ih_45 (k + 1) bb (by omega) (by omega) hbb ls (lv_sub hl [2, 3, 1, 0] rfl)
  exact L_45 _ 0 true (Nat.lt_succ_self _) (Nat.zero_le _) (by rw [f_inc_cfl hI]; simp [e_8, c_21, d_21, e_34]) ls (lv_sub hl [2, 3, 1, 0] rfl)

abbrev rmX6_weightOfAll : Room := { frames := 1, cells := 0, slots := 0, locals := 21 }
set_option maxHeartbeats 4000000 in
set_option maxRecDepth 100000 in
theorem c_X6_weightOfAll (l : Launch) (E : wk_E) {T : Nat → Nat × Nat} {Y : Nat → Nat → Nat} {σ : z_S} {th : Int32} {gt : Int64} {H : Heap} (hA : MA E T Y σ th gt H) (hI : z_Ok σ) {w : Nat} (hw : w < 2 ^ z_n σ 2) : wk_Met l yX6_weightOfAll wsX6_weightOfAll rmX6_weightOfAll E H [.ref (Y 10 0), .int (nI w)] (some (.int (f_weight σ w))) := by
  refine Met.ofW (cc := cX6_weightOfAll) (maxL := 4) (ret := (some .int)) (by decide) rfl ?_
  intro p e s m args below meth c s₁ B hml hv
  obtain ⟨rfl, hH, hK⟩ := hv
  subst hH
  have hx := B.exec
  have hb := B.bytes
  have hr := B.returns
  have hts := atoms_spec (ws := wsX6_weightOfAll) B.pre
  have hown : s.vm.findClass RX6 = some m.cls := findClass_of_methodNamed B.named
  have hlocks := B.notSynchronized
  have i_X6 : ∀ w ∈ u_ws RX6 TX6 26, w ∈ wsX6_weightOfAll := fun w h => (List.mem_cons_of_mem _ (List.mem_append_right _ h))
  have hl := lv_entry [.ref (Y 10 0), .int (nI w)] (n := 4) (Nat.le_of_ble_eq_true rfl)
  rw [lg_entry_eq]
  generalize (lg_sl [.ref (Y 10 0), .int (nI w)] ++ List.replicate (4 - (lg_sl [.ref (Y 10 0), .int (nI w)]).length) Slot.unset).toArray = ls at hl ⊢
  have hl : lv_has ls 4 [(0, .ref (Y 10 0)), (1, .int (nI w))] := hl
  have b0 := hI.n0
  have b1 := hI.n1
  have b2 := hI.n2
  have b3 := hI.n3
  refine lv_iconst (v := 0) hx hb dX6_weightOfAll_0 (by decide) ?_
  refine lv_istore_n (lv' := [(2, .int 0), (0, .ref (Y 10 0)), (1, .int (nI w))]) hx hb dX6_weightOfAll_1 rfl hl (by decide) rfl (fun ls hl => ?_)
  refine lv_iconst (v := 0) hx hb dX6_weightOfAll_2 (by decide) ?_
  refine lv_istore_n (lv' := [(3, .int 0), (2, .int 0), (0, .ref (Y 10 0)), (1, .int (nI w))]) hx hb dX6_weightOfAll_3 rfl hl (by decide) rfl (fun ls hl => ?_)
  have L_4 : ∀ (n_4 : Nat) (k : Nat), z_n σ 2 - k < n_4 → (k ≤ z_n σ 2) → ∀ ls : Array Slot, lv_has ls 4 [(0, .ref (Y 10 0)), (1, .int (nI w)), (2, .int (f_sumw σ w k)), (3, .int (nI k))] → W p l e (headSpec wsX6_weightOfAll rmX6_weightOfAll).room s m ([.ref (Y 10 0), .int (nI w)] : List Value).toArray below meth c s.heap [] 0 0 (MQ below (wk_Q (some (.int (f_weight σ w)))) ([.ref (Y 10 0), .int (nI w)] : List Value).toArray s 0 0 (fun _ => False)) (F0 m 4 ls []) := by
    intro n_4
    induction n_4 with
    | zero => intro k hm; exact absurd hm (Nat.not_lt_zero _)
    | succ n_4 ih_4 =>
      intro k hm_4 hk_k ls hl
      refine lv_iload_n hx hb dX6_weightOfAll_4 rfl (lv_at hl 3 rfl) ?_
      refine lv_aload_n hx hb dX6_weightOfAll_5 rfl (lv_at hl 0 rfl) ?_
      refine wk_get (own := RX6) (C := RX6) (T := TX6) (N := 26) (ci := 7) (v := .int (nI (z_n σ 2))) hx hb hts i_X6 hown hK hA.obj rfl 18 (by decide) (hts _ (List.mem_of_getElem? (i := 1) rfl)) (fun _ h9 => h9) rfl dX6_weightOfAll_6 ?_
      refine lv_icmp_ge (tgt := 38) hx hb dX6_weightOfAll_9 (by decide) (fun c_9 => ?_) (fun c_9 => ?_)
      · skip
        have e_9 : (z_n σ 2) ≤ k := wk_cget (by omega) (by omega) c_9
        have hkN : k = z_n σ 2 := by omega
        refine lv_iload_n hx hb dX6_weightOfAll_38 rfl (lv_at hl 2 rfl) ?_
        exact W.iret hx hb hr (fun t ht _ => wk_ret (congrArg Value.int (by rw [hkN]; rfl)) ht) wk_nil dX6_weightOfAll_39
      have e_9 : k < (z_n σ 2) := wk_cgef (by omega) (by omega) c_9
      refine lv_iload_n hx hb dX6_weightOfAll_12 rfl (lv_at hl 2 rfl) ?_
      refine lv_iload_n hx hb dX6_weightOfAll_13 rfl (lv_at hl 1 rfl) ?_
      refine lv_iload_n hx hb dX6_weightOfAll_14 rfl (lv_at hl 3 rfl) ?_
      refine wk_S (As := [.int (nI w), .int (nI k)]) (rest := [.int (f_sumw σ w k)]) ⟨hx, hb, hml, hown, hts⟩ (c_X6_has l E (mm := w) (k := k) (v_set_31 hI.n2 hw) (by omega)) (va_cwS 2 hts gX6_weightOfAll_X6_has rfl rfl rfl (by decide +kernel) ⟨(Nat.le_of_ble_eq_true rfl), (Nat.le_of_ble_eq_true rfl)⟩) hK rfl hl.1 rfl (Nat.le_of_ble_eq_true rfl) dX6_weightOfAll_15 ⟨Nat.zero_le _, Nat.zero_le _⟩ ?_
      refine lv_if_eq (tgt := 29) hx hb dX6_weightOfAll_18 (by decide) (fun c_18 => ?_) (fun c_18 => ?_)
      · skip
        have e_18 : (Nat.testBit w k) = false := wk_b0 c_18
        refine lv_iconst (v := 0) hx hb dX6_weightOfAll_29 (by decide) ?_
        refine lv_iadd hx hb dX6_weightOfAll_30 ?_
        refine lv_istore_n (lv' := [(2, .int ((f_sumw σ w k) + 0)), (0, .ref (Y 10 0)), (1, .int (nI w)), (3, .int (nI k))]) hx hb dX6_weightOfAll_31 rfl hl (by decide) rfl (fun ls hl => ?_)
        refine lv_iinc (v := nI (k + 1)) (lv' := [(3, .int (nI (k + 1))), (2, .int ((f_sumw σ w k) + 0)), (0, .ref (Y 10 0)), (1, .int (nI w))]) hx hb dX6_weightOfAll_32 hl (k := 3) rfl (nI_1 _) (by decide) rfl (fun ls hl => ?_)
        refine lv_goto (tgt := 4) hx hb dX6_weightOfAll_35 (by decide) ?_
        have hl : lv_has ls 4 [(3, .int (nI (k + 1))), (2, .int (f_sumw σ w (k + 1))), (0, .ref (Y 10 0)), (1, .int (nI w))] := by rw [show f_sumw σ w (k + 1) = (f_sumw σ w k) + 0 from (by simp [f_sumw, e_18])]; exact hl
        exact ih_4 (k + 1) (by omega) (by omega) ls (lv_sub hl [2, 3, 1, 0] rfl)
      have e_18 : (Nat.testBit w k) = true := wk_b1 c_18
      refine lv_aload_n hx hb dX6_weightOfAll_21 rfl (lv_at hl 0 rfl) ?_
      refine lv_iload_n hx hb dX6_weightOfAll_22 rfl (lv_at hl 3 rfl) ?_
      refine wk_V (As := [.int (nI k)]) (rest := [.int (f_sumw σ w k)]) ⟨hx, hb, hml, hown, hts⟩ (c_X6_weightOf l E hA hI e_9) (cwV 1 hts gX6_weightOfAll_X6_weightOf rfl rfl rfl (by decide +kernel) ⟨(Nat.le_of_ble_eq_true rfl), (Nat.le_of_ble_eq_true rfl)⟩) (wk_recv hK hA.obj rfl) hK rfl hl.1 rfl (Nat.le_of_ble_eq_true rfl) dX6_weightOfAll_23 ⟨Nat.zero_le _, Nat.zero_le _⟩ ?_
      refine lv_goto (tgt := 30) hx hb dX6_weightOfAll_26 (by decide) ?_
      refine lv_iadd hx hb dX6_weightOfAll_30 ?_
      refine lv_istore_n (lv' := [(2, .int ((f_sumw σ w k) + (f_worth σ k))), (0, .ref (Y 10 0)), (1, .int (nI w)), (3, .int (nI k))]) hx hb dX6_weightOfAll_31 rfl hl (by decide) rfl (fun ls hl => ?_)
      refine lv_iinc (v := nI (k + 1)) (lv' := [(3, .int (nI (k + 1))), (2, .int ((f_sumw σ w k) + (f_worth σ k))), (0, .ref (Y 10 0)), (1, .int (nI w))]) hx hb dX6_weightOfAll_32 hl (k := 3) rfl (nI_1 _) (by decide) rfl (fun ls hl => ?_)
      refine lv_goto (tgt := 4) hx hb dX6_weightOfAll_35 (by decide) ?_
      have hl : lv_has ls 4 [(3, .int (nI (k + 1))), (2, .int (f_sumw σ w (k + 1))), (0, .ref (Y 10 0)), (1, .int (nI w))] := by rw [show f_sumw σ w (k + 1) = (f_sumw σ w k) + (f_worth σ k) from (by simp [f_sumw, e_18])]; exact hl
      exact ih_4 (k + 1) (by omega) (by omega) ls (lv_sub hl [2, 3, 1, 0] rfl)
  exact L_4 _ 0 (Nat.lt_succ_self _) (Nat.zero_le _) ls (lv_sub hl [2, 3, 1, 0] rfl)

abbrev rmX6_isOut : Room := { frames := 1, cells := 0, slots := 0, locals := 22 }
set_option maxHeartbeats 4000000 in
set_option maxRecDepth 100000 in
theorem c_X6_isOut (l : Launch) (E : wk_E) {T : Nat → Nat × Nat} {Y : Nat → Nat → Nat} {σ : z_S} {th : Int32} {gt : Int64} {H : Heap} (hA : MA E T Y σ th gt H) (hI : z_Ok σ) {a : Nat} (ha : a < z_n σ 0) : wk_Met l yX6_isOut wsX6_isOut rmX6_isOut E H [.ref (Y 10 0), .int (nI a)] (some (.int (wk_b (f_out σ a (z_now σ) (z_now σ + 1))))) := by
  refine Met.ofW (cc := cX6_isOut) (maxL := 4) (ret := (some .boolean)) (by decide) rfl ?_
  intro p e s m args below meth c s₁ B hml hv
  obtain ⟨rfl, hH, hK⟩ := hv
  subst hH
  have hx := B.exec
  have hb := B.bytes
  have hr := B.returns
  have hts := atoms_spec (ws := wsX6_isOut) B.pre
  have hown : s.vm.findClass RX6 = some m.cls := findClass_of_methodNamed B.named
  have hlocks := B.notSynchronized
  have i_X6 : ∀ w ∈ u_ws RX6 TX6 26, w ∈ wsX6_isOut := fun w h => (List.mem_cons_of_mem _ (List.mem_append_right _ h))
  have hl := lv_entry [.ref (Y 10 0), .int (nI a)] (n := 4) (Nat.le_of_ble_eq_true rfl)
  rw [lg_entry_eq]
  generalize (lg_sl [.ref (Y 10 0), .int (nI a)] ++ List.replicate (4 - (lg_sl [.ref (Y 10 0), .int (nI a)]).length) Slot.unset).toArray = ls at hl ⊢
  have hl : lv_has ls 4 [(0, .ref (Y 10 0)), (1, .int (nI a))] := hl
  have b0 := hI.n0
  have b1 := hI.n1
  have b2 := hI.n2
  have b3 := hI.n3
  refine lv_iconst (v := 0) hx hb dX6_isOut_0 (by decide) ?_
  refine lv_istore_n (lv' := [(2, .int 0), (0, .ref (Y 10 0)), (1, .int (nI a))]) hx hb dX6_isOut_1 rfl hl (by decide) rfl (fun ls hl => ?_)
  refine lv_iconst (v := 0) hx hb dX6_isOut_2 (by decide) ?_
  refine lv_istore_n (lv' := [(3, .int 0), (2, .int 0), (0, .ref (Y 10 0)), (1, .int (nI a))]) hx hb dX6_isOut_3 rfl hl (by decide) rfl (fun ls hl => ?_)
  have L_4 : ∀ (n_4 : Nat) (k : Nat), z_n σ 3 - k < n_4 → (k ≤ z_n σ 3) → ∀ ls : Array Slot, lv_has ls 4 [(0, .ref (Y 10 0)), (1, .int (nI a)), (2, .int (wk_b (f_any (fun k => decide (z_oA σ k = a) && f_meets σ k (z_now σ) (z_now σ + 1)) k))), (3, .int (nI k))] → W p l e (headSpec wsX6_isOut rmX6_isOut).room s m ([.ref (Y 10 0), .int (nI a)] : List Value).toArray below meth c s.heap [] 0 0 (MQ below (wk_Q (some (.int (wk_b (f_out σ a (z_now σ) (z_now σ + 1)))))) ([.ref (Y 10 0), .int (nI a)] : List Value).toArray s 0 0 (fun _ => False)) (F0 m 4 ls []) := by
    intro n_4
    induction n_4 with
    | zero => intro k hm; exact absurd hm (Nat.not_lt_zero _)
    | succ n_4 ih_4 =>
      intro k hm_4 hk_k ls hl
      refine lv_iload_n hx hb dX6_isOut_4 rfl (lv_at hl 3 rfl) ?_
      refine lv_aload_n hx hb dX6_isOut_5 rfl (lv_at hl 0 rfl) ?_
      refine wk_get (own := RX6) (C := RX6) (T := TX6) (N := 26) (ci := 7) (v := .int (nI (z_n σ 3))) hx hb hts i_X6 hown hK hA.obj rfl 8 (by decide) (hts _ (List.mem_of_getElem? (i := 1) rfl)) (fun _ h9 => h9) rfl dX6_isOut_6 ?_
      refine lv_icmp_ge (tgt := 72) hx hb dX6_isOut_9 (by decide) (fun c_9 => ?_) (fun c_9 => ?_)
      · skip
        have e_9 : (z_n σ 3) ≤ k := wk_cget (by omega) (by omega) c_9
        have hkN : k = z_n σ 3 := by omega
        refine lv_iload_n hx hb dX6_isOut_72 rfl (lv_at hl 2 rfl) ?_
        exact W.zret hx hb hr (wk_nz _) (fun t ht _ => wk_ret (congrArg Value.int (by rw [hkN]; rfl)) ht) wk_nil dX6_isOut_73
      have e_9 : k < (z_n σ 3) := wk_cgef (by omega) (by omega) c_9
      refine lv_iload_n hx hb dX6_isOut_12 rfl (lv_at hl 2 rfl) ?_
      refine lv_if_ne (tgt := 60) hx hb dX6_isOut_13 (by decide) (fun c_13 => ?_) (fun c_13 => ?_)
      · skip
        have e_13 : (f_any (fun k => decide (z_oA σ k = a) && f_meets σ k (z_now σ) (z_now σ + 1)) k) = true := wk_b1 c_13
        refine lv_iconst (v := 1) hx hb dX6_isOut_60 (by decide) ?_
        refine lv_goto (tgt := 65) hx hb dX6_isOut_61 (by decide) ?_
        refine lv_istore_n (lv' := [(2, .int 1), (0, .ref (Y 10 0)), (1, .int (nI a)), (3, .int (nI k))]) hx hb dX6_isOut_65 rfl hl (by decide) rfl (fun ls hl => ?_)
        refine lv_iinc (v := nI (k + 1)) (lv' := [(3, .int (nI (k + 1))), (2, .int 1), (0, .ref (Y 10 0)), (1, .int (nI a))]) hx hb dX6_isOut_66 hl (k := 3) rfl (nI_1 _) (by decide) rfl (fun ls hl => ?_)
        refine lv_goto (tgt := 4) hx hb dX6_isOut_69 (by decide) ?_
        have hl : lv_has ls 4 [(3, .int (nI (k + 1))), (2, .int (wk_b (f_any (fun k => decide (z_oA σ k = a) && f_meets σ k (z_now σ) (z_now σ + 1)) (k + 1)))), (0, .ref (Y 10 0)), (1, .int (nI a))] := by rw [show wk_b (f_any (fun k => decide (z_oA σ k = a) && f_meets σ k (z_now σ) (z_now σ + 1)) (k + 1)) = 1 from (wk_or0 e_13)]; exact hl
        exact ih_4 (k + 1) (by omega) (by omega) ls (lv_sub hl [2, 3, 1, 0] rfl)
      have e_13 : (f_any (fun k => decide (z_oA σ k = a) && f_meets σ k (z_now σ) (z_now σ + 1)) k) = false := wk_b0 c_13
      refine lv_aload_n hx hb dX6_isOut_16 rfl (lv_at hl 0 rfl) ?_
      refine wk_get (own := RX6) (C := RX6) (T := TX6) (N := 26) (ci := 7) (v := .ref (Y 11 4)) hx hb hts i_X6 hown hK hA.obj rfl 9 (by decide) (hts _ (List.mem_of_getElem? (i := 2) rfl)) (fun _ h9 => h9) rfl dX6_isOut_17 ?_
      refine lv_iconst (v := 3) hx hb dX6_isOut_20 (by decide) ?_
      refine lv_iload_n hx hb dX6_isOut_21 rfl (lv_at hl 3 rfl) ?_
      refine lv_imul hx hb dX6_isOut_22 ?_
      refine wk_eqi (show 3 * (nI k) = nI (3 * k) from pk_mul 3 k) ?_
      refine wk_iald (n := 18) (f := fun j => z_outs σ j) hx hb hK hA.a4 (3 * k) rfl (by omega) (by decide) dX6_isOut_23 ?_
      refine wk_eqi (z_outs0 σ k) ?_
      refine lv_iload_n hx hb dX6_isOut_24 rfl (lv_at hl 1 rfl) ?_
      have q1 := hI.oA e_9
      refine lv_icmp_ne (tgt := 64) hx hb dX6_isOut_25 (by decide) (fun c_25 => ?_) (fun c_25 => ?_)
      · skip
        have e_25 : ¬ (z_oA σ k) = a := wk_cnet (by omega) (by omega) c_25
        refine lv_iconst (v := 0) hx hb dX6_isOut_64 (by decide) ?_
        refine lv_istore_n (lv' := [(2, .int 0), (0, .ref (Y 10 0)), (1, .int (nI a)), (3, .int (nI k))]) hx hb dX6_isOut_65 rfl hl (by decide) rfl (fun ls hl => ?_)
        refine lv_iinc (v := nI (k + 1)) (lv' := [(3, .int (nI (k + 1))), (2, .int 0), (0, .ref (Y 10 0)), (1, .int (nI a))]) hx hb dX6_isOut_66 hl (k := 3) rfl (nI_1 _) (by decide) rfl (fun ls hl => ?_)
        refine lv_goto (tgt := 4) hx hb dX6_isOut_69 (by decide) ?_
        have hl : lv_has ls 4 [(3, .int (nI (k + 1))), (2, .int (wk_b (f_any (fun k => decide (z_oA σ k = a) && f_meets σ k (z_now σ) (z_now σ + 1)) (k + 1)))), (0, .ref (Y 10 0)), (1, .int (nI a))] := by rw [show wk_b (f_any (fun k => decide (z_oA σ k = a) && f_meets σ k (z_now σ) (z_now σ + 1)) (k + 1)) = 0 from (wk_or3 e_13 (by simp [e_25]))]; exact hl
        exact ih_4 (k + 1) (by omega) (by omega) ls (lv_sub hl [2, 3, 1, 0] rfl)
      have e_25 : (z_oA σ k) = a := wk_cnef (by omega) (by omega) c_25
      refine lv_aload_n hx hb dX6_isOut_28 rfl (lv_at hl 0 rfl) ?_
      refine wk_get (own := RX6) (C := RX6) (T := TX6) (N := 26) (ci := 7) (v := .int (z_now σ)) hx hb hts i_X6 hown hK hA.obj rfl 1 (by decide) (hts _ (List.mem_of_getElem? (i := 3) rfl)) (fun _ h9 => h9) rfl dX6_isOut_29 ?_
      refine lv_aload_n hx hb dX6_isOut_32 rfl (lv_at hl 0 rfl) ?_
      refine wk_get (own := RX6) (C := RX6) (T := TX6) (N := 26) (ci := 7) (v := .ref (Y 11 4)) hx hb hts i_X6 hown hK hA.obj rfl 9 (by decide) (hts _ (List.mem_of_getElem? (i := 2) rfl)) (fun _ h9 => h9) rfl dX6_isOut_33 ?_
      refine lv_iconst (v := 3) hx hb dX6_isOut_36 (by decide) ?_
      refine lv_iload_n hx hb dX6_isOut_37 rfl (lv_at hl 3 rfl) ?_
      refine lv_imul hx hb dX6_isOut_38 ?_
      refine wk_eqi (show 3 * (nI k) = nI (3 * k) from pk_mul 3 k) ?_
      refine lv_iconst (v := 1) hx hb dX6_isOut_39 (by decide) ?_
      refine lv_iadd hx hb dX6_isOut_40 ?_
      refine wk_eqi (show (nI (3 * k)) + 1 = nI ((3 * k) + 1) from nI_add (3 * k) 1) ?_
      refine wk_iald (n := 18) (f := fun j => z_outs σ j) hx hb hK hA.a4 ((3 * k) + 1) rfl (by omega) (by decide) dX6_isOut_41 ?_
      refine wk_eqi (z_outs1 σ k) ?_
      refine lv_aload_n hx hb dX6_isOut_42 rfl (lv_at hl 0 rfl) ?_
      refine wk_get (own := RX6) (C := RX6) (T := TX6) (N := 26) (ci := 7) (v := .ref (Y 11 4)) hx hb hts i_X6 hown hK hA.obj rfl 9 (by decide) (hts _ (List.mem_of_getElem? (i := 2) rfl)) (fun _ h9 => h9) rfl dX6_isOut_43 ?_
      refine lv_iconst (v := 3) hx hb dX6_isOut_46 (by decide) ?_
      refine lv_iload_n hx hb dX6_isOut_47 rfl (lv_at hl 3 rfl) ?_
      refine lv_imul hx hb dX6_isOut_48 ?_
      refine wk_eqi (show 3 * (nI k) = nI (3 * k) from pk_mul 3 k) ?_
      refine lv_iconst (v := 2) hx hb dX6_isOut_49 (by decide) ?_
      refine lv_iadd hx hb dX6_isOut_50 ?_
      refine wk_eqi (show (nI (3 * k)) + 2 = nI ((3 * k) + 2) from nI_add (3 * k) 2) ?_
      refine wk_iald (n := 18) (f := fun j => z_outs σ j) hx hb hK hA.a4 ((3 * k) + 2) rfl (by omega) (by decide) dX6_isOut_51 ?_
      refine wk_eqi (z_outs2 σ k) ?_
      refine lv_iconst (v := 1) hx hb dX6_isOut_52 (by decide) ?_
      refine lv_isub hx hb dX6_isOut_53 ?_
      refine wk_S (As := [.int (z_now σ), .int (z_of σ k), .int ((z_ot σ k) - 1)]) (rest := []) ⟨hx, hb, hml, hown, hts⟩ (c_X6_isIn l E (x := z_now σ) (y := z_of σ k) (z := (z_ot σ k) - 1)) (va_cwS 3 hts gX6_isOut_X6_isIn rfl rfl rfl (by decide +kernel) ⟨(Nat.le_of_ble_eq_true rfl), (Nat.le_of_ble_eq_true rfl)⟩) hK rfl hl.1 rfl (Nat.le_of_ble_eq_true rfl) dX6_isOut_54 ⟨Nat.zero_le _, Nat.zero_le _⟩ ?_
      refine lv_if_eq (tgt := 64) hx hb dX6_isOut_57 (by decide) (fun c_57 => ?_) (fun c_57 => ?_)
      · skip
        have e_57 : (v_in (z_now σ) (z_of σ k) ((z_ot σ k) - 1)) = false := wk_b0 c_57
        refine lv_iconst (v := 0) hx hb dX6_isOut_64 (by decide) ?_
        refine lv_istore_n (lv' := [(2, .int 0), (0, .ref (Y 10 0)), (1, .int (nI a)), (3, .int (nI k))]) hx hb dX6_isOut_65 rfl hl (by decide) rfl (fun ls hl => ?_)
        refine lv_iinc (v := nI (k + 1)) (lv' := [(3, .int (nI (k + 1))), (2, .int 0), (0, .ref (Y 10 0)), (1, .int (nI a))]) hx hb dX6_isOut_66 hl (k := 3) rfl (nI_1 _) (by decide) rfl (fun ls hl => ?_)
        refine lv_goto (tgt := 4) hx hb dX6_isOut_69 (by decide) ?_
        have hl : lv_has ls 4 [(3, .int (nI (k + 1))), (2, .int (wk_b (f_any (fun k => decide (z_oA σ k = a) && f_meets σ k (z_now σ) (z_now σ + 1)) (k + 1)))), (0, .ref (Y 10 0)), (1, .int (nI a))] := by rw [show wk_b (f_any (fun k => decide (z_oA σ k = a) && f_meets σ k (z_now σ) (z_now σ + 1)) (k + 1)) = 0 from (wk_or3 e_13 (by dsimp only; rw [f_meets_now hI e_9, decide_eq_true e_25]; exact e_57))]; exact hl
        exact ih_4 (k + 1) (by omega) (by omega) ls (lv_sub hl [2, 3, 1, 0] rfl)
      have e_57 : (v_in (z_now σ) (z_of σ k) ((z_ot σ k) - 1)) = true := wk_b1 c_57
      refine lv_iconst (v := 1) hx hb dX6_isOut_60 (by decide) ?_
      refine lv_goto (tgt := 65) hx hb dX6_isOut_61 (by decide) ?_
      refine lv_istore_n (lv' := [(2, .int 1), (0, .ref (Y 10 0)), (1, .int (nI a)), (3, .int (nI k))]) hx hb dX6_isOut_65 rfl hl (by decide) rfl (fun ls hl => ?_)
      refine lv_iinc (v := nI (k + 1)) (lv' := [(3, .int (nI (k + 1))), (2, .int 1), (0, .ref (Y 10 0)), (1, .int (nI a))]) hx hb dX6_isOut_66 hl (k := 3) rfl (nI_1 _) (by decide) rfl (fun ls hl => ?_)
      refine lv_goto (tgt := 4) hx hb dX6_isOut_69 (by decide) ?_
      have hl : lv_has ls 4 [(3, .int (nI (k + 1))), (2, .int (wk_b (f_any (fun k => decide (z_oA σ k = a) && f_meets σ k (z_now σ) (z_now σ + 1)) (k + 1)))), (0, .ref (Y 10 0)), (1, .int (nI a))] := by rw [show wk_b (f_any (fun k => decide (z_oA σ k = a) && f_meets σ k (z_now σ) (z_now σ + 1)) (k + 1)) = 1 from (wk_or2 (by dsimp only; rw [f_meets_now hI e_9, decide_eq_true e_25]; exact e_57))]; exact hl
      exact ih_4 (k + 1) (by omega) (by omega) ls (lv_sub hl [2, 3, 1, 0] rfl)
  exact L_4 _ 0 (Nat.lt_succ_self _) (Nat.zero_le _) ls (lv_sub hl [2, 3, 1, 0] rfl)

abbrev rmX6_isHeard : Room := { frames := 2, cells := 0, slots := 0, locals := 45 }
set_option maxHeartbeats 4000000 in
set_option maxRecDepth 100000 in
theorem c_X6_isHeard (l : Launch) (E : wk_E) {T : Nat → Nat × Nat} {Y : Nat → Nat → Nat} {σ : z_S} {th : Int32} {gt : Int64} {H : Heap} (hA : MA E T Y σ th gt H) (hI : z_Ok σ) {i : Nat} (hi : i < z_n σ 2) : wk_Met l yX6_isHeard wsX6_isHeard rmX6_isHeard E H [.ref (Y 10 0), .int (nI i)] (some (.int (wk_b (f_heard σ i)))) := by
  refine Met.ofW (cc := cX6_isHeard) (maxL := 2) (ret := (some .boolean)) (by decide) rfl ?_
  intro p e s m args below meth c s₁ B hml hv
  obtain ⟨rfl, hH, hK⟩ := hv
  subst hH
  have hx := B.exec
  have hb := B.bytes
  have hr := B.returns
  have hts := atoms_spec (ws := wsX6_isHeard) B.pre
  have hown : s.vm.findClass RX6 = some m.cls := findClass_of_methodNamed B.named
  have hlocks := B.notSynchronized
  have i_X6 : ∀ w ∈ u_ws RX6 TX6 26, w ∈ wsX6_isHeard := fun w h => (List.mem_cons_of_mem _ (List.mem_append_right _ h))
  have hl := lv_entry [.ref (Y 10 0), .int (nI i)] (n := 2) (Nat.le_of_ble_eq_true rfl)
  rw [lg_entry_eq]
  generalize (lg_sl [.ref (Y 10 0), .int (nI i)] ++ List.replicate (2 - (lg_sl [.ref (Y 10 0), .int (nI i)]).length) Slot.unset).toArray = ls at hl ⊢
  have hl : lv_has ls 2 [(0, .ref (Y 10 0)), (1, .int (nI i))] := hl
  have b0 := hI.n0
  have b1 := hI.n1
  have b2 := hI.n2
  have b3 := hI.n3
  refine lv_aload_n hx hb dX6_isHeard_0 rfl (lv_at hl 0 rfl) ?_
  refine wk_get (own := RX6) (C := RX6) (T := TX6) (N := 26) (ci := 7) (v := .int (nI (z_mk σ))) hx hb hts i_X6 hown hK hA.obj rfl 24 (by decide) (hts _ (List.mem_of_getElem? (i := 1) rfl)) (fun _ h9 => h9) rfl dX6_isHeard_1 ?_
  refine lv_iload_n hx hb dX6_isHeard_4 rfl (lv_at hl 1 rfl) ?_
  refine wk_S (As := [.int (nI (z_mk σ)), .int (nI i)]) (rest := []) ⟨hx, hb, hml, hown, hts⟩ (c_X6_has l E (mm := z_mk σ) (k := i) (z_mklt hI) (by omega)) (va_cwS 2 hts gX6_isHeard_X6_has rfl rfl rfl (by decide +kernel) ⟨(Nat.le_of_ble_eq_true rfl), (Nat.le_of_ble_eq_true rfl)⟩) hK rfl hl.1 rfl (Nat.le_of_ble_eq_true rfl) dX6_isHeard_5 ⟨Nat.zero_le _, Nat.zero_le _⟩ ?_
  refine lv_if_eq (tgt := 40) hx hb dX6_isHeard_8 (by decide) (fun c_8 => ?_) (fun c_8 => ?_)
  · skip
    have e_8 : (z_tk σ i) = false := wk_b0 c_8
    refine lv_iconst (v := 0) hx hb dX6_isHeard_40 (by decide) ?_
    exact W.zret hx hb hr rfl (fun t ht _ => wk_ret (congrArg Value.int (by simp [f_heard, wk_b, e_8])) ht) wk_nil dX6_isHeard_41
  have e_8 : (z_tk σ i) = true := wk_b1 c_8
  refine lv_aload_n hx hb dX6_isHeard_11 rfl (lv_at hl 0 rfl) ?_
  refine wk_get (own := RX6) (C := RX6) (T := TX6) (N := 26) (ci := 7) (v := .int (z_now σ)) hx hb hts i_X6 hown hK hA.obj rfl 1 (by decide) (hts _ (List.mem_of_getElem? (i := 2) rfl)) (fun _ h9 => h9) rfl dX6_isHeard_12 ?_
  refine lv_aload_n hx hb dX6_isHeard_15 rfl (lv_at hl 0 rfl) ?_
  refine wk_get (own := RX6) (C := RX6) (T := TX6) (N := 26) (ci := 7) (v := .ref (Y 11 15)) hx hb hts i_X6 hown hK hA.obj rfl 22 (by decide) (hts _ (List.mem_of_getElem? (i := 3) rfl)) (fun _ h9 => h9) rfl dX6_isHeard_16 ?_
  refine lv_iload_n hx hb dX6_isHeard_19 rfl (lv_at hl 1 rfl) ?_
  refine wk_iald (n := 16) (f := fun j => z_pe σ j) hx hb hK hA.a15 i rfl (by have := hi; omega) (by decide) dX6_isHeard_20 ?_
  refine lv_icmp_ge (tgt := 40) hx hb dX6_isHeard_21 (by decide) (fun c_21 => ?_) (fun c_21 => ?_)
  · skip
    have d_21 := Int32.not_lt.mpr c_21
    refine lv_iconst (v := 0) hx hb dX6_isHeard_40 (by decide) ?_
    exact W.zret hx hb hr rfl (fun t ht _ => wk_ret (congrArg Value.int (by simp [f_heard, wk_b, e_8, c_21, d_21])) ht) wk_nil dX6_isHeard_41
  have d_21 := Int32.not_le.mp c_21
  refine lv_aload_n hx hb dX6_isHeard_24 rfl (lv_at hl 0 rfl) ?_
  refine wk_get (own := RX6) (C := RX6) (T := TX6) (N := 26) (ci := 7) (v := .int (z_now σ)) hx hb hts i_X6 hown hK hA.obj rfl 1 (by decide) (hts _ (List.mem_of_getElem? (i := 2) rfl)) (fun _ h9 => h9) rfl dX6_isHeard_25 ?_
  refine lv_aload_n hx hb dX6_isHeard_28 rfl (lv_at hl 0 rfl) ?_
  refine lv_iload_n hx hb dX6_isHeard_29 rfl (lv_at hl 1 rfl) ?_
  refine wk_V (As := [.int (nI i)]) (rest := [.int (z_now σ)]) ⟨hx, hb, hml, hown, hts⟩ (c_X6_startOf l E hA hI hi) (cwV 1 hts gX6_isHeard_X6_startOf rfl rfl rfl (by decide +kernel) ⟨(Nat.le_of_ble_eq_true rfl), (Nat.le_of_ble_eq_true rfl)⟩) (wk_recv hK hA.obj rfl) hK rfl hl.1 rfl (Nat.le_of_ble_eq_true rfl) dX6_isHeard_30 ⟨Nat.zero_le _, Nat.zero_le _⟩ ?_
  refine lv_icmp_lt (tgt := 40) hx hb dX6_isHeard_33 (by decide) (fun c_33 => ?_) (fun c_33 => ?_)
  · skip
    have d_33 := Int32.not_le.mpr c_33
    refine lv_iconst (v := 0) hx hb dX6_isHeard_40 (by decide) ?_
    exact W.zret hx hb hr rfl (fun t ht _ => wk_ret (congrArg Value.int (by simp [f_heard, wk_b, e_8, c_21, d_21, c_33, d_33])) ht) wk_nil dX6_isHeard_41
  have d_33 := Int32.not_lt.mp c_33
  refine lv_iconst (v := 1) hx hb dX6_isHeard_36 (by decide) ?_
  refine lv_goto (tgt := 41) hx hb dX6_isHeard_37 (by decide) ?_
  exact W.zret hx hb hr rfl (fun t ht _ => wk_ret (congrArg Value.int (by have q9 := Int32.le_trans (f_start_ge σ i) d_33; simp [f_heard, wk_b, e_8, c_21, d_21, c_33, d_33, q9])) ht) wk_nil dX6_isHeard_41
