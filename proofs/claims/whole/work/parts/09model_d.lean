abbrev rmX6_known : Room := { frames := 1, cells := 0, slots := 0, locals := 21 }
set_option maxHeartbeats 4000000 in
set_option maxRecDepth 100000 in
theorem c_X6_known (l : Launch) (E : wk_E) {T : Nat → Nat × Nat} {Y : Nat → Nat → Nat} {σ : z_S} {th : Int32} {gt : Int64} {H : Heap} (hA : MA E T Y σ th gt H) (hI : z_Ok σ) {k w : Nat} (hk : k < z_n σ 1) (hw : w ≤ 3) (hS : z_Sm σ) : wk_Met l yX6_known wsX6_known rmX6_known E H [.ref (Y 10 0), .int (nI k), .int (nI w)] (some (.int (f_sat σ k w))) := by
  refine Met.ofW (cc := cX6_known) (maxL := 3) (ret := (some .int)) (by decide) rfl ?_
  intro p e s m args below meth c s₁ B hml hv
  obtain ⟨rfl, hH, hK⟩ := hv
  subst hH
  have hx := B.exec
  have hb := B.bytes
  have hr := B.returns
  have hts := atoms_spec (ws := wsX6_known) B.pre
  have hown : s.vm.findClass RX6 = some m.cls := findClass_of_methodNamed B.named
  have hlocks := B.notSynchronized
  have i_X6 : ∀ w ∈ u_ws RX6 TX6 26, w ∈ wsX6_known := fun w h => (List.mem_cons_of_mem _ (List.mem_append_right _ h))
  have hl := lv_entry [.ref (Y 10 0), .int (nI k), .int (nI w)] (n := 3) (Nat.le_of_ble_eq_true rfl)
  rw [lg_entry_eq]
  generalize (lg_sl [.ref (Y 10 0), .int (nI k), .int (nI w)] ++ List.replicate (3 - (lg_sl [.ref (Y 10 0), .int (nI k), .int (nI w)]).length) Slot.unset).toArray = ls at hl ⊢
  have hl : lv_has ls 3 [(0, .ref (Y 10 0)), (1, .int (nI k)), (2, .int (nI w))] := hl
  have b0 := hI.n0
  have b1 := hI.n1
  have b2 := hI.n2
  have b3 := hI.n3
  rcases (show w = 0 ∨ w = 1 ∨ w = 2 ∨ w = 3 by omega) with rfl | rfl | rfl | rfl
  · skip
    refine lv_iload_n hx hb dX6_known_0 rfl (lv_at hl 2 rfl) ?_
    refine lv_if_ne (tgt := 13) hx hb dX6_known_1 (by decide) (fun c_1 => ?_) (fun c_1 => ?_)
    · skip
      exact absurd c_1 (by decide)
    refine lv_aload_n hx hb dX6_known_4 rfl (lv_at hl 0 rfl) ?_
    refine wk_get (own := RX6) (C := RX6) (T := TX6) (N := 26) (ci := 7) (v := .ref (Y 11 9)) hx hb hts i_X6 hown hK hA.obj rfl 15 (by decide) (hts _ (List.mem_of_getElem? (i := 1) rfl)) (fun _ h9 => h9) rfl dX6_known_5 ?_
    refine lv_iload_n hx hb dX6_known_8 rfl (lv_at hl 1 rfl) ?_
    refine wk_iald (n := 8) (f := fun j => z_su σ j) hx hb hK hA.a9 k rfl (by have := hk; omega) (by decide) dX6_known_9 ?_
    refine lv_goto (tgt := 46) hx hb dX6_known_10 (by decide) ?_
    exact W.iret hx hb hr (fun t ht _ => wk_ret (congrArg Value.int rfl) ht) wk_nil dX6_known_46
  · skip
    refine lv_iload_n hx hb dX6_known_0 rfl (lv_at hl 2 rfl) ?_
    refine lv_if_ne (tgt := 13) hx hb dX6_known_1 (by decide) (fun c_1 => ?_) (fun c_1 => ?_)
    · skip
      refine lv_iload_n hx hb dX6_known_13 rfl (lv_at hl 2 rfl) ?_
      refine lv_iconst (v := 1) hx hb dX6_known_14 (by decide) ?_
      refine lv_icmp_ne (tgt := 27) hx hb dX6_known_15 (by decide) (fun c_15 => ?_) (fun c_15 => ?_)
      · skip
        exact absurd c_15 (by decide)
      refine lv_aload_n hx hb dX6_known_18 rfl (lv_at hl 0 rfl) ?_
      refine wk_get (own := RX6) (C := RX6) (T := TX6) (N := 26) (ci := 7) (v := .ref (Y 11 10)) hx hb hts i_X6 hown hK hA.obj rfl 16 (by decide) (hts _ (List.mem_of_getElem? (i := 2) rfl)) (fun _ h9 => h9) rfl dX6_known_19 ?_
      refine lv_iload_n hx hb dX6_known_22 rfl (lv_at hl 1 rfl) ?_
      refine wk_iald (n := 8) (f := fun j => z_sl σ j) hx hb hK hA.a10 k rfl (by have := hk; omega) (by decide) dX6_known_23 ?_
      refine lv_goto (tgt := 46) hx hb dX6_known_24 (by decide) ?_
      exact W.iret hx hb hr (fun t ht _ => wk_ret (congrArg Value.int rfl) ht) wk_nil dX6_known_46
    exact absurd c_1 (by decide)
  · skip
    refine lv_iload_n hx hb dX6_known_0 rfl (lv_at hl 2 rfl) ?_
    refine lv_if_ne (tgt := 13) hx hb dX6_known_1 (by decide) (fun c_1 => ?_) (fun c_1 => ?_)
    · skip
      refine lv_iload_n hx hb dX6_known_13 rfl (lv_at hl 2 rfl) ?_
      refine lv_iconst (v := 1) hx hb dX6_known_14 (by decide) ?_
      refine lv_icmp_ne (tgt := 27) hx hb dX6_known_15 (by decide) (fun c_15 => ?_) (fun c_15 => ?_)
      · skip
        refine lv_iload_n hx hb dX6_known_27 rfl (lv_at hl 2 rfl) ?_
        refine lv_iconst (v := 2) hx hb dX6_known_28 (by decide) ?_
        refine lv_icmp_ne (tgt := 41) hx hb dX6_known_29 (by decide) (fun c_29 => ?_) (fun c_29 => ?_)
        · skip
          exact absurd c_29 (by decide)
        refine lv_aload_n hx hb dX6_known_32 rfl (lv_at hl 0 rfl) ?_
        refine wk_get (own := RX6) (C := RX6) (T := TX6) (N := 26) (ci := 7) (v := .ref (Y 11 11)) hx hb hts i_X6 hown hK hA.obj rfl 17 (by decide) (hts _ (List.mem_of_getElem? (i := 3) rfl)) (fun _ h9 => h9) rfl dX6_known_33 ?_
        refine lv_iload_n hx hb dX6_known_36 rfl (lv_at hl 1 rfl) ?_
        refine wk_iald (n := 8) (f := fun j => z_sd σ j) hx hb hK hA.a11 k rfl (by have := hk; omega) (by decide) dX6_known_37 ?_
        refine lv_goto (tgt := 46) hx hb dX6_known_38 (by decide) ?_
        exact W.iret hx hb hr (fun t ht _ => wk_ret (congrArg Value.int rfl) ht) wk_nil dX6_known_46
      exact absurd c_15 (by decide)
    exact absurd c_1 (by decide)
  · skip
    refine lv_iload_n hx hb dX6_known_0 rfl (lv_at hl 2 rfl) ?_
    refine lv_if_ne (tgt := 13) hx hb dX6_known_1 (by decide) (fun c_1 => ?_) (fun c_1 => ?_)
    · skip
      refine lv_iload_n hx hb dX6_known_13 rfl (lv_at hl 2 rfl) ?_
      refine lv_iconst (v := 1) hx hb dX6_known_14 (by decide) ?_
      refine lv_icmp_ne (tgt := 27) hx hb dX6_known_15 (by decide) (fun c_15 => ?_) (fun c_15 => ?_)
      · skip
        refine lv_iload_n hx hb dX6_known_27 rfl (lv_at hl 2 rfl) ?_
        refine lv_iconst (v := 2) hx hb dX6_known_28 (by decide) ?_
        refine lv_icmp_ne (tgt := 41) hx hb dX6_known_29 (by decide) (fun c_29 => ?_) (fun c_29 => ?_)
        · skip
          refine lv_aload_n hx hb dX6_known_41 rfl (lv_at hl 0 rfl) ?_
          refine lv_iload_n hx hb dX6_known_42 rfl (lv_at hl 1 rfl) ?_
          refine wk_V (As := [.int (nI k)]) (rest := []) ⟨hx, hb, hml, hown, hts⟩ (c_X6_fullBehind l E hA hI hk hS) (cwV 1 hts gX6_known_X6_fullBehind rfl rfl rfl (by decide +kernel) ⟨(Nat.le_of_ble_eq_true rfl), (Nat.le_of_ble_eq_true rfl)⟩) (wk_recv hK hA.obj rfl) hK rfl hl.1 rfl (Nat.le_of_ble_eq_true rfl) dX6_known_43 ⟨Nat.zero_le _, Nat.zero_le _⟩ ?_
          exact W.iret hx hb hr (fun t ht _ => wk_ret (congrArg Value.int rfl) ht) wk_nil dX6_known_46
        exact absurd c_29 (by decide)
      exact absurd c_15 (by decide)
    exact absurd c_1 (by decide)

abbrev rmX6_seen : Room := { frames := 4, cells := 0, slots := 0, locals := 88 }
set_option maxHeartbeats 4000000 in
set_option maxRecDepth 100000 in
theorem c_X6_seen (l : Launch) (E : wk_E) {T : Nat → Nat × Nat} {Y : Nat → Nat → Nat} {σ : z_S} {th : Int32} {gt : Int64} {H : Heap} (hA : MA E T Y σ th gt H) (hI : z_Ok σ) {a w : Nat} (ha : a < z_n σ 0) (hw : w ≤ 3) : wk_Met l yX6_seen wsX6_seen rmX6_seen E H [.ref (Y 10 0), .int (nI a), .int (nI w)] (some (.int (f_ant σ a w))) := by
  refine Met.ofW (cc := cX6_seen) (maxL := 3) (ret := (some .int)) (by decide) rfl ?_
  intro p e s m args below meth c s₁ B hml hv
  obtain ⟨rfl, hH, hK⟩ := hv
  subst hH
  have hx := B.exec
  have hb := B.bytes
  have hr := B.returns
  have hts := atoms_spec (ws := wsX6_seen) B.pre
  have hown : s.vm.findClass RX6 = some m.cls := findClass_of_methodNamed B.named
  have hlocks := B.notSynchronized
  have i_X6 : ∀ w ∈ u_ws RX6 TX6 26, w ∈ wsX6_seen := fun w h => (List.mem_cons_of_mem _ (List.mem_append_right _ h))
  have hl := lv_entry [.ref (Y 10 0), .int (nI a), .int (nI w)] (n := 3) (Nat.le_of_ble_eq_true rfl)
  rw [lg_entry_eq]
  generalize (lg_sl [.ref (Y 10 0), .int (nI a), .int (nI w)] ++ List.replicate (3 - (lg_sl [.ref (Y 10 0), .int (nI a), .int (nI w)]).length) Slot.unset).toArray = ls at hl ⊢
  have hl : lv_has ls 3 [(0, .ref (Y 10 0)), (1, .int (nI a)), (2, .int (nI w))] := hl
  have b0 := hI.n0
  have b1 := hI.n1
  have b2 := hI.n2
  have b3 := hI.n3
  rcases (show w = 0 ∨ w = 1 ∨ w = 2 ∨ w = 3 by omega) with rfl | rfl | rfl | rfl
  · skip
    refine lv_iload_n hx hb dX6_seen_0 rfl (lv_at hl 2 rfl) ?_
    refine lv_if_ne (tgt := 12) hx hb dX6_seen_1 (by decide) (fun c_1 => ?_) (fun c_1 => ?_)
    · skip
      exact absurd c_1 (by decide)
    refine lv_aload_n hx hb dX6_seen_4 rfl (lv_at hl 0 rfl) ?_
    refine lv_iload_n hx hb dX6_seen_5 rfl (lv_at hl 1 rfl) ?_
    refine wk_V (As := [.int (nI a)]) (rest := []) ⟨hx, hb, hml, hown, hts⟩ (c_X6_heardBy l E hA hI ha) (cwV 1 hts gX6_seen_X6_heardBy rfl rfl rfl (by decide +kernel) ⟨(Nat.le_of_ble_eq_true rfl), (Nat.le_of_ble_eq_true rfl)⟩) (wk_recv hK hA.obj rfl) hK rfl hl.1 rfl (Nat.le_of_ble_eq_true rfl) dX6_seen_6 ⟨Nat.zero_le _, Nat.zero_le _⟩ ?_
    refine lv_goto (tgt := 52) hx hb dX6_seen_9 (by decide) ?_
    exact W.iret hx hb hr (fun t ht _ => wk_ret (congrArg Value.int rfl) ht) wk_nil dX6_seen_52
  · skip
    refine lv_iload_n hx hb dX6_seen_0 rfl (lv_at hl 2 rfl) ?_
    refine lv_if_ne (tgt := 12) hx hb dX6_seen_1 (by decide) (fun c_1 => ?_) (fun c_1 => ?_)
    · skip
      refine lv_iload_n hx hb dX6_seen_12 rfl (lv_at hl 2 rfl) ?_
      refine lv_iconst (v := 1) hx hb dX6_seen_13 (by decide) ?_
      refine lv_icmp_ne (tgt := 25) hx hb dX6_seen_14 (by decide) (fun c_14 => ?_) (fun c_14 => ?_)
      · skip
        exact absurd c_14 (by decide)
      refine lv_aload_n hx hb dX6_seen_17 rfl (lv_at hl 0 rfl) ?_
      refine lv_iload_n hx hb dX6_seen_18 rfl (lv_at hl 1 rfl) ?_
      refine wk_V (As := [.int (nI a)]) (rest := []) ⟨hx, hb, hml, hown, hts⟩ (c_X6_nextOver l E hA hI ha) (cwV 1 hts gX6_seen_X6_nextOver rfl rfl rfl (by decide +kernel) ⟨(Nat.le_of_ble_eq_true rfl), (Nat.le_of_ble_eq_true rfl)⟩) (wk_recv hK hA.obj rfl) hK rfl hl.1 rfl (Nat.le_of_ble_eq_true rfl) dX6_seen_19 ⟨Nat.zero_le _, Nat.zero_le _⟩ ?_
      refine lv_goto (tgt := 52) hx hb dX6_seen_22 (by decide) ?_
      exact W.iret hx hb hr (fun t ht _ => wk_ret (congrArg Value.int rfl) ht) wk_nil dX6_seen_52
    exact absurd c_1 (by decide)
  · skip
    refine lv_iload_n hx hb dX6_seen_0 rfl (lv_at hl 2 rfl) ?_
    refine lv_if_ne (tgt := 12) hx hb dX6_seen_1 (by decide) (fun c_1 => ?_) (fun c_1 => ?_)
    · skip
      refine lv_iload_n hx hb dX6_seen_12 rfl (lv_at hl 2 rfl) ?_
      refine lv_iconst (v := 1) hx hb dX6_seen_13 (by decide) ?_
      refine lv_icmp_ne (tgt := 25) hx hb dX6_seen_14 (by decide) (fun c_14 => ?_) (fun c_14 => ?_)
      · skip
        refine lv_iload_n hx hb dX6_seen_25 rfl (lv_at hl 2 rfl) ?_
        refine lv_iconst (v := 2) hx hb dX6_seen_26 (by decide) ?_
        refine lv_icmp_ne (tgt := 46) hx hb dX6_seen_27 (by decide) (fun c_27 => ?_) (fun c_27 => ?_)
        · skip
          exact absurd c_27 (by decide)
        refine lv_aload_n hx hb dX6_seen_30 rfl (lv_at hl 0 rfl) ?_
        refine lv_iload_n hx hb dX6_seen_31 rfl (lv_at hl 1 rfl) ?_
        refine wk_V (As := [.int (nI a)]) (rest := []) ⟨hx, hb, hml, hown, hts⟩ (c_X6_isOut l E hA hI ha) (cwV 1 hts gX6_seen_X6_isOut rfl rfl rfl (by decide +kernel) ⟨(Nat.le_of_ble_eq_true rfl), (Nat.le_of_ble_eq_true rfl)⟩) (wk_recv hK hA.obj rfl) hK rfl hl.1 rfl (Nat.le_of_ble_eq_true rfl) dX6_seen_32 ⟨Nat.zero_le _, Nat.zero_le _⟩ ?_
        refine lv_if_eq (tgt := 42) hx hb dX6_seen_35 (by decide) (fun c_35 => ?_) (fun c_35 => ?_)
        · skip
          have e_35 : (f_out σ a (z_now σ) (z_now σ + 1)) = false := wk_b0 c_35
          refine lv_iconst (v := 0) hx hb dX6_seen_42 (by decide) ?_
          refine lv_goto (tgt := 52) hx hb dX6_seen_43 (by decide) ?_
          exact W.iret hx hb hr (fun t ht _ => wk_ret (congrArg Value.int (by simp [f_ant, wk_b, e_35])) ht) wk_nil dX6_seen_52
        have e_35 : (f_out σ a (z_now σ) (z_now σ + 1)) = true := wk_b1 c_35
        refine lv_iconst (v := 1) hx hb dX6_seen_38 (by decide) ?_
        refine lv_goto (tgt := 52) hx hb dX6_seen_39 (by decide) ?_
        exact W.iret hx hb hr (fun t ht _ => wk_ret (congrArg Value.int (by simp [f_ant, wk_b, e_35])) ht) wk_nil dX6_seen_52
      exact absurd c_14 (by decide)
    exact absurd c_1 (by decide)
  · skip
    refine lv_iload_n hx hb dX6_seen_0 rfl (lv_at hl 2 rfl) ?_
    refine lv_if_ne (tgt := 12) hx hb dX6_seen_1 (by decide) (fun c_1 => ?_) (fun c_1 => ?_)
    · skip
      refine lv_iload_n hx hb dX6_seen_12 rfl (lv_at hl 2 rfl) ?_
      refine lv_iconst (v := 1) hx hb dX6_seen_13 (by decide) ?_
      refine lv_icmp_ne (tgt := 25) hx hb dX6_seen_14 (by decide) (fun c_14 => ?_) (fun c_14 => ?_)
      · skip
        refine lv_iload_n hx hb dX6_seen_25 rfl (lv_at hl 2 rfl) ?_
        refine lv_iconst (v := 2) hx hb dX6_seen_26 (by decide) ?_
        refine lv_icmp_ne (tgt := 46) hx hb dX6_seen_27 (by decide) (fun c_27 => ?_) (fun c_27 => ?_)
        · skip
          refine lv_aload_n hx hb dX6_seen_46 rfl (lv_at hl 0 rfl) ?_
          refine wk_get (own := RX6) (C := RX6) (T := TX6) (N := 26) (ci := 7) (v := .ref (Y 11 3)) hx hb hts i_X6 hown hK hA.obj rfl 7 (by decide) (hts _ (List.mem_of_getElem? (i := 1) rfl)) (fun _ h9 => h9) rfl dX6_seen_47 ?_
          refine lv_iload_n hx hb dX6_seen_50 rfl (lv_at hl 1 rfl) ?_
          refine wk_iald (n := 5) (f := fun j => z_ad σ j) hx hb hK hA.a3 a rfl (by have := ha; omega) (by decide) dX6_seen_51 ?_
          exact W.iret hx hb hr (fun t ht _ => wk_ret (congrArg Value.int rfl) ht) wk_nil dX6_seen_52
        exact absurd c_27 (by decide)
      exact absurd c_14 (by decide)
    exact absurd c_1 (by decide)
