abbrev rmX6_isAntenna : Room := { frames := 1, cells := 0, slots := 0, locals := 22 }
set_option maxHeartbeats 4000000 in
set_option maxRecDepth 100000 in
theorem c_X6_isAntenna (l : Launch) (E : wk_E) {T : Nat → Nat × Nat} {Y : Nat → Nat → Nat} {σ : z_S} {th : Int32} {gt : Int64} {H : Heap} (hA : MA E T Y σ th gt H) (hI : z_Ok σ) {x : Int32} : wk_Met l yX6_isAntenna wsX6_isAntenna rmX6_isAntenna E H [.ref (Y 10 0), .int x] (some (.int (wk_b (v_ix x (z_n σ 0))))) := by
  refine Met.ofW (cc := cX6_isAntenna) (maxL := 2) (ret := (some .boolean)) (by decide) rfl ?_
  intro p e s m args below meth c s₁ B hml hv
  obtain ⟨rfl, hH, hK⟩ := hv
  subst hH
  have hx := B.exec
  have hb := B.bytes
  have hr := B.returns
  have hts := atoms_spec (ws := wsX6_isAntenna) B.pre
  have hown : s.vm.findClass RX6 = some m.cls := findClass_of_methodNamed B.named
  have hlocks := B.notSynchronized
  have i_X6 : ∀ w ∈ u_ws RX6 TX6 26, w ∈ wsX6_isAntenna := fun w h => (List.mem_cons_of_mem _ (List.mem_append_right _ h))
  have hl := lv_entry [.ref (Y 10 0), .int x] (n := 2) (Nat.le_of_ble_eq_true rfl)
  rw [lg_entry_eq]
  generalize (lg_sl [.ref (Y 10 0), .int x] ++ List.replicate (2 - (lg_sl [.ref (Y 10 0), .int x]).length) Slot.unset).toArray = ls at hl ⊢
  have hl : lv_has ls 2 [(0, .ref (Y 10 0)), (1, .int x)] := hl
  have b0 := hI.n0
  have b1 := hI.n1
  have b2 := hI.n2
  have b3 := hI.n3
  refine lv_iload_n hx hb dX6_isAntenna_0 rfl (lv_at hl 1 rfl) ?_
  refine lv_iconst (v := 0) hx hb dX6_isAntenna_1 (by decide) ?_
  refine lv_aload_n hx hb dX6_isAntenna_2 rfl (lv_at hl 0 rfl) ?_
  refine wk_get (own := RX6) (C := RX6) (T := TX6) (N := 26) (ci := 7) (v := .int (nI (z_n σ 0))) hx hb hts i_X6 hown hK hA.obj rfl 3 (by decide) (hts _ (List.mem_of_getElem? (i := 1) rfl)) (fun _ h9 => h9) rfl dX6_isAntenna_3 ?_
  refine lv_iconst (v := 1) hx hb dX6_isAntenna_6 (by decide) ?_
  refine lv_isub hx hb dX6_isAntenna_7 ?_
  refine wk_S (As := [.int x, .int 0, .int ((nI (z_n σ 0)) - 1)]) (rest := []) ⟨hx, hb, hml, hown, hts⟩ (c_X6_isIn l E (x := x) (y := 0) (z := (nI (z_n σ 0)) - 1)) (va_cwS 3 hts gX6_isAntenna_X6_isIn rfl rfl rfl (by decide +kernel) ⟨(Nat.le_of_ble_eq_true rfl), (Nat.le_of_ble_eq_true rfl)⟩) hK rfl hl.1 rfl (Nat.le_of_ble_eq_true rfl) dX6_isAntenna_8 ⟨Nat.zero_le _, Nat.zero_le _⟩ ?_
  exact W.zret hx hb hr (wk_nz _) (fun t ht _ => wk_ret (congrArg Value.int (by rw [v_ix_in (by omega)])) ht) wk_nil dX6_isAntenna_11

abbrev rmX6_isSatellite : Room := { frames := 1, cells := 0, slots := 0, locals := 22 }
set_option maxHeartbeats 4000000 in
set_option maxRecDepth 100000 in
theorem c_X6_isSatellite (l : Launch) (E : wk_E) {T : Nat → Nat × Nat} {Y : Nat → Nat → Nat} {σ : z_S} {th : Int32} {gt : Int64} {H : Heap} (hA : MA E T Y σ th gt H) (hI : z_Ok σ) {x : Int32} : wk_Met l yX6_isSatellite wsX6_isSatellite rmX6_isSatellite E H [.ref (Y 10 0), .int x] (some (.int (wk_b (v_ix x (z_n σ 1))))) := by
  refine Met.ofW (cc := cX6_isSatellite) (maxL := 2) (ret := (some .boolean)) (by decide) rfl ?_
  intro p e s m args below meth c s₁ B hml hv
  obtain ⟨rfl, hH, hK⟩ := hv
  subst hH
  have hx := B.exec
  have hb := B.bytes
  have hr := B.returns
  have hts := atoms_spec (ws := wsX6_isSatellite) B.pre
  have hown : s.vm.findClass RX6 = some m.cls := findClass_of_methodNamed B.named
  have hlocks := B.notSynchronized
  have i_X6 : ∀ w ∈ u_ws RX6 TX6 26, w ∈ wsX6_isSatellite := fun w h => (List.mem_cons_of_mem _ (List.mem_append_right _ h))
  have hl := lv_entry [.ref (Y 10 0), .int x] (n := 2) (Nat.le_of_ble_eq_true rfl)
  rw [lg_entry_eq]
  generalize (lg_sl [.ref (Y 10 0), .int x] ++ List.replicate (2 - (lg_sl [.ref (Y 10 0), .int x]).length) Slot.unset).toArray = ls at hl ⊢
  have hl : lv_has ls 2 [(0, .ref (Y 10 0)), (1, .int x)] := hl
  have b0 := hI.n0
  have b1 := hI.n1
  have b2 := hI.n2
  have b3 := hI.n3
  refine lv_iload_n hx hb dX6_isSatellite_0 rfl (lv_at hl 1 rfl) ?_
  refine lv_iconst (v := 0) hx hb dX6_isSatellite_1 (by decide) ?_
  refine lv_aload_n hx hb dX6_isSatellite_2 rfl (lv_at hl 0 rfl) ?_
  refine wk_get (own := RX6) (C := RX6) (T := TX6) (N := 26) (ci := 7) (v := .int (nI (z_n σ 1))) hx hb hts i_X6 hown hK hA.obj rfl 10 (by decide) (hts _ (List.mem_of_getElem? (i := 1) rfl)) (fun _ h9 => h9) rfl dX6_isSatellite_3 ?_
  refine lv_iconst (v := 1) hx hb dX6_isSatellite_6 (by decide) ?_
  refine lv_isub hx hb dX6_isSatellite_7 ?_
  refine wk_S (As := [.int x, .int 0, .int ((nI (z_n σ 1)) - 1)]) (rest := []) ⟨hx, hb, hml, hown, hts⟩ (c_X6_isIn l E (x := x) (y := 0) (z := (nI (z_n σ 1)) - 1)) (va_cwS 3 hts gX6_isSatellite_X6_isIn rfl rfl rfl (by decide +kernel) ⟨(Nat.le_of_ble_eq_true rfl), (Nat.le_of_ble_eq_true rfl)⟩) hK rfl hl.1 rfl (Nat.le_of_ble_eq_true rfl) dX6_isSatellite_8 ⟨Nat.zero_le _, Nat.zero_le _⟩ ?_
  exact W.zret hx hb hr (wk_nz _) (fun t ht _ => wk_ret (congrArg Value.int (by rw [v_ix_in (by omega)])) ht) wk_nil dX6_isSatellite_11

abbrev rmX6_isPass : Room := { frames := 1, cells := 0, slots := 0, locals := 22 }
set_option maxHeartbeats 4000000 in
set_option maxRecDepth 100000 in
theorem c_X6_isPass (l : Launch) (E : wk_E) {T : Nat → Nat × Nat} {Y : Nat → Nat → Nat} {σ : z_S} {th : Int32} {gt : Int64} {H : Heap} (hA : MA E T Y σ th gt H) (hI : z_Ok σ) {x : Int32} : wk_Met l yX6_isPass wsX6_isPass rmX6_isPass E H [.ref (Y 10 0), .int x] (some (.int (wk_b (v_ix x (z_n σ 2))))) := by
  refine Met.ofW (cc := cX6_isPass) (maxL := 2) (ret := (some .boolean)) (by decide) rfl ?_
  intro p e s m args below meth c s₁ B hml hv
  obtain ⟨rfl, hH, hK⟩ := hv
  subst hH
  have hx := B.exec
  have hb := B.bytes
  have hr := B.returns
  have hts := atoms_spec (ws := wsX6_isPass) B.pre
  have hown : s.vm.findClass RX6 = some m.cls := findClass_of_methodNamed B.named
  have hlocks := B.notSynchronized
  have i_X6 : ∀ w ∈ u_ws RX6 TX6 26, w ∈ wsX6_isPass := fun w h => (List.mem_cons_of_mem _ (List.mem_append_right _ h))
  have hl := lv_entry [.ref (Y 10 0), .int x] (n := 2) (Nat.le_of_ble_eq_true rfl)
  rw [lg_entry_eq]
  generalize (lg_sl [.ref (Y 10 0), .int x] ++ List.replicate (2 - (lg_sl [.ref (Y 10 0), .int x]).length) Slot.unset).toArray = ls at hl ⊢
  have hl : lv_has ls 2 [(0, .ref (Y 10 0)), (1, .int x)] := hl
  have b0 := hI.n0
  have b1 := hI.n1
  have b2 := hI.n2
  have b3 := hI.n3
  refine lv_iload_n hx hb dX6_isPass_0 rfl (lv_at hl 1 rfl) ?_
  refine lv_iconst (v := 0) hx hb dX6_isPass_1 (by decide) ?_
  refine lv_aload_n hx hb dX6_isPass_2 rfl (lv_at hl 0 rfl) ?_
  refine wk_get (own := RX6) (C := RX6) (T := TX6) (N := 26) (ci := 7) (v := .int (nI (z_n σ 2))) hx hb hts i_X6 hown hK hA.obj rfl 18 (by decide) (hts _ (List.mem_of_getElem? (i := 1) rfl)) (fun _ h9 => h9) rfl dX6_isPass_3 ?_
  refine lv_iconst (v := 1) hx hb dX6_isPass_6 (by decide) ?_
  refine lv_isub hx hb dX6_isPass_7 ?_
  refine wk_S (As := [.int x, .int 0, .int ((nI (z_n σ 2)) - 1)]) (rest := []) ⟨hx, hb, hml, hown, hts⟩ (c_X6_isIn l E (x := x) (y := 0) (z := (nI (z_n σ 2)) - 1)) (va_cwS 3 hts gX6_isPass_X6_isIn rfl rfl rfl (by decide +kernel) ⟨(Nat.le_of_ble_eq_true rfl), (Nat.le_of_ble_eq_true rfl)⟩) hK rfl hl.1 rfl (Nat.le_of_ble_eq_true rfl) dX6_isPass_8 ⟨Nat.zero_le _, Nat.zero_le _⟩ ?_
  exact W.zret hx hb hr (wk_nz _) (fun t ht _ => wk_ret (congrArg Value.int (by rw [v_ix_in (by omega)])) ht) wk_nil dX6_isPass_11

abbrev rmX6_arePasses : Room := { frames := 1, cells := 0, slots := 0, locals := 22 }
set_option maxHeartbeats 4000000 in
set_option maxRecDepth 100000 in
theorem c_X6_arePasses (l : Launch) (E : wk_E) {T : Nat → Nat × Nat} {Y : Nat → Nat → Nat} {σ : z_S} {th : Int32} {gt : Int64} {H : Heap} (hA : MA E T Y σ th gt H) (hI : z_Ok σ) {x : Int32} : wk_Met l yX6_arePasses wsX6_arePasses rmX6_arePasses E H [.ref (Y 10 0), .int x] (some (.int (wk_b (v_set x (z_n σ 2))))) := by
  refine Met.ofW (cc := cX6_arePasses) (maxL := 2) (ret := (some .boolean)) (by decide) rfl ?_
  intro p e s m args below meth c s₁ B hml hv
  obtain ⟨rfl, hH, hK⟩ := hv
  subst hH
  have hx := B.exec
  have hb := B.bytes
  have hr := B.returns
  have hts := atoms_spec (ws := wsX6_arePasses) B.pre
  have hown : s.vm.findClass RX6 = some m.cls := findClass_of_methodNamed B.named
  have hlocks := B.notSynchronized
  have i_X6 : ∀ w ∈ u_ws RX6 TX6 26, w ∈ wsX6_arePasses := fun w h => (List.mem_cons_of_mem _ (List.mem_append_right _ h))
  have hl := lv_entry [.ref (Y 10 0), .int x] (n := 2) (Nat.le_of_ble_eq_true rfl)
  rw [lg_entry_eq]
  generalize (lg_sl [.ref (Y 10 0), .int x] ++ List.replicate (2 - (lg_sl [.ref (Y 10 0), .int x]).length) Slot.unset).toArray = ls at hl ⊢
  have hl : lv_has ls 2 [(0, .ref (Y 10 0)), (1, .int x)] := hl
  have b0 := hI.n0
  have b1 := hI.n1
  have b2 := hI.n2
  have b3 := hI.n3
  refine lv_iload_n hx hb dX6_arePasses_0 rfl (lv_at hl 1 rfl) ?_
  refine lv_iconst (v := 0) hx hb dX6_arePasses_1 (by decide) ?_
  refine lv_iconst (v := 1) hx hb dX6_arePasses_2 (by decide) ?_
  refine lv_aload_n hx hb dX6_arePasses_3 rfl (lv_at hl 0 rfl) ?_
  refine wk_get (own := RX6) (C := RX6) (T := TX6) (N := 26) (ci := 7) (v := .int (nI (z_n σ 2))) hx hb hts i_X6 hown hK hA.obj rfl 18 (by decide) (hts _ (List.mem_of_getElem? (i := 1) rfl)) (fun _ h9 => h9) rfl dX6_arePasses_4 ?_
  refine lv_ishl hx hb dX6_arePasses_7 ?_
  refine lv_iconst (v := 1) hx hb dX6_arePasses_8 (by decide) ?_
  refine lv_isub hx hb dX6_arePasses_9 ?_
  refine wk_S (As := [.int x, .int 0, .int ((1 <<< ((nI (z_n σ 2)) &&& 31)) - 1)]) (rest := []) ⟨hx, hb, hml, hown, hts⟩ (c_X6_isIn l E (x := x) (y := 0) (z := (1 <<< ((nI (z_n σ 2)) &&& 31)) - 1)) (va_cwS 3 hts gX6_arePasses_X6_isIn rfl rfl rfl (by decide +kernel) ⟨(Nat.le_of_ble_eq_true rfl), (Nat.le_of_ble_eq_true rfl)⟩) hK rfl hl.1 rfl (Nat.le_of_ble_eq_true rfl) dX6_arePasses_10 ⟨Nat.zero_le _, Nat.zero_le _⟩ ?_
  exact W.zret hx hb hr (wk_nz _) (fun t ht _ => wk_ret (congrArg Value.int (by rw [v_set_in (by omega)])) ht) wk_nil dX6_arePasses_13
