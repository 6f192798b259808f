set_option maxHeartbeats 8000000 in
set_option maxRecDepth 100000 in
theorem whole_start {p : Program} {e : Env} {s : State} {m : MethodId} {below : List Frame} {meth : Method} {c : Code} (l : Launch) (hflags : l.flags = flags0) {b L : Nat} {xs : Nat → Int32} (hL : L ≤ 260) (C0 : lw_At p s m meth c b L xs) : W p l e room_1 s m #[Value.ref b] below meth c s.heap [] 0 0 (lw_Z below #[Value.ref b] s) (entryFrame m ([Value.ref b] : List Value).toArray 14) := by
  obtain ⟨E, C1⟩ := wl_entry hL hflags C0
  obtain ⟨⟨hx, hb, hr, hml, hown, hlocks⟩, hts, ⟨hX, hbl, hL2⟩, ⟨hV, hE⟩, hst⟩ := id C1
  have hK := hV.k
  have hbA : ¬ wk_A E b := by unfold wk_A; omega
  have hA9 : ∀ q : Nat, s.heap.size ≤ q → wk_A E q := fun q h => by unfold wk_A; omega
  have hS : va_S (wk_A E) s.heap s.heap [] := va_S.rf
  have hl := lv_entry [.ref b] (n := 14) (Nat.le_of_ble_eq_true rfl)
  rw [lg_entry_eq]
  generalize (lg_sl [.ref b] ++ List.replicate (14 - (lg_sl [.ref b]).length) Slot.unset).toArray = ls at hl ⊢
  have hl : lv_has ls 14 [(0, .ref b)] := hl
  refine wk_newv (own := RL) (C := RX5) (T := TX5) (N := 7) (ci := 6) (fs := [.null, .null, .null, .null, .null, .int 0, .int 0]) hx hb hts inlX5 tyX5 tyX5_ok hown (hts _ (wl_m1 _ (List.mem_of_getElem? (i := 0) rfl))) (hts _ (wl_m1 _ (List.mem_of_getElem? (i := 1) rfl))) (hts _ (wl_m1 _ (List.mem_of_getElem? (i := 2) rfl))) hK hS rfl (fun j hj => by rcases (show j = 0 ∨ j = 1 ∨ j = 2 ∨ j = 3 ∨ j = 4 ∨ j = 5 ∨ j = 6 by omega) with rfl | rfl | rfl | rfl | rfl | rfl | rfl <;> rfl) (Nat.le_of_ble_eq_true rfl) (Nat.le_of_ble_eq_true rfl) dL_law_0 (fun o H ho9 hN9 hz9 hk9 hS => ?_)
  have hO := hN9
  have hob : E.2.2.1 ≤ o := by rw [ho9, hE]; exact Nat.le_refl _
  have hVH : EV E s H := hV.heap hS.1 (fun q hq => hS.2.1 q (by omega) (by unfold wk_A; omega))
  refine lv_dup hx hb dL_law_3 rfl ?_
  refine we_I (As := []) (rest := [.ref o]) ⟨hx, hb, hml, hown, hts⟩ (e_X5_init l E hO hob) (cwI 0 hts gL_law_X5_init rfl rfl rfl (hts _ (wl_m1 _ (List.mem_of_getElem? (i := 2) rfl))) (hts _ (wl_m1 _ (List.mem_of_getElem? (i := 4) rfl))) (hts _ (wl_m1 _ (List.mem_of_getElem? (i := 5) rfl))) rfl (by decide +kernel) ⟨(Nat.le_of_ble_eq_true rfl), (Nat.le_of_ble_eq_true rfl)⟩) hVH hS (fun q h => by rw [h]; exact hob) hA9 rfl hl.1 rfl (Nat.le_of_ble_eq_true rfl) dL_law_4 ⟨(Nat.le_of_ble_eq_true rfl), (Nat.le_of_ble_eq_true rfl)⟩ (fun v9 H locs hR9 hz9 hk9 hS => ?_)
  obtain ⟨rfl, l0, l1, l2, l3, sc, a1, a2, hlt, hO, ⟨g0, g1, g2, g3⟩, gs, ga1, ga2⟩ := hR9
  have hVH : EV E s H := hV.heap hS.1 (fun q hq => hS.2.1 q (by omega) (by unfold wk_A; omega))
  refine wk_eqls (st' := [.ref o]) rfl ?_
  have hA := DA.start (E := E) hob ⟨hlt.2.1, hlt.2.2.1, hlt.2.2.2.1, hlt.2.2.2.2.1, hlt.2.2.2.2.2.1, hlt.2.2.2.2.2.2.1, hlt.2.2.2.2.2.2.2⟩ hO g0 g1 g2 g3 gs ga1 ga2
  obtain ⟨T1, hT1⟩ : ∃ T1, T1 = z_T0 o l0 l1 l2 l3 sc a1 a2 := ⟨_, rfl⟩
  obtain ⟨X1, hX1⟩ : ∃ X1, X1 = z_X0 E o l0 l1 l2 l3 sc a1 a2 := ⟨_, rfl⟩
  rw [← hT1, ← hX1] at hA
  have hx0 : X1.1 0 0 = o := by rw [hX1]; rfl
  have hsz : E.2.2.1 ≤ H.size := by have := hS.1; omega
  refine lv_astore_n (lv' := [(1, .ref o), (0, .ref b)]) hx hb dL_law_7 rfl hl (by decide) rfl (fun ls hl => ?_)
  refine lv_bipush (v := 32) hx hb dL_law_8 (by decide) ?_
  refine wk_newiv hx hb (hts _ (wl_m1 _ (List.mem_of_getElem? (i := 3) rfl))) hK hS 32 rfl (by omega) (Nat.le_of_ble_eq_true rfl) (Nat.le_of_ble_eq_true rfl) dL_law_10 (fun sa H ho9 hN9 hz9 hk9 hS => ?_)
  have hsa := hN9
  have es : E.2.2.1 ≤ sa := by rw [ho9]; exact hsz
  obtain ⟨T2, hT2⟩ : ∃ T9 : Nat → Nat × Nat, T9 = fun q => if q = sa then (20, 1) else T1 q := ⟨_, rfl⟩
  have ts : T2 sa = (20, 1) := by rw [hT2]; exact if_pos rfl
  have hlow : ∀ q, q < sa → T2 q = T1 q := fun q hq => by rw [hT2]; exact if_neg (Nat.ne_of_lt hq)
  have hA := (hA.retag hsz (fun q hq => hlow q (by rw [ho9]; exact hq))).kept (fun q hq _ => hk9 q hq)
  have hsz : E.2.2.1 ≤ H.size := by have := hS.1; omega
  refine lv_astore_n (lv' := [(2, .ref sa), (1, .ref o), (0, .ref b)]) hx hb dL_law_12 rfl hl (by decide) rfl (fun ls hl => ?_)
  refine lv_bipush (v := 80) hx hb dL_law_13 (by decide) ?_
  refine wk_newiv hx hb (hts _ (wl_m1 _ (List.mem_of_getElem? (i := 3) rfl))) hK hS 80 rfl (by omega) (Nat.le_of_ble_eq_true rfl) (Nat.le_of_ble_eq_true rfl) dL_law_15 (fun pa H ho9 hN9 hz9 hk9 hS => ?_)
  have hpa := hN9
  have ep : E.2.2.1 ≤ pa := by rw [ho9]; exact hsz
  obtain ⟨T3, hT3⟩ : ∃ T9 : Nat → Nat × Nat, T9 = fun q => if q = pa then (20, 2) else T2 q := ⟨_, rfl⟩
  have tp : T3 pa = (20, 2) := by rw [hT3]; exact if_pos rfl
  have hlow : ∀ q, q < pa → T3 q = T2 q := fun q hq => by rw [hT3]; exact if_neg (Nat.ne_of_lt hq)
  have hA := (hA.retag hsz (fun q hq => hlow q (by rw [ho9]; exact hq))).kept (fun q hq _ => hk9 q hq)
  have ts : T3 sa = _ := (hlow sa (by rw [ho9]; exact hsa.lt)).trans ts
  have hsa := va_at.kept hsa (hk9 _ hsa.lt)
  have hsz : E.2.2.1 ≤ H.size := by have := hS.1; omega
  refine lv_astore_n (lv' := [(3, .ref pa), (2, .ref sa), (1, .ref o), (0, .ref b)]) hx hb dL_law_17 rfl hl (by decide) rfl (fun ls hl => ?_)
  refine lv_aload_n hx hb dL_law_18 rfl (lv_at hl 2 rfl) ?_
  refine lv_aload_n hx hb dL_law_19 rfl (lv_at hl 3 rfl) ?_
  refine lv_iconst (v := 0) hx hb dL_law_20 (by decide) ?_
  refine lv_bipush (v := 12) hx hb dL_law_21 (by decide) ?_
  refine lv_bipush (v := 15) hx hb dL_law_23 (by decide) ?_
  refine wk_newiv hx hb (hts _ (wl_m1 _ (List.mem_of_getElem? (i := 3) rfl))) hK hS 15 rfl (by omega) (Nat.le_of_ble_eq_true rfl) (Nat.le_of_ble_eq_true rfl) dL_law_25 (fun aa H ho9 hN9 hz9 hk9 hS => ?_)
  have haa := hN9
  have ea : E.2.2.1 ≤ aa := by rw [ho9]; exact hsz
  obtain ⟨T4, hT4⟩ : ∃ T9 : Nat → Nat × Nat, T9 = fun q => if q = aa then (20, 0) else T3 q := ⟨_, rfl⟩
  have ta : T4 aa = (20, 0) := by rw [hT4]; exact if_pos rfl
  have hlow : ∀ q, q < aa → T4 q = T3 q := fun q hq => by rw [hT4]; exact if_neg (Nat.ne_of_lt hq)
  have hA := (hA.retag hsz (fun q hq => hlow q (by rw [ho9]; exact hq))).kept (fun q hq _ => hk9 q hq)
  have ts : T4 sa = _ := (hlow sa (by rw [ho9]; exact hsa.lt)).trans ts
  have hsa := va_at.kept hsa (hk9 _ hsa.lt)
  have tp : T4 pa = _ := (hlow pa (by rw [ho9]; exact hpa.lt)).trans tp
  have hpa := va_at.kept hpa (hk9 _ hpa.lt)
  have hsz : E.2.2.1 ≤ H.size := by have := hS.1; omega
  refine lv_aload_n hx hb dL_law_27 rfl (lv_at hl 1 rfl) ?_
  refine lv_aload_n hx hb dL_law_28 rfl (lv_at hl 0 rfl) ?_
  have hVH : EV E s H := hV.heap hS.1 (fun q hq => hS.2.1 q (by omega) (by unfold wk_A; omega))
  have hXH : va_X b L xs s H := va_X.kept hX (hS.2.1 b hbl hbA)
  refine q_SP (As := [.ref o, .ref b, .int 0, .int 12, .ref aa, .ref sa, .ref pa]) (rest := []) ⟨hx, hb, hml, hown, hts⟩ (e_L_build l E hst hL2 hA hx0 ta ts tp haa hsa hpa ea es ep (by omega)) (fun U hW => q_X.warm hW hXH) (fun U g mk a h => q_X.call g mk a h) (vx_cwSW 7 hts gL_law_L_build rfl rfl rfl (by decide +kernel) ⟨(Nat.le_of_ble_eq_true rfl), (Nat.le_of_ble_eq_true rfl)⟩) hVH hS (q_FA hA.2.1 ea es ep) hA9 rfl hl.1 rfl (Nat.le_of_ble_eq_true rfl) dL_law_29 ⟨(Nat.le_of_ble_eq_true rfl), (Nat.le_of_ble_eq_true rfl)⟩ (fun v9 H locs hR9 hz9 hk9 hS => ?_)
  obtain ⟨ct, T5, X5, σ5, fa5, fs5, fp5, fc5, rfl, ⟨hA, hx0, ⟨ta, ts, tp, tc⟩, ⟨haa, hsa, hpa, hct⟩, hT, hI, hZ, hnow⟩, hL9, hn12, hfc⟩ := hR9
  refine wk_eqls (st' := [.ref ct]) rfl ?_
  refine lv_astore (lv' := [(4, .ref ct), (3, .ref pa), (2, .ref sa), (1, .ref o), (0, .ref b)]) hx hb dL_law_32 hl (by decide) rfl (fun ls hl => ?_)
  refine lv_aload hx hb dL_law_34 (lv_at hl 0 rfl) ?_
  refine lv_ifnonnull (tgt := 41) hx hb dL_law_36 (by decide) ?_
  refine lv_iconst (v := 0) hx hb dL_law_41 (by decide) ?_
  refine lv_istore (lv' := [(5, .int 0), (4, .ref ct), (3, .ref pa), (2, .ref sa), (1, .ref o), (0, .ref b)]) hx hb dL_law_42 hl (by decide) rfl (fun ls hl => ?_)
  have hl : lv_has ls 14 [(5, .int (nI 0)), (4, .ref ct), (3, .ref pa), (2, .ref sa), (1, .ref o), (0, .ref b)] := hl
  refine W.widen (k := 1000) (n := 10000) (Nat.le_of_ble_eq_true rfl) (Nat.le_of_ble_eq_true rfl) ?_
  exact q_time C1 ⟨Nat.le_refl _, Nat.le_refl _⟩ ts tp tc hn12 hfc hA hx0 hsa hpa hct hI hL9 rfl hnow hS ls (lv_sub hl [5, 4, 3, 2, 1, 0] rfl)
