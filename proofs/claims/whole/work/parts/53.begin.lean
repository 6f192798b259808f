set_option maxHeartbeats 8000000 in
set_option maxRecDepth 100000 in
theorem whole_start {p : Program} {e : Env} {s : State} {m : MethodId} {below : List Frame} {meth : Method} {c : Code} (l : Launch) (hflags : l.flags = flags0) {b L : Nat} {xs : Nat → Int32} (hL : L ≤ 2560) (C0 : lw_At p s m meth c b L xs) : W p l e room_1 s m #[Value.ref b] below meth c s.heap [] 0 0 (lw_Z below #[Value.ref b] s) (entryFrame m ([Value.ref b] : List Value).toArray 9) := by
  obtain ⟨E, C1⟩ := wl_entry hL hflags C0
  obtain ⟨⟨hx, hb, hr, hml, hown, hlocks⟩, hts, ⟨hX, hbl, hL2⟩, ⟨hV, hNC, hE⟩, hst⟩ := id C1
  have hK := hV.k
  have hA9 : ∀ q : Nat, s.heap.size ≤ q → wk_A E q := fun q h => by unfold wk_A; omega
  have hS : va_S (wk_A E) s.heap s.heap [] := va_S.rf
  have hl := lv_entry [.ref b] (n := 9) (Nat.le_of_ble_eq_true rfl)
  rw [lg_entry_eq]
  generalize (lg_sl [.ref b] ++ List.replicate (9 - (lg_sl [.ref b]).length) Slot.unset).toArray = ls at hl ⊢
  have hl : lv_has ls 9 [(0, .ref b)] := hl
  refine wk_newv (own := RL) (C := RX5) (T := TX5) (N := 7) (ci := 6) (fs := [.null, .null, .null, .null, .null, .int 0, .int 0]) hx hb hts inlX5 tyX5 tyX5_ok hown (hts _ (wl_m1 _ (List.mem_of_getElem? (i := 0) rfl))) (hts _ (wl_m1 _ (List.mem_of_getElem? (i := 1) rfl))) (hts _ (wl_m1 _ (List.mem_of_getElem? (i := 2) rfl))) hK hS rfl (fun j hj => by rcases (show j = 0 ∨ j = 1 ∨ j = 2 ∨ j = 3 ∨ j = 4 ∨ j = 5 ∨ j = 6 by omega) with rfl | rfl | rfl | rfl | rfl | rfl | rfl <;> rfl) (Nat.le_of_ble_eq_true rfl) (Nat.le_of_ble_eq_true rfl) dL_law_0 (fun o H ho9 hN9 hz9 hk9 hS => ?_)
  have hO := hN9
  have hob : E.2.2.1 ≤ o := by rw [ho9, hE]; exact Nat.le_refl _
  have hVH : EV E s H := hV.heap hS.1 (fun q hq => hS.2.1 q (by omega) (by unfold wk_A; omega))
  refine lv_dup hx hb dL_law_3 rfl ?_
  refine we_I (As := []) (rest := [.ref o]) ⟨hx, hb, hml, hown, hts⟩ (e_X5_init l E hO hob) (cwI 0 hts gL_law_X5_init rfl rfl rfl (hts _ (wl_m1 _ (List.mem_of_getElem? (i := 2) rfl))) (hts _ (wl_m1 _ (List.mem_of_getElem? (i := 7) rfl))) (hts _ (wl_m1 _ (List.mem_of_getElem? (i := 8) rfl))) rfl (by decide +kernel) ⟨(Nat.le_of_ble_eq_true rfl), (Nat.le_of_ble_eq_true rfl)⟩) hVH hS (fun q h => by rw [h]; exact hob) hA9 rfl hl.1 rfl (Nat.le_of_ble_eq_true rfl) dL_law_4 ⟨(Nat.le_of_ble_eq_true rfl), (Nat.le_of_ble_eq_true rfl)⟩ (fun v9 H locs hR9 hz9 hk9 hS => ?_)
  obtain ⟨rfl, l0, l1, l2, l3, sc, a1, a2, hlt, hO, ⟨g0, g1, g2, g3⟩, gs, ga1, ga2⟩ := hR9
  have hVH : EV E s H := hV.heap hS.1 (fun q hq => hS.2.1 q (by omega) (by unfold wk_A; omega))
  refine wk_eqls (st' := [.ref o]) rfl ?_
  have hA := DA.start (E := E) hob ⟨hlt.2.1, hlt.2.2.1, hlt.2.2.2.1, hlt.2.2.2.2.1, hlt.2.2.2.2.2.1, hlt.2.2.2.2.2.2.1, hlt.2.2.2.2.2.2.2⟩ hO g0 g1 g2 g3 gs ga1 ga2
  obtain ⟨T1, hT1⟩ : ∃ T1, T1 = z_T0 o l0 l1 l2 l3 sc a1 a2 := ⟨_, rfl⟩
  obtain ⟨X1, hX1⟩ : ∃ X1, X1 = z_X0 E o l0 l1 l2 l3 sc a1 a2 := ⟨_, rfl⟩
  rw [← hT1, ← hX1] at hA
  have hx0 : X1.1 0 0 = o := by rw [hX1]; rfl
  have hsz : E.2.2.1 ≤ H.size := by have := hS.1; omega
  obtain ⟨Hb, hHb⟩ : ∃ Hb : Heap, Hb = H := ⟨H, rfl⟩
  have hAb : DA E T1 X1 z_0 Hb := by rw [hHb]; exact hA
  have hszb : E.2.2.1 ≤ Hb.size := by rw [hHb]; exact hsz
  refine lv_astore_n (lv' := [(1, .ref o), (0, .ref b)]) hx hb dL_law_7 rfl hl (by decide) rfl (fun ls hl => ?_)
  refine wk_newv (own := RL) (C := RX6) (T := TX6) (N := 26) (ci := 7) (fs := [.int 0, .int 0, .int 0, .int 0, .null, .null, .null, .null, .int 0, .null, .int 0, .null, .null, .null, .null, .null, .null, .null, .int 0, .null, .null, .null, .null, .null, .int 0, .long 0]) hx hb hts inlX6 tyX6 tyX6_ok hown (hts _ (wl_m1 _ (List.mem_of_getElem? (i := 3) rfl))) (hts _ (wl_m1 _ (List.mem_of_getElem? (i := 4) rfl))) (hts _ (wl_m1 _ (List.mem_of_getElem? (i := 5) rfl))) hK hS rfl (fun j hj => by rcases (show j = 0 ∨ j = 1 ∨ j = 2 ∨ j = 3 ∨ j = 4 ∨ j = 5 ∨ j = 6 ∨ j = 7 ∨ j = 8 ∨ j = 9 ∨ j = 10 ∨ j = 11 ∨ j = 12 ∨ j = 13 ∨ j = 14 ∨ j = 15 ∨ j = 16 ∨ j = 17 ∨ j = 18 ∨ j = 19 ∨ j = 20 ∨ j = 21 ∨ j = 22 ∨ j = 23 ∨ j = 24 ∨ j = 25 by omega) with rfl | rfl | rfl | rfl | rfl | rfl | rfl | rfl | rfl | rfl | rfl | rfl | rfl | rfl | rfl | rfl | rfl | rfl | rfl | rfl | rfl | rfl | rfl | rfl | rfl | rfl <;> rfl) (Nat.le_of_ble_eq_true rfl) (Nat.le_of_ble_eq_true rfl) dL_law_8 (fun o2 H ho9 hN9 hz9 hk9 hS => ?_)
  have hO2 := hN9
  have ho2 : o2 = Hb.size := by rw [ho9, hHb]
  have hob2 : E.2.2.1 ≤ o2 := by rw [ho2]; exact hszb
  have hM1 : ∀ q : Nat, q < Hb.size → H[q]? = Hb[q]? := fun q hq => by rw [hHb] at hq ⊢; exact hk9 q hq
  have hz1 : Hb.size + 1 = H.size := by rw [hz9, hHb]
  have hVH : EV E s H := hV.heap hS.1 (fun q hq => hS.2.1 q (by omega) (by unfold wk_A; omega))
  refine lv_dup hx hb dL_law_11 rfl ?_
  refine we_I (As := []) (rest := [.ref o2]) ⟨hx, hb, hml, hown, hts⟩ (e_X6_init l E hO2 hob2) (cwI 0 hts gL_law_X6_init rfl rfl rfl (hts _ (wl_m1 _ (List.mem_of_getElem? (i := 5) rfl))) (hts _ (wl_m2 _ (List.mem_of_getElem? (i := 23) rfl))) (hts _ (wl_m3 _ (List.mem_of_getElem? (i := 0) rfl))) rfl (by decide +kernel) ⟨(Nat.le_of_ble_eq_true rfl), (Nat.le_of_ble_eq_true rfl)⟩) hVH hS (fun q h => by rw [h]; exact hob2) hA9 rfl hl.1 rfl (Nat.le_of_ble_eq_true rfl) dL_law_12 ⟨(Nat.le_of_ble_eq_true rfl), (Nat.le_of_ble_eq_true rfl)⟩ (fun v9 H locs hR9 hz9 hk9 hS => ?_)
  obtain ⟨rfl, y0, y1, y2, y3, y4, y5, y6, y7, y8, y9, y10, y11, y12, y13, y14, y15, y16, hch, hO2, h0, h1, h2, h3, h4, h5, h6, h7, h8, h9, h10, h11, h12, h13, h14, h15, h16⟩ := hR9
  refine wk_eqls (st' := [.ref o2]) rfl ?_
  have hM2 : ∀ q : Nat, q < Hb.size → H[q]? = Hb[q]? := fun q hq => (hk9 q (by omega) (by omega)).trans (hM1 q hq)
  have hz2 : Hb.size ≤ H.size := by omega
  obtain ⟨hM, tlow⟩ := MA.start (E := E) (T := T1) hAb.2.1 hob2 ⟨hch.2.1, hch.2.2.1, hch.2.2.2.1, hch.2.2.2.2.1, hch.2.2.2.2.2.1, hch.2.2.2.2.2.2.1, hch.2.2.2.2.2.2.2.1, hch.2.2.2.2.2.2.2.2.1, hch.2.2.2.2.2.2.2.2.2.1, hch.2.2.2.2.2.2.2.2.2.2.1, hch.2.2.2.2.2.2.2.2.2.2.2.1, hch.2.2.2.2.2.2.2.2.2.2.2.2.1, hch.2.2.2.2.2.2.2.2.2.2.2.2.2.1, hch.2.2.2.2.2.2.2.2.2.2.2.2.2.2.1, hch.2.2.2.2.2.2.2.2.2.2.2.2.2.2.2.1, hch.2.2.2.2.2.2.2.2.2.2.2.2.2.2.2.2.1, hch.2.2.2.2.2.2.2.2.2.2.2.2.2.2.2.2.2⟩ hO2 h0 h1 h2 h3 h4 h5 h6 h7 h8 h9 h10 h11 h12 h13 h14 h15 h16
  obtain ⟨T2, hT2⟩ : ∃ T2, T2 = z_TM T1 o2 y0 y1 y2 y3 y4 y5 y6 y7 y8 y9 y10 y11 y12 y13 y14 y15 y16 := ⟨_, rfl⟩
  obtain ⟨Y2, hY2⟩ : ∃ Y2, Y2 = z_YM o2 y0 y1 y2 y3 y4 y5 y6 y7 y8 y9 y10 y11 y12 y13 y14 y15 y16 := ⟨_, rfl⟩
  have hy0 : Y2 10 0 = o2 := by rw [hY2]; rfl
  rw [← hT2] at hM tlow
  rw [← hY2] at hM
  have hA : DA E T2 X1 z_0 H := (hAb.retag hszb (fun q hq => tlow q (by rw [ho2]; exact hq))).kept (fun q hq _ => hM2 q hq)
  have hsz : E.2.2.1 ≤ H.size := by omega
  refine lv_astore_n (lv' := [(2, .ref o2), (1, .ref o), (0, .ref b)]) hx hb dL_law_15 rfl hl (by decide) rfl (fun ls hl => ?_)
  refine lv_iconst (v := 1) hx hb dL_law_16 (by decide) ?_
  refine wk_newlv hx hb (hts _ (wl_m1 _ (List.mem_of_getElem? (i := 6) rfl))) hK hS 1 rfl (by omega) (Nat.le_of_ble_eq_true rfl) (Nat.le_of_ble_eq_true rfl) dL_law_17 (fun oo H ho9 hN9 hz9 hk9 hS => ?_)
  obtain ⟨T3, hT3⟩ : ∃ T3 : Nat → Nat × Nat, T3 = fun q => if q = oo then (20, 0) else T2 q := ⟨_, rfl⟩
  have hoT : T3 oo = (20, 0) := by rw [hT3]; exact if_pos rfl
  have hlow : ∀ q, q < oo → T3 q = T2 q := fun q hq => by rw [hT3]; exact if_neg (Nat.ne_of_lt hq)
  have hA := (hA.retag hsz (fun q hq => hlow q (by rw [ho9]; exact hq))).kept (fun q hq _ => hk9 q hq)
  have hM := (hM.retag hsz (fun q hq => hlow q (by rw [ho9]; exact hq))).kept (fun q hq _ => hk9 q hq)
  have hoo : E.2.2.1 ≤ oo := by rw [ho9]; exact hsz
  refine lv_astore_n (lv' := [(3, .ref oo), (2, .ref o2), (1, .ref o), (0, .ref b)]) hx hb dL_law_19 rfl hl (by decide) rfl (fun ls hl => ?_)
  refine lv_iconst (v := 0) hx hb dL_law_20 (by decide) ?_
  refine lv_istore (lv' := [(4, .int 0), (3, .ref oo), (2, .ref o2), (1, .ref o), (0, .ref b)]) hx hb dL_law_21 hl (by decide) rfl (fun ls hl => ?_)
  have hl : lv_has ls 9 [(4, .int (nI 0)), (3, .ref oo), (2, .ref (Y2 10 0)), (1, .ref o), (0, .ref b)] := by rw [hy0]; exact hl
  exact w_loop C1 (L + 11) 0 T3 X1 z_0 0 H _ _ _ (by omega) (Nat.zero_le _) ⟨hA, ⟨_, hM⟩, z_Iv0, hoT, hoo, _, hN9⟩ hx0 hS (Nat.le_of_ble_eq_true rfl) (Nat.le_of_ble_eq_true rfl) ls (lv_sub hl [4, 3, 2, 1, 0] rfl)
