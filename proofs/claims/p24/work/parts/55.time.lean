set_option maxHeartbeats 8000000 in
set_option maxRecDepth 100000 in
theorem q_time {pr : Program} {l : Launch} {e : Env} {s : State} {m : MethodId} {below : List Frame} {meth : Method} {c : Code} {b L : Nat} {xs : Nat → Int32} {E : wk_E} {T : Nat → Nat × Nat} {X : z_X} {σ : z_S} {H : Heap} {locs : List Loc} {cells slots o sa pa ct nc : Nat} {fs fp fc : Nat → Int32} (C0 : q_C pr l s m meth c b L xs E) (hcl : cells ≤ 1000 ∧ slots ≤ 10000) (ts : T sa = (20, 1)) (tp : T pa = (20, 2)) (tc : T ct = (20, 3)) (hnc2 : nc ≤ 12) (hfc : fc 2 = nI nc) (hA : DA E T X σ H) (hx0 : X.1 0 0 = o) (hsa : va_at E.1 vwCl (sa, .inl (E.2.1.1, 32, .inl fs)) H) (hpa : va_at E.1 vwCl (pa, .inl (E.2.1.1, 80, .inl fp)) H) (hct : va_at E.1 vwCl (ct, .inl (E.2.1.1, 3, .inl fc)) H) (hI : z_Ok σ) (hL9 : q_L σ fs fp) (hnc : z_n σ 2 = nc) (hnow : z_now σ = 0) (hS : va_S (wk_A E) s.heap H locs) :
    ∀ ls : Array Slot, lv_has ls 14 [(0, .ref b), (1, .ref o), (2, .ref sa), (3, .ref pa), (4, .ref ct), (5, .int (nI 0))] → W pr l e room_1 s m #[Value.ref b] below meth c H locs cells slots (lw_Z below #[Value.ref b] s) (F0 m 44 ls []) := by
  intro ls hl
  obtain ⟨⟨hx, hb, hr, hml, hown, hlocks⟩, hts, ⟨hX, hbl, hL⟩, ⟨hV, hE⟩, hst⟩ := id C0
  have hK := hV.k
  have hbA : ¬ wk_A E b := by unfold wk_A; omega
  have hA9 : ∀ q : Nat, s.heap.size ≤ q → wk_A E q := fun q h => by unfold wk_A; omega
  have L_44 : ∀ (n_44 : Nat) (time : Nat) (X : z_X) (σ : z_S) (H : Heap) (locs : List Loc), 4 - time < n_44 → (time ≤ 4) → (DA E T X σ H) → (X.1 0 0 = o) → (va_at E.1 vwCl (sa, .inl (E.2.1.1, 32, .inl fs)) H) → (va_at E.1 vwCl (pa, .inl (E.2.1.1, 80, .inl fp)) H) → (va_at E.1 vwCl (ct, .inl (E.2.1.1, 3, .inl fc)) H) → (z_Ok σ) → (q_L σ fs fp) → (z_n σ 2 = nc) → ((z_now σ).toInt ≤ 30 * (time : Int)) → (va_S (wk_A E) s.heap H locs) → ∀ ls : Array Slot, lv_has ls 14 [(0, .ref b), (1, .ref o), (2, .ref sa), (3, .ref pa), (4, .ref ct), (5, .int (nI time))] → W pr l e room_1 s m #[Value.ref b] below meth c H locs cells slots (lw_Z below #[Value.ref b] s) (F0 m 44 ls []) := by
    intro n_44
    induction n_44 with
    | zero => intro time X σ H locs hm; exact absurd hm (Nat.not_lt_zero _)
    | succ n_44 ih_44 =>
      intro time X σ H locs hm_44 hkt hA hx0 hsa hpa hct hI hL9 hnc hnow hS ls hl
      have hVH : EV E s H := hV.heap hS.1 (fun q hq => hS.2.1 q (by omega) (by unfold wk_A; omega))
      refine lv_iload hx hb dL_law_44 (lv_at hl 5 rfl) ?_
      refine lv_iconst (v := 4) hx hb dL_law_46 (by decide) ?_
      refine lv_icmp_ge (tgt := 515) hx hb dL_law_47 (by decide) (fun c_47 => ?_) (fun c_47 => ?_)
      · skip
        have e_47 : 4 ≤ time := wk_cget (by omega) (by omega) c_47
        refine lv_iconst (v := 1) hx hb dL_law_515 (by decide) ?_
        refine va_forget (fun q hq => ?_) ?_
        · have h9 : E.2.2.1 ≤ q.base := hS.2.2 q hq
          omega
        refine W.widen (k := 600104) (n := 7301314) (by omega) (by omega) ?_
        exact lw_ret hx hb hr hlocks dL_law_516
      have e_47 : time < 4 := wk_cgef (by omega) (by omega) c_47
      refine lv_aload_n hx hb dL_law_50 rfl (lv_at hl 1 rfl) ?_
      refine wk_eqls (st' := [.ref (X.1 0 0)]) (by rw [hx0]) ?_
      refine we_V (As := []) (rest := []) ⟨hx, hb, hml, hown, hts⟩ (e_X5_best l E hA hI) (cwV 0 hts gL_law_X5_best rfl rfl rfl (by decide +kernel) ⟨(Nat.le_of_ble_eq_true rfl), (Nat.le_of_ble_eq_true rfl)⟩) (wk_recv hK hA.desk rfl) hVH hS (wl_FDA hA.2.1) hA9 rfl hl.1 rfl (Nat.le_of_ble_eq_true rfl) dL_law_51 ⟨by show _ ≤ 600104; omega, by show _ ≤ 7301314; omega⟩ (fun v9 H locs hR9 hz9 hk9 hS => ?_)
      have hsa := va_at.kept hsa (hk9 _ hsa.lt (q_ff ts))
      have hpa := va_at.kept hpa (hk9 _ hpa.lt (q_ff tp))
      have hct := va_at.kept hct (hk9 _ hct.lt (q_ff tc))
      have hVH : EV E s H := hV.heap hS.1 (fun q hq => hS.2.1 q (by omega) (by unfold wk_A; omega))
      obtain ⟨bb, X, rfl, hbest, hA, hX1⟩ := hR9
      have hx0 : X.1 0 0 = o := by rw [hX1]; exact hx0
      have hbl2 : bb < 2 ^ z_n σ 2 := q_blt hI hbest.1
      have hn16 := hI.n2
      have hbl3 : bb < 2 ^ 16 := Nat.lt_of_lt_of_le hbl2 (Nat.pow_le_pow_right (by decide) hn16)
      have hbl4 : bb < 2 ^ 31 := Nat.lt_of_lt_of_le hbl3 (by decide)
      have hwl : ∀ i, bb.testBit i = true → b_w σ i ≤ 5400 := fun i hi => (f_worthN hI (q_bit_lt hI hbest.1 i hi)).2.2
      have hW := b_W_lim hwl 16
      refine wk_eqls (st' := [.int (nI bb)]) rfl ?_
      refine lv_istore (lv' := [(6, .int (nI bb)), (0, .ref b), (1, .ref o), (2, .ref sa), (3, .ref pa), (4, .ref ct), (5, .int (nI time))]) hx hb dL_law_54 hl (by decide) rfl (fun ls hl => ?_)
      refine lv_aload_n hx hb dL_law_56 rfl (lv_at hl 2 rfl) ?_
      refine lv_iload hx hb dL_law_57 (lv_at hl 0 rfl) ?_
      refine wk_eqls (st' := [.int (nI bb), .ref (X.1 0 0)]) (by rw [hx0]) ?_
      refine wk_V (As := [.int (nI bb)]) (rest := []) ⟨hx, hb, hml, hown, hts⟩ (c_X5_weight l E hA hI (w := bb) hbl2) (cwV 1 hts gL_law_X5_weight rfl rfl rfl (by decide +kernel) ⟨(Nat.le_of_ble_eq_true rfl), (Nat.le_of_ble_eq_true rfl)⟩) (wk_recv hK hA.desk rfl) hK rfl hl.1 rfl (Nat.le_of_ble_eq_true rfl) dL_law_59 ⟨by show _ ≤ 600104; omega, by show _ ≤ 7301314; omega⟩ ?_
      refine wk_eqi (q_weight hI hbest.1) ?_
      refine lv_istore (lv' := [(7, .int (nI (b_W (b_w σ) bb 16))), (6, .int (nI bb)), (0, .ref b), (1, .ref o), (2, .ref sa), (3, .ref pa), (4, .ref ct), (5, .int (nI time))]) hx hb dL_law_62 hl (by decide) rfl (fun ls hl => ?_)
      refine lv_iconst (v := 0) hx hb dL_law_64 (by decide) ?_
      refine lv_istore (lv' := [(8, .int 0), (7, .int (nI (b_W (b_w σ) bb 16))), (6, .int (nI bb)), (0, .ref b), (1, .ref o), (2, .ref sa), (3, .ref pa), (4, .ref ct), (5, .int (nI time))]) hx hb dL_law_65 hl (by decide) rfl (fun ls hl => ?_)
      refine lv_iconst (v := 0) hx hb dL_law_67 (by decide) ?_
      refine lv_istore (lv' := [(9, .int 0), (8, .int 0), (7, .int (nI (b_W (b_w σ) bb 16))), (6, .int (nI bb)), (0, .ref b), (1, .ref o), (2, .ref sa), (3, .ref pa), (4, .ref ct), (5, .int (nI time))]) hx hb dL_law_68 hl (by decide) rfl (fun ls hl => ?_)
      have L_70 : ∀ (n_70 : Nat) (p : Nat), nc - p < n_70 → (p ≤ nc) → ∀ ls : Array Slot, lv_has ls 14 [(0, .ref b), (1, .ref o), (2, .ref sa), (3, .ref pa), (4, .ref ct), (5, .int (nI time)), (6, .int (nI bb)), (7, .int (nI (b_W (b_w σ) bb 16))), (8, .int (nI (b_W (b_w σ) bb p))), (9, .int (nI p))] → W pr l e room_1 s m #[Value.ref b] below meth c H locs cells slots (lw_Z below #[Value.ref b] s) (F0 m 70 ls []) := by
        intro n_70
        induction n_70 with
        | zero => intro p hm; exact absurd hm (Nat.not_lt_zero _)
        | succ n_70 ih_70 =>
          intro p hm_70 hkp ls hl
          refine lv_iload hx hb dL_law_70 (lv_at hl 9 rfl) ?_
          refine lv_aload hx hb dL_law_72 (lv_at hl 4 rfl) ?_
          refine lv_iconst (v := 2) hx hb dL_law_74 (by decide) ?_
          refine wk_iald (n := 3) (f := fc) hx hb hK hct 2 rfl (by omega) (by omega) dL_law_75 ?_
          refine wk_eqls (st' := [.int (nI nc), .int (nI p)]) (by rw [hfc]) ?_
          refine lv_icmp_ge (tgt := 274) hx hb dL_law_76 (by decide) (fun c_76 => ?_) (fun c_76 => ?_)
          · skip
            have e_76 : nc ≤ p := wk_cget (by omega) (by omega) c_76
            have hsum : b_W (b_w σ) bb p = b_W (b_w σ) bb 16 := by rw [show p = z_n σ 2 by omega]; exact (q_W_le (q_bit_lt hI hbest.1) 16 hI.n2).symm
            refine lv_iload hx hb dL_law_274 (lv_at hl 8 rfl) ?_
            refine lv_iload hx hb dL_law_276 (lv_at hl 7 rfl) ?_
            refine wk_eqls (st' := [.int (nI (b_W (b_w σ) bb 16)), .int (nI (b_W (b_w σ) bb 16))]) (by rw [hsum]) ?_
            refine lv_icmp_eq (tgt := 283) hx hb dL_law_278 (by decide) (fun c_278 => ?_) (fun c_278 => ?_)
            · skip
              refine lv_aload_n hx hb dL_law_283 rfl (lv_at hl 1 rfl) ?_
              refine wk_eqls (st' := [.ref (X.1 0 0)]) (by rw [hx0]) ?_
              refine wk_V (As := []) (rest := []) ⟨hx, hb, hml, hown, hts⟩ (c_X5_taken l E hA hI) (cwV 0 hts gL_law_X5_taken rfl rfl rfl (by decide +kernel) ⟨(Nat.le_of_ble_eq_true rfl), (Nat.le_of_ble_eq_true rfl)⟩) (wk_recv hK hA.desk rfl) hK rfl hl.1 rfl (Nat.le_of_ble_eq_true rfl) dL_law_284 ⟨by show _ ≤ 600104; omega, by show _ ≤ 7301314; omega⟩ ?_
              refine lv_istore (lv' := [(9, .int (nI (z_mk σ))), (0, .ref b), (1, .ref o), (2, .ref sa), (3, .ref pa), (4, .ref ct), (5, .int (nI time)), (6, .int (nI bb)), (7, .int (nI (b_W (b_w σ) bb 16))), (8, .int (nI (b_W (b_w σ) bb p)))]) hx hb dL_law_287 hl (by decide) rfl (fun ls hl => ?_)
              refine lv_aload_n hx hb dL_law_289 rfl (lv_at hl 2 rfl) ?_
              refine lv_iload hx hb dL_law_290 (lv_at hl 7 rfl) ?_
              refine wk_eqls (st' := [.int (nI bb), .ref (X.1 0 0)]) (by rw [hx0]) ?_
              refine we_V (As := [.int (nI bb)]) (rest := []) ⟨hx, hb, hml, hown, hts⟩ (e_X5_take l E hA hI (w := bb) hbl2 (q_tog hI hbest.1)) (cwV 1 hts gL_law_X5_take rfl rfl rfl (by decide +kernel) ⟨(Nat.le_of_ble_eq_true rfl), (Nat.le_of_ble_eq_true rfl)⟩) (wk_recv hK hA.desk rfl) hVH hS (wl_FDA hA.2.1) hA9 rfl hl.1 rfl (Nat.le_of_ble_eq_true rfl) dL_law_292 ⟨by show _ ≤ 600104; omega, by show _ ≤ 7301314; omega⟩ (fun v9 H locs hR9 hz9 hk9 hS => ?_)
              have hsa := va_at.kept hsa (hk9 _ hsa.lt (q_ff ts))
              have hpa := va_at.kept hpa (hk9 _ hpa.lt (q_ff tp))
              have hct := va_at.kept hct (hk9 _ hct.lt (q_ff tc))
              have hVH : EV E s H := hV.heap hS.1 (fun q hq => hS.2.1 q (by omega) (by unfold wk_A; omega))
              obtain ⟨rfl, hA⟩ := hR9
              have hI1 := q_takeOk hI hbest.1
              refine wk_eqls (st' := [.int (nI (z_mk σ ||| bb))]) rfl ?_
              refine lv_iload hx hb dL_law_295 (lv_at hl 0 rfl) ?_
              refine lv_iload hx hb dL_law_297 (lv_at hl 7 rfl) ?_
              refine lv_ior hx hb dL_law_299 ?_
              refine wk_eqi (show (nI (z_mk σ)) ||| (nI bb) = nI ((z_mk σ) ||| bb) from fa_or (z_mk σ) bb) ?_
              refine lv_icmp_ne (tgt := 310) hx hb dL_law_300 (by decide) (fun c_300 => ?_) (fun c_300 => ?_)
              · skip
                exact absurd rfl c_300
              refine lv_aload_n hx hb dL_law_303 rfl (lv_at hl 2 rfl) ?_
              refine wk_eqls (st' := [.ref (X.1 0 0)]) (by rw [hx0]) ?_
              refine we_V (As := []) (rest := []) ⟨hx, hb, hml, hown, hts⟩ (e_X5_best l E hA hI1) (cwV 0 hts gL_law_X5_best rfl rfl rfl (by decide +kernel) ⟨(Nat.le_of_ble_eq_true rfl), (Nat.le_of_ble_eq_true rfl)⟩) (wk_recv hK hA.desk rfl) hVH hS (wl_FDA hA.2.1) hA9 rfl hl.1 rfl (Nat.le_of_ble_eq_true rfl) dL_law_304 ⟨by show _ ≤ 600104; omega, by show _ ≤ 7301314; omega⟩ (fun v9 H locs hR9 hz9 hk9 hS => ?_)
              have hsa := va_at.kept hsa (hk9 _ hsa.lt (q_ff ts))
              have hpa := va_at.kept hpa (hk9 _ hpa.lt (q_ff tp))
              have hct := va_at.kept hct (hk9 _ hct.lt (q_ff tc))
              have hVH : EV E s H := hV.heap hS.1 (fun q hq => hS.2.1 q (by omega) (by unfold wk_A; omega))
              obtain ⟨b1, X, rfl, hb1, hA, hX1⟩ := hR9
              have hx0 : X.1 0 0 = o := by rw [hX1]; exact hx0
              rw [q_taken hI hbest] at hb1
              have eb1 := q_none hb1
              subst eb1
              refine wk_eqls (st' := [.int 0]) rfl ?_
              refine lv_if_eq (tgt := 312) hx hb dL_law_307 (by decide) (fun c_307 => ?_) (fun c_307 => ?_)
              · skip
                refine lv_iconst (v := 0) hx hb dL_law_312 (by decide) ?_
                refine lv_istore (lv' := [(10, .int 0), (9, .int (nI (z_mk σ))), (0, .ref b), (1, .ref o), (2, .ref sa), (3, .ref pa), (4, .ref ct), (5, .int (nI time)), (6, .int (nI bb)), (7, .int (nI (b_W (b_w σ) bb 16))), (8, .int (nI (b_W (b_w σ) bb p)))]) hx hb dL_law_313 hl (by decide) rfl (fun ls hl => ?_)
                have L_315 : ∀ (n_315 : Nat) (r : Nat) (X : z_X) (H : Heap) (locs : List Loc), nc - r < n_315 → (r ≤ nc) → (DA E T X (f_take σ bb) H) → (X.1 0 0 = o) → (va_at E.1 vwCl (sa, .inl (E.2.1.1, 32, .inl fs)) H) → (va_at E.1 vwCl (pa, .inl (E.2.1.1, 80, .inl fp)) H) → (va_at E.1 vwCl (ct, .inl (E.2.1.1, 3, .inl fc)) H) → (va_S (wk_A E) s.heap H locs) → ∀ ls : Array Slot, lv_has ls 14 [(0, .ref b), (1, .ref o), (2, .ref sa), (3, .ref pa), (4, .ref ct), (5, .int (nI time)), (6, .int (nI bb)), (9, .int (nI (z_mk σ))), (10, .int (nI r))] → W pr l e room_1 s m #[Value.ref b] below meth c H locs cells slots (lw_Z below #[Value.ref b] s) (F0 m 315 ls []) := by
                  intro n_315
                  induction n_315 with
                  | zero => intro r X H locs hm; exact absurd hm (Nat.not_lt_zero _)
                  | succ n_315 ih_315 =>
                    intro r X H locs hm_315 hkr hA hx0 hsa hpa hct hS ls hl
                    have hVH : EV E s H := hV.heap hS.1 (fun q hq => hS.2.1 q (by omega) (by unfold wk_A; omega))
                    refine lv_iload hx hb dL_law_315 (lv_at hl 8 rfl) ?_
                    refine lv_aload hx hb dL_law_317 (lv_at hl 4 rfl) ?_
                    refine lv_iconst (v := 2) hx hb dL_law_319 (by decide) ?_
                    refine wk_iald (n := 3) (f := fc) hx hb hK hct 2 rfl (by omega) (by omega) dL_law_320 ?_
                    refine wk_eqls (st' := [.int (nI nc), .int (nI r)]) (by rw [hfc]) ?_
                    refine lv_icmp_ge (tgt := 453) hx hb dL_law_321 (by decide) (fun c_321 => ?_) (fun c_321 => ?_)
                    · skip
                      have e_321 : nc ≤ r := wk_cget (by omega) (by omega) c_321
                      refine lv_aload_n hx hb dL_law_453 rfl (lv_at hl 0 rfl) ?_
                      refine lv_bipush (v := 8) hx hb dL_law_454 (by decide) ?_
                      refine lv_iload hx hb dL_law_456 (lv_at hl 5 rfl) ?_
                      refine lv_iadd hx hb dL_law_458 ?_
                      refine wk_eqi (show 8 + (nI time) = nI (8 + time) from nI_add 8 time) ?_
                      refine wk_eqls (st' := [.int (nI (8 + time)), .ref b]) rfl ?_
                      have hX9 : va_X b L xs s H := (va_X.kept hX (hS.2.1 b hbl hbA))
                      refine wk_SX (As := [.ref b, .int (nI (8 + time))]) (rest := []) ⟨hx, hb, hml, hown, hts⟩ (c_L_cell l E hL (k := (8 + time)) (by omega)) (fun U hW => q_X.warm hW hX9) (fun U g mk a h => q_X.call g mk a h) (va_cwS 2 hts gL_law_L_cell rfl rfl rfl (by decide +kernel) ⟨(Nat.le_of_ble_eq_true rfl), (Nat.le_of_ble_eq_true rfl)⟩) hK rfl hl.1 rfl (Nat.le_of_ble_eq_true rfl) dL_law_459 ⟨by show _ ≤ 600104; omega, by show _ ≤ 7301314; omega⟩ ?_
                      refine wk_geni (fun y459 => ?_)
                      refine lv_istore (lv' := [(10, .int y459), (0, .ref b), (1, .ref o), (2, .ref sa), (3, .ref pa), (4, .ref ct), (5, .int (nI time)), (6, .int (nI bb)), (9, .int (nI (z_mk σ)))]) hx hb dL_law_462 hl (by decide) rfl (fun ls hl => ?_)
                      refine lv_aload_n hx hb dL_law_464 rfl (lv_at hl 2 rfl) ?_
                      refine lv_iconst (v := 1) hx hb dL_law_465 (by decide) ?_
                      refine lv_iload hx hb dL_law_466 (lv_at hl 0 rfl) ?_
                      refine lv_bipush (v := 30) hx hb dL_law_468 (by decide) ?_
                      refine wk_eqls (st' := [.int (nI 30), .int y459, .int 1, .ref o]) rfl ?_
                      refine wk_S (As := [.int y459, .int (nI 30)]) (rest := [.int 1, .ref o]) ⟨hx, hb, hml, hown, hts⟩ (c_L_below l E y459 (k := 30) (by omega) (by omega)) (va_cwS 2 hts gL_law_L_below rfl rfl rfl (by decide +kernel) ⟨(Nat.le_of_ble_eq_true rfl), (Nat.le_of_ble_eq_true rfl)⟩) hK rfl hl.1 rfl (Nat.le_of_ble_eq_true rfl) dL_law_470 ⟨by show _ ≤ 600104; omega, by show _ ≤ 7301314; omega⟩ ?_
                      refine wk_genb (q_b_lt y459 (by omega)) (fun j470 hj470 => ?_)
                      refine lv_iadd hx hb dL_law_473 ?_
                      refine wk_eqi (show 1 + (nI j470) = nI (1 + j470) from nI_add 1 j470) ?_
                      have hnow9 : (z_now (f_take σ bb)).toInt ≤ 30 * (time : Int) := hnow
                      have hle : (z_now (f_take σ bb)).toInt + ((1 + j470 : Nat) : Int) ≤ 9999 := by omega
                      refine wk_eqls (st' := [.int (nI (1 + j470)), .ref (X.1 0 0)]) (by rw [hx0]) ?_
                      refine we_V (As := [.int (nI (1 + j470))]) (rest := []) ⟨hx, hb, hml, hown, hts⟩ (e_X5_run l E hA hI1 (mn := 1 + j470) (q_in (lo := 1) (hi := 500) (by omega) (by omega) (by decide)) (by omega) hle) (cwV 1 hts gL_law_X5_run rfl rfl rfl (by decide +kernel) ⟨(Nat.le_of_ble_eq_true rfl), (Nat.le_of_ble_eq_true rfl)⟩) (wk_recv hK hA.desk rfl) hVH hS (wl_FDA hA.2.1) hA9 rfl hl.1 rfl (Nat.le_of_ble_eq_true rfl) dL_law_474 ⟨by show _ ≤ 600104; omega, by show _ ≤ 7301314; omega⟩ (fun v9 H locs hR9 hz9 hk9 hS => ?_)
                      have hsa := va_at.kept hsa (hk9 _ hsa.lt (q_ff ts))
                      have hpa := va_at.kept hpa (hk9 _ hpa.lt (q_ff tp))
                      have hct := va_at.kept hct (hk9 _ hct.lt (q_ff tc))
                      have hVH : EV E s H := hV.heap hS.1 (fun q hq => hS.2.1 q (by omega) (by unfold wk_A; omega))
                      obtain ⟨rfl, hA⟩ := hR9
                      have hI3 := hI1.run hle
                      refine wk_eqls (st' := [.int ((f_run (f_take σ bb) (1 + j470)).2)]) rfl ?_
                      refine lv_pop hx hb dL_law_477 rfl ?_
                      refine lv_iload hx hb dL_law_478 (lv_at hl 0 rfl) ?_
                      refine lv_iconst (v := 5) hx hb dL_law_480 (by decide) ?_
                      refine lv_ishr hx hb dL_law_481 ?_
                      refine lv_bipush (v := 61) hx hb dL_law_482 (by decide) ?_
                      refine wk_eqls (st' := [.int (nI 61), .int (y459 >>> (5 &&& 31))]) rfl ?_
                      refine wk_S (As := [.int (y459 >>> (5 &&& 31)), .int (nI 61)]) (rest := []) ⟨hx, hb, hml, hown, hts⟩ (c_L_below l E (y459 >>> (5 &&& 31)) (k := 61) (by omega) (by omega)) (va_cwS 2 hts gL_law_L_below rfl rfl rfl (by decide +kernel) ⟨(Nat.le_of_ble_eq_true rfl), (Nat.le_of_ble_eq_true rfl)⟩) hK rfl hl.1 rfl (Nat.le_of_ble_eq_true rfl) dL_law_484 ⟨by show _ ≤ 600104; omega, by show _ ≤ 7301314; omega⟩ ?_
                      refine wk_genb (q_b_lt (y459 >>> (5 &&& 31)) (by omega)) (fun j484 hj484 => ?_)
                      refine lv_istore (lv' := [(11, .int (nI j484)), (10, .int y459), (0, .ref b), (1, .ref o), (2, .ref sa), (3, .ref pa), (4, .ref ct), (5, .int (nI time)), (6, .int (nI bb)), (9, .int (nI (z_mk σ)))]) hx hb dL_law_487 hl (by decide) rfl (fun ls hl => ?_)
                      refine lv_aload_n hx hb dL_law_489 rfl (lv_at hl 3 rfl) ?_
                      refine lv_iload hx hb dL_law_490 (lv_at hl 0 rfl) ?_
                      have hj9 : (nI j484).toInt = j484 := nI_toInt (by omega)
                      refine wk_eqls (st' := [.int (nI j484), .ref (X.1 0 0)]) (by rw [hx0]) ?_
                      refine we_V (As := [.int (nI j484)]) (rest := []) ⟨hx, hb, hml, hown, hts⟩ (e_X5_setHandover l E hA hI3 (x := nI j484) (v_in_nI (n := 60) (by omega) rfl)) (cwV 1 hts gL_law_X5_setHandover rfl rfl rfl (by decide +kernel) ⟨(Nat.le_of_ble_eq_true rfl), (Nat.le_of_ble_eq_true rfl)⟩) (wk_recv hK hA.desk rfl) hVH hS (wl_FDA hA.2.1) hA9 rfl hl.1 rfl (Nat.le_of_ble_eq_true rfl) dL_law_492 ⟨by show _ ≤ 600104; omega, by show _ ≤ 7301314; omega⟩ (fun v9 H locs hR9 hz9 hk9 hS => ?_)
                      have hsa := va_at.kept hsa (hk9 _ hsa.lt (q_ff ts))
                      have hpa := va_at.kept hpa (hk9 _ hpa.lt (q_ff tp))
                      have hct := va_at.kept hct (hk9 _ hct.lt (q_ff tc))
                      have hVH : EV E s H := hV.heap hS.1 (fun q hq => hS.2.1 q (by omega) (by unfold wk_A; omega))
                      obtain ⟨rfl, hA⟩ := hR9
                      have hI4 : z_Ok (s1 (f_run (f_take σ bb) (1 + j470)).1 1 0 (nI j484)) := hI3.setHo (by omega) (by omega)
                      refine wk_eqls (st' := [.int (z_ho (f_run (f_take σ bb) (1 + j470)).1)]) rfl ?_
                      refine lv_pop hx hb dL_law_495 rfl ?_
                      refine lv_aload_n hx hb dL_law_496 rfl (lv_at hl 3 rfl) ?_
                      refine lv_iload hx hb dL_law_497 (lv_at hl 0 rfl) ?_
                      refine wk_eqls (st' := [.int (nI j484), .ref (X.1 0 0)]) (by rw [hx0]) ?_
                      refine we_V (As := [.int (nI j484)]) (rest := []) ⟨hx, hb, hml, hown, hts⟩ (e_X5_setHandover l E hA hI4 (x := nI j484) (v_in_nI (n := 60) (by omega) rfl)) (cwV 1 hts gL_law_X5_setHandover rfl rfl rfl (by decide +kernel) ⟨(Nat.le_of_ble_eq_true rfl), (Nat.le_of_ble_eq_true rfl)⟩) (wk_recv hK hA.desk rfl) hVH hS (wl_FDA hA.2.1) hA9 rfl hl.1 rfl (Nat.le_of_ble_eq_true rfl) dL_law_499 ⟨by show _ ≤ 600104; omega, by show _ ≤ 7301314; omega⟩ (fun v9 H locs hR9 hz9 hk9 hS => ?_)
                      have hsa := va_at.kept hsa (hk9 _ hsa.lt (q_ff ts))
                      have hpa := va_at.kept hpa (hk9 _ hpa.lt (q_ff tp))
                      have hct := va_at.kept hct (hk9 _ hct.lt (q_ff tc))
                      have hVH : EV E s H := hV.heap hS.1 (fun q hq => hS.2.1 q (by omega) (by unfold wk_A; omega))
                      obtain ⟨rfl, hA⟩ := hR9
                      have hI5 : z_Ok (s1 (s1 (f_run (f_take σ bb) (1 + j470)).1 1 0 (nI j484)) 1 0 (nI j484)) := hI4.setHo (by omega) (by omega)
                      refine wk_eqls (st' := [.int (nI j484)]) rfl ?_
                      refine lv_iload hx hb dL_law_502 (lv_at hl 0 rfl) ?_
                      refine lv_icmp_eq (tgt := 509) hx hb dL_law_504 (by decide) (fun c_504 => ?_) (fun c_504 => ?_)
                      · skip
                        refine lv_iinc (v := nI (time + 1)) (lv' := [(5, .int (nI (time + 1))), (11, .int (nI j484)), (10, .int y459), (0, .ref b), (1, .ref o), (2, .ref sa), (3, .ref pa), (4, .ref ct), (6, .int (nI bb)), (9, .int (nI (z_mk σ)))]) hx hb dL_law_509 hl (k := 7) rfl (nI_1 _) (by decide) rfl (fun ls hl => ?_)
                        refine lv_goto (tgt := 44) hx hb dL_law_512 (by decide) ?_
                        exact ih_44 (time + 1) X (s1 (s1 (f_run (f_take σ bb) (1 + j470)).1 1 0 (nI j484)) 1 0 (nI j484)) H locs (by omega) (by omega) hA hx0 hsa hpa hct hI5 (q_Lrun hL9 bb (1 + j470) (nI j484)) (by show (f_run (f_take σ bb) (1 + j470)).1.2 0 2 = nc; rw [f_run_2]; exact hnc) (q_nowrun hI.t.1 hnow (by omega) (by omega) (nI j484)) hS ls (lv_sub hl [3, 4, 5, 6, 7, 0] rfl)
                      exact absurd rfl c_504
                    have e_321 : r < nc := wk_cgef (by omega) (by omega) c_321
                    have hr9 : r < z_n σ 2 := by omega
                    have hr1 : r < z_n (f_take σ bb) 2 := hr9
                    have hr2 : r < z_n (f_give (f_take σ bb) r) 2 := hr9
                    refine lv_iload hx hb dL_law_324 (lv_at hl 6 rfl) ?_
                    refine lv_iload hx hb dL_law_326 (lv_at hl 8 rfl) ?_
                    refine lv_ishr hx hb dL_law_328 ?_
                    refine lv_iconst (v := 1) hx hb dL_law_329 (by decide) ?_
                    refine lv_iand hx hb dL_law_330 ?_
                    rcases Bool.eq_false_or_eq_true (bb.testBit r) with hbt | hbt
                    · skip
                      refine wk_eqls (st' := [.int 1]) (by rw [q_shb hbl4 (by omega), hbt]; rfl) ?_
                      refine lv_if_ne (tgt := 337) hx hb dL_law_331 (by decide) (fun c_331 => ?_) (fun c_331 => ?_)
                      · skip
                        refine lv_aload_n hx hb dL_law_337 rfl (lv_at hl 1 rfl) ?_
                        refine lv_iload hx hb dL_law_338 (lv_at hl 8 rfl) ?_
                        refine lv_bipush (v := 7) hx hb dL_law_340 (by decide) ?_
                        refine wk_eqls (st' := [.int 7, .int (nI r), .ref (X.1 0 0)]) (by rw [hx0]) ?_
                        refine wk_V (As := [.int (nI r), .int 7]) (rest := []) ⟨hx, hb, hml, hown, hts⟩ (c_X5_pass l E hA hI1 (i := r) (w := 7) hr1 (by decide)) (cwV 2 hts gL_law_X5_pass rfl rfl rfl (by decide +kernel) ⟨(Nat.le_of_ble_eq_true rfl), (Nat.le_of_ble_eq_true rfl)⟩) (wk_recv hK hA.desk rfl) hK rfl hl.1 rfl (Nat.le_of_ble_eq_true rfl) dL_law_342 ⟨by show _ ≤ 600104; omega, by show _ ≤ 7301314; omega⟩ ?_
                        refine wk_eqi (show f_pass (f_take σ bb) r 7 = f_start (f_take σ bb) r from if_pos (q_tkP hbt)) ?_
                        refine lv_aload_n hx hb dL_law_345 rfl (lv_at hl 1 rfl) ?_
                        refine lv_iload hx hb dL_law_346 (lv_at hl 8 rfl) ?_
                        refine lv_iconst (v := 2) hx hb dL_law_348 (by decide) ?_
                        refine wk_eqls (st' := [.int 2, .int (nI r), .ref (X.1 0 0), .int (f_start (f_take σ bb) r)]) (by rw [hx0]) ?_
                        refine wk_V (As := [.int (nI r), .int 2]) (rest := [.int (f_start (f_take σ bb) r)]) ⟨hx, hb, hml, hown, hts⟩ (c_X5_pass l E hA hI1 (i := r) (w := 2) hr1 (by decide)) (cwV 2 hts gL_law_X5_pass rfl rfl rfl (by decide +kernel) ⟨(Nat.le_of_ble_eq_true rfl), (Nat.le_of_ble_eq_true rfl)⟩) (wk_recv hK hA.desk rfl) hK rfl hl.1 rfl (Nat.le_of_ble_eq_true rfl) dL_law_349 ⟨by show _ ≤ 600104; omega, by show _ ≤ 7301314; omega⟩ ?_
                        refine wk_eqi (show f_pass (f_take σ bb) r 2 = z_pb σ r from rfl) ?_
                        refine lv_icmp_lt (tgt := 373) hx hb dL_law_352 (by decide) (fun c_352 => ?_) (fun c_352 => ?_)
                        · skip
                          have d_352 := Int32.not_le.mpr c_352
                          exact absurd (q_start hI hbest.1 hbt).1 d_352
                        have d_352 := Int32.not_lt.mp c_352
                        refine lv_aload_n hx hb dL_law_355 rfl (lv_at hl 1 rfl) ?_
                        refine lv_iload hx hb dL_law_356 (lv_at hl 8 rfl) ?_
                        refine lv_bipush (v := 7) hx hb dL_law_358 (by decide) ?_
                        refine wk_eqls (st' := [.int 7, .int (nI r), .ref (X.1 0 0)]) (by rw [hx0]) ?_
                        refine wk_V (As := [.int (nI r), .int 7]) (rest := []) ⟨hx, hb, hml, hown, hts⟩ (c_X5_pass l E hA hI1 (i := r) (w := 7) hr1 (by decide)) (cwV 2 hts gL_law_X5_pass rfl rfl rfl (by decide +kernel) ⟨(Nat.le_of_ble_eq_true rfl), (Nat.le_of_ble_eq_true rfl)⟩) (wk_recv hK hA.desk rfl) hK rfl hl.1 rfl (Nat.le_of_ble_eq_true rfl) dL_law_360 ⟨by show _ ≤ 600104; omega, by show _ ≤ 7301314; omega⟩ ?_
                        refine wk_eqi (show f_pass (f_take σ bb) r 7 = f_start (f_take σ bb) r from if_pos (q_tkP hbt)) ?_
                        refine lv_aload_n hx hb dL_law_363 rfl (lv_at hl 1 rfl) ?_
                        refine lv_iload hx hb dL_law_364 (lv_at hl 8 rfl) ?_
                        refine lv_iconst (v := 3) hx hb dL_law_366 (by decide) ?_
                        refine wk_eqls (st' := [.int 3, .int (nI r), .ref (X.1 0 0), .int (f_start (f_take σ bb) r)]) (by rw [hx0]) ?_
                        refine wk_V (As := [.int (nI r), .int 3]) (rest := [.int (f_start (f_take σ bb) r)]) ⟨hx, hb, hml, hown, hts⟩ (c_X5_pass l E hA hI1 (i := r) (w := 3) hr1 (by decide)) (cwV 2 hts gL_law_X5_pass rfl rfl rfl (by decide +kernel) ⟨(Nat.le_of_ble_eq_true rfl), (Nat.le_of_ble_eq_true rfl)⟩) (wk_recv hK hA.desk rfl) hK rfl hl.1 rfl (Nat.le_of_ble_eq_true rfl) dL_law_367 ⟨by show _ ≤ 600104; omega, by show _ ≤ 7301314; omega⟩ ?_
                        refine wk_eqi (show f_pass (f_take σ bb) r 3 = z_pe σ r from rfl) ?_
                        refine lv_icmp_lt (tgt := 375) hx hb dL_law_370 (by decide) (fun c_370 => ?_) (fun c_370 => ?_)
                        · skip
                          have d_370 := Int32.not_le.mpr c_370
                          refine lv_aload_n hx hb dL_law_375 rfl (lv_at hl 1 rfl) ?_
                          refine lv_iload hx hb dL_law_376 (lv_at hl 8 rfl) ?_
                          refine wk_eqls (st' := [.int (nI r), .ref (X.1 0 0)]) (by rw [hx0]) ?_
                          refine we_V (As := [.int (nI r)]) (rest := []) ⟨hx, hb, hml, hown, hts⟩ (e_X5_giveUp l E hA hI1 (i := r) hr1 (q_tkP hbt) ((q_frI hI r).mp (hbest.1.1 r hbt)).2.2.1) (cwV 1 hts gL_law_X5_giveUp rfl rfl rfl (by decide +kernel) ⟨(Nat.le_of_ble_eq_true rfl), (Nat.le_of_ble_eq_true rfl)⟩) (wk_recv hK hA.desk rfl) hVH hS (wl_FDA hA.2.1) hA9 rfl hl.1 rfl (Nat.le_of_ble_eq_true rfl) dL_law_378 ⟨by show _ ≤ 600104; omega, by show _ ≤ 7301314; omega⟩ (fun v9 H locs hR9 hz9 hk9 hS => ?_)
                          have hsa := va_at.kept hsa (hk9 _ hsa.lt (q_ff ts))
                          have hpa := va_at.kept hpa (hk9 _ hpa.lt (q_ff tp))
                          have hct := va_at.kept hct (hk9 _ hct.lt (q_ff tc))
                          have hVH : EV E s H := hV.heap hS.1 (fun q hq => hS.2.1 q (by omega) (by unfold wk_A; omega))
                          obtain ⟨rfl, hA⟩ := hR9
                          have hI2 := q_giveOk hI hbest.1 hbt
                          refine wk_eqls (st' := [.int (nI (z_mk (f_give (f_take σ bb) r)))]) rfl ?_
                          refine lv_iload hx hb dL_law_381 (lv_at hl 7 rfl) ?_
                          refine lv_iload hx hb dL_law_383 (lv_at hl 6 rfl) ?_
                          refine lv_ior hx hb dL_law_385 ?_
                          refine wk_eqi (show (nI (z_mk σ)) ||| (nI bb) = nI ((z_mk σ) ||| bb) from fa_or (z_mk σ) bb) ?_
                          refine lv_iconst (v := 1) hx hb dL_law_386 (by decide) ?_
                          refine lv_iload hx hb dL_law_387 (lv_at hl 8 rfl) ?_
                          refine lv_ishl hx hb dL_law_389 ?_
                          refine lv_iconst (v := (-1)) hx hb dL_law_390 (by decide) ?_
                          refine lv_ixor hx hb dL_law_391 ?_
                          refine lv_iand hx hb dL_law_392 ?_
                          refine wk_eqi (show (nI ((z_mk σ) ||| bb)) &&& ((1 <<< ((nI r) &&& 31)) ^^^ (-1)) = nI (z_mk (f_give (f_take σ bb) r)) from f_giveI hI1 hr1 (q_tkP hbt)) ?_
                          refine lv_icmp_ne (tgt := 405) hx hb dL_law_393 (by decide) (fun c_393 => ?_) (fun c_393 => ?_)
                          · skip
                            exact absurd rfl c_393
                          refine lv_aload_n hx hb dL_law_396 rfl (lv_at hl 1 rfl) ?_
                          refine lv_iload hx hb dL_law_397 (lv_at hl 8 rfl) ?_
                          refine wk_eqls (st' := [.int (nI r), .ref (X.1 0 0)]) (by rw [hx0]) ?_
                          refine wk_V (As := [.int (nI r)]) (rest := []) ⟨hx, hb, hml, hown, hts⟩ (c_X5_canTake l E hA hI2 hr2) (cwV 1 hts gL_law_X5_canTake rfl rfl rfl (by decide +kernel) ⟨(Nat.le_of_ble_eq_true rfl), (Nat.le_of_ble_eq_true rfl)⟩) (wk_recv hK hA.desk rfl) hK rfl hl.1 rfl (Nat.le_of_ble_eq_true rfl) dL_law_399 ⟨by show _ ≤ 600104; omega, by show _ ≤ 7301314; omega⟩ ?_
                          refine wk_eqls (st' := [.int 1]) (by rw [q_free hI2 hr2, q_givefr hI hbest.1 hbt]; rfl) ?_
                          refine lv_if_ne (tgt := 407) hx hb dL_law_402 (by decide) (fun c_402 => ?_) (fun c_402 => ?_)
                          · skip
                            refine lv_aload_n hx hb dL_law_407 rfl (lv_at hl 1 rfl) ?_
                            refine wk_eqls (st' := [.ref (X.1 0 0)]) (by rw [hx0]) ?_
                            refine we_V (As := []) (rest := []) ⟨hx, hb, hml, hown, hts⟩ (e_X5_best l E hA hI2) (cwV 0 hts gL_law_X5_best rfl rfl rfl (by decide +kernel) ⟨(Nat.le_of_ble_eq_true rfl), (Nat.le_of_ble_eq_true rfl)⟩) (wk_recv hK hA.desk rfl) hVH hS (wl_FDA hA.2.1) hA9 rfl hl.1 rfl (Nat.le_of_ble_eq_true rfl) dL_law_408 ⟨by show _ ≤ 600104; omega, by show _ ≤ 7301314; omega⟩ (fun v9 H locs hR9 hz9 hk9 hS => ?_)
                            have hsa := va_at.kept hsa (hk9 _ hsa.lt (q_ff ts))
                            have hpa := va_at.kept hpa (hk9 _ hpa.lt (q_ff tp))
                            have hct := va_at.kept hct (hk9 _ hct.lt (q_ff tc))
                            have hVH : EV E s H := hV.heap hS.1 (fun q hq => hS.2.1 q (by omega) (by unfold wk_A; omega))
                            obtain ⟨b2, X, rfl, hb2, hA, hX1⟩ := hR9
                            have hx0 : X.1 0 0 = o := by rw [hX1]; exact hx0
                            refine wk_eqls (st' := [.int (nI b2)]) rfl ?_
                            refine lv_istore (lv' := [(11, .int (nI b2)), (0, .ref b), (1, .ref o), (2, .ref sa), (3, .ref pa), (4, .ref ct), (5, .int (nI time)), (6, .int (nI bb)), (9, .int (nI (z_mk σ))), (10, .int (nI r))]) hx hb dL_law_411 hl (by decide) rfl (fun ls hl => ?_)
                            refine lv_aload_n hx hb dL_law_413 rfl (lv_at hl 2 rfl) ?_
                            refine lv_iload hx hb dL_law_414 (lv_at hl 0 rfl) ?_
                            refine wk_eqls (st' := [.int (nI b2), .ref (X.1 0 0)]) (by rw [hx0]) ?_
                            refine wk_V (As := [.int (nI b2)]) (rest := []) ⟨hx, hb, hml, hown, hts⟩ (c_X5_weight l E hA hI2 (w := b2) (q_blt hI2 hb2.1)) (cwV 1 hts gL_law_X5_weight rfl rfl rfl (by decide +kernel) ⟨(Nat.le_of_ble_eq_true rfl), (Nat.le_of_ble_eq_true rfl)⟩) (wk_recv hK hA.desk rfl) hK rfl hl.1 rfl (Nat.le_of_ble_eq_true rfl) dL_law_416 ⟨by show _ ≤ 600104; omega, by show _ ≤ 7301314; omega⟩ ?_
                            refine wk_eqi ((q_weight hI2 hb2.1).trans (congrArg nI (q_weighs hI hbest hbt hb2))) ?_
                            refine lv_aload_n hx hb dL_law_419 rfl (lv_at hl 2 rfl) ?_
                            refine lv_iload hx hb dL_law_420 (lv_at hl 9 rfl) ?_
                            refine lv_iconst (v := 4) hx hb dL_law_422 (by decide) ?_
                            refine wk_eqls (st' := [.int 4, .int (nI r), .ref (X.1 0 0), .int (nI (b_w σ r))]) (by rw [hx0]) ?_
                            refine wk_V (As := [.int (nI r), .int 4]) (rest := [.int (nI (b_w σ r))]) ⟨hx, hb, hml, hown, hts⟩ (c_X5_pass l E hA hI2 (i := r) (w := 4) hr2 (by decide)) (cwV 2 hts gL_law_X5_pass rfl rfl rfl (by decide +kernel) ⟨(Nat.le_of_ble_eq_true rfl), (Nat.le_of_ble_eq_true rfl)⟩) (wk_recv hK hA.desk rfl) hK rfl hl.1 rfl (Nat.le_of_ble_eq_true rfl) dL_law_423 ⟨by show _ ≤ 600104; omega, by show _ ≤ 7301314; omega⟩ ?_
                            refine wk_eqi (show f_pass (f_give (f_take σ bb) r) r 4 = nI (b_w σ r) from (f_worthN hI hr9).1) ?_
                            refine lv_icmp_ne (tgt := 445) hx hb dL_law_426 (by decide) (fun c_426 => ?_) (fun c_426 => ?_)
                            · skip
                              exact absurd rfl c_426
                            refine lv_aload_n hx hb dL_law_429 rfl (lv_at hl 2 rfl) ?_
                            refine lv_iconst (v := 1) hx hb dL_law_430 (by decide) ?_
                            refine lv_iload hx hb dL_law_431 (lv_at hl 9 rfl) ?_
                            refine lv_ishl hx hb dL_law_433 ?_
                            refine wk_eqi (wk_shl1 r (by omega)) ?_
                            refine wk_eqls (st' := [.int (nI (2 ^ r)), .ref (X.1 0 0)]) (by rw [hx0]) ?_
                            refine we_V (As := [.int (nI (2 ^ r))]) (rest := []) ⟨hx, hb, hml, hown, hts⟩ (e_X5_take l E hA hI2 (w := 2 ^ r) (q_blt hI2 (q_single (b_cfσ hI2) (q_givefr hI hbest.1 hbt))) (q_tog hI2 (q_single (b_cfσ hI2) (q_givefr hI hbest.1 hbt)))) (cwV 1 hts gL_law_X5_take rfl rfl rfl (by decide +kernel) ⟨(Nat.le_of_ble_eq_true rfl), (Nat.le_of_ble_eq_true rfl)⟩) (wk_recv hK hA.desk rfl) hVH hS (wl_FDA hA.2.1) hA9 rfl hl.1 rfl (Nat.le_of_ble_eq_true rfl) dL_law_434 ⟨by show _ ≤ 600104; omega, by show _ ≤ 7301314; omega⟩ (fun v9 H locs hR9 hz9 hk9 hS => ?_)
                            have hsa := va_at.kept hsa (hk9 _ hsa.lt (q_ff ts))
                            have hpa := va_at.kept hpa (hk9 _ hpa.lt (q_ff tp))
                            have hct := va_at.kept hct (hk9 _ hct.lt (q_ff tc))
                            have hVH : EV E s H := hV.heap hS.1 (fun q hq => hS.2.1 q (by omega) (by unfold wk_A; omega))
                            obtain ⟨rfl, hA⟩ := hR9
                            rw [q_back hbt] at hA
                            refine wk_eqls (st' := [.int (nI (z_mk σ ||| bb))]) (by rw [q_back hbt]; rfl) ?_
                            refine lv_iload hx hb dL_law_437 (lv_at hl 8 rfl) ?_
                            refine lv_iload hx hb dL_law_439 (lv_at hl 7 rfl) ?_
                            refine lv_ior hx hb dL_law_441 ?_
                            refine wk_eqi (show (nI (z_mk σ)) ||| (nI bb) = nI ((z_mk σ) ||| bb) from fa_or (z_mk σ) bb) ?_
                            refine lv_icmp_eq (tgt := 447) hx hb dL_law_442 (by decide) (fun c_442 => ?_) (fun c_442 => ?_)
                            · skip
                              refine lv_iinc (v := nI (r + 1)) (lv' := [(10, .int (nI (r + 1))), (11, .int (nI b2)), (0, .ref b), (1, .ref o), (2, .ref sa), (3, .ref pa), (4, .ref ct), (5, .int (nI time)), (6, .int (nI bb)), (9, .int (nI (z_mk σ)))]) hx hb dL_law_447 hl (k := 9) rfl (nI_1 _) (by decide) rfl (fun ls hl => ?_)
                              refine lv_goto (tgt := 315) hx hb dL_law_450 (by decide) ?_
                              exact ih_315 (r + 1) X H locs (by omega) (by omega) hA hx0 hsa hpa hct hS ls (lv_sub hl [2, 3, 4, 5, 6, 7, 8, 9, 0] rfl)
                            exact absurd rfl c_442
                          exact absurd c_402 (by decide)
                        have d_370 := Int32.not_lt.mp c_370
                        exact absurd (q_start hI hbest.1 hbt).2 c_370
                      exact absurd c_331 (by decide)
                    · skip
                      refine wk_eqls (st' := [.int 0]) (by rw [q_shb hbl4 (by omega), hbt]; rfl) ?_
                      refine lv_if_ne (tgt := 337) hx hb dL_law_331 (by decide) (fun c_331 => ?_) (fun c_331 => ?_)
                      · skip
                        exact absurd c_331 (by decide)
                      refine lv_goto (tgt := 447) hx hb dL_law_334 (by decide) ?_
                      refine lv_iinc (v := nI (r + 1)) (lv' := [(10, .int (nI (r + 1))), (0, .ref b), (1, .ref o), (2, .ref sa), (3, .ref pa), (4, .ref ct), (5, .int (nI time)), (6, .int (nI bb)), (9, .int (nI (z_mk σ)))]) hx hb dL_law_447 hl (k := 8) rfl (nI_1 _) (by decide) rfl (fun ls hl => ?_)
                      refine lv_goto (tgt := 315) hx hb dL_law_450 (by decide) ?_
                      exact ih_315 (r + 1) X H locs (by omega) (by omega) hA hx0 hsa hpa hct hS ls (lv_sub hl [1, 2, 3, 4, 5, 6, 7, 8, 0] rfl)
                exact L_315 _ 0 X H locs (Nat.lt_succ_self _) (Nat.zero_le _) hA hx0 hsa hpa hct hS ls (lv_sub hl [2, 3, 4, 5, 6, 7, 8, 1, 0] rfl)
              exact absurd c_307 (by decide)
            exact absurd rfl c_278
          have e_76 : p < nc := wk_cgef (by omega) (by omega) c_76
          have hp : p < z_n σ 2 := by omega
          have hps : z_pS σ p < z_n σ 1 := hI.pS hp
          have hn8 := hI.n1
          obtain ⟨r1, r2, r3, r4⟩ := hL9 p hp
          have hwp := (f_worthN hI hp).2.2
          refine lv_iload hx hb dL_law_79 (lv_at hl 6 rfl) ?_
          refine lv_iload hx hb dL_law_81 (lv_at hl 9 rfl) ?_
          refine lv_ishr hx hb dL_law_83 ?_
          refine lv_iconst (v := 1) hx hb dL_law_84 (by decide) ?_
          refine lv_iand hx hb dL_law_85 ?_
          rcases Bool.eq_false_or_eq_true (bb.testBit p) with hbt | hbt
          · skip
            refine wk_eqls (st' := [.int 1]) (by rw [q_shb hbl4 (by omega), hbt]; rfl) ?_
            refine lv_iconst (v := 1) hx hb dL_law_86 (by decide) ?_
            refine lv_icmp_ne (tgt := 94) hx hb dL_law_87 (by decide) (fun c_87 => ?_) (fun c_87 => ?_)
            · skip
              exact absurd c_87 (by decide)
            refine lv_iconst (v := 1) hx hb dL_law_90 (by decide) ?_
            refine lv_goto (tgt := 95) hx hb dL_law_91 (by decide) ?_
            refine lv_istore (lv' := [(10, .int 1), (0, .ref b), (1, .ref o), (2, .ref sa), (3, .ref pa), (4, .ref ct), (5, .int (nI time)), (6, .int (nI bb)), (7, .int (nI (b_W (b_w σ) bb 16))), (8, .int (nI (b_W (b_w σ) bb p))), (9, .int (nI p))]) hx hb dL_law_95 hl (by decide) rfl (fun ls hl => ?_)
            refine lv_aload_n hx hb dL_law_97 rfl (lv_at hl 2 rfl) ?_
            refine lv_iload hx hb dL_law_98 (lv_at hl 10 rfl) ?_
            refine lv_iconst (v := 4) hx hb dL_law_100 (by decide) ?_
            refine wk_eqls (st' := [.int 4, .int (nI p), .ref (X.1 0 0)]) (by rw [hx0]) ?_
            refine wk_V (As := [.int (nI p), .int 4]) (rest := []) ⟨hx, hb, hml, hown, hts⟩ (c_X5_pass l E hA hI (i := p) (w := 4) hp (by decide)) (cwV 2 hts gL_law_X5_pass rfl rfl rfl (by decide +kernel) ⟨(Nat.le_of_ble_eq_true rfl), (Nat.le_of_ble_eq_true rfl)⟩) (wk_recv hK hA.desk rfl) hK rfl hl.1 rfl (Nat.le_of_ble_eq_true rfl) dL_law_101 ⟨by show _ ≤ 600104; omega, by show _ ≤ 7301314; omega⟩ ?_
            refine wk_eqi (show f_pass σ p 4 = nI (b_w σ p) from (f_worthN hI hp).1) ?_
            refine lv_istore (lv' := [(11, .int (nI (b_w σ p))), (10, .int 1), (0, .ref b), (1, .ref o), (2, .ref sa), (3, .ref pa), (4, .ref ct), (5, .int (nI time)), (6, .int (nI bb)), (7, .int (nI (b_W (b_w σ) bb 16))), (8, .int (nI (b_W (b_w σ) bb p))), (9, .int (nI p))]) hx hb dL_law_104 hl (by decide) rfl (fun ls hl => ?_)
            refine lv_iload hx hb dL_law_106 (lv_at hl 0 rfl) ?_
            refine lv_aload_n hx hb dL_law_108 rfl (lv_at hl 4 rfl) ?_
            refine lv_iconst (v := 4) hx hb dL_law_109 (by decide) ?_
            refine lv_aload_n hx hb dL_law_110 rfl (lv_at hl 5 rfl) ?_
            refine lv_iconst (v := 5) hx hb dL_law_111 (by decide) ?_
            refine lv_iload hx hb dL_law_112 (lv_at hl 11 rfl) ?_
            refine lv_imul hx hb dL_law_114 ?_
            refine wk_eqi (show 5 * (nI p) = nI (5 * p) from pk_mul 5 p) ?_
            refine wk_iald (n := 80) (f := fp) hx hb hK hpa (5 * p) rfl (by omega) (by omega) dL_law_115 ?_
            refine wk_eqls (st' := [.int (nI (z_pS σ p)), .int 4, .ref sa, .int (nI (b_w σ p))]) (by rw [r1]) ?_
            refine lv_imul hx hb dL_law_116 ?_
            refine wk_eqi (show 4 * (nI (z_pS σ p)) = nI (4 * (z_pS σ p)) from pk_mul 4 (z_pS σ p)) ?_
            refine lv_iconst (v := 1) hx hb dL_law_117 (by decide) ?_
            refine lv_iadd hx hb dL_law_118 ?_
            refine wk_eqi (show (nI (4 * (z_pS σ p))) + 1 = nI ((4 * (z_pS σ p)) + 1) from nI_add (4 * (z_pS σ p)) 1) ?_
            refine wk_iald (n := 32) (f := fs) hx hb hK hsa ((4 * (z_pS σ p)) + 1) rfl (by omega) (by omega) dL_law_119 ?_
            refine lv_aload_n hx hb dL_law_120 rfl (lv_at hl 5 rfl) ?_
            refine lv_iconst (v := 5) hx hb dL_law_121 (by decide) ?_
            refine lv_iload hx hb dL_law_122 (lv_at hl 11 rfl) ?_
            refine lv_imul hx hb dL_law_124 ?_
            refine wk_eqi (show 5 * (nI p) = nI (5 * p) from pk_mul 5 p) ?_
            refine lv_iconst (v := 3) hx hb dL_law_125 (by decide) ?_
            refine lv_iadd hx hb dL_law_126 ?_
            refine wk_eqi (show (nI (5 * p)) + 3 = nI ((5 * p) + 3) from nI_add (5 * p) 3) ?_
            refine wk_iald (n := 80) (f := fp) hx hb hK hpa ((5 * p) + 3) rfl (by omega) (by omega) dL_law_127 ?_
            refine lv_aload_n hx hb dL_law_128 rfl (lv_at hl 5 rfl) ?_
            refine lv_iconst (v := 5) hx hb dL_law_129 (by decide) ?_
            refine lv_iload hx hb dL_law_130 (lv_at hl 11 rfl) ?_
            refine lv_imul hx hb dL_law_132 ?_
            refine wk_eqi (show 5 * (nI p) = nI (5 * p) from pk_mul 5 p) ?_
            refine lv_iconst (v := 2) hx hb dL_law_133 (by decide) ?_
            refine lv_iadd hx hb dL_law_134 ?_
            refine wk_eqi (show (nI (5 * p)) + 2 = nI ((5 * p) + 2) from nI_add (5 * p) 2) ?_
            refine wk_iald (n := 80) (f := fp) hx hb hK hpa ((5 * p) + 2) rfl (by omega) (by omega) dL_law_135 ?_
            refine lv_isub hx hb dL_law_136 ?_
            refine lv_imul hx hb dL_law_137 ?_
            refine wk_eqls (st' := [.int (nI (b_w σ p)), .int (nI (b_w σ p))]) (by rw [r4, r3, r2]; exact congrArg (fun z => [Value.int z, Value.int (nI (b_w σ p))]) (f_worthN hI hp).1) ?_
            refine lv_icmp_eq (tgt := 143) hx hb dL_law_138 (by decide) (fun c_138 => ?_) (fun c_138 => ?_)
            · skip
              refine lv_iload hx hb dL_law_143 (lv_at hl 10 rfl) ?_
              refine lv_iload hx hb dL_law_145 (lv_at hl 1 rfl) ?_
              refine lv_if_eq (tgt := 155) hx hb dL_law_147 (by decide) (fun c_147 => ?_) (fun c_147 => ?_)
              · skip
                exact absurd c_147 (by decide)
              refine lv_iload hx hb dL_law_150 (lv_at hl 0 rfl) ?_
              refine lv_goto (tgt := 156) hx hb dL_law_152 (by decide) ?_
              refine lv_iadd hx hb dL_law_156 ?_
              refine wk_eqi (show (nI (b_W (b_w σ) bb p)) + (nI (b_w σ p)) = nI ((b_W (b_w σ) bb p) + (b_w σ p)) from nI_add (b_W (b_w σ) bb p) (b_w σ p)) ?_
              refine wk_eqi (show nI (b_W (b_w σ) bb p + b_w σ p) = nI (b_W (b_w σ) bb (p + 1)) by rw [q_WT hbt]) ?_
              refine lv_istore (lv' := [(8, .int (nI (b_W (b_w σ) bb (p + 1)))), (11, .int (nI (b_w σ p))), (10, .int 1), (0, .ref b), (1, .ref o), (2, .ref sa), (3, .ref pa), (4, .ref ct), (5, .int (nI time)), (6, .int (nI bb)), (7, .int (nI (b_W (b_w σ) bb 16))), (9, .int (nI p))]) hx hb dL_law_157 hl (by decide) rfl (fun ls hl => ?_)
              refine lv_iload hx hb dL_law_159 (lv_at hl 2 rfl) ?_
              refine lv_if_eq (tgt := 175) hx hb dL_law_161 (by decide) (fun c_161 => ?_) (fun c_161 => ?_)
              · skip
                exact absurd c_161 (by decide)
              refine lv_aload_n hx hb dL_law_164 rfl (lv_at hl 4 rfl) ?_
              refine lv_iload hx hb dL_law_165 (lv_at hl 11 rfl) ?_
              refine wk_eqls (st' := [.int (nI p), .ref (X.1 0 0)]) (by rw [hx0]) ?_
              refine wk_V (As := [.int (nI p)]) (rest := []) ⟨hx, hb, hml, hown, hts⟩ (c_X5_canTake l E hA hI hp) (cwV 1 hts gL_law_X5_canTake rfl rfl rfl (by decide +kernel) ⟨(Nat.le_of_ble_eq_true rfl), (Nat.le_of_ble_eq_true rfl)⟩) (wk_recv hK hA.desk rfl) hK rfl hl.1 rfl (Nat.le_of_ble_eq_true rfl) dL_law_167 ⟨by show _ ≤ 600104; omega, by show _ ≤ 7301314; omega⟩ ?_
              refine wk_eqls (st' := [.int 1]) (by rw [q_free hI hp, hbest.1.1 p hbt]; rfl) ?_
              refine lv_if_ne (tgt := 175) hx hb dL_law_170 (by decide) (fun c_170 => ?_) (fun c_170 => ?_)
              · skip
                refine lv_aload_n hx hb dL_law_175 rfl (lv_at hl 4 rfl) ?_
                refine lv_iload hx hb dL_law_176 (lv_at hl 11 rfl) ?_
                refine wk_eqls (st' := [.int (nI p), .ref (X.1 0 0)]) (by rw [hx0]) ?_
                refine wk_V (As := [.int (nI p)]) (rest := []) ⟨hx, hb, hml, hown, hts⟩ (c_X5_canTake l E hA hI hp) (cwV 1 hts gL_law_X5_canTake rfl rfl rfl (by decide +kernel) ⟨(Nat.le_of_ble_eq_true rfl), (Nat.le_of_ble_eq_true rfl)⟩) (wk_recv hK hA.desk rfl) hK rfl hl.1 rfl (Nat.le_of_ble_eq_true rfl) dL_law_178 ⟨by show _ ≤ 600104; omega, by show _ ≤ 7301314; omega⟩ ?_
                refine wk_eqls (st' := [.int 1]) (by rw [q_free hI hp, hbest.1.1 p hbt]; rfl) ?_
                refine lv_if_ne (tgt := 187) hx hb dL_law_181 (by decide) (fun c_181 => ?_) (fun c_181 => ?_)
                · skip
                  refine lv_iload hx hb dL_law_187 (lv_at hl 1 rfl) ?_
                  refine lv_iload hx hb dL_law_189 (lv_at hl 10 rfl) ?_
                  have hfr : (b_fr σ).testBit p = true := hbest.1.1 p hbt
                  have hone : b_w σ p ≤ b_W (b_w σ) bb 16 := q_one (b_cfσ hI) hbest hfr
                  refine lv_icmp_le (tgt := 196) hx hb dL_law_191 (by decide) (fun c_191 => ?_) (fun c_191 => ?_)
                  · skip
                    have e_191 : (b_w σ p) ≤ (b_W (b_w σ) bb 16) := wk_clet (by omega) (by omega) c_191
                    refine lv_iload hx hb dL_law_196 (lv_at hl 2 rfl) ?_
                    refine lv_if_eq (tgt := 204) hx hb dL_law_198 (by decide) (fun c_198 => ?_) (fun c_198 => ?_)
                    · skip
                      exact absurd c_198 (by decide)
                    refine lv_goto (tgt := 268) hx hb dL_law_201 (by decide) ?_
                    refine lv_iinc (v := nI (p + 1)) (lv' := [(9, .int (nI (p + 1))), (8, .int (nI (b_W (b_w σ) bb (p + 1)))), (11, .int (nI (b_w σ p))), (10, .int 1), (0, .ref b), (1, .ref o), (2, .ref sa), (3, .ref pa), (4, .ref ct), (5, .int (nI time)), (6, .int (nI bb)), (7, .int (nI (b_W (b_w σ) bb 16)))]) hx hb dL_law_268 hl (k := 11) rfl (nI_1 _) (by decide) rfl (fun ls hl => ?_)
                    refine lv_goto (tgt := 70) hx hb dL_law_271 (by decide) ?_
                    exact ih_70 (p + 1) (by omega) (by omega) ls (lv_sub hl [4, 5, 6, 7, 8, 9, 10, 11, 1, 0] rfl)
                  have e_191 : (b_W (b_w σ) bb 16) < (b_w σ p) := wk_clef (by omega) (by omega) c_191
                  omega
                exact absurd c_181 (by decide)
              exact absurd c_170 (by decide)
            exact absurd rfl c_138
          · skip
            refine wk_eqls (st' := [.int 0]) (by rw [q_shb hbl4 (by omega), hbt]; rfl) ?_
            refine lv_iconst (v := 1) hx hb dL_law_86 (by decide) ?_
            refine lv_icmp_ne (tgt := 94) hx hb dL_law_87 (by decide) (fun c_87 => ?_) (fun c_87 => ?_)
            · skip
              refine lv_iconst (v := 0) hx hb dL_law_94 (by decide) ?_
              refine lv_istore (lv' := [(10, .int 0), (0, .ref b), (1, .ref o), (2, .ref sa), (3, .ref pa), (4, .ref ct), (5, .int (nI time)), (6, .int (nI bb)), (7, .int (nI (b_W (b_w σ) bb 16))), (8, .int (nI (b_W (b_w σ) bb p))), (9, .int (nI p))]) hx hb dL_law_95 hl (by decide) rfl (fun ls hl => ?_)
              refine lv_aload_n hx hb dL_law_97 rfl (lv_at hl 2 rfl) ?_
              refine lv_iload hx hb dL_law_98 (lv_at hl 10 rfl) ?_
              refine lv_iconst (v := 4) hx hb dL_law_100 (by decide) ?_
              refine wk_eqls (st' := [.int 4, .int (nI p), .ref (X.1 0 0)]) (by rw [hx0]) ?_
              refine wk_V (As := [.int (nI p), .int 4]) (rest := []) ⟨hx, hb, hml, hown, hts⟩ (c_X5_pass l E hA hI (i := p) (w := 4) hp (by decide)) (cwV 2 hts gL_law_X5_pass rfl rfl rfl (by decide +kernel) ⟨(Nat.le_of_ble_eq_true rfl), (Nat.le_of_ble_eq_true rfl)⟩) (wk_recv hK hA.desk rfl) hK rfl hl.1 rfl (Nat.le_of_ble_eq_true rfl) dL_law_101 ⟨by show _ ≤ 600104; omega, by show _ ≤ 7301314; omega⟩ ?_
              refine wk_eqi (show f_pass σ p 4 = nI (b_w σ p) from (f_worthN hI hp).1) ?_
              refine lv_istore (lv' := [(11, .int (nI (b_w σ p))), (10, .int 0), (0, .ref b), (1, .ref o), (2, .ref sa), (3, .ref pa), (4, .ref ct), (5, .int (nI time)), (6, .int (nI bb)), (7, .int (nI (b_W (b_w σ) bb 16))), (8, .int (nI (b_W (b_w σ) bb p))), (9, .int (nI p))]) hx hb dL_law_104 hl (by decide) rfl (fun ls hl => ?_)
              refine lv_iload hx hb dL_law_106 (lv_at hl 0 rfl) ?_
              refine lv_aload_n hx hb dL_law_108 rfl (lv_at hl 4 rfl) ?_
              refine lv_iconst (v := 4) hx hb dL_law_109 (by decide) ?_
              refine lv_aload_n hx hb dL_law_110 rfl (lv_at hl 5 rfl) ?_
              refine lv_iconst (v := 5) hx hb dL_law_111 (by decide) ?_
              refine lv_iload hx hb dL_law_112 (lv_at hl 11 rfl) ?_
              refine lv_imul hx hb dL_law_114 ?_
              refine wk_eqi (show 5 * (nI p) = nI (5 * p) from pk_mul 5 p) ?_
              refine wk_iald (n := 80) (f := fp) hx hb hK hpa (5 * p) rfl (by omega) (by omega) dL_law_115 ?_
              refine wk_eqls (st' := [.int (nI (z_pS σ p)), .int 4, .ref sa, .int (nI (b_w σ p))]) (by rw [r1]) ?_
              refine lv_imul hx hb dL_law_116 ?_
              refine wk_eqi (show 4 * (nI (z_pS σ p)) = nI (4 * (z_pS σ p)) from pk_mul 4 (z_pS σ p)) ?_
              refine lv_iconst (v := 1) hx hb dL_law_117 (by decide) ?_
              refine lv_iadd hx hb dL_law_118 ?_
              refine wk_eqi (show (nI (4 * (z_pS σ p))) + 1 = nI ((4 * (z_pS σ p)) + 1) from nI_add (4 * (z_pS σ p)) 1) ?_
              refine wk_iald (n := 32) (f := fs) hx hb hK hsa ((4 * (z_pS σ p)) + 1) rfl (by omega) (by omega) dL_law_119 ?_
              refine lv_aload_n hx hb dL_law_120 rfl (lv_at hl 5 rfl) ?_
              refine lv_iconst (v := 5) hx hb dL_law_121 (by decide) ?_
              refine lv_iload hx hb dL_law_122 (lv_at hl 11 rfl) ?_
              refine lv_imul hx hb dL_law_124 ?_
              refine wk_eqi (show 5 * (nI p) = nI (5 * p) from pk_mul 5 p) ?_
              refine lv_iconst (v := 3) hx hb dL_law_125 (by decide) ?_
              refine lv_iadd hx hb dL_law_126 ?_
              refine wk_eqi (show (nI (5 * p)) + 3 = nI ((5 * p) + 3) from nI_add (5 * p) 3) ?_
              refine wk_iald (n := 80) (f := fp) hx hb hK hpa ((5 * p) + 3) rfl (by omega) (by omega) dL_law_127 ?_
              refine lv_aload_n hx hb dL_law_128 rfl (lv_at hl 5 rfl) ?_
              refine lv_iconst (v := 5) hx hb dL_law_129 (by decide) ?_
              refine lv_iload hx hb dL_law_130 (lv_at hl 11 rfl) ?_
              refine lv_imul hx hb dL_law_132 ?_
              refine wk_eqi (show 5 * (nI p) = nI (5 * p) from pk_mul 5 p) ?_
              refine lv_iconst (v := 2) hx hb dL_law_133 (by decide) ?_
              refine lv_iadd hx hb dL_law_134 ?_
              refine wk_eqi (show (nI (5 * p)) + 2 = nI ((5 * p) + 2) from nI_add (5 * p) 2) ?_
              refine wk_iald (n := 80) (f := fp) hx hb hK hpa ((5 * p) + 2) rfl (by omega) (by omega) dL_law_135 ?_
              refine lv_isub hx hb dL_law_136 ?_
              refine lv_imul hx hb dL_law_137 ?_
              refine wk_eqls (st' := [.int (nI (b_w σ p)), .int (nI (b_w σ p))]) (by rw [r4, r3, r2]; exact congrArg (fun z => [Value.int z, Value.int (nI (b_w σ p))]) (f_worthN hI hp).1) ?_
              refine lv_icmp_eq (tgt := 143) hx hb dL_law_138 (by decide) (fun c_138 => ?_) (fun c_138 => ?_)
              · skip
                refine lv_iload hx hb dL_law_143 (lv_at hl 10 rfl) ?_
                refine lv_iload hx hb dL_law_145 (lv_at hl 1 rfl) ?_
                refine lv_if_eq (tgt := 155) hx hb dL_law_147 (by decide) (fun c_147 => ?_) (fun c_147 => ?_)
                · skip
                  refine lv_iconst (v := 0) hx hb dL_law_155 (by decide) ?_
                  refine lv_iadd hx hb dL_law_156 ?_
                  refine wk_eqi (show (nI (b_W (b_w σ) bb p)) + 0 = nI ((b_W (b_w σ) bb p) + 0) from nI_add (b_W (b_w σ) bb p) 0) ?_
                  refine wk_eqi (show nI (b_W (b_w σ) bb p + 0) = nI (b_W (b_w σ) bb (p + 1)) by rw [q_WF hbt, Nat.add_zero]) ?_
                  refine lv_istore (lv' := [(8, .int (nI (b_W (b_w σ) bb (p + 1)))), (11, .int (nI (b_w σ p))), (10, .int 0), (0, .ref b), (1, .ref o), (2, .ref sa), (3, .ref pa), (4, .ref ct), (5, .int (nI time)), (6, .int (nI bb)), (7, .int (nI (b_W (b_w σ) bb 16))), (9, .int (nI p))]) hx hb dL_law_157 hl (by decide) rfl (fun ls hl => ?_)
                  refine lv_iload hx hb dL_law_159 (lv_at hl 2 rfl) ?_
                  refine lv_if_eq (tgt := 175) hx hb dL_law_161 (by decide) (fun c_161 => ?_) (fun c_161 => ?_)
                  · skip
                    refine lv_aload_n hx hb dL_law_175 rfl (lv_at hl 4 rfl) ?_
                    refine lv_iload hx hb dL_law_176 (lv_at hl 11 rfl) ?_
                    refine wk_eqls (st' := [.int (nI p), .ref (X.1 0 0)]) (by rw [hx0]) ?_
                    refine wk_V (As := [.int (nI p)]) (rest := []) ⟨hx, hb, hml, hown, hts⟩ (c_X5_canTake l E hA hI hp) (cwV 1 hts gL_law_X5_canTake rfl rfl rfl (by decide +kernel) ⟨(Nat.le_of_ble_eq_true rfl), (Nat.le_of_ble_eq_true rfl)⟩) (wk_recv hK hA.desk rfl) hK rfl hl.1 rfl (Nat.le_of_ble_eq_true rfl) dL_law_178 ⟨by show _ ≤ 600104; omega, by show _ ≤ 7301314; omega⟩ ?_
                    rcases Bool.eq_false_or_eq_true (f_free σ p) with hfp9 | hfp9
                    · skip
                      refine wk_eqls (st' := [.int 1]) (by rw [hfp9]; rfl) ?_
                      refine lv_if_ne (tgt := 187) hx hb dL_law_181 (by decide) (fun c_181 => ?_) (fun c_181 => ?_)
                      · skip
                        refine lv_iload hx hb dL_law_187 (lv_at hl 1 rfl) ?_
                        refine lv_iload hx hb dL_law_189 (lv_at hl 10 rfl) ?_
                        have hfr : (b_fr σ).testBit p = true := (q_free hI hp).symm.trans hfp9
                        have hone : b_w σ p ≤ b_W (b_w σ) bb 16 := q_one (b_cfσ hI) hbest hfr
                        refine lv_icmp_le (tgt := 196) hx hb dL_law_191 (by decide) (fun c_191 => ?_) (fun c_191 => ?_)
                        · skip
                          have e_191 : (b_w σ p) ≤ (b_W (b_w σ) bb 16) := wk_clet (by omega) (by omega) c_191
                          refine lv_iload hx hb dL_law_196 (lv_at hl 2 rfl) ?_
                          refine lv_if_eq (tgt := 204) hx hb dL_law_198 (by decide) (fun c_198 => ?_) (fun c_198 => ?_)
                          · skip
                            refine lv_iconst (v := 0) hx hb dL_law_204 (by decide) ?_
                            refine lv_istore (lv' := [(12, .int 0), (8, .int (nI (b_W (b_w σ) bb (p + 1)))), (11, .int (nI (b_w σ p))), (10, .int 0), (0, .ref b), (1, .ref o), (2, .ref sa), (3, .ref pa), (4, .ref ct), (5, .int (nI time)), (6, .int (nI bb)), (7, .int (nI (b_W (b_w σ) bb 16))), (9, .int (nI p))]) hx hb dL_law_205 hl (by decide) rfl (fun ls hl => ?_)
                            refine lv_iconst (v := 0) hx hb dL_law_207 (by decide) ?_
                            refine lv_istore (lv' := [(13, .int 0), (12, .int 0), (8, .int (nI (b_W (b_w σ) bb (p + 1)))), (11, .int (nI (b_w σ p))), (10, .int 0), (0, .ref b), (1, .ref o), (2, .ref sa), (3, .ref pa), (4, .ref ct), (5, .int (nI time)), (6, .int (nI bb)), (7, .int (nI (b_W (b_w σ) bb 16))), (9, .int (nI p))]) hx hb dL_law_208 hl (by decide) rfl (fun ls hl => ?_)
                            have L_210 : ∀ (n_210 : Nat) (q : Nat), nc - q < n_210 → (q ≤ nc) → ∀ ls : Array Slot, lv_has ls 14 [(0, .ref b), (1, .ref o), (2, .ref sa), (3, .ref pa), (4, .ref ct), (5, .int (nI time)), (6, .int (nI bb)), (7, .int (nI (b_W (b_w σ) bb 16))), (8, .int (nI (b_W (b_w σ) bb (p + 1)))), (9, .int (nI p)), (11, .int (nI (b_w σ p))), (12, .int (nI (q_oth (b_w σ) (f_cfl σ) bb p q))), (13, .int (nI q))] → W pr l e room_1 s m #[Value.ref b] below meth c H locs cells slots (lw_Z below #[Value.ref b] s) (F0 m 210 ls []) := by
                              intro n_210
                              induction n_210 with
                              | zero => intro q hm; exact absurd hm (Nat.not_lt_zero _)
                              | succ n_210 ih_210 =>
                                intro q hm_210 hkq ls hl
                                refine lv_iload hx hb dL_law_210 (lv_at hl 12 rfl) ?_
                                refine lv_aload hx hb dL_law_212 (lv_at hl 4 rfl) ?_
                                refine lv_iconst (v := 2) hx hb dL_law_214 (by decide) ?_
                                refine wk_iald (n := 3) (f := fc) hx hb hK hct 2 rfl (by omega) (by omega) dL_law_215 ?_
                                refine wk_eqls (st' := [.int (nI nc), .int (nI q)]) (by rw [hfc]) ?_
                                refine lv_icmp_ge (tgt := 259) hx hb dL_law_216 (by decide) (fun c_216 => ?_) (fun c_216 => ?_)
                                · skip
                                  have e_216 : nc ≤ q := wk_cget (by omega) (by omega) c_216
                                  have hoth : b_w σ p ≤ q_oth (b_w σ) (f_cfl σ) bb p q := by rw [show q = z_n σ 2 by omega, ← q_oth_le (w := b_w σ) (cf := f_cfl σ) (b := bb) (p := p) (n := z_n σ 2) (q_bit_lt hI hbest.1) 16 hI.n2]; exact q_others (b_cfσ hI) hbest hfr hbt
                                  have hol := Nat.le_trans (q_othlim (w := b_w σ) (cf := f_cfl σ) (b := bb) (p := p) q) (b_W_lim hwl q)
                                  refine lv_iload hx hb dL_law_259 (lv_at hl 11 rfl) ?_
                                  refine lv_iload hx hb dL_law_261 (lv_at hl 10 rfl) ?_
                                  refine lv_icmp_ge (tgt := 268) hx hb dL_law_263 (by decide) (fun c_263 => ?_) (fun c_263 => ?_)
                                  · skip
                                    have e_263 : (b_w σ p) ≤ (q_oth (b_w σ) (f_cfl σ) bb p q) := wk_cget (by omega) (by omega) c_263
                                    refine lv_iinc (v := nI (p + 1)) (lv' := [(9, .int (nI (p + 1))), (0, .ref b), (1, .ref o), (2, .ref sa), (3, .ref pa), (4, .ref ct), (5, .int (nI time)), (6, .int (nI bb)), (7, .int (nI (b_W (b_w σ) bb 16))), (8, .int (nI (b_W (b_w σ) bb (p + 1)))), (11, .int (nI (b_w σ p))), (12, .int (nI (q_oth (b_w σ) (f_cfl σ) bb p q))), (13, .int (nI q))]) hx hb dL_law_268 hl (k := 9) rfl (nI_1 _) (by decide) rfl (fun ls hl => ?_)
                                    refine lv_goto (tgt := 70) hx hb dL_law_271 (by decide) ?_
                                    exact ih_70 (p + 1) (by omega) (by omega) ls (lv_sub hl [1, 2, 3, 4, 5, 6, 7, 8, 9, 0] rfl)
                                  have e_263 : (q_oth (b_w σ) (f_cfl σ) bb p q) < (b_w σ p) := wk_cgef (by omega) (by omega) c_263
                                  omega
                                have e_216 : q < nc := wk_cgef (by omega) (by omega) c_216
                                have hq : q < z_n σ 2 := by omega
                                refine lv_iload hx hb dL_law_219 (lv_at hl 6 rfl) ?_
                                refine lv_iload hx hb dL_law_221 (lv_at hl 12 rfl) ?_
                                refine lv_ishr hx hb dL_law_223 ?_
                                refine lv_iconst (v := 1) hx hb dL_law_224 (by decide) ?_
                                refine lv_iand hx hb dL_law_225 ?_
                                rcases Bool.eq_false_or_eq_true (bb.testBit q) with hbq | hbq
                                · skip
                                  refine wk_eqls (st' := [.int 1]) (by rw [q_shb hbl4 (by omega), hbq]; rfl) ?_
                                  refine lv_iconst (v := 1) hx hb dL_law_226 (by decide) ?_
                                  refine lv_icmp_ne (tgt := 253) hx hb dL_law_227 (by decide) (fun c_227 => ?_) (fun c_227 => ?_)
                                  · skip
                                    exact absurd c_227 (by decide)
                                  have hpq : ¬ p = q := fun z => by rw [z, hbq] at hbt; exact Bool.noConfusion hbt
                                  refine lv_aload_n hx hb dL_law_230 rfl (lv_at hl 1 rfl) ?_
                                  refine lv_iload hx hb dL_law_231 (lv_at hl 9 rfl) ?_
                                  refine lv_iload hx hb dL_law_233 (lv_at hl 12 rfl) ?_
                                  refine wk_eqls (st' := [.int (nI q), .int (nI p), .ref (X.1 0 0)]) (by rw [hx0]) ?_
                                  refine wk_V (As := [.int (nI p), .int (nI q)]) (rest := []) ⟨hx, hb, hml, hown, hts⟩ (c_X5_isConflict l E hA hI hp hq hpq) (cwV 2 hts gL_law_X5_isConflict rfl rfl rfl (by decide +kernel) ⟨(Nat.le_of_ble_eq_true rfl), (Nat.le_of_ble_eq_true rfl)⟩) (wk_recv hK hA.desk rfl) hK rfl hl.1 rfl (Nat.le_of_ble_eq_true rfl) dL_law_235 ⟨by show _ ≤ 600104; omega, by show _ ≤ 7301314; omega⟩ ?_
                                  refine lv_if_eq (tgt := 253) hx hb dL_law_238 (by decide) (fun c_238 => ?_) (fun c_238 => ?_)
                                  · skip
                                    have e_238 : (f_conf σ p q) = false := wk_b0 c_238
                                    refine lv_iinc (v := nI (q + 1)) (lv' := [(13, .int (nI (q + 1))), (0, .ref b), (1, .ref o), (2, .ref sa), (3, .ref pa), (4, .ref ct), (5, .int (nI time)), (6, .int (nI bb)), (7, .int (nI (b_W (b_w σ) bb 16))), (8, .int (nI (b_W (b_w σ) bb (p + 1)))), (9, .int (nI p)), (11, .int (nI (b_w σ p))), (12, .int (nI (q_oth (b_w σ) (f_cfl σ) bb p q)))]) hx hb dL_law_253 hl (k := 12) rfl (nI_1 _) (by decide) rfl (fun ls hl => ?_)
                                    refine lv_goto (tgt := 210) hx hb dL_law_256 (by decide) ?_
                                    have hl : lv_has ls 14 [(13, .int (nI (q + 1))), (0, .ref b), (1, .ref o), (2, .ref sa), (3, .ref pa), (4, .ref ct), (5, .int (nI time)), (6, .int (nI bb)), (7, .int (nI (b_W (b_w σ) bb 16))), (8, .int (nI (b_W (b_w σ) bb (p + 1)))), (9, .int (nI p)), (11, .int (nI (b_w σ p))), (12, .int (nI (q_oth (b_w σ) (f_cfl σ) bb p (q + 1))))] := by rw [show nI (q_oth (b_w σ) (f_cfl σ) bb p (q + 1)) = nI (q_oth (b_w σ) (f_cfl σ) bb p q) from by rw [q_othN (q_cfl1 e_238)]]; exact hl
                                    exact ih_210 (q + 1) (by omega) (by omega) ls (lv_sub hl [1, 2, 3, 4, 5, 6, 7, 8, 9, 10, 11, 12, 0] rfl)
                                  have e_238 : (f_conf σ p q) = true := wk_b1 c_238
                                  refine lv_iload hx hb dL_law_241 (lv_at hl 11 rfl) ?_
                                  refine lv_aload_n hx hb dL_law_243 rfl (lv_at hl 1 rfl) ?_
                                  refine lv_iload hx hb dL_law_244 (lv_at hl 12 rfl) ?_
                                  refine lv_iconst (v := 4) hx hb dL_law_246 (by decide) ?_
                                  refine wk_eqls (st' := [.int 4, .int (nI q), .ref (X.1 0 0), .int (nI (q_oth (b_w σ) (f_cfl σ) bb p q))]) (by rw [hx0]) ?_
                                  refine wk_V (As := [.int (nI q), .int 4]) (rest := [.int (nI (q_oth (b_w σ) (f_cfl σ) bb p q))]) ⟨hx, hb, hml, hown, hts⟩ (c_X5_pass l E hA hI (i := q) (w := 4) hq (by decide)) (cwV 2 hts gL_law_X5_pass rfl rfl rfl (by decide +kernel) ⟨(Nat.le_of_ble_eq_true rfl), (Nat.le_of_ble_eq_true rfl)⟩) (wk_recv hK hA.desk rfl) hK rfl hl.1 rfl (Nat.le_of_ble_eq_true rfl) dL_law_247 ⟨by show _ ≤ 600104; omega, by show _ ≤ 7301314; omega⟩ ?_
                                  refine wk_eqi (show f_pass σ q 4 = nI (b_w σ q) from (f_worthN hI hq).1) ?_
                                  refine lv_iadd hx hb dL_law_250 ?_
                                  refine wk_eqi (show (nI (q_oth (b_w σ) (f_cfl σ) bb p q)) + (nI (b_w σ q)) = nI ((q_oth (b_w σ) (f_cfl σ) bb p q) + (b_w σ q)) from nI_add (q_oth (b_w σ) (f_cfl σ) bb p q) (b_w σ q)) ?_
                                  refine lv_istore (lv' := [(12, .int (nI ((q_oth (b_w σ) (f_cfl σ) bb p q) + (b_w σ q)))), (0, .ref b), (1, .ref o), (2, .ref sa), (3, .ref pa), (4, .ref ct), (5, .int (nI time)), (6, .int (nI bb)), (7, .int (nI (b_W (b_w σ) bb 16))), (8, .int (nI (b_W (b_w σ) bb (p + 1)))), (9, .int (nI p)), (11, .int (nI (b_w σ p))), (13, .int (nI q))]) hx hb dL_law_251 hl (by decide) rfl (fun ls hl => ?_)
                                  refine lv_iinc (v := nI (q + 1)) (lv' := [(13, .int (nI (q + 1))), (12, .int (nI ((q_oth (b_w σ) (f_cfl σ) bb p q) + (b_w σ q)))), (0, .ref b), (1, .ref o), (2, .ref sa), (3, .ref pa), (4, .ref ct), (5, .int (nI time)), (6, .int (nI bb)), (7, .int (nI (b_W (b_w σ) bb 16))), (8, .int (nI (b_W (b_w σ) bb (p + 1)))), (9, .int (nI p)), (11, .int (nI (b_w σ p)))]) hx hb dL_law_253 hl (k := 12) rfl (nI_1 _) (by decide) rfl (fun ls hl => ?_)
                                  refine lv_goto (tgt := 210) hx hb dL_law_256 (by decide) ?_
                                  have hl : lv_has ls 14 [(13, .int (nI (q + 1))), (12, .int (nI (q_oth (b_w σ) (f_cfl σ) bb p (q + 1)))), (0, .ref b), (1, .ref o), (2, .ref sa), (3, .ref pa), (4, .ref ct), (5, .int (nI time)), (6, .int (nI bb)), (7, .int (nI (b_W (b_w σ) bb 16))), (8, .int (nI (b_W (b_w σ) bb (p + 1)))), (9, .int (nI p)), (11, .int (nI (b_w σ p)))] := by rw [show nI (q_oth (b_w σ) (f_cfl σ) bb p (q + 1)) = nI ((q_oth (b_w σ) (f_cfl σ) bb p q) + (b_w σ q)) from by rw [q_othT hbq (q_cflT e_238 hq (fun z => hpq z.symm))]]; exact hl
                                  exact ih_210 (q + 1) (by omega) (by omega) ls (lv_sub hl [2, 3, 4, 5, 6, 7, 8, 9, 10, 11, 12, 1, 0] rfl)
                                · skip
                                  refine wk_eqls (st' := [.int 0]) (by rw [q_shb hbl4 (by omega), hbq]; rfl) ?_
                                  refine lv_iconst (v := 1) hx hb dL_law_226 (by decide) ?_
                                  refine lv_icmp_ne (tgt := 253) hx hb dL_law_227 (by decide) (fun c_227 => ?_) (fun c_227 => ?_)
                                  · skip
                                    refine lv_iinc (v := nI (q + 1)) (lv' := [(13, .int (nI (q + 1))), (0, .ref b), (1, .ref o), (2, .ref sa), (3, .ref pa), (4, .ref ct), (5, .int (nI time)), (6, .int (nI bb)), (7, .int (nI (b_W (b_w σ) bb 16))), (8, .int (nI (b_W (b_w σ) bb (p + 1)))), (9, .int (nI p)), (11, .int (nI (b_w σ p))), (12, .int (nI (q_oth (b_w σ) (f_cfl σ) bb p q)))]) hx hb dL_law_253 hl (k := 12) rfl (nI_1 _) (by decide) rfl (fun ls hl => ?_)
                                    refine lv_goto (tgt := 210) hx hb dL_law_256 (by decide) ?_
                                    have hl : lv_has ls 14 [(13, .int (nI (q + 1))), (0, .ref b), (1, .ref o), (2, .ref sa), (3, .ref pa), (4, .ref ct), (5, .int (nI time)), (6, .int (nI bb)), (7, .int (nI (b_W (b_w σ) bb 16))), (8, .int (nI (b_W (b_w σ) bb (p + 1)))), (9, .int (nI p)), (11, .int (nI (b_w σ p))), (12, .int (nI (q_oth (b_w σ) (f_cfl σ) bb p (q + 1))))] := by rw [show nI (q_oth (b_w σ) (f_cfl σ) bb p (q + 1)) = nI (q_oth (b_w σ) (f_cfl σ) bb p q) from by rw [q_othF hbq]]; exact hl
                                    exact ih_210 (q + 1) (by omega) (by omega) ls (lv_sub hl [1, 2, 3, 4, 5, 6, 7, 8, 9, 10, 11, 12, 0] rfl)
                                  exact absurd c_227 (by decide)
                            exact L_210 _ 0 (Nat.lt_succ_self _) (Nat.zero_le _) ls (lv_sub hl [5, 6, 7, 8, 9, 10, 11, 12, 2, 13, 3, 1, 0] rfl)
                          exact absurd c_198 (by decide)
                        have e_191 : (b_W (b_w σ) bb 16) < (b_w σ p) := wk_clef (by omega) (by omega) c_191
                        omega
                      exact absurd c_181 (by decide)
                    · skip
                      refine wk_eqls (st' := [.int 0]) (by rw [hfp9]; rfl) ?_
                      refine lv_if_ne (tgt := 187) hx hb dL_law_181 (by decide) (fun c_181 => ?_) (fun c_181 => ?_)
                      · skip
                        exact absurd c_181 (by decide)
                      refine lv_goto (tgt := 268) hx hb dL_law_184 (by decide) ?_
                      refine lv_iinc (v := nI (p + 1)) (lv' := [(9, .int (nI (p + 1))), (8, .int (nI (b_W (b_w σ) bb (p + 1)))), (11, .int (nI (b_w σ p))), (10, .int 0), (0, .ref b), (1, .ref o), (2, .ref sa), (3, .ref pa), (4, .ref ct), (5, .int (nI time)), (6, .int (nI bb)), (7, .int (nI (b_W (b_w σ) bb 16)))]) hx hb dL_law_268 hl (k := 11) rfl (nI_1 _) (by decide) rfl (fun ls hl => ?_)
                      refine lv_goto (tgt := 70) hx hb dL_law_271 (by decide) ?_
                      exact ih_70 (p + 1) (by omega) (by omega) ls (lv_sub hl [4, 5, 6, 7, 8, 9, 10, 11, 1, 0] rfl)
                  exact absurd c_161 (by decide)
                exact absurd c_147 (by decide)
              exact absurd rfl c_138
            exact absurd c_87 (by decide)
      exact L_70 _ 0 (Nat.lt_succ_self _) (Nat.zero_le _) ls (lv_sub hl [4, 5, 6, 7, 8, 9, 3, 2, 1, 0] rfl)
  exact L_44 _ 0 X σ H locs (Nat.lt_succ_self _) (Nat.zero_le _) hA hx0 hsa hpa hct hI hL9 hnc (by rw [hnow]; decide) hS ls (lv_sub hl [0, 1, 2, 3, 4, 5] rfl)
