/-! The law's loop. -/
theorem wl_mask (x : Int32) : ∃ t : Nat, t < 32 ∧ x &&& 31 = nI t := by
  refine ⟨x.toBitVec.toNat % 32, Nat.mod_lt _ (by decide), ?_⟩
  have e : x = nI x.toBitVec.toNat := by
    apply Int32.toBitVec_inj.mp
    show x.toBitVec = BitVec.ofNat 32 x.toBitVec.toNat
    simp
  have e2 : nI x.toBitVec.toNat &&& nI 31 = nI (x.toBitVec.toNat &&& 31) := fa_and _ _
  have e3 : x.toBitVec.toNat &&& 31 = x.toBitVec.toNat % 32 := Nat.and_two_pow_sub_one_eq_mod _ 5
  rw [e3, ← e] at e2
  exact e2
theorem wl_cmp {i L : Nat} (hL : L ≤ 2560) (hi : i ≤ 2570) (h : ¬ nI L - 5 < nI i) : i + 5 ≤ L := by
  have e1 := nI_toInt (n := L) (by omega)
  have e2 := nI_toInt (n := i) (by omega)
  have c5 : (5 : Int32).toInt = 5 := rfl
  rw [fa_lt, fb_subI (by omega) (by omega), e1, e2, c5] at h
  omega

set_option maxHeartbeats 4000000 in
set_option maxRecDepth 100000 in
theorem w_switch {p : Program} {l : Launch} {e : Env} {s : State} {m : MethodId} {below : List Frame} {meth : Method} {c : Code} {b L : Nat} {xs : Nat → Int32} {E : wk_E} {T : Nat → Nat × Nat} {X : z_X} {Y : Nat → Nat → Nat} {σ : z_S} {gt : Int64} {oo : Nat} {H : Heap} {locs : List Loc} {cells slots i : Nat} (C0 : wl_C p l s m meth c b L xs E) (hI0 : wl_I E T X Y σ gt oo H) (hS : va_S (wk_A E) s.heap H locs) (hi : i + 5 ≤ L) (hcl : cells + 4 ≤ 601024 ∧ slots + 70 ≤ 7293034)
    (kk : ∀ (σ9 : z_S) (gt9 : Int64) (T9 : Nat → Nat × Nat) (X9 : z_X) (H9 : Heap) (locs9 : List Loc), wl_I E T9 X9 Y σ9 gt9 oo H9 → X9.1 0 0 = X.1 0 0 → va_S (wk_A E) s.heap H9 locs9 → ∀ ls : Array Slot, lv_has ls 9 [(0, .ref b), (1, .ref (X.1 0 0)), (2, .ref (Y 10 0)), (3, .ref oo), (4, .int (nI i))] → W p l e room_1 s m #[Value.ref b] below meth c H9 locs9 (cells + 4) (slots + 70) (lw_Z below #[Value.ref b] s) (F0 m 1308 ls [])) :
    ∀ ls : Array Slot, lv_has ls 9 [(0, .ref b), (1, .ref (X.1 0 0)), (2, .ref (Y 10 0)), (3, .ref oo), (4, .int (nI i))] → W p l e room_1 s m #[Value.ref b] below meth c H locs cells slots (lw_Z below #[Value.ref b] s) (F0 m 39 ls [.int (xs i &&& 31)]) := by
  intro ls hl
  obtain ⟨⟨hx, hb, hr, hml, hown, hlocks⟩, hts, ⟨hX, hbl, hL⟩, ⟨hV, hNC, hE⟩, hst⟩ := id C0
  obtain ⟨t, ht, e1⟩ := wl_mask (xs i)
  rw [e1]
  rcases (show t = 0 ∨ t = 1 ∨ t = 2 ∨ t = 3 ∨ t = 4 ∨ t = 5 ∨ t = 6 ∨ t = 7 ∨ t = 8 ∨ t = 9 ∨ t = 10 ∨ t = 11 ∨ t = 12 ∨ t = 13 ∨ t = 14 ∨ t = 15 ∨ t = 16 ∨ t = 17 ∨ t = 18 ∨ t = 19 ∨ t = 20 ∨ t = 21 ∨ t = 22 ∨ t = 23 ∨ t = 24 ∨ t = 25 ∨ t = 26 ∨ t = 27 ∨ t = 28 ∨ t = 29 ∨ t = 30 ∨ t = 31 by omega) with rfl | rfl | rfl | rfl | rfl | rfl | rfl | rfl | rfl | rfl | rfl | rfl | rfl | rfl | rfl | rfl | rfl | rfl | rfl | rfl | rfl | rfl | rfl | rfl | rfl | rfl | rfl | rfl | rfl | rfl | rfl | rfl
  · exact lv_tableIn (off := 97) (tgt := 136) hx hb dL_law_39 (by decide) (by decide) (by decide) (by decide) (d_addAntenna C0 hI0 hS hi hcl kk ls hl)
  · exact lv_tableIn (off := 177) (tgt := 216) hx hb dL_law_39 (by decide) (by decide) (by decide) (by decide) (d_addSatellite C0 hI0 hS hi hcl kk ls hl)
  · exact lv_tableIn (off := 269) (tgt := 308) hx hb dL_law_39 (by decide) (by decide) (by decide) (by decide) (d_addPass C0 hI0 hS hi hcl kk ls hl)
  · exact lv_tableIn (off := 361) (tgt := 400) hx hb dL_law_39 (by decide) (by decide) (by decide) (by decide) (d_addOutage C0 hI0 hS hi hcl kk ls hl)
  · exact lv_tableIn (off := 441) (tgt := 480) hx hb dL_law_39 (by decide) (by decide) (by decide) (by decide) (d_setHandover C0 hI0 hS hi hcl kk ls hl)
  · exact lv_tableIn (off := 497) (tgt := 536) hx hb dL_law_39 (by decide) (by decide) (by decide) (by decide) (d_count C0 hI0 hS hi hcl kk ls hl)
  · exact lv_tableIn (off := 553) (tgt := 592) hx hb dL_law_39 (by decide) (by decide) (by decide) (by decide) (d_pass C0 hI0 hS hi hcl kk ls hl)
  · exact lv_tableIn (off := 621) (tgt := 660) hx hb dL_law_39 (by decide) (by decide) (by decide) (by decide) (d_isConflict C0 hI0 hS hi hcl kk ls hl)
  · exact lv_tableIn (off := 696) (tgt := 735) hx hb dL_law_39 (by decide) (by decide) (by decide) (by decide) (d_canTake C0 hI0 hS hi hcl kk ls hl)
  · exact lv_tableIn (off := 759) (tgt := 798) hx hb dL_law_39 (by decide) (by decide) (by decide) (by decide) (d_best C0 hI0 hS hi hcl kk ls hl)
  · exact lv_tableIn (off := 772) (tgt := 811) hx hb dL_law_39 (by decide) (by decide) (by decide) (by decide) (d_weight C0 hI0 hS hi hcl kk ls hl)
  · exact lv_tableIn (off := 828) (tgt := 867) hx hb dL_law_39 (by decide) (by decide) (by decide) (by decide) (d_take C0 hI0 hS hi hcl kk ls hl)
  · exact lv_tableIn (off := 884) (tgt := 923) hx hb dL_law_39 (by decide) (by decide) (by decide) (by decide) (d_giveUp C0 hI0 hS hi hcl kk ls hl)
  · exact lv_tableIn (off := 940) (tgt := 979) hx hb dL_law_39 (by decide) (by decide) (by decide) (by decide) (d_taken C0 hI0 hS hi hcl kk ls hl)
  · exact lv_tableIn (off := 953) (tgt := 992) hx hb dL_law_39 (by decide) (by decide) (by decide) (by decide) (d_handovers C0 hI0 hS hi hcl kk ls hl)
  · exact lv_tableIn (off := 1009) (tgt := 1048) hx hb dL_law_39 (by decide) (by decide) (by decide) (by decide) (d_run C0 hI0 hS hi hcl kk ls hl)
  · exact lv_tableIn (off := 1065) (tgt := 1104) hx hb dL_law_39 (by decide) (by decide) (by decide) (by decide) (d_now C0 hI0 hS hi hcl kk ls hl)
  · exact lv_tableIn (off := 1078) (tgt := 1117) hx hb dL_law_39 (by decide) (by decide) (by decide) (by decide) (d_satellite C0 hI0 hS hi hcl kk ls hl)
  · exact lv_tableIn (off := 1146) (tgt := 1185) hx hb dL_law_39 (by decide) (by decide) (by decide) (by decide) (d_antenna C0 hI0 hS hi hcl kk ls hl)
  · exact lv_tableIn (off := 1214) (tgt := 1253) hx hb dL_law_39 (by decide) (by decide) (by decide) (by decide) (d_share C0 hI0 hS hi hcl kk ls hl)
  · exact lv_tableIn (off := 1255) (tgt := 1294) hx hb dL_law_39 (by decide) (by decide) (by decide) (by decide) (d_digest C0 hI0 hS hi hcl kk ls hl)
  · exact lv_tableOut (tgt := 1308) hx hb dL_law_39 (by decide) (by decide) (W.widen (k := cells + 4) (n := slots + 70) (by omega) (by omega) (kk σ gt T X H locs hI0 rfl hS ls hl))
  · exact lv_tableOut (tgt := 1308) hx hb dL_law_39 (by decide) (by decide) (W.widen (k := cells + 4) (n := slots + 70) (by omega) (by omega) (kk σ gt T X H locs hI0 rfl hS ls hl))
  · exact lv_tableOut (tgt := 1308) hx hb dL_law_39 (by decide) (by decide) (W.widen (k := cells + 4) (n := slots + 70) (by omega) (by omega) (kk σ gt T X H locs hI0 rfl hS ls hl))
  · exact lv_tableOut (tgt := 1308) hx hb dL_law_39 (by decide) (by decide) (W.widen (k := cells + 4) (n := slots + 70) (by omega) (by omega) (kk σ gt T X H locs hI0 rfl hS ls hl))
  · exact lv_tableOut (tgt := 1308) hx hb dL_law_39 (by decide) (by decide) (W.widen (k := cells + 4) (n := slots + 70) (by omega) (by omega) (kk σ gt T X H locs hI0 rfl hS ls hl))
  · exact lv_tableOut (tgt := 1308) hx hb dL_law_39 (by decide) (by decide) (W.widen (k := cells + 4) (n := slots + 70) (by omega) (by omega) (kk σ gt T X H locs hI0 rfl hS ls hl))
  · exact lv_tableOut (tgt := 1308) hx hb dL_law_39 (by decide) (by decide) (W.widen (k := cells + 4) (n := slots + 70) (by omega) (by omega) (kk σ gt T X H locs hI0 rfl hS ls hl))
  · exact lv_tableOut (tgt := 1308) hx hb dL_law_39 (by decide) (by decide) (W.widen (k := cells + 4) (n := slots + 70) (by omega) (by omega) (kk σ gt T X H locs hI0 rfl hS ls hl))
  · exact lv_tableOut (tgt := 1308) hx hb dL_law_39 (by decide) (by decide) (W.widen (k := cells + 4) (n := slots + 70) (by omega) (by omega) (kk σ gt T X H locs hI0 rfl hS ls hl))
  · exact lv_tableOut (tgt := 1308) hx hb dL_law_39 (by decide) (by decide) (W.widen (k := cells + 4) (n := slots + 70) (by omega) (by omega) (kk σ gt T X H locs hI0 rfl hS ls hl))
  · exact lv_tableOut (tgt := 1308) hx hb dL_law_39 (by decide) (by decide) (W.widen (k := cells + 4) (n := slots + 70) (by omega) (by omega) (kk σ gt T X H locs hI0 rfl hS ls hl))

set_option maxHeartbeats 4000000 in
set_option maxRecDepth 100000 in
theorem w_loop {p : Program} {l : Launch} {e : Env} {s : State} {m : MethodId} {below : List Frame} {meth : Method} {c : Code} {b L : Nat} {xs : Nat → Int32} {E : wk_E} {Y : Nat → Nat → Nat} {oo x0 : Nat} (C0 : wl_C p l s m meth c b L xs E) :
    ∀ (n i : Nat) (T : Nat → Nat × Nat) (X : z_X) (σ : z_S) (gt : Int64) (H : Heap) (locs : List Loc) (cells slots : Nat), L + 10 - i < n → i ≤ L → wl_I E T X Y σ gt oo H → X.1 0 0 = x0 → va_S (wk_A E) s.heap H locs → cells ≤ 100 + 4 * i → slots ≤ 1000 + 70 * i → ∀ ls : Array Slot, lv_has ls 9 [(0, .ref b), (1, .ref x0), (2, .ref (Y 10 0)), (3, .ref oo), (4, .int (nI i))] → W p l e room_1 s m #[Value.ref b] below meth c H locs cells slots (lw_Z below #[Value.ref b] s) (F0 m 23 ls []) := by
  intro n
  induction n with
  | zero => intro i T X σ gt H locs cells slots h; exact absurd h (Nat.not_lt_zero _)
  | succ n ih =>
    intro i T X σ gt H locs cells slots hn hiL hI hX0 hS hc hs ls hl
    subst hX0
    obtain ⟨⟨hx, hb, hr, hml, hown, hlocks⟩, hts, ⟨hX, hbl, hL⟩, ⟨hV, hNC, hE⟩, hst⟩ := id C0
    have hbA : ¬ wk_A E b := by unfold wk_A; omega
    refine lv_iload hx hb dL_law_23 (lv_at hl 4 rfl) ?_
    refine lv_aload_n hx hb dL_law_25 rfl (lv_at hl 0 rfl) ?_
    refine va_slen hx hb hX hbl hbA hS dL_law_26 ?_
    refine lv_iconst (v := 5) hx hb dL_law_27 (by decide) ?_
    refine lv_isub hx hb dL_law_28 ?_
    refine lv_icmp_gt (tgt := 1314) hx hb dL_law_29 (by decide) (fun c_29 => ?_) (fun c_29 => ?_)
    · refine lv_iconst (v := 1) hx hb dL_law_1314 (by decide) ?_
      refine va_forget (fun q hq => ?_) ?_
      · have h9 : E.2.2.1 ≤ q.base := hS.2.2 q hq
        omega
      refine W.widen (k := 601024) (n := 7293034) (by omega) (by omega) ?_
      exact lw_ret (d0 := s.drawn) (Drawn.sameBut.refl s.drawn lw_cs) hx hb hr hlocks dL_law_1315
    · have hi5 : i + 5 ≤ L := wl_cmp hL (by omega) c_29
      refine lv_aload_n hx hb dL_law_32 rfl (lv_at hl 0 rfl) ?_
      refine lv_iload hx hb dL_law_33 (lv_at hl 4 rfl) ?_
      refine wl_sld hx hb hX hbl hbA hS i rfl (by omega) (by omega) dL_law_35 ?_
      refine lv_bipush (v := 31) hx hb dL_law_36 (by decide) ?_
      refine lv_iand hx hb dL_law_38 ?_
      refine w_switch C0 hI hS hi5 ⟨by omega, by omega⟩ (fun σ9 gt9 T9 X9 H9 locs9 hI9 hX9 hS9 ls hl => ?_) ls hl
      refine lv_iinc (v := nI (i + 5)) (lv' := [(4, .int (nI (i + 5))), (0, .ref b), (1, .ref (X.1 0 0)), (2, .ref (Y 10 0)), (3, .ref oo)]) hx hb dL_law_1308 hl (k := 4) rfl (nI_add i 5) (by decide) rfl (fun ls hl => ?_)
      refine lv_goto (tgt := 23) hx hb dL_law_1311 (by decide) ?_
      exact ih (i + 5) T9 X9 σ9 gt9 H9 locs9 (cells + 4) (slots + 70) (by omega) hi5 hI9 hX9 hS9 (by omega) (by omega) ls (lv_sub hl [1, 2, 3, 4, 0] rfl)
