set_option maxHeartbeats 4000000 in
set_option maxRecDepth 100000 in
theorem d_share {p : Program} {l : Launch} {e : Env} {s : State} {m : MethodId} {below : List Frame} {meth : Method} {c : Code} {b L : Nat} {xs : Nat → Int32} {E : wk_E} {T : Nat → Nat × Nat} {X : z_X} {Y : Nat → Nat → Nat} {σ : z_S} {gt : Int64} {oo : Nat} {H : Heap} {locs : List Loc} {cells slots i : Nat} (C0 : wl_C p l s m meth c b L xs E) (hI0 : wl_I E T X Y σ gt oo H) (hS : va_S (wk_A E) s.heap H locs) (hi : i + 5 ≤ L) (hcl : cells + 4 ≤ 601024 ∧ slots + 70 ≤ 7293034)
    (kk : ∀ (σ9 : z_S) (gt9 : Int64) (T9 : Nat → Nat × Nat) (X9 : z_X) (H9 : Heap) (locs9 : List Loc), wl_I E T9 X9 Y σ9 gt9 oo H9 → X9.1 0 0 = X.1 0 0 → va_S (wk_A E) s.heap H9 locs9 → ∀ ls : Array Slot, lv_has ls 9 [(0, .ref b), (1, .ref (X.1 0 0)), (2, .ref (Y 10 0)), (3, .ref oo), (4, .int (nI i))] → W p l e room_1 s m #[Value.ref b] below meth c H9 locs9 (cells + 4) (slots + 70) (lw_Z below #[Value.ref b] s) (F0 m 1308 ls [])) :
    ∀ ls : Array Slot, lv_has ls 9 [(0, .ref b), (1, .ref (X.1 0 0)), (2, .ref (Y 10 0)), (3, .ref oo), (4, .int (nI i))] → W p l e room_1 s m #[Value.ref b] below meth c H locs cells slots (lw_Z below #[Value.ref b] s) (F0 m 1253 ls []) := by
  intro ls hl
  obtain ⟨⟨hx, hb, hr, hml, hown, hlocks⟩, hts, ⟨hX, hbl, hL⟩, ⟨hV, hNC, hE⟩, hst⟩ := id C0
  obtain ⟨hA, ⟨th, hM⟩, hIv, hoT, hob, ov, hoo⟩ := hI0
  have hK := hV.k
  have hbA : ¬ wk_A E b := by unfold wk_A; omega
  have hA9 : ∀ q : Nat, s.heap.size ≤ q → wk_A E q := fun q h => by unfold wk_A; omega
  have hVH : EV E s H := hV.heap hS.1 (fun q hq => hS.2.1 q (by omega) (by unfold wk_A; omega))
  have hbH : E.2.2.1 ≤ H.size := by have := hS.1; omega
  refine lv_aload_n hx hb dL_law_1253 rfl (lv_at hl 1 rfl) ?_
  have hX9 : X.1 0 0 = X.1 0 0 := rfl
  refine wk_V (As := []) (rest := []) ⟨hx, hb, hml, hown, hts⟩ (c_X5_share l E hA hIv.1 hIv.2.1) (cwV 0 hts gL_law_X5_share rfl rfl rfl (by decide +kernel) ⟨(Nat.le_of_ble_eq_true rfl), (Nat.le_of_ble_eq_true rfl)⟩) (wk_recv hK hA.desk rfl) hK rfl hl.1 rfl (Nat.le_of_ble_eq_true rfl) dL_law_1254 ⟨by show _ ≤ 601024; omega, by show _ ≤ 7293034; omega⟩ ?_
  refine wk_eqls (st' := [.double (f_share σ gt)]) (by rw [f_share_eq hIv]) ?_
  refine lv_dstore (lv' := [(5, .double (f_share σ gt)), (0, .ref b), (1, .ref (X.1 0 0)), (2, .ref (Y 10 0)), (3, .ref oo), (4, .int (nI i))]) hx hb dL_law_1257 hl (by decide) rfl (fun ls hl => ?_)
  refine lv_aload_n hx hb dL_law_1259 rfl (lv_at hl 3 rfl) ?_
  refine we_V (As := []) (rest := []) ⟨hx, hb, hml, hown, hts⟩ (e_X6_share l E hM hIv.1 hIv.2.1 hIv.2.2.2) (cwV 0 hts gL_law_X6_share rfl rfl rfl (by decide +kernel) ⟨(Nat.le_of_ble_eq_true rfl), (Nat.le_of_ble_eq_true rfl)⟩) (wk_recv hK hM.obj rfl) hVH hS (wl_FMA hM.2) hA9 rfl hl.1 rfl (Nat.le_of_ble_eq_true rfl) dL_law_1260 ⟨by show _ ≤ 601024; omega, by show _ ≤ 7293034; omega⟩ (fun v9 H locs hR9 hz9 hk9 hS => ?_)
  obtain ⟨rfl, hM⟩ := hR9
  have hA := hA.kept (fun q hq hf => hk9 q hq (fun z => wl_DM z hf))
  have hoo := va_at.kept hoo (hk9 _ hoo.lt (wl_ooM hoT))
  have hVH : EV E s H := hV.heap hS.1 (fun q hq => hS.2.1 q (by omega) (by unfold wk_A; omega))
  have hbH : E.2.2.1 ≤ H.size := by have := hS.1; omega
  refine wk_eqls (st' := [.double (f_share σ gt)]) rfl ?_
  refine lv_dstore (lv' := [(7, .double (f_share σ gt)), (5, .double (f_share σ gt)), (0, .ref b), (1, .ref (X.1 0 0)), (2, .ref (Y 10 0)), (3, .ref oo), (4, .int (nI i))]) hx hb dL_law_1263 hl (by decide) rfl (fun ls hl => ?_)
  refine lv_dload hx hb dL_law_1265 (lv_at hl 1 rfl) ?_
  refine lv_dload hx hb dL_law_1267 (lv_at hl 0 rfl) ?_
  refine lv_dcmp hx hb dL_law_1269 ?_
  refine lv_if_eq (tgt := 1291) hx hb dL_law_1270 (by decide) (fun c_1270 => ?_) (fun c_1270 => ?_)
  · skip
    refine lv_goto (tgt := 1308) hx hb dL_law_1291 (by decide) ?_
    refine W.widen (k := cells + 4) (n := slots + 70) (by omega) (by omega) ?_
    exact kk σ gt _ X _ _ ⟨hA, ⟨_, hM⟩, hIv, hoT, hob, _, hoo⟩ hX9 hS ls (lv_sub hl [2, 3, 4, 5, 6] rfl)
  refine lv_dload hx hb dL_law_1273 (lv_at hl 1 rfl) ?_
  refine lv_dload hx hb dL_law_1275 (lv_at hl 1 rfl) ?_
  refine lv_dcmp hx hb dL_law_1277 ?_
  refine lv_if_eq (tgt := 1289) hx hb dL_law_1278 (by decide) (fun c_1278 => ?_) (fun c_1278 => ?_)
  · skip
    exact absurd c_1278 c_1270
  refine lv_dload hx hb dL_law_1281 (lv_at hl 0 rfl) ?_
  refine lv_dload hx hb dL_law_1283 (lv_at hl 0 rfl) ?_
  refine lv_dcmp hx hb dL_law_1285 ?_
  refine lv_if_ne (tgt := 1291) hx hb dL_law_1286 (by decide) (fun c_1286 => ?_) (fun c_1286 => ?_)
  · skip
    refine lv_goto (tgt := 1308) hx hb dL_law_1291 (by decide) ?_
    refine W.widen (k := cells + 4) (n := slots + 70) (by omega) (by omega) ?_
    exact kk σ gt _ X _ _ ⟨hA, ⟨_, hM⟩, hIv, hoT, hob, _, hoo⟩ hX9 hS ls (lv_sub hl [2, 3, 4, 5, 6] rfl)
  exact absurd c_1286 c_1270

set_option maxHeartbeats 4000000 in
set_option maxRecDepth 100000 in
theorem d_digest {p : Program} {l : Launch} {e : Env} {s : State} {m : MethodId} {below : List Frame} {meth : Method} {c : Code} {b L : Nat} {xs : Nat → Int32} {E : wk_E} {T : Nat → Nat × Nat} {X : z_X} {Y : Nat → Nat → Nat} {σ : z_S} {gt : Int64} {oo : Nat} {H : Heap} {locs : List Loc} {cells slots i : Nat} (C0 : wl_C p l s m meth c b L xs E) (hI0 : wl_I E T X Y σ gt oo H) (hS : va_S (wk_A E) s.heap H locs) (hi : i + 5 ≤ L) (hcl : cells + 4 ≤ 601024 ∧ slots + 70 ≤ 7293034)
    (kk : ∀ (σ9 : z_S) (gt9 : Int64) (T9 : Nat → Nat × Nat) (X9 : z_X) (H9 : Heap) (locs9 : List Loc), wl_I E T9 X9 Y σ9 gt9 oo H9 → X9.1 0 0 = X.1 0 0 → va_S (wk_A E) s.heap H9 locs9 → ∀ ls : Array Slot, lv_has ls 9 [(0, .ref b), (1, .ref (X.1 0 0)), (2, .ref (Y 10 0)), (3, .ref oo), (4, .int (nI i))] → W p l e room_1 s m #[Value.ref b] below meth c H9 locs9 (cells + 4) (slots + 70) (lw_Z below #[Value.ref b] s) (F0 m 1308 ls [])) :
    ∀ ls : Array Slot, lv_has ls 9 [(0, .ref b), (1, .ref (X.1 0 0)), (2, .ref (Y 10 0)), (3, .ref oo), (4, .int (nI i))] → W p l e room_1 s m #[Value.ref b] below meth c H locs cells slots (lw_Z below #[Value.ref b] s) (F0 m 1294 ls []) := by
  intro ls hl
  obtain ⟨⟨hx, hb, hr, hml, hown, hlocks⟩, hts, ⟨hX, hbl, hL⟩, ⟨hV, hNC, hE⟩, hst⟩ := id C0
  obtain ⟨hA, ⟨th, hM⟩, hIv, hoT, hob, ov, hoo⟩ := hI0
  have hK := hV.k
  have hbA : ¬ wk_A E b := by unfold wk_A; omega
  have hA9 : ∀ q : Nat, s.heap.size ≤ q → wk_A E q := fun q h => by unfold wk_A; omega
  have hVH : EV E s H := hV.heap hS.1 (fun q hq => hS.2.1 q (by omega) (by unfold wk_A; omega))
  have hbH : E.2.2.1 ≤ H.size := by have := hS.1; omega
  refine lv_aload_n hx hb dL_law_1294 rfl (lv_at hl 1 rfl) ?_
  have hX9 : X.1 0 0 = X.1 0 0 := rfl
  refine wk_V (As := []) (rest := []) ⟨hx, hb, hml, hown, hts⟩ (c_X5_digest l E hA hIv.1) (cwV 0 hts gL_law_X5_digest rfl rfl rfl (by decide +kernel) ⟨(Nat.le_of_ble_eq_true rfl), (Nat.le_of_ble_eq_true rfl)⟩) (wk_recv hK hA.desk rfl) hK rfl hl.1 rfl (Nat.le_of_ble_eq_true rfl) dL_law_1295 ⟨by show _ ≤ 601024; omega, by show _ ≤ 7293034; omega⟩ ?_
  refine lv_aload_n hx hb dL_law_1298 rfl (lv_at hl 2 rfl) ?_
  refine we_V (As := []) (rest := [.long (f_digest σ)]) ⟨hx, hb, hml, hown, hts⟩ (e_X6_digest l E hM hIv.1 hIv.2.1) (cwV 0 hts gL_law_X6_digest rfl rfl rfl (by decide +kernel) ⟨(Nat.le_of_ble_eq_true rfl), (Nat.le_of_ble_eq_true rfl)⟩) (wk_recv hK hM.obj rfl) hVH hS (wl_FMA hM.2) hA9 rfl hl.1 rfl (Nat.le_of_ble_eq_true rfl) dL_law_1299 ⟨by show _ ≤ 601024; omega, by show _ ≤ 7293034; omega⟩ (fun v9 H locs hR9 hz9 hk9 hS => ?_)
  obtain ⟨rfl, hM⟩ := hR9
  have hA := hA.kept (fun q hq hf => hk9 q hq (fun z => wl_DM z hf))
  have hoo := va_at.kept hoo (hk9 _ hoo.lt (wl_ooM hoT))
  have hVH : EV E s H := hV.heap hS.1 (fun q hq => hS.2.1 q (by omega) (by unfold wk_A; omega))
  have hbH : E.2.2.1 ≤ H.size := by have := hS.1; omega
  refine wk_eqls (st' := [.long (f_digest σ), .long (f_digest σ)]) rfl ?_
  refine W.lcmp hx hb dL_law_1302 ?_
  refine lv_if_eq (tgt := 1308) hx hb dL_law_1303 (by decide) (fun c_1303 => ?_) (fun c_1303 => ?_)
  · skip
    refine W.widen (k := cells + 4) (n := slots + 70) (by omega) (by omega) ?_
    exact kk σ gt _ X _ _ ⟨hA, ⟨_, hM⟩, hIv, hoT, hob, _, hoo⟩ hX9 hS ls (lv_sub hl [0, 1, 2, 3, 4] rfl)
  exact absurd (lg_cmp0.mpr rfl) c_1303
