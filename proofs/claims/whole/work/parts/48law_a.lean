set_option maxHeartbeats 4000000 in
set_option maxRecDepth 100000 in
theorem k_addAntenna {p : Program} {l : Launch} {e : Env} {s : State} {m : MethodId} {below : List Frame} {meth : Method} {c : Code} {b L : Nat} {xs : Nat → Int32} {E : wk_E} {T : Nat → Nat × Nat} {X : z_X} {Y : Nat → Nat → Nat} {σ : z_S} {gt : Int64} {oo : Nat} {H : Heap} {locs : List Loc} {cells slots i : Nat} {code : Nat} {ans : Int32} {σ9 : z_S} {gt9 : Int64} {rm2 : Room} (C0 : wl_C p l s m meth c b L xs E) (hI0 : wl_I E T X Y σ gt oo H) (hS : va_S (wk_A E) s.heap H locs) (hi : i + 5 ≤ L) (hcl : cells + 4 ≤ 601024 ∧ slots + 70 ≤ 7293034) (hcd : code < 4)
    (hw : ∀ {ov : Nat → Int64}, va_at E.1 vwCl (oo, .inl (E.2.1.2.2, 1, .inr (.inl ov))) H → we_MetP wl_NC l yL_addAntenna wsL_addAntenna rmW E H [.ref (X.1 0 0), .int (xs (i + 1)), .int (xs (i + 2)), .int (xs (i + 3)), .ref oo] (fun q => z_FD T q ∨ q = oo) 2 30 (wl_R E T X oo H code (Int32.toInt64 ans) σ9))
    (hm : ∀ {T9 : Nat → Nat × Nat} {th9 : Int32} {H9 : Heap}, MA E T9 Y σ th9 gt H9 → we_Met l yX6_addAntenna wsX6_addAntenna rm2 E H9 [.ref (Y 10 0), .int (xs (i + 1)), .int (xs (i + 2)), .int (xs (i + 3))] (z_FM T9) 0 0 (fun v H1 => v = some (.int (ans)) ∧ MA E T9 Y σ9 (nI code) gt9 H1)) (hrm : rm2.cells = 0 ∧ rm2.slots = 0 ∧ rm2.frames ≤ 200 ∧ rm2.locals ≤ 9000) (hIv9 : z_Iv σ9 gt9)
    (kk : ∀ (T9 : Nat → Nat × Nat) (X9 : z_X) (H9 : Heap) (locs9 : List Loc), wl_I E T9 X9 Y σ9 gt9 oo H9 → X9.1 0 0 = X.1 0 0 → va_S (wk_A E) s.heap H9 locs9 → ∀ ls : Array Slot, lv_has ls 9 [(0, .ref b), (1, .ref (X.1 0 0)), (2, .ref (Y 10 0)), (3, .ref oo), (4, .int (nI i))] → W p l e room_1 s m #[Value.ref b] below meth c H9 locs9 (cells + 4) (slots + 70) (lw_Z below #[Value.ref b] s) (F0 m 1308 ls [])) :
    ∀ ls : Array Slot, lv_has ls 9 [(0, .ref b), (1, .ref (X.1 0 0)), (2, .ref (Y 10 0)), (3, .ref oo), (4, .int (nI i))] → W p l e room_1 s m #[Value.ref b] below meth c H locs cells slots (lw_Z below #[Value.ref b] s) (F0 m 136 ls []) := by
  intro ls hl
  obtain ⟨⟨hx, hb, hr, hml, hown, hlocks⟩, hts, ⟨hX, hbl, hL⟩, ⟨hV, hNC, hE⟩, hst⟩ := id C0
  obtain ⟨hA, ⟨th, hM⟩, hIv, hoT, hob, ov, hoo⟩ := hI0
  have hK := hV.k
  have hbA : ¬ wk_A E b := by unfold wk_A; omega
  have hA9 : ∀ q : Nat, s.heap.size ≤ q → wk_A E q := fun q h => by unfold wk_A; omega
  have hVH : EV E s H := hV.heap hS.1 (fun q hq => hS.2.1 q (by omega) (by unfold wk_A; omega))
  have hbH : E.2.2.1 ≤ H.size := by have := hS.1; omega
  refine lv_aload_n hx hb dL_law_136 rfl (lv_at hl 1 rfl) ?_
  refine lv_aload_n hx hb dL_law_137 rfl (lv_at hl 0 rfl) ?_
  refine lv_iload hx hb dL_law_138 (lv_at hl 4 rfl) ?_
  refine lv_iconst (v := 1) hx hb dL_law_140 (by decide) ?_
  refine lv_iadd hx hb dL_law_141 ?_
  refine wk_eqi (show (nI i) + 1 = nI (i + 1) from nI_add i 1) ?_
  refine wl_sld hx hb hX hbl hbA hS (i + 1) rfl (by omega) (by omega) dL_law_142 ?_
  refine lv_aload_n hx hb dL_law_143 rfl (lv_at hl 0 rfl) ?_
  refine lv_iload hx hb dL_law_144 (lv_at hl 4 rfl) ?_
  refine lv_iconst (v := 2) hx hb dL_law_146 (by decide) ?_
  refine lv_iadd hx hb dL_law_147 ?_
  refine wk_eqi (show (nI i) + 2 = nI (i + 2) from nI_add i 2) ?_
  refine wl_sld hx hb hX hbl hbA hS (i + 2) rfl (by omega) (by omega) dL_law_148 ?_
  refine lv_aload_n hx hb dL_law_149 rfl (lv_at hl 0 rfl) ?_
  refine lv_iload hx hb dL_law_150 (lv_at hl 4 rfl) ?_
  refine lv_iconst (v := 3) hx hb dL_law_152 (by decide) ?_
  refine lv_iadd hx hb dL_law_153 ?_
  refine wk_eqi (show (nI i) + 3 = nI (i + 3) from nI_add i 3) ?_
  refine wl_sld hx hb hX hbl hbA hS (i + 3) rfl (by omega) (by omega) dL_law_154 ?_
  refine lv_aload_n hx hb dL_law_155 rfl (lv_at hl 3 rfl) ?_
  refine wl_S (As := [.ref (X.1 0 0), .int (xs (i + 1)), .int (xs (i + 2)), .int (xs (i + 3)), .ref oo]) (rest := []) ⟨hx, hb, hml, hown, hts⟩ (hw hoo) hNC (vx_cwSW 5 hts gL_law_L_addAntenna rfl rfl rfl (by decide +kernel) ⟨(Nat.le_of_ble_eq_true rfl), (Nat.le_of_ble_eq_true rfl)⟩) hVH hS (fun q hq => Or.elim hq (wl_FDA hA.2.1 q) (fun z => by rw [z]; exact hob)) hA9 rfl hl.1 rfl (Nat.le_of_ble_eq_true rfl) dL_law_156 ⟨by show _ ≤ 601024; omega, by show _ ≤ 7293034; omega⟩ (fun v9 H locs hR9 hz9 hk9 hS => ?_)
  obtain ⟨rfl, ⟨o1, hoo1, ho1⟩, T9, X9, hT9, hX9, hA⟩ := hR9
  have hM := wl_MAw hM hbH hT9 hoT hk9
  have hoT : T9 oo = (20, 0) := (hT9 _ hoo.lt).trans hoT
  have hoo := hoo1
  have hVH : EV E s H := hV.heap hS.1 (fun q hq => hS.2.1 q (by omega) (by unfold wk_A; omega))
  have hbH : E.2.2.1 ≤ H.size := by have := hS.1; omega
  refine wk_eqls (st' := [.int (nI code)]) rfl ?_
  refine lv_istore (lv' := [(5, .int (nI code)), (0, .ref b), (1, .ref (X.1 0 0)), (2, .ref (Y 10 0)), (3, .ref oo), (4, .int (nI i))]) hx hb dL_law_159 hl (by decide) rfl (fun ls hl => ?_)
  refine lv_aload_n hx hb dL_law_161 rfl (lv_at hl 3 rfl) ?_
  refine lv_aload_n hx hb dL_law_162 rfl (lv_at hl 1 rfl) ?_
  refine lv_iload hx hb dL_law_163 (lv_at hl 5 rfl) ?_
  refine lv_iconst (v := 1) hx hb dL_law_165 (by decide) ?_
  refine lv_iadd hx hb dL_law_166 ?_
  refine wk_eqi (show (nI i) + 1 = nI (i + 1) from nI_add i 1) ?_
  refine wl_sld hx hb hX hbl hbA hS (i + 1) rfl (by omega) (by omega) dL_law_167 ?_
  refine lv_aload_n hx hb dL_law_168 rfl (lv_at hl 1 rfl) ?_
  refine lv_iload hx hb dL_law_169 (lv_at hl 5 rfl) ?_
  refine lv_iconst (v := 2) hx hb dL_law_171 (by decide) ?_
  refine lv_iadd hx hb dL_law_172 ?_
  refine wk_eqi (show (nI i) + 2 = nI (i + 2) from nI_add i 2) ?_
  refine wl_sld hx hb hX hbl hbA hS (i + 2) rfl (by omega) (by omega) dL_law_173 ?_
  refine lv_aload_n hx hb dL_law_174 rfl (lv_at hl 1 rfl) ?_
  refine lv_iload hx hb dL_law_175 (lv_at hl 5 rfl) ?_
  refine lv_iconst (v := 3) hx hb dL_law_177 (by decide) ?_
  refine lv_iadd hx hb dL_law_178 ?_
  refine wk_eqi (show (nI i) + 3 = nI (i + 3) from nI_add i 3) ?_
  refine wl_sld hx hb hX hbl hbA hS (i + 3) rfl (by omega) (by omega) dL_law_179 ?_
  refine we_V (As := [.int (xs (i + 1)), .int (xs (i + 2)), .int (xs (i + 3))]) (rest := []) ⟨hx, hb, hml, hown, hts⟩ (hm hM) (cwV 3 hts gL_law_X6_addAntenna rfl hrm.1 hrm.2.1 (by decide +kernel) ⟨by show _ ≤ 2048; omega, by show _ ≤ 84000; omega⟩) (wk_recv hK hM.obj rfl) hVH hS (wl_FMA hM.2) hA9 rfl hl.1 rfl (Nat.le_of_ble_eq_true rfl) dL_law_180 ⟨by show _ ≤ 601024; omega, by show _ ≤ 7293034; omega⟩ (fun v9 H locs hR9 hz9 hk9 hS => ?_)
  obtain ⟨rfl, hM⟩ := hR9
  have hA := hA.kept (fun q hq hf => hk9 q hq (fun z => wl_DM z hf))
  have hoo := va_at.kept hoo (hk9 _ hoo.lt (wl_ooM hoT))
  have hVH : EV E s H := hV.heap hS.1 (fun q hq => hS.2.1 q (by omega) (by unfold wk_A; omega))
  have hbH : E.2.2.1 ≤ H.size := by have := hS.1; omega
  refine wk_eqls (st' := [.int ans]) rfl ?_
  refine lv_istore (lv' := [(6, .int ans), (5, .int (nI code)), (0, .ref b), (1, .ref (X.1 0 0)), (2, .ref (Y 10 0)), (3, .ref oo), (4, .int (nI i))]) hx hb dL_law_183 hl (by decide) rfl (fun ls hl => ?_)
  refine lv_aload_n hx hb dL_law_185 rfl (lv_at hl 4 rfl) ?_
  refine wk_V (As := []) (rest := []) ⟨hx, hb, hml, hown, hts⟩ (c_X6_thrown l E hM hIv9.1) (cwV 0 hts gL_law_X6_thrown rfl rfl rfl (by decide +kernel) ⟨(Nat.le_of_ble_eq_true rfl), (Nat.le_of_ble_eq_true rfl)⟩) (wk_recv hK hM.obj rfl) hK rfl hl.1 rfl (Nat.le_of_ble_eq_true rfl) dL_law_186 ⟨by show _ ≤ 601024; omega, by show _ ≤ 7293034; omega⟩ ?_
  refine lv_iload hx hb dL_law_189 (lv_at hl 1 rfl) ?_
  refine lv_icmp_eq (tgt := 196) hx hb dL_law_191 (by decide) (fun c_191 => ?_) (fun c_191 => ?_)
  · skip
    have e_191 : code = code := wk_ceqt (by omega) (by omega) c_191
    refine lv_iload hx hb dL_law_196 (lv_at hl 1 rfl) ?_
    refine lv_if_ne (tgt := 213) hx hb dL_law_198 (by decide) (fun c_198 => ?_) (fun c_198 => ?_)
    · skip
      have e_198 : ¬ code = 0 := wk_cnet (b := 0) (by omega) (by decide) c_198
      refine lv_goto (tgt := 1308) hx hb dL_law_213 (by decide) ?_
      refine W.widen (k := cells + 4) (n := slots + 70) (by omega) (by omega) ?_
      exact kk _ X9 _ _ ⟨hA, ⟨_, hM⟩, hIv9, hoT, hob, _, hoo⟩ hX9 hS ls (lv_sub hl [2, 3, 4, 5, 6] rfl)
    have e_198 : code = 0 := wk_cnef (b := 0) (by omega) (by decide) c_198
    refine lv_aload_n hx hb dL_law_201 rfl (lv_at hl 5 rfl) ?_
    refine lv_iconst (v := 0) hx hb dL_law_202 (by decide) ?_
    refine wk_lald (n := 1) (f := o1) hx hb hK hoo 0 rfl (by decide) (by decide) dL_law_203 ?_
    refine lv_iload hx hb dL_law_204 (lv_at hl 0 rfl) ?_
    refine lv_i2l (v := ans.toInt64) hx hb dL_law_206 rfl ?_
    refine W.lcmp hx hb dL_law_207 ?_
    refine lv_if_eq (tgt := 213) hx hb dL_law_208 (by decide) (fun c_208 => ?_) (fun c_208 => ?_)
    · skip
      refine lv_goto (tgt := 1308) hx hb dL_law_213 (by decide) ?_
      refine W.widen (k := cells + 4) (n := slots + 70) (by omega) (by omega) ?_
      exact kk _ X9 _ _ ⟨hA, ⟨_, hM⟩, hIv9, hoT, hob, _, hoo⟩ hX9 hS ls (lv_sub hl [2, 3, 4, 5, 6] rfl)
    exact absurd (lg_cmp0.mpr (by rw [ho1 e_198])) c_208
  have e_191 : ¬ code = code := wk_ceqf (by omega) (by omega) c_191
  exact absurd rfl e_191

set_option maxHeartbeats 4000000 in
set_option maxRecDepth 100000 in
theorem k_addSatellite {p : Program} {l : Launch} {e : Env} {s : State} {m : MethodId} {below : List Frame} {meth : Method} {c : Code} {b L : Nat} {xs : Nat → Int32} {E : wk_E} {T : Nat → Nat × Nat} {X : z_X} {Y : Nat → Nat → Nat} {σ : z_S} {gt : Int64} {oo : Nat} {H : Heap} {locs : List Loc} {cells slots i : Nat} {code : Nat} {ans : Int32} {σ9 : z_S} {gt9 : Int64} {rm2 : Room} (C0 : wl_C p l s m meth c b L xs E) (hI0 : wl_I E T X Y σ gt oo H) (hS : va_S (wk_A E) s.heap H locs) (hi : i + 5 ≤ L) (hcl : cells + 4 ≤ 601024 ∧ slots + 70 ≤ 7293034) (hcd : code < 4)
    (hw : ∀ {ov : Nat → Int64}, va_at E.1 vwCl (oo, .inl (E.2.1.2.2, 1, .inr (.inl ov))) H → we_MetP wl_NC l yL_addSatellite wsL_addSatellite rmW E H [.ref (X.1 0 0), .int (xs (i + 1)), .int (xs (i + 2)), .int (xs (i + 3)), .int (xs (i + 4)), .ref oo] (fun q => z_FD T q ∨ q = oo) 2 30 (wl_R E T X oo H code (Int32.toInt64 ans) σ9))
    (hm : ∀ {T9 : Nat → Nat × Nat} {th9 : Int32} {H9 : Heap}, MA E T9 Y σ th9 gt H9 → we_Met l yX6_addSatellite wsX6_addSatellite rm2 E H9 [.ref (Y 10 0), .int (xs (i + 1)), .int (xs (i + 2)), .int (xs (i + 3)), .int (xs (i + 4))] (z_FM T9) 0 0 (fun v H1 => v = some (.int (ans)) ∧ MA E T9 Y σ9 (nI code) gt9 H1)) (hrm : rm2.cells = 0 ∧ rm2.slots = 0 ∧ rm2.frames ≤ 200 ∧ rm2.locals ≤ 9000) (hIv9 : z_Iv σ9 gt9)
    (kk : ∀ (T9 : Nat → Nat × Nat) (X9 : z_X) (H9 : Heap) (locs9 : List Loc), wl_I E T9 X9 Y σ9 gt9 oo H9 → X9.1 0 0 = X.1 0 0 → va_S (wk_A E) s.heap H9 locs9 → ∀ ls : Array Slot, lv_has ls 9 [(0, .ref b), (1, .ref (X.1 0 0)), (2, .ref (Y 10 0)), (3, .ref oo), (4, .int (nI i))] → W p l e room_1 s m #[Value.ref b] below meth c H9 locs9 (cells + 4) (slots + 70) (lw_Z below #[Value.ref b] s) (F0 m 1308 ls [])) :
    ∀ ls : Array Slot, lv_has ls 9 [(0, .ref b), (1, .ref (X.1 0 0)), (2, .ref (Y 10 0)), (3, .ref oo), (4, .int (nI i))] → W p l e room_1 s m #[Value.ref b] below meth c H locs cells slots (lw_Z below #[Value.ref b] s) (F0 m 216 ls []) := by
  intro ls hl
  obtain ⟨⟨hx, hb, hr, hml, hown, hlocks⟩, hts, ⟨hX, hbl, hL⟩, ⟨hV, hNC, hE⟩, hst⟩ := id C0
  obtain ⟨hA, ⟨th, hM⟩, hIv, hoT, hob, ov, hoo⟩ := hI0
  have hK := hV.k
  have hbA : ¬ wk_A E b := by unfold wk_A; omega
  have hA9 : ∀ q : Nat, s.heap.size ≤ q → wk_A E q := fun q h => by unfold wk_A; omega
  have hVH : EV E s H := hV.heap hS.1 (fun q hq => hS.2.1 q (by omega) (by unfold wk_A; omega))
  have hbH : E.2.2.1 ≤ H.size := by have := hS.1; omega
  refine lv_aload_n hx hb dL_law_216 rfl (lv_at hl 1 rfl) ?_
  refine lv_aload_n hx hb dL_law_217 rfl (lv_at hl 0 rfl) ?_
  refine lv_iload hx hb dL_law_218 (lv_at hl 4 rfl) ?_
  refine lv_iconst (v := 1) hx hb dL_law_220 (by decide) ?_
  refine lv_iadd hx hb dL_law_221 ?_
  refine wk_eqi (show (nI i) + 1 = nI (i + 1) from nI_add i 1) ?_
  refine wl_sld hx hb hX hbl hbA hS (i + 1) rfl (by omega) (by omega) dL_law_222 ?_
  refine lv_aload_n hx hb dL_law_223 rfl (lv_at hl 0 rfl) ?_
  refine lv_iload hx hb dL_law_224 (lv_at hl 4 rfl) ?_
  refine lv_iconst (v := 2) hx hb dL_law_226 (by decide) ?_
  refine lv_iadd hx hb dL_law_227 ?_
  refine wk_eqi (show (nI i) + 2 = nI (i + 2) from nI_add i 2) ?_
  refine wl_sld hx hb hX hbl hbA hS (i + 2) rfl (by omega) (by omega) dL_law_228 ?_
  refine lv_aload_n hx hb dL_law_229 rfl (lv_at hl 0 rfl) ?_
  refine lv_iload hx hb dL_law_230 (lv_at hl 4 rfl) ?_
  refine lv_iconst (v := 3) hx hb dL_law_232 (by decide) ?_
  refine lv_iadd hx hb dL_law_233 ?_
  refine wk_eqi (show (nI i) + 3 = nI (i + 3) from nI_add i 3) ?_
  refine wl_sld hx hb hX hbl hbA hS (i + 3) rfl (by omega) (by omega) dL_law_234 ?_
  refine lv_aload_n hx hb dL_law_235 rfl (lv_at hl 0 rfl) ?_
  refine lv_iload hx hb dL_law_236 (lv_at hl 4 rfl) ?_
  refine lv_iconst (v := 4) hx hb dL_law_238 (by decide) ?_
  refine lv_iadd hx hb dL_law_239 ?_
  refine wk_eqi (show (nI i) + 4 = nI (i + 4) from nI_add i 4) ?_
  refine wl_sld hx hb hX hbl hbA hS (i + 4) rfl (by omega) (by omega) dL_law_240 ?_
  refine lv_aload_n hx hb dL_law_241 rfl (lv_at hl 3 rfl) ?_
  refine wl_S (As := [.ref (X.1 0 0), .int (xs (i + 1)), .int (xs (i + 2)), .int (xs (i + 3)), .int (xs (i + 4)), .ref oo]) (rest := []) ⟨hx, hb, hml, hown, hts⟩ (hw hoo) hNC (vx_cwSW 6 hts gL_law_L_addSatellite rfl rfl rfl (by decide +kernel) ⟨(Nat.le_of_ble_eq_true rfl), (Nat.le_of_ble_eq_true rfl)⟩) hVH hS (fun q hq => Or.elim hq (wl_FDA hA.2.1 q) (fun z => by rw [z]; exact hob)) hA9 rfl hl.1 rfl (Nat.le_of_ble_eq_true rfl) dL_law_242 ⟨by show _ ≤ 601024; omega, by show _ ≤ 7293034; omega⟩ (fun v9 H locs hR9 hz9 hk9 hS => ?_)
  obtain ⟨rfl, ⟨o1, hoo1, ho1⟩, T9, X9, hT9, hX9, hA⟩ := hR9
  have hM := wl_MAw hM hbH hT9 hoT hk9
  have hoT : T9 oo = (20, 0) := (hT9 _ hoo.lt).trans hoT
  have hoo := hoo1
  have hVH : EV E s H := hV.heap hS.1 (fun q hq => hS.2.1 q (by omega) (by unfold wk_A; omega))
  have hbH : E.2.2.1 ≤ H.size := by have := hS.1; omega
  refine wk_eqls (st' := [.int (nI code)]) rfl ?_
  refine lv_istore (lv' := [(5, .int (nI code)), (0, .ref b), (1, .ref (X.1 0 0)), (2, .ref (Y 10 0)), (3, .ref oo), (4, .int (nI i))]) hx hb dL_law_245 hl (by decide) rfl (fun ls hl => ?_)
  refine lv_aload_n hx hb dL_law_247 rfl (lv_at hl 3 rfl) ?_
  refine lv_aload_n hx hb dL_law_248 rfl (lv_at hl 1 rfl) ?_
  refine lv_iload hx hb dL_law_249 (lv_at hl 5 rfl) ?_
  refine lv_iconst (v := 1) hx hb dL_law_251 (by decide) ?_
  refine lv_iadd hx hb dL_law_252 ?_
  refine wk_eqi (show (nI i) + 1 = nI (i + 1) from nI_add i 1) ?_
  refine wl_sld hx hb hX hbl hbA hS (i + 1) rfl (by omega) (by omega) dL_law_253 ?_
  refine lv_aload_n hx hb dL_law_254 rfl (lv_at hl 1 rfl) ?_
  refine lv_iload hx hb dL_law_255 (lv_at hl 5 rfl) ?_
  refine lv_iconst (v := 2) hx hb dL_law_257 (by decide) ?_
  refine lv_iadd hx hb dL_law_258 ?_
  refine wk_eqi (show (nI i) + 2 = nI (i + 2) from nI_add i 2) ?_
  refine wl_sld hx hb hX hbl hbA hS (i + 2) rfl (by omega) (by omega) dL_law_259 ?_
  refine lv_aload_n hx hb dL_law_260 rfl (lv_at hl 1 rfl) ?_
  refine lv_iload hx hb dL_law_261 (lv_at hl 5 rfl) ?_
  refine lv_iconst (v := 3) hx hb dL_law_263 (by decide) ?_
  refine lv_iadd hx hb dL_law_264 ?_
  refine wk_eqi (show (nI i) + 3 = nI (i + 3) from nI_add i 3) ?_
  refine wl_sld hx hb hX hbl hbA hS (i + 3) rfl (by omega) (by omega) dL_law_265 ?_
  refine lv_aload_n hx hb dL_law_266 rfl (lv_at hl 1 rfl) ?_
  refine lv_iload hx hb dL_law_267 (lv_at hl 5 rfl) ?_
  refine lv_iconst (v := 4) hx hb dL_law_269 (by decide) ?_
  refine lv_iadd hx hb dL_law_270 ?_
  refine wk_eqi (show (nI i) + 4 = nI (i + 4) from nI_add i 4) ?_
  refine wl_sld hx hb hX hbl hbA hS (i + 4) rfl (by omega) (by omega) dL_law_271 ?_
  refine we_V (As := [.int (xs (i + 1)), .int (xs (i + 2)), .int (xs (i + 3)), .int (xs (i + 4))]) (rest := []) ⟨hx, hb, hml, hown, hts⟩ (hm hM) (cwV 4 hts gL_law_X6_addSatellite rfl hrm.1 hrm.2.1 (by decide +kernel) ⟨by show _ ≤ 2048; omega, by show _ ≤ 84000; omega⟩) (wk_recv hK hM.obj rfl) hVH hS (wl_FMA hM.2) hA9 rfl hl.1 rfl (Nat.le_of_ble_eq_true rfl) dL_law_272 ⟨by show _ ≤ 601024; omega, by show _ ≤ 7293034; omega⟩ (fun v9 H locs hR9 hz9 hk9 hS => ?_)
  obtain ⟨rfl, hM⟩ := hR9
  have hA := hA.kept (fun q hq hf => hk9 q hq (fun z => wl_DM z hf))
  have hoo := va_at.kept hoo (hk9 _ hoo.lt (wl_ooM hoT))
  have hVH : EV E s H := hV.heap hS.1 (fun q hq => hS.2.1 q (by omega) (by unfold wk_A; omega))
  have hbH : E.2.2.1 ≤ H.size := by have := hS.1; omega
  refine wk_eqls (st' := [.int ans]) rfl ?_
  refine lv_istore (lv' := [(6, .int ans), (5, .int (nI code)), (0, .ref b), (1, .ref (X.1 0 0)), (2, .ref (Y 10 0)), (3, .ref oo), (4, .int (nI i))]) hx hb dL_law_275 hl (by decide) rfl (fun ls hl => ?_)
  refine lv_aload_n hx hb dL_law_277 rfl (lv_at hl 4 rfl) ?_
  refine wk_V (As := []) (rest := []) ⟨hx, hb, hml, hown, hts⟩ (c_X6_thrown l E hM hIv9.1) (cwV 0 hts gL_law_X6_thrown rfl rfl rfl (by decide +kernel) ⟨(Nat.le_of_ble_eq_true rfl), (Nat.le_of_ble_eq_true rfl)⟩) (wk_recv hK hM.obj rfl) hK rfl hl.1 rfl (Nat.le_of_ble_eq_true rfl) dL_law_278 ⟨by show _ ≤ 601024; omega, by show _ ≤ 7293034; omega⟩ ?_
  refine lv_iload hx hb dL_law_281 (lv_at hl 1 rfl) ?_
  refine lv_icmp_eq (tgt := 288) hx hb dL_law_283 (by decide) (fun c_283 => ?_) (fun c_283 => ?_)
  · skip
    have e_283 : code = code := wk_ceqt (by omega) (by omega) c_283
    refine lv_iload hx hb dL_law_288 (lv_at hl 1 rfl) ?_
    refine lv_if_ne (tgt := 305) hx hb dL_law_290 (by decide) (fun c_290 => ?_) (fun c_290 => ?_)
    · skip
      have e_290 : ¬ code = 0 := wk_cnet (b := 0) (by omega) (by decide) c_290
      refine lv_goto (tgt := 1308) hx hb dL_law_305 (by decide) ?_
      refine W.widen (k := cells + 4) (n := slots + 70) (by omega) (by omega) ?_
      exact kk _ X9 _ _ ⟨hA, ⟨_, hM⟩, hIv9, hoT, hob, _, hoo⟩ hX9 hS ls (lv_sub hl [2, 3, 4, 5, 6] rfl)
    have e_290 : code = 0 := wk_cnef (b := 0) (by omega) (by decide) c_290
    refine lv_aload_n hx hb dL_law_293 rfl (lv_at hl 5 rfl) ?_
    refine lv_iconst (v := 0) hx hb dL_law_294 (by decide) ?_
    refine wk_lald (n := 1) (f := o1) hx hb hK hoo 0 rfl (by decide) (by decide) dL_law_295 ?_
    refine lv_iload hx hb dL_law_296 (lv_at hl 0 rfl) ?_
    refine lv_i2l (v := ans.toInt64) hx hb dL_law_298 rfl ?_
    refine W.lcmp hx hb dL_law_299 ?_
    refine lv_if_eq (tgt := 305) hx hb dL_law_300 (by decide) (fun c_300 => ?_) (fun c_300 => ?_)
    · skip
      refine lv_goto (tgt := 1308) hx hb dL_law_305 (by decide) ?_
      refine W.widen (k := cells + 4) (n := slots + 70) (by omega) (by omega) ?_
      exact kk _ X9 _ _ ⟨hA, ⟨_, hM⟩, hIv9, hoT, hob, _, hoo⟩ hX9 hS ls (lv_sub hl [2, 3, 4, 5, 6] rfl)
    exact absurd (lg_cmp0.mpr (by rw [ho1 e_290])) c_300
  have e_283 : ¬ code = code := wk_ceqf (by omega) (by omega) c_283
  exact absurd rfl e_283

set_option maxHeartbeats 4000000 in
set_option maxRecDepth 100000 in
theorem k_addPass {p : Program} {l : Launch} {e : Env} {s : State} {m : MethodId} {below : List Frame} {meth : Method} {c : Code} {b L : Nat} {xs : Nat → Int32} {E : wk_E} {T : Nat → Nat × Nat} {X : z_X} {Y : Nat → Nat → Nat} {σ : z_S} {gt : Int64} {oo : Nat} {H : Heap} {locs : List Loc} {cells slots i : Nat} {code : Nat} {ans : Int32} {σ9 : z_S} {gt9 : Int64} {rm2 : Room} (C0 : wl_C p l s m meth c b L xs E) (hI0 : wl_I E T X Y σ gt oo H) (hS : va_S (wk_A E) s.heap H locs) (hi : i + 5 ≤ L) (hcl : cells + 4 ≤ 601024 ∧ slots + 70 ≤ 7293034) (hcd : code < 4)
    (hw : ∀ {ov : Nat → Int64}, va_at E.1 vwCl (oo, .inl (E.2.1.2.2, 1, .inr (.inl ov))) H → we_MetP wl_NC l yL_addPass wsL_addPass rmW E H [.ref (X.1 0 0), .int (xs (i + 1)), .int (xs (i + 2)), .int (xs (i + 3)), .int (xs (i + 4)), .ref oo] (fun q => z_FD T q ∨ q = oo) 2 30 (wl_R E T X oo H code (Int32.toInt64 ans) σ9))
    (hm : ∀ {T9 : Nat → Nat × Nat} {th9 : Int32} {H9 : Heap}, MA E T9 Y σ th9 gt H9 → we_Met l yX6_addPass wsX6_addPass rm2 E H9 [.ref (Y 10 0), .int (xs (i + 1)), .int (xs (i + 2)), .int (xs (i + 3)), .int (xs (i + 4))] (z_FM T9) 0 0 (fun v H1 => v = some (.int (ans)) ∧ MA E T9 Y σ9 (nI code) gt9 H1)) (hrm : rm2.cells = 0 ∧ rm2.slots = 0 ∧ rm2.frames ≤ 200 ∧ rm2.locals ≤ 9000) (hIv9 : z_Iv σ9 gt9)
    (kk : ∀ (T9 : Nat → Nat × Nat) (X9 : z_X) (H9 : Heap) (locs9 : List Loc), wl_I E T9 X9 Y σ9 gt9 oo H9 → X9.1 0 0 = X.1 0 0 → va_S (wk_A E) s.heap H9 locs9 → ∀ ls : Array Slot, lv_has ls 9 [(0, .ref b), (1, .ref (X.1 0 0)), (2, .ref (Y 10 0)), (3, .ref oo), (4, .int (nI i))] → W p l e room_1 s m #[Value.ref b] below meth c H9 locs9 (cells + 4) (slots + 70) (lw_Z below #[Value.ref b] s) (F0 m 1308 ls [])) :
    ∀ ls : Array Slot, lv_has ls 9 [(0, .ref b), (1, .ref (X.1 0 0)), (2, .ref (Y 10 0)), (3, .ref oo), (4, .int (nI i))] → W p l e room_1 s m #[Value.ref b] below meth c H locs cells slots (lw_Z below #[Value.ref b] s) (F0 m 308 ls []) := by
  intro ls hl
  obtain ⟨⟨hx, hb, hr, hml, hown, hlocks⟩, hts, ⟨hX, hbl, hL⟩, ⟨hV, hNC, hE⟩, hst⟩ := id C0
  obtain ⟨hA, ⟨th, hM⟩, hIv, hoT, hob, ov, hoo⟩ := hI0
  have hK := hV.k
  have hbA : ¬ wk_A E b := by unfold wk_A; omega
  have hA9 : ∀ q : Nat, s.heap.size ≤ q → wk_A E q := fun q h => by unfold wk_A; omega
  have hVH : EV E s H := hV.heap hS.1 (fun q hq => hS.2.1 q (by omega) (by unfold wk_A; omega))
  have hbH : E.2.2.1 ≤ H.size := by have := hS.1; omega
  refine lv_aload_n hx hb dL_law_308 rfl (lv_at hl 1 rfl) ?_
  refine lv_aload_n hx hb dL_law_309 rfl (lv_at hl 0 rfl) ?_
  refine lv_iload hx hb dL_law_310 (lv_at hl 4 rfl) ?_
  refine lv_iconst (v := 1) hx hb dL_law_312 (by decide) ?_
  refine lv_iadd hx hb dL_law_313 ?_
  refine wk_eqi (show (nI i) + 1 = nI (i + 1) from nI_add i 1) ?_
  refine wl_sld hx hb hX hbl hbA hS (i + 1) rfl (by omega) (by omega) dL_law_314 ?_
  refine lv_aload_n hx hb dL_law_315 rfl (lv_at hl 0 rfl) ?_
  refine lv_iload hx hb dL_law_316 (lv_at hl 4 rfl) ?_
  refine lv_iconst (v := 2) hx hb dL_law_318 (by decide) ?_
  refine lv_iadd hx hb dL_law_319 ?_
  refine wk_eqi (show (nI i) + 2 = nI (i + 2) from nI_add i 2) ?_
  refine wl_sld hx hb hX hbl hbA hS (i + 2) rfl (by omega) (by omega) dL_law_320 ?_
  refine lv_aload_n hx hb dL_law_321 rfl (lv_at hl 0 rfl) ?_
  refine lv_iload hx hb dL_law_322 (lv_at hl 4 rfl) ?_
  refine lv_iconst (v := 3) hx hb dL_law_324 (by decide) ?_
  refine lv_iadd hx hb dL_law_325 ?_
  refine wk_eqi (show (nI i) + 3 = nI (i + 3) from nI_add i 3) ?_
  refine wl_sld hx hb hX hbl hbA hS (i + 3) rfl (by omega) (by omega) dL_law_326 ?_
  refine lv_aload_n hx hb dL_law_327 rfl (lv_at hl 0 rfl) ?_
  refine lv_iload hx hb dL_law_328 (lv_at hl 4 rfl) ?_
  refine lv_iconst (v := 4) hx hb dL_law_330 (by decide) ?_
  refine lv_iadd hx hb dL_law_331 ?_
  refine wk_eqi (show (nI i) + 4 = nI (i + 4) from nI_add i 4) ?_
  refine wl_sld hx hb hX hbl hbA hS (i + 4) rfl (by omega) (by omega) dL_law_332 ?_
  refine lv_aload_n hx hb dL_law_333 rfl (lv_at hl 3 rfl) ?_
  refine wl_S (As := [.ref (X.1 0 0), .int (xs (i + 1)), .int (xs (i + 2)), .int (xs (i + 3)), .int (xs (i + 4)), .ref oo]) (rest := []) ⟨hx, hb, hml, hown, hts⟩ (hw hoo) hNC (vx_cwSW 6 hts gL_law_L_addPass rfl rfl rfl (by decide +kernel) ⟨(Nat.le_of_ble_eq_true rfl), (Nat.le_of_ble_eq_true rfl)⟩) hVH hS (fun q hq => Or.elim hq (wl_FDA hA.2.1 q) (fun z => by rw [z]; exact hob)) hA9 rfl hl.1 rfl (Nat.le_of_ble_eq_true rfl) dL_law_334 ⟨by show _ ≤ 601024; omega, by show _ ≤ 7293034; omega⟩ (fun v9 H locs hR9 hz9 hk9 hS => ?_)
  obtain ⟨rfl, ⟨o1, hoo1, ho1⟩, T9, X9, hT9, hX9, hA⟩ := hR9
  have hM := wl_MAw hM hbH hT9 hoT hk9
  have hoT : T9 oo = (20, 0) := (hT9 _ hoo.lt).trans hoT
  have hoo := hoo1
  have hVH : EV E s H := hV.heap hS.1 (fun q hq => hS.2.1 q (by omega) (by unfold wk_A; omega))
  have hbH : E.2.2.1 ≤ H.size := by have := hS.1; omega
  refine wk_eqls (st' := [.int (nI code)]) rfl ?_
  refine lv_istore (lv' := [(5, .int (nI code)), (0, .ref b), (1, .ref (X.1 0 0)), (2, .ref (Y 10 0)), (3, .ref oo), (4, .int (nI i))]) hx hb dL_law_337 hl (by decide) rfl (fun ls hl => ?_)
  refine lv_aload_n hx hb dL_law_339 rfl (lv_at hl 3 rfl) ?_
  refine lv_aload_n hx hb dL_law_340 rfl (lv_at hl 1 rfl) ?_
  refine lv_iload hx hb dL_law_341 (lv_at hl 5 rfl) ?_
  refine lv_iconst (v := 1) hx hb dL_law_343 (by decide) ?_
  refine lv_iadd hx hb dL_law_344 ?_
  refine wk_eqi (show (nI i) + 1 = nI (i + 1) from nI_add i 1) ?_
  refine wl_sld hx hb hX hbl hbA hS (i + 1) rfl (by omega) (by omega) dL_law_345 ?_
  refine lv_aload_n hx hb dL_law_346 rfl (lv_at hl 1 rfl) ?_
  refine lv_iload hx hb dL_law_347 (lv_at hl 5 rfl) ?_
  refine lv_iconst (v := 2) hx hb dL_law_349 (by decide) ?_
  refine lv_iadd hx hb dL_law_350 ?_
  refine wk_eqi (show (nI i) + 2 = nI (i + 2) from nI_add i 2) ?_
  refine wl_sld hx hb hX hbl hbA hS (i + 2) rfl (by omega) (by omega) dL_law_351 ?_
  refine lv_aload_n hx hb dL_law_352 rfl (lv_at hl 1 rfl) ?_
  refine lv_iload hx hb dL_law_353 (lv_at hl 5 rfl) ?_
  refine lv_iconst (v := 3) hx hb dL_law_355 (by decide) ?_
  refine lv_iadd hx hb dL_law_356 ?_
  refine wk_eqi (show (nI i) + 3 = nI (i + 3) from nI_add i 3) ?_
  refine wl_sld hx hb hX hbl hbA hS (i + 3) rfl (by omega) (by omega) dL_law_357 ?_
  refine lv_aload_n hx hb dL_law_358 rfl (lv_at hl 1 rfl) ?_
  refine lv_iload hx hb dL_law_359 (lv_at hl 5 rfl) ?_
  refine lv_iconst (v := 4) hx hb dL_law_361 (by decide) ?_
  refine lv_iadd hx hb dL_law_362 ?_
  refine wk_eqi (show (nI i) + 4 = nI (i + 4) from nI_add i 4) ?_
  refine wl_sld hx hb hX hbl hbA hS (i + 4) rfl (by omega) (by omega) dL_law_363 ?_
  refine we_V (As := [.int (xs (i + 1)), .int (xs (i + 2)), .int (xs (i + 3)), .int (xs (i + 4))]) (rest := []) ⟨hx, hb, hml, hown, hts⟩ (hm hM) (cwV 4 hts gL_law_X6_addPass rfl hrm.1 hrm.2.1 (by decide +kernel) ⟨by show _ ≤ 2048; omega, by show _ ≤ 84000; omega⟩) (wk_recv hK hM.obj rfl) hVH hS (wl_FMA hM.2) hA9 rfl hl.1 rfl (Nat.le_of_ble_eq_true rfl) dL_law_364 ⟨by show _ ≤ 601024; omega, by show _ ≤ 7293034; omega⟩ (fun v9 H locs hR9 hz9 hk9 hS => ?_)
  obtain ⟨rfl, hM⟩ := hR9
  have hA := hA.kept (fun q hq hf => hk9 q hq (fun z => wl_DM z hf))
  have hoo := va_at.kept hoo (hk9 _ hoo.lt (wl_ooM hoT))
  have hVH : EV E s H := hV.heap hS.1 (fun q hq => hS.2.1 q (by omega) (by unfold wk_A; omega))
  have hbH : E.2.2.1 ≤ H.size := by have := hS.1; omega
  refine wk_eqls (st' := [.int ans]) rfl ?_
  refine lv_istore (lv' := [(6, .int ans), (5, .int (nI code)), (0, .ref b), (1, .ref (X.1 0 0)), (2, .ref (Y 10 0)), (3, .ref oo), (4, .int (nI i))]) hx hb dL_law_367 hl (by decide) rfl (fun ls hl => ?_)
  refine lv_aload_n hx hb dL_law_369 rfl (lv_at hl 4 rfl) ?_
  refine wk_V (As := []) (rest := []) ⟨hx, hb, hml, hown, hts⟩ (c_X6_thrown l E hM hIv9.1) (cwV 0 hts gL_law_X6_thrown rfl rfl rfl (by decide +kernel) ⟨(Nat.le_of_ble_eq_true rfl), (Nat.le_of_ble_eq_true rfl)⟩) (wk_recv hK hM.obj rfl) hK rfl hl.1 rfl (Nat.le_of_ble_eq_true rfl) dL_law_370 ⟨by show _ ≤ 601024; omega, by show _ ≤ 7293034; omega⟩ ?_
  refine lv_iload hx hb dL_law_373 (lv_at hl 1 rfl) ?_
  refine lv_icmp_eq (tgt := 380) hx hb dL_law_375 (by decide) (fun c_375 => ?_) (fun c_375 => ?_)
  · skip
    have e_375 : code = code := wk_ceqt (by omega) (by omega) c_375
    refine lv_iload hx hb dL_law_380 (lv_at hl 1 rfl) ?_
    refine lv_if_ne (tgt := 397) hx hb dL_law_382 (by decide) (fun c_382 => ?_) (fun c_382 => ?_)
    · skip
      have e_382 : ¬ code = 0 := wk_cnet (b := 0) (by omega) (by decide) c_382
      refine lv_goto (tgt := 1308) hx hb dL_law_397 (by decide) ?_
      refine W.widen (k := cells + 4) (n := slots + 70) (by omega) (by omega) ?_
      exact kk _ X9 _ _ ⟨hA, ⟨_, hM⟩, hIv9, hoT, hob, _, hoo⟩ hX9 hS ls (lv_sub hl [2, 3, 4, 5, 6] rfl)
    have e_382 : code = 0 := wk_cnef (b := 0) (by omega) (by decide) c_382
    refine lv_aload_n hx hb dL_law_385 rfl (lv_at hl 5 rfl) ?_
    refine lv_iconst (v := 0) hx hb dL_law_386 (by decide) ?_
    refine wk_lald (n := 1) (f := o1) hx hb hK hoo 0 rfl (by decide) (by decide) dL_law_387 ?_
    refine lv_iload hx hb dL_law_388 (lv_at hl 0 rfl) ?_
    refine lv_i2l (v := ans.toInt64) hx hb dL_law_390 rfl ?_
    refine W.lcmp hx hb dL_law_391 ?_
    refine lv_if_eq (tgt := 397) hx hb dL_law_392 (by decide) (fun c_392 => ?_) (fun c_392 => ?_)
    · skip
      refine lv_goto (tgt := 1308) hx hb dL_law_397 (by decide) ?_
      refine W.widen (k := cells + 4) (n := slots + 70) (by omega) (by omega) ?_
      exact kk _ X9 _ _ ⟨hA, ⟨_, hM⟩, hIv9, hoT, hob, _, hoo⟩ hX9 hS ls (lv_sub hl [2, 3, 4, 5, 6] rfl)
    exact absurd (lg_cmp0.mpr (by rw [ho1 e_382])) c_392
  have e_375 : ¬ code = code := wk_ceqf (by omega) (by omega) c_375
  exact absurd rfl e_375

set_option maxHeartbeats 4000000 in
set_option maxRecDepth 100000 in
theorem k_addOutage {p : Program} {l : Launch} {e : Env} {s : State} {m : MethodId} {below : List Frame} {meth : Method} {c : Code} {b L : Nat} {xs : Nat → Int32} {E : wk_E} {T : Nat → Nat × Nat} {X : z_X} {Y : Nat → Nat → Nat} {σ : z_S} {gt : Int64} {oo : Nat} {H : Heap} {locs : List Loc} {cells slots i : Nat} {code : Nat} {ans : Int32} {σ9 : z_S} {gt9 : Int64} {rm2 : Room} (C0 : wl_C p l s m meth c b L xs E) (hI0 : wl_I E T X Y σ gt oo H) (hS : va_S (wk_A E) s.heap H locs) (hi : i + 5 ≤ L) (hcl : cells + 4 ≤ 601024 ∧ slots + 70 ≤ 7293034) (hcd : code < 4)
    (hw : ∀ {ov : Nat → Int64}, va_at E.1 vwCl (oo, .inl (E.2.1.2.2, 1, .inr (.inl ov))) H → we_MetP wl_NC l yL_addOutage wsL_addOutage rmW E H [.ref (X.1 0 0), .int (xs (i + 1)), .int (xs (i + 2)), .int (xs (i + 3)), .ref oo] (fun q => z_FD T q ∨ q = oo) 2 30 (wl_R E T X oo H code (Int32.toInt64 ans) σ9))
    (hm : ∀ {T9 : Nat → Nat × Nat} {th9 : Int32} {H9 : Heap}, MA E T9 Y σ th9 gt H9 → we_Met l yX6_addOutage wsX6_addOutage rm2 E H9 [.ref (Y 10 0), .int (xs (i + 1)), .int (xs (i + 2)), .int (xs (i + 3))] (z_FM T9) 0 0 (fun v H1 => v = some (.int (ans)) ∧ MA E T9 Y σ9 (nI code) gt9 H1)) (hrm : rm2.cells = 0 ∧ rm2.slots = 0 ∧ rm2.frames ≤ 200 ∧ rm2.locals ≤ 9000) (hIv9 : z_Iv σ9 gt9)
    (kk : ∀ (T9 : Nat → Nat × Nat) (X9 : z_X) (H9 : Heap) (locs9 : List Loc), wl_I E T9 X9 Y σ9 gt9 oo H9 → X9.1 0 0 = X.1 0 0 → va_S (wk_A E) s.heap H9 locs9 → ∀ ls : Array Slot, lv_has ls 9 [(0, .ref b), (1, .ref (X.1 0 0)), (2, .ref (Y 10 0)), (3, .ref oo), (4, .int (nI i))] → W p l e room_1 s m #[Value.ref b] below meth c H9 locs9 (cells + 4) (slots + 70) (lw_Z below #[Value.ref b] s) (F0 m 1308 ls [])) :
    ∀ ls : Array Slot, lv_has ls 9 [(0, .ref b), (1, .ref (X.1 0 0)), (2, .ref (Y 10 0)), (3, .ref oo), (4, .int (nI i))] → W p l e room_1 s m #[Value.ref b] below meth c H locs cells slots (lw_Z below #[Value.ref b] s) (F0 m 400 ls []) := by
  intro ls hl
  obtain ⟨⟨hx, hb, hr, hml, hown, hlocks⟩, hts, ⟨hX, hbl, hL⟩, ⟨hV, hNC, hE⟩, hst⟩ := id C0
  obtain ⟨hA, ⟨th, hM⟩, hIv, hoT, hob, ov, hoo⟩ := hI0
  have hK := hV.k
  have hbA : ¬ wk_A E b := by unfold wk_A; omega
  have hA9 : ∀ q : Nat, s.heap.size ≤ q → wk_A E q := fun q h => by unfold wk_A; omega
  have hVH : EV E s H := hV.heap hS.1 (fun q hq => hS.2.1 q (by omega) (by unfold wk_A; omega))
  have hbH : E.2.2.1 ≤ H.size := by have := hS.1; omega
  refine lv_aload_n hx hb dL_law_400 rfl (lv_at hl 1 rfl) ?_
  refine lv_aload_n hx hb dL_law_401 rfl (lv_at hl 0 rfl) ?_
  refine lv_iload hx hb dL_law_402 (lv_at hl 4 rfl) ?_
  refine lv_iconst (v := 1) hx hb dL_law_404 (by decide) ?_
  refine lv_iadd hx hb dL_law_405 ?_
  refine wk_eqi (show (nI i) + 1 = nI (i + 1) from nI_add i 1) ?_
  refine wl_sld hx hb hX hbl hbA hS (i + 1) rfl (by omega) (by omega) dL_law_406 ?_
  refine lv_aload_n hx hb dL_law_407 rfl (lv_at hl 0 rfl) ?_
  refine lv_iload hx hb dL_law_408 (lv_at hl 4 rfl) ?_
  refine lv_iconst (v := 2) hx hb dL_law_410 (by decide) ?_
  refine lv_iadd hx hb dL_law_411 ?_
  refine wk_eqi (show (nI i) + 2 = nI (i + 2) from nI_add i 2) ?_
  refine wl_sld hx hb hX hbl hbA hS (i + 2) rfl (by omega) (by omega) dL_law_412 ?_
  refine lv_aload_n hx hb dL_law_413 rfl (lv_at hl 0 rfl) ?_
  refine lv_iload hx hb dL_law_414 (lv_at hl 4 rfl) ?_
  refine lv_iconst (v := 3) hx hb dL_law_416 (by decide) ?_
  refine lv_iadd hx hb dL_law_417 ?_
  refine wk_eqi (show (nI i) + 3 = nI (i + 3) from nI_add i 3) ?_
  refine wl_sld hx hb hX hbl hbA hS (i + 3) rfl (by omega) (by omega) dL_law_418 ?_
  refine lv_aload_n hx hb dL_law_419 rfl (lv_at hl 3 rfl) ?_
  refine wl_S (As := [.ref (X.1 0 0), .int (xs (i + 1)), .int (xs (i + 2)), .int (xs (i + 3)), .ref oo]) (rest := []) ⟨hx, hb, hml, hown, hts⟩ (hw hoo) hNC (vx_cwSW 5 hts gL_law_L_addOutage rfl rfl rfl (by decide +kernel) ⟨(Nat.le_of_ble_eq_true rfl), (Nat.le_of_ble_eq_true rfl)⟩) hVH hS (fun q hq => Or.elim hq (wl_FDA hA.2.1 q) (fun z => by rw [z]; exact hob)) hA9 rfl hl.1 rfl (Nat.le_of_ble_eq_true rfl) dL_law_420 ⟨by show _ ≤ 601024; omega, by show _ ≤ 7293034; omega⟩ (fun v9 H locs hR9 hz9 hk9 hS => ?_)
  obtain ⟨rfl, ⟨o1, hoo1, ho1⟩, T9, X9, hT9, hX9, hA⟩ := hR9
  have hM := wl_MAw hM hbH hT9 hoT hk9
  have hoT : T9 oo = (20, 0) := (hT9 _ hoo.lt).trans hoT
  have hoo := hoo1
  have hVH : EV E s H := hV.heap hS.1 (fun q hq => hS.2.1 q (by omega) (by unfold wk_A; omega))
  have hbH : E.2.2.1 ≤ H.size := by have := hS.1; omega
  refine wk_eqls (st' := [.int (nI code)]) rfl ?_
  refine lv_istore (lv' := [(5, .int (nI code)), (0, .ref b), (1, .ref (X.1 0 0)), (2, .ref (Y 10 0)), (3, .ref oo), (4, .int (nI i))]) hx hb dL_law_423 hl (by decide) rfl (fun ls hl => ?_)
  refine lv_aload_n hx hb dL_law_425 rfl (lv_at hl 3 rfl) ?_
  refine lv_aload_n hx hb dL_law_426 rfl (lv_at hl 1 rfl) ?_
  refine lv_iload hx hb dL_law_427 (lv_at hl 5 rfl) ?_
  refine lv_iconst (v := 1) hx hb dL_law_429 (by decide) ?_
  refine lv_iadd hx hb dL_law_430 ?_
  refine wk_eqi (show (nI i) + 1 = nI (i + 1) from nI_add i 1) ?_
  refine wl_sld hx hb hX hbl hbA hS (i + 1) rfl (by omega) (by omega) dL_law_431 ?_
  refine lv_aload_n hx hb dL_law_432 rfl (lv_at hl 1 rfl) ?_
  refine lv_iload hx hb dL_law_433 (lv_at hl 5 rfl) ?_
  refine lv_iconst (v := 2) hx hb dL_law_435 (by decide) ?_
  refine lv_iadd hx hb dL_law_436 ?_
  refine wk_eqi (show (nI i) + 2 = nI (i + 2) from nI_add i 2) ?_
  refine wl_sld hx hb hX hbl hbA hS (i + 2) rfl (by omega) (by omega) dL_law_437 ?_
  refine lv_aload_n hx hb dL_law_438 rfl (lv_at hl 1 rfl) ?_
  refine lv_iload hx hb dL_law_439 (lv_at hl 5 rfl) ?_
  refine lv_iconst (v := 3) hx hb dL_law_441 (by decide) ?_
  refine lv_iadd hx hb dL_law_442 ?_
  refine wk_eqi (show (nI i) + 3 = nI (i + 3) from nI_add i 3) ?_
  refine wl_sld hx hb hX hbl hbA hS (i + 3) rfl (by omega) (by omega) dL_law_443 ?_
  refine we_V (As := [.int (xs (i + 1)), .int (xs (i + 2)), .int (xs (i + 3))]) (rest := []) ⟨hx, hb, hml, hown, hts⟩ (hm hM) (cwV 3 hts gL_law_X6_addOutage rfl hrm.1 hrm.2.1 (by decide +kernel) ⟨by show _ ≤ 2048; omega, by show _ ≤ 84000; omega⟩) (wk_recv hK hM.obj rfl) hVH hS (wl_FMA hM.2) hA9 rfl hl.1 rfl (Nat.le_of_ble_eq_true rfl) dL_law_444 ⟨by show _ ≤ 601024; omega, by show _ ≤ 7293034; omega⟩ (fun v9 H locs hR9 hz9 hk9 hS => ?_)
  obtain ⟨rfl, hM⟩ := hR9
  have hA := hA.kept (fun q hq hf => hk9 q hq (fun z => wl_DM z hf))
  have hoo := va_at.kept hoo (hk9 _ hoo.lt (wl_ooM hoT))
  have hVH : EV E s H := hV.heap hS.1 (fun q hq => hS.2.1 q (by omega) (by unfold wk_A; omega))
  have hbH : E.2.2.1 ≤ H.size := by have := hS.1; omega
  refine wk_eqls (st' := [.int ans]) rfl ?_
  refine lv_istore (lv' := [(6, .int ans), (5, .int (nI code)), (0, .ref b), (1, .ref (X.1 0 0)), (2, .ref (Y 10 0)), (3, .ref oo), (4, .int (nI i))]) hx hb dL_law_447 hl (by decide) rfl (fun ls hl => ?_)
  refine lv_aload_n hx hb dL_law_449 rfl (lv_at hl 4 rfl) ?_
  refine wk_V (As := []) (rest := []) ⟨hx, hb, hml, hown, hts⟩ (c_X6_thrown l E hM hIv9.1) (cwV 0 hts gL_law_X6_thrown rfl rfl rfl (by decide +kernel) ⟨(Nat.le_of_ble_eq_true rfl), (Nat.le_of_ble_eq_true rfl)⟩) (wk_recv hK hM.obj rfl) hK rfl hl.1 rfl (Nat.le_of_ble_eq_true rfl) dL_law_450 ⟨by show _ ≤ 601024; omega, by show _ ≤ 7293034; omega⟩ ?_
  refine lv_iload hx hb dL_law_453 (lv_at hl 1 rfl) ?_
  refine lv_icmp_eq (tgt := 460) hx hb dL_law_455 (by decide) (fun c_455 => ?_) (fun c_455 => ?_)
  · skip
    have e_455 : code = code := wk_ceqt (by omega) (by omega) c_455
    refine lv_iload hx hb dL_law_460 (lv_at hl 1 rfl) ?_
    refine lv_if_ne (tgt := 477) hx hb dL_law_462 (by decide) (fun c_462 => ?_) (fun c_462 => ?_)
    · skip
      have e_462 : ¬ code = 0 := wk_cnet (b := 0) (by omega) (by decide) c_462
      refine lv_goto (tgt := 1308) hx hb dL_law_477 (by decide) ?_
      refine W.widen (k := cells + 4) (n := slots + 70) (by omega) (by omega) ?_
      exact kk _ X9 _ _ ⟨hA, ⟨_, hM⟩, hIv9, hoT, hob, _, hoo⟩ hX9 hS ls (lv_sub hl [2, 3, 4, 5, 6] rfl)
    have e_462 : code = 0 := wk_cnef (b := 0) (by omega) (by decide) c_462
    refine lv_aload_n hx hb dL_law_465 rfl (lv_at hl 5 rfl) ?_
    refine lv_iconst (v := 0) hx hb dL_law_466 (by decide) ?_
    refine wk_lald (n := 1) (f := o1) hx hb hK hoo 0 rfl (by decide) (by decide) dL_law_467 ?_
    refine lv_iload hx hb dL_law_468 (lv_at hl 0 rfl) ?_
    refine lv_i2l (v := ans.toInt64) hx hb dL_law_470 rfl ?_
    refine W.lcmp hx hb dL_law_471 ?_
    refine lv_if_eq (tgt := 477) hx hb dL_law_472 (by decide) (fun c_472 => ?_) (fun c_472 => ?_)
    · skip
      refine lv_goto (tgt := 1308) hx hb dL_law_477 (by decide) ?_
      refine W.widen (k := cells + 4) (n := slots + 70) (by omega) (by omega) ?_
      exact kk _ X9 _ _ ⟨hA, ⟨_, hM⟩, hIv9, hoT, hob, _, hoo⟩ hX9 hS ls (lv_sub hl [2, 3, 4, 5, 6] rfl)
    exact absurd (lg_cmp0.mpr (by rw [ho1 e_462])) c_472
  have e_455 : ¬ code = code := wk_ceqf (by omega) (by omega) c_455
  exact absurd rfl e_455
