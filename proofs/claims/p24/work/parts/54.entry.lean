/-! What stands at the law's entry. -/
theorem wl_t_lsU : Cond.laysStatic Bundle.tN "UNASSIGNED_STACK" Bundle.steD ∈ lw_tbl := List.mem_of_getElem? (i := 158) (by decide +kernel)
theorem wl_t_lsS : Cond.laysStatic Bundle.tN "SUPPRESSED_SENTINEL" Bundle.listD ∈ lw_tbl := List.mem_of_getElem? (i := 160) (by decide +kernel)
theorem wl_t_lsD : Cond.laysStatic "java/util/ArrayList" "DEFAULTCAPACITY_EMPTY_ELEMENTDATA" "[Ljava/lang/Object;" ∈ lw_tbl := List.mem_of_getElem? (i := 65) (by decide +kernel)
theorem wl_t_iT : Cond.initialized Bundle.tN ∈ lw_tbl := List.mem_of_getElem? (i := 28) (by decide +kernel)
theorem wl_t_iA : Cond.initialized "java/util/ArrayList" ∈ lw_tbl := List.mem_of_getElem? (i := 26) (by decide +kernel)
theorem wl_t_cxIAE : Cond.castable "java/lang/IllegalArgumentException" "java/lang/IllegalArgumentException" ∈ lw_tbl := List.mem_of_getElem? (i := 133) (by decide +kernel)
theorem wl_t_cxISE : Cond.castable "java/lang/IllegalStateException" "java/lang/IllegalStateException" ∈ lw_tbl := List.mem_of_getElem? (i := 344) (by decide +kernel)
theorem wl_t_cxIOB : Cond.castable "java/lang/IndexOutOfBoundsException" "java/lang/IndexOutOfBoundsException" ∈ lw_tbl := List.mem_of_getElem? (i := 213) (by decide +kernel)
theorem wl_t_co0 : Cond.castable RX0 "java/lang/Object" ∈ lw_tbl := List.mem_of_getElem? (i := 607) (by decide +kernel)
theorem wl_t_co2 : Cond.castable RX2 "java/lang/Object" ∈ lw_tbl := List.mem_of_getElem? (i := 610) (by decide +kernel)
theorem wl_t_co3 : Cond.castable RX3 "java/lang/Object" ∈ lw_tbl := List.mem_of_getElem? (i := 608) (by decide +kernel)
theorem wl_t_dR : Cond.declares (Bundle.initS "java/lang/RuntimeException") ∈ lw_tbl := List.mem_of_getElem? (i := 135) (by decide +kernel)
theorem wl_t_dE : Cond.declares (Bundle.initS "java/lang/Exception") ∈ lw_tbl := List.mem_of_getElem? (i := 137) (by decide +kernel)
theorem wl_t_dT : Cond.declares (Bundle.initS Bundle.tN) ∈ lw_tbl := List.mem_of_getElem? (i := 139) (by decide +kernel)
theorem wl_t_dg : Cond.declares ⟨"java/lang/Object", "getClass", "()Ljava/lang/Class;"⟩ ∈ lw_tbl := List.mem_of_getElem? (i := 615) (by decide +kernel)
theorem wl_t_ao : Cond.arrayOver (.object "java/lang/Object") ∈ lw_tbl := List.mem_of_getElem? (i := 491) (by decide +kernel)
theorem wl_t_ai : Cond.arrayClass .int ∈ lw_tbl := List.mem_of_getElem? (i := 101) (by decide +kernel)
theorem wl_t_inJx4a65c : Cond.instantiable RJx4a65c 3 ∈ lw_tbl := List.mem_of_getElem? (i := 53) (by decide +kernel)
theorem wl_t_inX0 : Cond.instantiable RX0 5 ∈ lw_tbl := List.mem_of_getElem? (i := 421) (by decide +kernel)
theorem wl_t_inX2 : Cond.instantiable RX2 7 ∈ lw_tbl := List.mem_of_getElem? (i := 563) (by decide +kernel)
theorem wl_t_inX3 : Cond.instantiable RX3 8 ∈ lw_tbl := List.mem_of_getElem? (i := 506) (by decide +kernel)
theorem wl_t_inX4 : Cond.instantiable RX4 4 ∈ lw_tbl := List.mem_of_getElem? (i := 79) (by decide +kernel)
theorem wl_t_inX5 : Cond.instantiable RX5 7 ∈ lw_tbl := List.mem_of_getElem? (i := 45) (by decide +kernel)
theorem wl_t_n1 : Cond.methodLinkNest RX4 18 yX5_contains RX5 ∈ lw_tbl := List.mem_of_getElem? (i := 321) (by decide +kernel)
theorem wl_t_n2 : Cond.methodLinkNest RX5 27 yX4_init RX5 ∈ lw_tbl := List.mem_of_getElem? (i := 80) (by decide +kernel)
theorem wl_t_s0 : Cond.stringRef RX5 122 "minutes is not 0 to 60" ∈ lw_tbl := List.mem_of_getElem? (i := 172) (by decide +kernel)
theorem wl_t_s1 : Cond.stringRef RX5 268 "there is no such pass" ∈ lw_tbl := List.mem_of_getElem? (i := 220) (by decide +kernel)
theorem wl_t_s2 : Cond.stringRef RX5 165 "what is not 0 to 7" ∈ lw_tbl := List.mem_of_getElem? (i := 257) (by decide +kernel)
theorem wl_t_s3 : Cond.stringRef RX5 167 "a and b are the same pass" ∈ lw_tbl := List.mem_of_getElem? (i := 262) (by decide +kernel)
theorem wl_t_s4 : Cond.stringRef RX5 262 "the set contains something that is no pass" ∈ lw_tbl := List.mem_of_getElem? (i := 333) (by decide +kernel)
theorem wl_t_s5 : Cond.stringRef RX5 199 "the passes cannot be taken together" ∈ lw_tbl := List.mem_of_getElem? (i := 351) (by decide +kernel)
theorem wl_t_s6 : Cond.stringRef RX5 204 "the pass is OPEN, or it began before now" ∈ lw_tbl := List.mem_of_getElem? (i := 366) (by decide +kernel)
theorem wl_t_s7 : Cond.stringRef RX5 206 "minutes is not 1 to 500" ∈ lw_tbl := List.mem_of_getElem? (i := 375) (by decide +kernel)
theorem wl_t_s8 : Cond.stringRef RX5 208 "it would be later than minute 9999" ∈ lw_tbl := List.mem_of_getElem? (i := 376) (by decide +kernel)
theorem wl_t_s9 : Cond.stringRef RX5 45 "bands, setUp or rate is out of its range" ∈ lw_tbl := List.mem_of_getElem? (i := 418) (by decide +kernel)
theorem wl_t_s10 : Cond.stringRef RX5 56 "there is no room for another antenna" ∈ lw_tbl := List.mem_of_getElem? (i := 419) (by decide +kernel)
theorem wl_t_s11 : Cond.stringRef RX5 69 "band, priority, gathers or memory is out of its range" ∈ lw_tbl := List.mem_of_getElem? (i := 504) (by decide +kernel)
theorem wl_t_s12 : Cond.stringRef RX5 71 "there is no room for another satellite" ∈ lw_tbl := List.mem_of_getElem? (i := 505) (by decide +kernel)
theorem wl_t_s13 : Cond.stringRef RX5 266 "there is no such satellite" ∈ lw_tbl := List.mem_of_getElem? (i := 549) (by decide +kernel)
theorem wl_t_s14 : Cond.stringRef RX5 264 "there is no such antenna" ∈ lw_tbl := List.mem_of_getElem? (i := 554) (by decide +kernel)
theorem wl_t_s15 : Cond.stringRef RX5 260 "these are no minutes from now on, up to minute 9999" ∈ lw_tbl := List.mem_of_getElem? (i := 559) (by decide +kernel)
theorem wl_t_s16 : Cond.stringRef RX5 90 "the pass is too long" ∈ lw_tbl := List.mem_of_getElem? (i := 560) (by decide +kernel)
theorem wl_t_s17 : Cond.stringRef RX5 102 "the antenna does not hear the band of the satellite" ∈ lw_tbl := List.mem_of_getElem? (i := 561) (by decide +kernel)
theorem wl_t_s18 : Cond.stringRef RX5 104 "there is no room for another pass" ∈ lw_tbl := List.mem_of_getElem? (i := 562) (by decide +kernel)
theorem wl_t_s19 : Cond.stringRef RX5 126 "what is not 0 to 2" ∈ lw_tbl := List.mem_of_getElem? (i := 600) (by decide +kernel)
theorem wl_g_U : Cond.isRef (.static Bundle.tN "UNASSIGNED_STACK" Bundle.steD) ∈ flatC (Cond.and given_1 narrow_1) := List.mem_of_getElem? (i := 8) (by decide +kernel)
theorem wl_g_S : Cond.isRef (.static Bundle.tN "SUPPRESSED_SENTINEL" Bundle.listD) ∈ flatC (Cond.and given_1 narrow_1) := List.mem_of_getElem? (i := 9) (by decide +kernel)
theorem wl_g_Da : Cond.arrayOf (.static "java/util/ArrayList" "DEFAULTCAPACITY_EMPTY_ELEMENTDATA" "[Ljava/lang/Object;") (.object "java/lang/Object") ∈ flatC (Cond.and given_1 narrow_1) := List.mem_of_getElem? (i := 5) (by decide +kernel)
theorem wl_g_Dl : Cond.eq (.length (.static "java/util/ArrayList" "DEFAULTCAPACITY_EMPTY_ELEMENTDATA" "[Ljava/lang/Object;")) (.int 0) ∈ flatC (Cond.and given_1 narrow_1) := List.mem_of_getElem? (i := 7) (by decide +kernel)
theorem wl_g_m : Cond.isRef (.mirror "[Ljava/lang/Object;") ∈ flatC (Cond.and given_1 narrow_1) := List.mem_of_getElem? (i := 18) (by decide +kernel)
theorem wl_g_s0 : Cond.exactly (.string RX5 122) "java/lang/String" ∈ flatC (Cond.and given_1 narrow_1) := List.mem_of_getElem? (i := 19) (by decide +kernel)
theorem wl_g_s1 : Cond.exactly (.string RX5 268) "java/lang/String" ∈ flatC (Cond.and given_1 narrow_1) := List.mem_of_getElem? (i := 45) (by decide +kernel)
theorem wl_g_s2 : Cond.exactly (.string RX5 165) "java/lang/String" ∈ flatC (Cond.and given_1 narrow_1) := List.mem_of_getElem? (i := 71) (by decide +kernel)
theorem wl_g_s3 : Cond.exactly (.string RX5 167) "java/lang/String" ∈ flatC (Cond.and given_1 narrow_1) := List.mem_of_getElem? (i := 95) (by decide +kernel)
theorem wl_g_s4 : Cond.exactly (.string RX5 262) "java/lang/String" ∈ flatC (Cond.and given_1 narrow_1) := List.mem_of_getElem? (i := 127) (by decide +kernel)
theorem wl_g_s5 : Cond.exactly (.string RX5 199) "java/lang/String" ∈ flatC (Cond.and given_1 narrow_1) := List.mem_of_getElem? (i := 177) (by decide +kernel)
theorem wl_g_s6 : Cond.exactly (.string RX5 204) "java/lang/String" ∈ flatC (Cond.and given_1 narrow_1) := List.mem_of_getElem? (i := 221) (by decide +kernel)
theorem wl_g_s7 : Cond.exactly (.string RX5 206) "java/lang/String" ∈ flatC (Cond.and given_1 narrow_1) := List.mem_of_getElem? (i := 271) (by decide +kernel)
theorem wl_g_s8 : Cond.exactly (.string RX5 208) "java/lang/String" ∈ flatC (Cond.and given_1 narrow_1) := List.mem_of_getElem? (i := 305) (by decide +kernel)
theorem wl_g_s9 : Cond.exactly (.string RX5 45) "java/lang/String" ∈ flatC (Cond.and given_1 narrow_1) := List.mem_of_getElem? (i := 351) (by decide +kernel)
theorem wl_g_s10 : Cond.exactly (.string RX5 56) "java/lang/String" ∈ flatC (Cond.and given_1 narrow_1) := List.mem_of_getElem? (i := 404) (by decide +kernel)
theorem wl_g_s11 : Cond.exactly (.string RX5 69) "java/lang/String" ∈ flatC (Cond.and given_1 narrow_1) := List.mem_of_getElem? (i := 454) (by decide +kernel)
theorem wl_g_s12 : Cond.exactly (.string RX5 71) "java/lang/String" ∈ flatC (Cond.and given_1 narrow_1) := List.mem_of_getElem? (i := 522) (by decide +kernel)
theorem wl_g_s13 : Cond.exactly (.string RX5 266) "java/lang/String" ∈ flatC (Cond.and given_1 narrow_1) := List.mem_of_getElem? (i := 576) (by decide +kernel)
theorem wl_g_s14 : Cond.exactly (.string RX5 264) "java/lang/String" ∈ flatC (Cond.and given_1 narrow_1) := List.mem_of_getElem? (i := 619) (by decide +kernel)
theorem wl_g_s15 : Cond.exactly (.string RX5 260) "java/lang/String" ∈ flatC (Cond.and given_1 narrow_1) := List.mem_of_getElem? (i := 661) (by decide +kernel)
theorem wl_g_s16 : Cond.exactly (.string RX5 90) "java/lang/String" ∈ flatC (Cond.and given_1 narrow_1) := List.mem_of_getElem? (i := 731) (by decide +kernel)
theorem wl_g_s17 : Cond.exactly (.string RX5 102) "java/lang/String" ∈ flatC (Cond.and given_1 narrow_1) := List.mem_of_getElem? (i := 771) (by decide +kernel)
theorem wl_g_s18 : Cond.exactly (.string RX5 104) "java/lang/String" ∈ flatC (Cond.and given_1 narrow_1) := List.mem_of_getElem? (i := 843) (by decide +kernel)
theorem wl_g_s19 : Cond.exactly (.string RX5 126) "java/lang/String" ∈ flatC (Cond.and given_1 narrow_1) := List.mem_of_getElem? (i := 898) (by decide +kernel)
theorem wl_len0 {args : Array Value} {s : State} {t : Term} (h : (Term.length t).eval args s none [] s = some (.int 0)) : ∃ (a : Nat) (cell : Cell), t.eval args s none [] s = some (.ref a) ∧ s.heap[a]? = some cell ∧ cell.slots.size = 0 := by
  have h0 := h
  obtain ⟨a, cell, h1, h2, h3⟩ := Term.length_spec h
  obtain ⟨h4, -, -, -⟩ := State.arrayAt?_spec h2
  refine ⟨a, cell, h1, h4, ?_⟩
  simp only [Term.eval, h1, h2, Option.bind_eq_bind, Option.bind_some] at h0
  by_cases hn : cell.slots.size < 2147483648
  · have h5 := nI_toInt (n := cell.slots.size) hn
    have h6 : nI cell.slots.size = 0 := (Value.int.inj h3).symm
    rw [h6, wk_t0] at h5
    omega
  · rw [if_neg hn] at h0
    exact nomatch h0
theorem wl_str {args : Array Value} {s : State} {k : Nat} {tx : String} (h1 : (Cond.stringRef RX5 k tx).before args s = true) (h2 : (Cond.exactly (.string RX5 k) "java/lang/String").before args s = true) : ∃ sa : Nat, vk_R RX5 k tx sa s := by
  obtain ⟨a, c, cell, kk, q1, -⟩ := Cond.exactly_spec (args := args) (first := s) (o := none) (s := s) (idx := []) h2
  exact ⟨a, vk_R.of h1 q1⟩
theorem wl_flags {l : Launch} (h : l.flags = flags0) : l.stackTraces = false := by
  unfold Launch.stackTraces
  rw [h]
  decide

set_option maxHeartbeats 4000000 in
theorem wl_entry {p : Program} {l : Launch} {s : State} {m : MethodId} {meth : Method} {c : Code} {b L : Nat} {xs : Nat → Int32} (hL : L ≤ 260) (hfl : l.flags = flags0) (C0 : lw_At p s m meth c b L xs) : ∃ E : wk_E, q_C p l s m meth c b L xs E := by
  obtain ⟨hx, hb, hr, hml, hown, hts, hX, hbl, hlocks, hgv⟩ := C0
  have hs := flat_of_before _ hgv
  obtain ⟨c_Jx4a65c, i_Jx4a65c, k_Jx4a65c⟩ := u_known (C := RJx4a65c) (T := TJx4a65c) (N := 3) (n := 3) hts inJx4a65c (hts _ wl_t_inJx4a65c)
  obtain ⟨c_X0, i_X0, k_X0⟩ := u_known (C := RX0) (T := TX0) (N := 5) (n := 5) hts inX0 (hts _ wl_t_inX0)
  obtain ⟨c_X2, i_X2, k_X2⟩ := u_known (C := RX2) (T := TX2) (N := 7) (n := 7) hts inX2 (hts _ wl_t_inX2)
  obtain ⟨c_X3, i_X3, k_X3⟩ := u_known (C := RX3) (T := TX3) (N := 8) (n := 8) hts inX3 (hts _ wl_t_inX3)
  obtain ⟨c_X4, i_X4, k_X4⟩ := u_known (C := RX4) (T := TX4) (N := 4) (n := 4) hts inX4 (hts _ wl_t_inX4)
  obtain ⟨c_X5, i_X5, k_X5⟩ := u_known (C := RX5) (T := TX5) (N := 7) (n := 7) hts inX5 (hts _ wl_t_inX5)
  obtain ⟨dC, dI, hKc⟩ : ∃ (dC : Nat → ClassId) (dI : Nat → Nat → Nat), ∀ (k : Nat) (q : vw_C), vwCl[k]? = some q → u_Kn s q.1 q.2.1 q.2.2 (dC k) (dI k) := by
    refine ⟨fun k => match k with | 0 => c_Jx4a65c | 1 => c_X0 | 2 => c_X0 | 3 => c_X2 | 4 => c_X3 | 5 => c_X4 | _ => c_X5, fun k => match k with | 0 => i_Jx4a65c | 1 => i_X0 | 2 => i_X0 | 3 => i_X2 | 4 => i_X3 | 5 => i_X4 | _ => i_X5, ?_⟩
    intro k q hq
    match k, hq with
    | 0, hq => cases hq; exact k_Jx4a65c
    | 1, hq => cases hq; exact k_X0
    | 2, hq => cases hq; exact k_X0
    | 3, hq => cases hq; exact k_X2
    | 4, hq => cases hq; exact k_X3
    | 5, hq => cases hq; exact k_X4
    | 6, hq => cases hq; exact k_X5
    | k + 7, hq => simp [vwCl] at hq
  obtain ⟨cI, kI, compI, f1, f2, f3⟩ := Cond.arrayClass_spec (args := #[Value.ref b]) (first := s) (o := none) (s := s) (idx := []) (hts _ wl_t_ai)
  obtain ⟨compO, cO, kO, j1, -, j2, j3, j4⟩ := Cond.arrayOver_spec (args := #[Value.ref b]) (first := s) (o := none) (s := s) (idx := []) (hts _ wl_t_ao)
  obtain ⟨emp, ecell, e1, e2, e3⟩ := wl_len0 (args := #[Value.ref b]) (s := s) (Cond.eq_int (args := #[Value.ref b]) (first := s) (t := s) (out := none) (idx := []) (hs _ wl_g_Dl) rfl)
  have e4 := (Cond.arrayOf_spec (args := #[Value.ref b]) (first := s) (s := s) (o := none) (idx := []) (hs _ wl_g_Da) e1 e2).1
  have hel : emp < s.heap.size := (Array.getElem?_eq_some_iff.mp e2).1
  have hAA : ∀ a : Nat, a < s.heap.size → ¬ wk_A (((dC, dI), (cI, cO, cI), (s.heap.size, emp)) : wk_E) a := fun a ha hz => absurd ha (Nat.not_lt.mpr hz)
  have hK : wk_K (((dC, dI), (cI, cO, cI), (s.heap.size, emp)) : wk_E) s := by
    refine ⟨⟨hKc, fun k q hq => ?_⟩, va_Nw.of rfl (hts _ wl_t_n1), va_Nw.of rfl (hts _ wl_t_n2)⟩
    match k, hq with
    | 0, hq => cases hq; exact ⟨fun n z => ⟨fun k h => (by cases h), kI, f2, compI, f3⟩, f1⟩
    | 1, hq => cases hq; exact ⟨fun n z => ⟨fun k h => (by cases h), kO, j2, compO, j3⟩, kO, compO, j2, j3, j1, j4⟩
    | k + 2, hq => simp [wk_ty] at hq
  have hstr : ∀ q ∈ wk_strs, ∃ sa : Nat, vk_R RX5 q.1 q.2 sa s := List.forall_mem_cons.mpr ⟨wl_str (hts _ wl_t_s0) (hs _ wl_g_s0), List.forall_mem_cons.mpr ⟨wl_str (hts _ wl_t_s1) (hs _ wl_g_s1), List.forall_mem_cons.mpr ⟨wl_str (hts _ wl_t_s2) (hs _ wl_g_s2), List.forall_mem_cons.mpr ⟨wl_str (hts _ wl_t_s3) (hs _ wl_g_s3), List.forall_mem_cons.mpr ⟨wl_str (hts _ wl_t_s4) (hs _ wl_g_s4), List.forall_mem_cons.mpr ⟨wl_str (hts _ wl_t_s5) (hs _ wl_g_s5), List.forall_mem_cons.mpr ⟨wl_str (hts _ wl_t_s6) (hs _ wl_g_s6), List.forall_mem_cons.mpr ⟨wl_str (hts _ wl_t_s7) (hs _ wl_g_s7), List.forall_mem_cons.mpr ⟨wl_str (hts _ wl_t_s8) (hs _ wl_g_s8), List.forall_mem_cons.mpr ⟨wl_str (hts _ wl_t_s9) (hs _ wl_g_s9), List.forall_mem_cons.mpr ⟨wl_str (hts _ wl_t_s10) (hs _ wl_g_s10), List.forall_mem_cons.mpr ⟨wl_str (hts _ wl_t_s11) (hs _ wl_g_s11), List.forall_mem_cons.mpr ⟨wl_str (hts _ wl_t_s12) (hs _ wl_g_s12), List.forall_mem_cons.mpr ⟨wl_str (hts _ wl_t_s13) (hs _ wl_g_s13), List.forall_mem_cons.mpr ⟨wl_str (hts _ wl_t_s14) (hs _ wl_g_s14), List.forall_mem_cons.mpr ⟨wl_str (hts _ wl_t_s15) (hs _ wl_g_s15), List.forall_mem_cons.mpr ⟨wl_str (hts _ wl_t_s16) (hs _ wl_g_s16), List.forall_mem_cons.mpr ⟨wl_str (hts _ wl_t_s17) (hs _ wl_g_s17), List.forall_mem_cons.mpr ⟨wl_str (hts _ wl_t_s18) (hs _ wl_g_s18), List.forall_mem_cons.mpr ⟨wl_str (hts _ wl_t_s19) (hs _ wl_g_s19), fun _ h => absurd h List.not_mem_nil⟩⟩⟩⟩⟩⟩⟩⟩⟩⟩⟩⟩⟩⟩⟩⟩⟩⟩⟩⟩
  have hcx : ∀ X ∈ wk_exs, va_Nw (.castable X X) s := List.forall_mem_cons.mpr ⟨va_Nw.of rfl (hts _ wl_t_cxIAE), List.forall_mem_cons.mpr ⟨va_Nw.of rfl (hts _ wl_t_cxISE), List.forall_mem_cons.mpr ⟨va_Nw.of rfl (hts _ wl_t_cxIOB), fun _ h => absurd h List.not_mem_nil⟩⟩⟩
  have hco : ∀ X ∈ wk_els, va_Nw (.castable X "java/lang/Object") s := List.forall_mem_cons.mpr ⟨va_Nw.of rfl (hts _ wl_t_co0), List.forall_mem_cons.mpr ⟨va_Nw.of rfl (hts _ wl_t_co2), List.forall_mem_cons.mpr ⟨va_Nw.of rfl (hts _ wl_t_co3), fun _ h => absurd h List.not_mem_nil⟩⟩⟩
  refine ⟨((dC, dI), (cI, cO, cI), (s.heap.size, emp)), ⟨hx, hb, hr, hml, hown, hlocks⟩, fun w h => hts w (wsL_law_in w h), ⟨hX, hbl, hL⟩, ⟨⟨hK, ⟨?_, ?_, ?_⟩, ⟨hcx, hco, hstr, ?_, ?_, ?_⟩, ⟨va_AO.of (hts _ wl_t_ao), va_Dc.of (hts _ wl_t_dg), va_Mi.of (hs _ wl_g_m)⟩, ⟨ecell, e2, e4, e3⟩, hel, Nat.le_refl _⟩, rfl⟩, wl_flags hfl⟩
  · exact vx_Zqof (hts _ wl_t_lsU) (hts _ wl_t_iT) (hs _ wl_g_U) hAA
  · exact vx_Zqof (hts _ wl_t_lsS) (hts _ wl_t_iT) (hs _ wl_g_S) hAA
  · exact va_Zof (hts _ wl_t_lsD) (hts _ wl_t_iA) e1 hAA
  · exact va_Nw.of rfl (hts _ wl_t_dR)
  · exact va_Nw.of rfl (hts _ wl_t_dE)
  · exact va_Nw.of rfl (hts _ wl_t_dT)
