/-! PATTERN: the reference: the whole tape -/
abbrev sfMP : List (Nat × Nat) := [(44, 0), (44, 6), (44, 7), (44, 8), (44, 9), (44, 10), (44, 11), (44, 12), (44, 13), (44, 22)]
/-- the reference holds THE PATTERN pt and the latest FAULT fl -/
def GQM (pt : PT) (fl : Int32) (h : HH) : Prop := gA h 44 = aO 8 ∧ gF h 44 7 = .int fl ∧ (gF h 44 14 = .ref 49 ∧ gF h 44 15 = .ref 50 ∧ gF h 44 16 = .ref 51 ∧ gF h 44 17 = .ref 52 ∧ gF h 44 18 = .ref 53 ∧ gF h 44 19 = .ref 54 ∧ gF h 44 20 = .ref 55 ∧ gF h 44 21 = .ref 56)
  ∧ ∃ (sd : Nat) (th : Int32) (A : AR) (op ot ins : Nat → Int32), sd < 2 ∧ gF h 44 12 = .int (nI sd) ∧ gF h 44 13 = .int th ∧ (gA h 49 = aI 2 A.1 ∧ gA h 50 = aI 2 A.2.1 ∧ gA h 51 = aI 2 A.2.2.1 ∧ gA h 52 = aI 3200 A.2.2.2.1 ∧ gA h 53 = aI 200000 A.2.2.2.2 ∧ gA h 54 = aI 7 op ∧ gA h 55 = aI 7 ot ∧ gA h 56 = aI 7 ins)
    ∧ (th = 0 → pt.1 = 0 ∧ pt.2.1 = 0 ∧ pt.2.2.1 = [])
    ∧ (¬ th = 0 → A.1 sd = nI pt.1 ∧ A.2.1 sd = nI pt.2.1 ∧ A.2.2.1 sd = nI pt.2.2.1.length ∧ ∀ c q, pt.2.2.1[c]? = some q → ∃ l, l < 200 ∧ A.2.2.2.2 (100000 * sd + c) = nI l ∧ ∀ j, j < pt.2.1 → A.2.2.2.1 (1600 * sd + 8 * l + j) = pt.2.2.2 (q + j))
theorem cat_1 (M : Nat → List Nat) : catM M (0 + 1) = M 0 := List.nil_append _
theorem invM_0 {L t p : Nat} {tp : Nat → Int32} {A : AR} {op ot ins : Nat → Int32} (hL : L ≤ 400) (ht : t < 2) (hp : p ≤ L) (h1 : A.1 t = 0) (h2 : A.2.1 t = 0) (h3 : A.2.2.1 t = 0) (h4 : ins 0 = 0) : InvM L tp t A op ot ins 0 (fun _ => []) (fun _ => 1) 0 0 p := by
  refine ⟨⟨hp, hL, by omega, by omega, by omega, ht⟩, ⟨h1, h2, h3⟩, fun j hj => ?_, fun j h1 h2 => by omega, fun _ => 0, fun l q hl => by omega, fun c q hcq => ?_⟩
  · obtain rfl : j = 0 := by omega
    exact ⟨h4, by simp⟩
  · have h5 : ([] : List Nat)[c]? = some q := hcq
    cases h5
theorem m_pattern {w : TP} (hw : w.1 ≤ 400) {pt : PT} {fl : Int32} (hpt : WfP pt) {h : HH} (gp : GPM w h) (gq : GQM pt fl h) : CT mX8_pattern 3 0 0 [.ref 44] h (fun r h' => r = some (.int (opPat w pt fl).1) ∧ GPM (0, w.2) h' ∧ GQM (opPat w pt fl).2.1 (opPat w pt fl).2.2 h' ∧ Fr saM sfMP h h') := by
  obtain ⟨L, tp⟩ := w
  obtain ⟨e0, t2, t3, t5⟩ := gp
  dsimp only at t3 t5 hw
  obtain ⟨-, q7, ⟨q14, q15, q16, q17, q18, q19, q20, q21⟩, sd, th, A0, op, ot, ins, hsd, q12, q13, ⟨b1, b2, b3, b4, b5, b6, b7, b8⟩, z0, z1⟩ := gq
  have hz : opPat (L, tp) pt fl = match prsB L tp (L + 1) s0B (fwd isBl L tp 0) with
    | .inl f => (-1000100 - nI f.2, pt, nI f.1)
    | .inr s => (nI (s.2.1 0).length, (s.2.2.2.1, s.2.2.2.2, s.2.1 0, tp), fl) := rfl
  generalize hzz : prsB L tp (L + 1) s0B (fwd isBl L tp 0) = z at hz
  obtain ⟨t, ht⟩ : ∃ t, t = 1 - sd := ⟨_, rfl⟩
  have ht2 : t < 2 := by omega
  have hst : 1 - t = sd := by omega
  refine CT.go [.ref 44, hU, hU, hU, hU] (by decide +kernel) rfl rfl (fun Q' hQ => ?_)
  have main : ∀ h1 : HH, gF h1 44 6 = .int 0 → gF h1 44 7 = .int fl → gF h1 44 12 = .int (nI sd) → gF h1 44 13 = .int th → Fr saM sfMP h h1 → PrM t L tp A0 s0B (fwd isBl L tp 0) h1 → GG (EM mX8_pattern 3 0 0 Q') 0 0 72 [.ref 44, .int (nI t), hU, hU, hU] [] h1 := by
    intro h1 g6 g7 g12 g13 hf1 hp1
    have keyF2 : ∀ (f q : Nat) (h2 : HH) (v2 v3 v4 : Value), z = .inl (f, q) → PrN t L tp A0 f q h2 → Fr saM sfM h1 h2 → GG (EM mX8_pattern 3 0 0 Q') 0 0 285 [.ref 44, .int (nI t), v2, v3, v4] [] h2 := by
      intro f q h2 v2 v3 v4 hzf hp hfr
      obtain ⟨⟨f1, f2, f3, f4⟩, A, op2, ot2, ins2, d, p, hr, h11, ho⟩ := hp
      obtain ⟨r1, r2, r3, r4, r5, r6, r7, r8, r9, r10, r11, r12, r13, r14, c0, c1, c2, c3, c4, c5, c6, c7, c8⟩ := id hr
      have k6 := (hfr.2 44 6 (by decide)).trans g6
      have k12 := (hfr.2 44 12 (by decide)).trans g12
      have k13 := (hfr.2 44 13 (by decide)).trans g13
      refine g_aload_n (i := 0) dX8_pattern_285 rfl rfl ?_
      refine g_get dX8_pattern_286 fl_X8_143 (by repeat' (first | assumption | exact rF_eq | (apply rF_nj; focus decide) | (apply rF_nk; focus omega) | refine rF_a ?_ | exact rA_eq | refine rA_ne (by omega) ?_ | refine rA_f ?_)) (by repeat' (first | assumption | exact rF_eq | (apply rF_nj; focus decide) | (apply rF_nk; focus omega) | refine rF_a ?_ | exact rA_eq | refine rA_ne (by omega) ?_ | refine rA_f ?_)) ?_
      refine g_if_le (tgt := 308) dX8_pattern_289 (by decide) (fun hc289 => ?_) (fun hc289 => ?_)
      · (try simp (disch := omega) only [nT, t_m1000100, t_m1000010, t_m1000003, t_m1000002, t_m1000001, t_m1000000, t_m65535, t_m1000, t_m3, t_m1, t_0, t_1, t_2, t_3, t_4, t_5, t_6, t_7, t_8, t_9, t_10, t_11, t_12, t_13, t_15, t_16, t_20, t_21, t_22, t_32, t_40, t_41, t_48, t_49, t_57, t_59, t_60, t_63, t_72, t_76, t_88, t_100, t_144, t_200, t_255, t_288, t_400, t_800, t_999, t_1000, t_1024, t_1200, t_1600, t_3200, t_100000, t_200000, t_252645135, t_858993459, t_1431655765, u_m1000002, u_m1000001, u_m1000, u_m3, u_m1, u_0, u_1, u_2, u_3, u_4, u_5, u_7, u_8, u_10, u_11, u_15, u_60, u_100, u_255, u_999, u_1000, u_100000, u_4294967295] at hc289); omega
      · (try simp (disch := omega) only [nT, t_m1000100, t_m1000010, t_m1000003, t_m1000002, t_m1000001, t_m1000000, t_m65535, t_m1000, t_m3, t_m1, t_0, t_1, t_2, t_3, t_4, t_5, t_6, t_7, t_8, t_9, t_10, t_11, t_12, t_13, t_15, t_16, t_20, t_21, t_22, t_32, t_40, t_41, t_48, t_49, t_57, t_59, t_60, t_63, t_72, t_76, t_88, t_100, t_144, t_200, t_255, t_288, t_400, t_800, t_999, t_1000, t_1024, t_1200, t_1600, t_3200, t_100000, t_200000, t_252645135, t_858993459, t_1431655765, u_m1000002, u_m1000001, u_m1000, u_m3, u_m1, u_0, u_1, u_2, u_3, u_4, u_5, u_7, u_8, u_10, u_11, u_15, u_60, u_100, u_255, u_999, u_1000, u_100000, u_4294967295] at hc289)
        refine g_aload_n (i := 0) dX8_pattern_292 rfl rfl ?_
        refine g_aload_n (i := 0) dX8_pattern_293 rfl rfl ?_
        refine g_get dX8_pattern_294 fl_X8_143 (by repeat' (first | assumption | exact rF_eq | (apply rF_nj; focus decide) | (apply rF_nk; focus omega) | refine rF_a ?_ | exact rA_eq | refine rA_ne (by omega) ?_ | refine rA_f ?_)) (by repeat' (first | assumption | exact rF_eq | (apply rF_nj; focus decide) | (apply rF_nk; focus omega) | refine rF_a ?_ | exact rA_eq | refine rA_ne (by omega) ?_ | refine rA_f ?_)) ?_
        refine g_put dX8_pattern_297 pl_X8_188 (by repeat' (first | assumption | exact rF_eq | (apply rF_nj; focus decide) | (apply rF_nk; focus omega) | refine rF_a ?_ | exact rA_eq | refine rA_ne (by omega) ?_ | refine rA_f ?_)) (fun _ => ⟨rfl, rfl⟩) ?_
        refine g_ldc dX8_pattern_300 kc_X8_191 ?_
        refine g_aload_n (i := 0) dX8_pattern_302 rfl rfl ?_
        refine g_get dX8_pattern_303 fl_X8_146 (by repeat' (first | assumption | exact rF_eq | (apply rF_nj; focus decide) | (apply rF_nk; focus omega) | refine rF_a ?_ | exact rA_eq | refine rA_ne (by omega) ?_ | refine rA_f ?_)) (by repeat' (first | assumption | exact rF_eq | (apply rF_nj; focus decide) | (apply rF_nk; focus omega) | refine rF_a ?_ | exact rA_eq | refine rA_ne (by omega) ?_ | refine rA_f ?_)) ?_
        refine g_isub dX8_pattern_306 ?_
        refine g_iret dX8_pattern_307 rfl (rfl) (hQ _ _ ?_)
        rw [hz, hzf]
        obtain ⟨o1, o2, o3, o4, o5⟩ := ho
        rw [hst] at o1 o2 o3 o4 o5
        refine ⟨rfl, ⟨r1, r2, k6, c0⟩, ⟨r1, rfl, ⟨r6, r7, r8, r9, r10, r11, r12, r13⟩, sd, th, A, op2, ot2, ins2, hsd, k12, k13, ⟨c1, c2, c3, c4, c5, c6, c7, c8⟩, z0, fun hth => ?_⟩, fr_sF (by decide) (fr_tr hf1 (fr_sub hfr (by decide) (by decide)))⟩
        obtain ⟨y1, y2, y3, y4⟩ := z1 hth
        refine ⟨o1.trans y1, o2.trans y2, o3.trans y3, fun c q hcq => ?_⟩
        obtain ⟨l, l1, l2, l3⟩ := y4 c q hcq
        have hcl : c < pt.2.2.1.length := (List.getElem?_eq_some_iff.mp hcq).1
        have hW := hpt.2.1
        have hW1 := hpt.1
        refine ⟨l, l1, (o5 c (by omega)).trans l2, fun j hj => ?_⟩
        have hj2 : j < pt.2.1 := hj
        have := o4 (8 * l + j) (by omega)
        rw [← Nat.add_assoc] at this
        exact this.trans (l3 j hj)
    have keyF : ∀ (f q : Nat) (h2 : HH) (v2 v3 v4 : Value), z = .inl (f, q) → PrN t L tp A0 f q h2 → Fr saM sfM h1 h2 → GG (EM mX8_pattern 3 0 0 Q') 0 0 72 [.ref 44, .int (nI t), v2, v3, v4] [] h2 := by
      intro f q h2 v2 v3 v4 hzf hp hfr
      obtain ⟨⟨f1, f2, f3, f4⟩, A, op2, ot2, ins2, d, p, hr, h11, ho⟩ := id hp
      obtain ⟨r1, r2, r3, r4, r5, -⟩ := id hr
      have hne : ¬ nI f = 0 := nI_ne0 (by omega) (by omega)
      refine g_aload_n (i := 0) dX8_pattern_72 rfl rfl ?_
      refine g_get dX8_pattern_73 fl_X8_143 (by repeat' (first | assumption | exact rF_eq | refine rF_ne (by decide) ?_ | refine rF_a ?_ | exact rA_eq | refine rA_ne (by decide) ?_ | refine rA_f ?_)) (by repeat' (first | assumption | exact rF_eq | refine rF_ne (by decide) ?_ | refine rF_a ?_ | exact rA_eq | refine rA_ne (by decide) ?_ | refine rA_f ?_)) ?_
      refine g_if_ne (tgt := 262) dX8_pattern_76 (by decide) (fun hc76 => ?_) (fun hc76 => ?_)
      · have hd76 := mt i_eq.mpr hc76; (try simp (disch := omega) only [nT, t_m1000100, t_m1000010, t_m1000003, t_m1000002, t_m1000001, t_m1000000, t_m65535, t_m1000, t_m3, t_m1, t_0, t_1, t_2, t_3, t_4, t_5, t_6, t_7, t_8, t_9, t_10, t_11, t_12, t_13, t_15, t_16, t_20, t_21, t_22, t_32, t_40, t_41, t_48, t_49, t_57, t_59, t_60, t_63, t_72, t_76, t_88, t_100, t_144, t_200, t_255, t_288, t_400, t_800, t_999, t_1000, t_1024, t_1200, t_1600, t_3200, t_100000, t_200000, t_252645135, t_858993459, t_1431655765, u_m1000002, u_m1000001, u_m1000, u_m3, u_m1, u_0, u_1, u_2, u_3, u_4, u_5, u_7, u_8, u_10, u_11, u_15, u_60, u_100, u_255, u_999, u_1000, u_100000, u_4294967295] at hd76)
        refine g_aload_n (i := 0) dX8_pattern_262 rfl rfl ?_
        refine g_get dX8_pattern_263 fl_X8_143 (by repeat' (first | assumption | exact rF_eq | refine rF_ne (by decide) ?_ | refine rF_a ?_ | exact rA_eq | refine rA_ne (by decide) ?_ | refine rA_f ?_)) (by repeat' (first | assumption | exact rF_eq | refine rF_ne (by decide) ?_ | refine rF_a ?_ | exact rA_eq | refine rA_ne (by decide) ?_ | refine rA_f ?_)) ?_
        refine g_if_ne (tgt := 285) dX8_pattern_266 (by decide) (fun hc266 => ?_) (fun hc266 => ?_)
        · have hd266 := mt i_eq.mpr hc266; (try simp (disch := omega) only [nT, t_m1000100, t_m1000010, t_m1000003, t_m1000002, t_m1000001, t_m1000000, t_m65535, t_m1000, t_m3, t_m1, t_0, t_1, t_2, t_3, t_4, t_5, t_6, t_7, t_8, t_9, t_10, t_11, t_12, t_13, t_15, t_16, t_20, t_21, t_22, t_32, t_40, t_41, t_48, t_49, t_57, t_59, t_60, t_63, t_72, t_76, t_88, t_100, t_144, t_200, t_255, t_288, t_400, t_800, t_999, t_1000, t_1024, t_1200, t_1600, t_3200, t_100000, t_200000, t_252645135, t_858993459, t_1431655765, u_m1000002, u_m1000001, u_m1000, u_m3, u_m1, u_0, u_1, u_2, u_3, u_4, u_5, u_7, u_8, u_10, u_11, u_15, u_60, u_100, u_255, u_999, u_1000, u_100000, u_4294967295] at hd266)
          exact keyF2 f q h2 _ _ _ hzf hp hfr
        · have hd266 := i_eq.mp hc266; (try simp (disch := omega) only [nT, t_m1000100, t_m1000010, t_m1000003, t_m1000002, t_m1000001, t_m1000000, t_m65535, t_m1000, t_m3, t_m1, t_0, t_1, t_2, t_3, t_4, t_5, t_6, t_7, t_8, t_9, t_10, t_11, t_12, t_13, t_15, t_16, t_20, t_21, t_22, t_32, t_40, t_41, t_48, t_49, t_57, t_59, t_60, t_63, t_72, t_76, t_88, t_100, t_144, t_200, t_255, t_288, t_400, t_800, t_999, t_1000, t_1024, t_1200, t_1600, t_3200, t_100000, t_200000, t_252645135, t_858993459, t_1431655765, u_m1000002, u_m1000001, u_m1000, u_m3, u_m1, u_0, u_1, u_2, u_3, u_4, u_5, u_7, u_8, u_10, u_11, u_15, u_60, u_100, u_255, u_999, u_1000, u_100000, u_4294967295] at hd266); exact absurd hc266 hne
      · have hd76 := i_eq.mp hc76; (try simp (disch := omega) only [nT, t_m1000100, t_m1000010, t_m1000003, t_m1000002, t_m1000001, t_m1000000, t_m65535, t_m1000, t_m3, t_m1, t_0, t_1, t_2, t_3, t_4, t_5, t_6, t_7, t_8, t_9, t_10, t_11, t_12, t_13, t_15, t_16, t_20, t_21, t_22, t_32, t_40, t_41, t_48, t_49, t_57, t_59, t_60, t_63, t_72, t_76, t_88, t_100, t_144, t_200, t_255, t_288, t_400, t_800, t_999, t_1000, t_1024, t_1200, t_1600, t_3200, t_100000, t_200000, t_252645135, t_858993459, t_1431655765, u_m1000002, u_m1000001, u_m1000, u_m3, u_m1, u_0, u_1, u_2, u_3, u_4, u_5, u_7, u_8, u_10, u_11, u_15, u_60, u_100, u_255, u_999, u_1000, u_100000, u_4294967295] at hd76); exact absurd hc76 hne
    have keyS : ∀ (s : PS) (h2 : HH) (v2 v3 v4 : Value), z = .inr s → s.1 = 0 → PrM t L tp A0 s L h2 → Fr saM sfM h1 h2 → GG (EM mX8_pattern 3 0 0 Q') 0 0 285 [.ref 44, .int (nI t), v2, v3, v4] [] h2 := by
      intro s h2 v2 v3 v4 hzs hs0 hp hfr
      obtain ⟨d, M, T, nl, pn⟩ := s
      obtain ⟨A, op2, ot2, ins2, hr, hv, ho⟩ := hp
      dsimp only at hs0 hr hv
      subst hs0
      obtain ⟨⟨v1, v2', v3', v4', v5, v6⟩, ⟨k1, k2, k3⟩, k4, k5, fr, f1, f2⟩ := id hv
      rw [cat_1] at k3 f2
      obtain ⟨r1, r2, r3, r4, r5, r6, r7, r8, r9, r10, r11, r12, r13, r14, c0, c1, c2, c3, c4, c5, c6, c7, c8⟩ := id hr
      have g6' := (hfr.2 44 6 (by decide)).trans g6
      have g7' := (hfr.2 44 7 (by decide)).trans g7
      refine g_aload_n (i := 0) dX8_pattern_285 rfl rfl ?_
      refine g_get dX8_pattern_286 fl_X8_143 (by repeat' (first | assumption | exact rF_eq | (apply rF_nj; focus decide) | (apply rF_nk; focus omega) | refine rF_a ?_ | exact rA_eq | refine rA_ne (by omega) ?_ | refine rA_f ?_)) (by repeat' (first | assumption | exact rF_eq | (apply rF_nj; focus decide) | (apply rF_nk; focus omega) | refine rF_a ?_ | exact rA_eq | refine rA_ne (by omega) ?_ | refine rA_f ?_)) ?_
      refine g_if_le (tgt := 308) dX8_pattern_289 (by decide) (fun hc289 => ?_) (fun hc289 => ?_)
      · (try simp (disch := omega) only [nT, t_m1000100, t_m1000010, t_m1000003, t_m1000002, t_m1000001, t_m1000000, t_m65535, t_m1000, t_m3, t_m1, t_0, t_1, t_2, t_3, t_4, t_5, t_6, t_7, t_8, t_9, t_10, t_11, t_12, t_13, t_15, t_16, t_20, t_21, t_22, t_32, t_40, t_41, t_48, t_49, t_57, t_59, t_60, t_63, t_72, t_76, t_88, t_100, t_144, t_200, t_255, t_288, t_400, t_800, t_999, t_1000, t_1024, t_1200, t_1600, t_3200, t_100000, t_200000, t_252645135, t_858993459, t_1431655765, u_m1000002, u_m1000001, u_m1000, u_m3, u_m1, u_0, u_1, u_2, u_3, u_4, u_5, u_7, u_8, u_10, u_11, u_15, u_60, u_100, u_255, u_999, u_1000, u_100000, u_4294967295] at hc289)
        refine g_aload_n (i := 0) dX8_pattern_308 rfl rfl ?_
        refine g_iload_n (i := 1) dX8_pattern_309 rfl rfl ?_
        refine g_put dX8_pattern_310 pl_X8_171 (by repeat' (first | assumption | exact rF_eq | (apply rF_nj; focus decide) | (apply rF_nk; focus omega) | refine rF_a ?_ | exact rA_eq | refine rA_ne (by omega) ?_ | refine rA_f ?_)) (fun _ => ⟨rfl, rfl⟩) ?_
        refine g_aload_n (i := 0) dX8_pattern_313 rfl rfl ?_
        refine g_iconst (v := 1) dX8_pattern_314 (by decide) ?_
        refine g_put dX8_pattern_315 pl_X8_192 (by repeat' (first | assumption | exact rF_eq | (apply rF_nj; focus decide) | (apply rF_nk; focus omega) | refine rF_a ?_ | exact rA_eq | refine rA_ne (by omega) ?_ | refine rA_f ?_)) (fun _ => ⟨rfl, rfl⟩) ?_
        refine g_aload_n (i := 0) dX8_pattern_318 rfl rfl ?_
        refine g_get dX8_pattern_319 fl_X8_28 (by repeat' (first | assumption | exact rF_eq | (apply rF_nj; focus decide) | (apply rF_nk; focus omega) | refine rF_a ?_ | exact rA_eq | refine rA_ne (by omega) ?_ | refine rA_f ?_)) (by repeat' (first | assumption | exact rF_eq | (apply rF_nj; focus decide) | (apply rF_nk; focus omega) | refine rF_a ?_ | exact rA_eq | refine rA_ne (by omega) ?_ | refine rA_f ?_)) ?_
        refine g_iload_n (i := 1) dX8_pattern_322 rfl rfl ?_
        refine g_iald dX8_pattern_323 (by repeat' (first | assumption | exact rF_eq | (apply rF_nj; focus decide) | (apply rF_nk; focus omega) | refine rF_a ?_ | exact rA_eq | refine rA_ne (by omega) ?_ | refine rA_f ?_)) (nT (by omega)) (by omega) ?_
        rw [k3]
        refine g_iret dX8_pattern_324 rfl (rfl) (hQ _ _ ?_)
        rw [hz, hzs]
        refine ⟨rfl, ⟨r1, r2, g6', c0⟩, ⟨r1, g7', ⟨r6, r7, r8, r9, r10, r11, r12, r13⟩, t, 1, A, op2, ot2, ins2, ht2, rfl, rfl, ⟨c1, c2, c3, c4, c5, c6, c7, c8⟩, fun hth => absurd hth (by decide), fun _ => ⟨k1, k2, k3, fun c q hcq => ?_⟩⟩, fr_sF (by decide) (fr_sF (by decide) (fr_tr hf1 (fr_sub hfr (by decide) (by decide))))⟩
        have hcl := (List.getElem?_eq_some_iff.mp hcq).1
        have hml := (k4 0 (by omega)).2
        dsimp only at hcl
        obtain ⟨l, l1, l2, l3⟩ := f2 c q hcq (by omega)
        exact ⟨l, by omega, l2, fun j hj => by rw [f1 l j l1 hj, l3]⟩
      · (try simp (disch := omega) only [nT, t_m1000100, t_m1000010, t_m1000003, t_m1000002, t_m1000001, t_m1000000, t_m65535, t_m1000, t_m3, t_m1, t_0, t_1, t_2, t_3, t_4, t_5, t_6, t_7, t_8, t_9, t_10, t_11, t_12, t_13, t_15, t_16, t_20, t_21, t_22, t_32, t_40, t_41, t_48, t_49, t_57, t_59, t_60, t_63, t_72, t_76, t_88, t_100, t_144, t_200, t_255, t_288, t_400, t_800, t_999, t_1000, t_1024, t_1200, t_1600, t_3200, t_100000, t_200000, t_252645135, t_858993459, t_1431655765, u_m1000002, u_m1000001, u_m1000, u_m3, u_m1, u_0, u_1, u_2, u_3, u_4, u_5, u_7, u_8, u_10, u_11, u_15, u_60, u_100, u_255, u_999, u_1000, u_100000, u_4294967295] at hc289); exact absurd hc289 (by decide)
    have key : ∀ (m : Nat) (s : PS) (p : Nat) (h2 : HH) (v2 v3 v4 : Value), L - p < m → PrM t L tp A0 s p h2 → Fr saM sfM h1 h2 → prsB L tp m s p = z → GG (EM mX8_pattern 3 0 0 Q') 0 0 72 [.ref 44, .int (nI t), v2, v3, v4] [] h2 := by
      intro m
      induction m with
      | zero => intro s p h2 v2 v3 v4 hm; omega
      | succ m ih =>
        intro s p h2 v2 v3 v4 hm hp hfr he
        unfold prsB at he
        obtain ⟨d, M, T, nl, pn⟩ := s
        obtain ⟨A, op2, ot2, ins2, hr, hv, ho⟩ := id hp
        dsimp only at hr hv
        obtain ⟨r1, r2, r3, r4, r5, r6, r7, r8, r9, r10, r11, r12, r13, r14, -⟩ := id hr
        have hpL := hv.1.1
        have hd6 := hv.1.2.2.2.1
        by_cases hpl : p < L
        · rw [if_pos hpl] at he
          have hpe := fwd_le (q := isRw) (tp := tp) hpL
          generalize hfe : fwd isRw L tp p = e at hpe
          obtain ⟨hpe, heL⟩ := hpe
          have hpost : ∀ (h3 : HH) (v2 v3 v4 : Value), OutM t L tp A0 h3 (tokB L tp (d, M, T, nl, pn) p) → Fr saM sfM h2 h3 → GG (EM mX8_pattern 3 0 0 Q') 0 0 248 [.ref 44, .int (nI t), v2, v3, v4] [] h3 := by
            intro h3 v2 v3 v4 hout hf3
            have hf13 := fr_tr hfr hf3
            rcases hoo : tokB L tp (d, M, T, nl, pn) p with o | o
            · rw [hoo] at hout he
              have hou : PrN t L tp A0 o.1 o.2 h3 := hout
              obtain ⟨⟨f1, f2, f3, f4⟩, A, op3, ot3, ins3, d3, p3, hr3, h11, ho3⟩ := id hou
              obtain ⟨r1, r2, r3, r4, r5, -⟩ := id hr3
              have hne : ¬ nI o.1 = 0 := nI_ne0 (by omega) (by omega)
              refine g_aload_n (i := 0) dX8_pattern_248 rfl rfl ?_
              refine g_get dX8_pattern_249 fl_X8_143 (by repeat' (first | assumption | exact rF_eq | refine rF_ne (by decide) ?_ | refine rF_a ?_ | exact rA_eq | refine rA_ne (by decide) ?_ | refine rA_f ?_)) (by repeat' (first | assumption | exact rF_eq | refine rF_ne (by decide) ?_ | refine rF_a ?_ | exact rA_eq | refine rA_ne (by decide) ?_ | refine rA_f ?_)) ?_
              refine g_if_ne (tgt := 259) dX8_pattern_252 (by decide) (fun hc252 => ?_) (fun hc252 => ?_)
              · have hd252 := mt i_eq.mpr hc252; (try simp (disch := omega) only [nT, t_m1000100, t_m1000010, t_m1000003, t_m1000002, t_m1000001, t_m1000000, t_m65535, t_m1000, t_m3, t_m1, t_0, t_1, t_2, t_3, t_4, t_5, t_6, t_7, t_8, t_9, t_10, t_11, t_12, t_13, t_15, t_16, t_20, t_21, t_22, t_32, t_40, t_41, t_48, t_49, t_57, t_59, t_60, t_63, t_72, t_76, t_88, t_100, t_144, t_200, t_255, t_288, t_400, t_800, t_999, t_1000, t_1024, t_1200, t_1600, t_3200, t_100000, t_200000, t_252645135, t_858993459, t_1431655765, u_m1000002, u_m1000001, u_m1000, u_m3, u_m1, u_0, u_1, u_2, u_3, u_4, u_5, u_7, u_8, u_10, u_11, u_15, u_60, u_100, u_255, u_999, u_1000, u_100000, u_4294967295] at hd252)
                refine g_goto (tgt := 72) dX8_pattern_259 (by decide) ?_
                exact keyF o.1 o.2 h3 _ _ _ he.symm hou hf13
              · have hd252 := i_eq.mp hc252; (try simp (disch := omega) only [nT, t_m1000100, t_m1000010, t_m1000003, t_m1000002, t_m1000001, t_m1000000, t_m65535, t_m1000, t_m3, t_m1, t_0, t_1, t_2, t_3, t_4, t_5, t_6, t_7, t_8, t_9, t_10, t_11, t_12, t_13, t_15, t_16, t_20, t_21, t_22, t_32, t_40, t_41, t_48, t_49, t_57, t_59, t_60, t_63, t_72, t_76, t_88, t_100, t_144, t_200, t_255, t_288, t_400, t_800, t_999, t_1000, t_1024, t_1200, t_1600, t_3200, t_100000, t_200000, t_252645135, t_858993459, t_1431655765, u_m1000002, u_m1000001, u_m1000, u_m3, u_m1, u_0, u_1, u_2, u_3, u_4, u_5, u_7, u_8, u_10, u_11, u_15, u_60, u_100, u_255, u_999, u_1000, u_100000, u_4294967295] at hd252); exact absurd hc252 hne
            · have hor := tok_r hoo hpl
              rw [hoo] at hout he
              have hou : PrM t L tp A0 o.1 o.2 h3 := hout
              obtain ⟨A, op3, ot3, ins3, hr3, hv3, ho3⟩ := id hou
              obtain ⟨r1, r2, r3, r4, r5, -⟩ := id hr3
              have hb := fwd_le (q := isBl) (tp := tp) hor.2.2
              refine g_aload_n (i := 0) dX8_pattern_248 rfl rfl ?_
              refine g_get dX8_pattern_249 fl_X8_143 (by repeat' (first | assumption | exact rF_eq | refine rF_ne (by decide) ?_ | refine rF_a ?_ | exact rA_eq | refine rA_ne (by decide) ?_ | refine rA_f ?_)) (by repeat' (first | assumption | exact rF_eq | refine rF_ne (by decide) ?_ | refine rF_a ?_ | exact rA_eq | refine rA_ne (by decide) ?_ | refine rA_f ?_)) ?_
              refine g_if_ne (tgt := 259) dX8_pattern_252 (by decide) (fun hc252 => ?_) (fun hc252 => ?_)
              · have hd252 := mt i_eq.mpr hc252; (try simp (disch := omega) only [nT, t_m1000100, t_m1000010, t_m1000003, t_m1000002, t_m1000001, t_m1000000, t_m65535, t_m1000, t_m3, t_m1, t_0, t_1, t_2, t_3, t_4, t_5, t_6, t_7, t_8, t_9, t_10, t_11, t_12, t_13, t_15, t_16, t_20, t_21, t_22, t_32, t_40, t_41, t_48, t_49, t_57, t_59, t_60, t_63, t_72, t_76, t_88, t_100, t_144, t_200, t_255, t_288, t_400, t_800, t_999, t_1000, t_1024, t_1200, t_1600, t_3200, t_100000, t_200000, t_252645135, t_858993459, t_1431655765, u_m1000002, u_m1000001, u_m1000, u_m3, u_m1, u_0, u_1, u_2, u_3, u_4, u_5, u_7, u_8, u_10, u_11, u_15, u_60, u_100, u_255, u_999, u_1000, u_100000, u_4294967295] at hd252); exact absurd rfl hc252
              · have hd252 := i_eq.mp hc252; (try simp (disch := omega) only [nT, t_m1000100, t_m1000010, t_m1000003, t_m1000002, t_m1000001, t_m1000000, t_m65535, t_m1000, t_m3, t_m1, t_0, t_1, t_2, t_3, t_4, t_5, t_6, t_7, t_8, t_9, t_10, t_11, t_12, t_13, t_15, t_16, t_20, t_21, t_22, t_32, t_40, t_41, t_48, t_49, t_57, t_59, t_60, t_63, t_72, t_76, t_88, t_100, t_144, t_200, t_255, t_288, t_400, t_800, t_999, t_1000, t_1024, t_1200, t_1600, t_3200, t_100000, t_200000, t_252645135, t_858993459, t_1431655765, u_m1000002, u_m1000001, u_m1000, u_m3, u_m1, u_0, u_1, u_2, u_3, u_4, u_5, u_7, u_8, u_10, u_11, u_15, u_60, u_100, u_255, u_999, u_1000, u_100000, u_4294967295] at hd252)
                refine g_aload_n (i := 0) dX8_pattern_255 rfl rfl ?_
                refine g_callV (M' := mX8_skip) dX8_pattern_256 lc_X8_skip ml_X8_166 (c_skip hr3 hw hor.2.2) rfl rfl (by repeat' (first | assumption | exact rF_eq | refine rF_ne (by decide) ?_ | refine rF_a ?_ | exact rA_eq | refine rA_ne (by decide) ?_ | refine rA_f ?_)) rfl ⟨Nat.le_of_ble_eq_true rfl, Nat.le_of_ble_eq_true rfl, Nat.le_of_ble_eq_true rfl, Nat.le_of_ble_eq_true rfl⟩ (Nat.le_of_ble_eq_true rfl) ?_
                intro r_ h_ q_; obtain ⟨q1_, q2_⟩ := q_; have q2_ := q2_.symm; subst q1_; subst q2_
                refine g_goto (tgt := 72) dX8_pattern_259 (by decide) ?_
                exact ih o.1 (fwd isBl L tp o.2) _ _ _ _ (by omega) ⟨A, op3, ot3, ins3, rm_at hr3 _, invM_mono hv3 hb.1 hb.2, ho3⟩ (fr_sF (by decide) hf13) he
          have hrw : ¬ e = p → ¬ (tp p).toInt = 41 := fun hne => by
            have h1 := fwd_all (q := isRw) (L := L) (tp := tp) (L - p) p (by omega) p (Nat.le_refl p) (by omega)
            rcases isRw_t.mp h1 with q | q
            · have := isFg_t.mp q; omega
            · have := isSg_t.mp q; omega
          have hby59 := @byB_eq L tp e 59 (by omega)
          have fin2 : GG (EM mX8_pattern 3 0 0 Q') 0 0 173 [.ref 44, .int (nI t), .int (nI p), .int (nI e), .int (bI (alB isFg tp (e - p) p = true))] [] h2 := by
            refine g_iload_n (i := 3) dX8_pattern_173 rfl rfl ?_
            refine g_iload_n (i := 2) dX8_pattern_174 rfl rfl ?_
            refine g_icmp_le (tgt := 203) dX8_pattern_175 (by decide) (fun hc175 => ?_) (fun hc175 => ?_)
            · (try simp (disch := omega) only [nT, t_m1000100, t_m1000010, t_m1000003, t_m1000002, t_m1000001, t_m1000000, t_m65535, t_m1000, t_m3, t_m1, t_0, t_1, t_2, t_3, t_4, t_5, t_6, t_7, t_8, t_9, t_10, t_11, t_12, t_13, t_15, t_16, t_20, t_21, t_22, t_32, t_40, t_41, t_48, t_49, t_57, t_59, t_60, t_63, t_72, t_76, t_88, t_100, t_144, t_200, t_255, t_288, t_400, t_800, t_999, t_1000, t_1024, t_1200, t_1600, t_3200, t_100000, t_200000, t_252645135, t_858993459, t_1431655765, u_m1000002, u_m1000001, u_m1000, u_m3, u_m1, u_0, u_1, u_2, u_3, u_4, u_5, u_7, u_8, u_10, u_11, u_15, u_60, u_100, u_255, u_999, u_1000, u_100000, u_4294967295] at hc175)
              refine g_iload_n (i := 3) dX8_pattern_203 rfl rfl ?_
              refine g_iload_n (i := 2) dX8_pattern_204 rfl rfl ?_
              refine g_icmp_le (tgt := 218) dX8_pattern_205 (by decide) (fun hc205 => ?_) (fun hc205 => ?_)
              · (try simp (disch := omega) only [nT, t_m1000100, t_m1000010, t_m1000003, t_m1000002, t_m1000001, t_m1000000, t_m65535, t_m1000, t_m3, t_m1, t_0, t_1, t_2, t_3, t_4, t_5, t_6, t_7, t_8, t_9, t_10, t_11, t_12, t_13, t_15, t_16, t_20, t_21, t_22, t_32, t_40, t_41, t_48, t_49, t_57, t_59, t_60, t_63, t_72, t_76, t_88, t_100, t_144, t_200, t_255, t_288, t_400, t_800, t_999, t_1000, t_1024, t_1200, t_1600, t_3200, t_100000, t_200000, t_252645135, t_858993459, t_1431655765, u_m1000002, u_m1000001, u_m1000, u_m3, u_m1, u_0, u_1, u_2, u_3, u_4, u_5, u_7, u_8, u_10, u_11, u_15, u_60, u_100, u_255, u_999, u_1000, u_100000, u_4294967295] at hc205)
                refine g_aload_n (i := 0) dX8_pattern_218 rfl rfl ?_
                refine g_aload_n (i := 0) dX8_pattern_219 rfl rfl ?_
                refine g_get dX8_pattern_220 fl_X8_149 (by repeat' (first | assumption | exact rF_eq | refine rF_ne (by decide) ?_ | refine rF_a ?_ | exact rA_eq | refine rA_ne (by decide) ?_ | refine rA_f ?_)) (by repeat' (first | assumption | exact rF_eq | refine rF_ne (by decide) ?_ | refine rF_a ?_ | exact rA_eq | refine rA_ne (by decide) ?_ | refine rA_f ?_)) ?_
                refine g_callV (M' := mX8_byteAt) dX8_pattern_223 lc_X8_byteAt ml_X8_152 (c_byteAt hr hw hpL) rfl rfl (by repeat' (first | assumption | exact rF_eq | refine rF_ne (by decide) ?_ | refine rF_a ?_ | exact rA_eq | refine rA_ne (by decide) ?_ | refine rA_f ?_)) rfl ⟨Nat.le_of_ble_eq_true rfl, Nat.le_of_ble_eq_true rfl, Nat.le_of_ble_eq_true rfl, Nat.le_of_ble_eq_true rfl⟩ (Nat.le_of_ble_eq_true rfl) ?_
                intro r_ h_ q_; obtain ⟨q1_, q2_⟩ := q_; have q2_ := q2_.symm; subst q1_; subst q2_
                rw [byB_t hpl]
                refine g_bipush (v := 41) dX8_pattern_226 (by decide) ?_
                refine g_icmp_ne (tgt := 239) dX8_pattern_228 (by decide) (fun hc228 => ?_) (fun hc228 => ?_)
                · have hd228 := mt i_eq.mpr hc228; (try simp (disch := omega) only [nT, t_m1000100, t_m1000010, t_m1000003, t_m1000002, t_m1000001, t_m1000000, t_m65535, t_m1000, t_m3, t_m1, t_0, t_1, t_2, t_3, t_4, t_5, t_6, t_7, t_8, t_9, t_10, t_11, t_12, t_13, t_15, t_16, t_20, t_21, t_22, t_32, t_40, t_41, t_48, t_49, t_57, t_59, t_60, t_63, t_72, t_76, t_88, t_100, t_144, t_200, t_255, t_288, t_400, t_800, t_999, t_1000, t_1024, t_1200, t_1600, t_3200, t_100000, t_200000, t_252645135, t_858993459, t_1431655765, u_m1000002, u_m1000001, u_m1000, u_m3, u_m1, u_0, u_1, u_2, u_3, u_4, u_5, u_7, u_8, u_10, u_11, u_15, u_60, u_100, u_255, u_999, u_1000, u_100000, u_4294967295] at hd228)
                  refine g_aload_n (i := 0) dX8_pattern_239 rfl rfl ?_
                  refine g_iconst (v := 1) dX8_pattern_240 (by decide) ?_
                  refine g_aload_n (i := 0) dX8_pattern_241 rfl rfl ?_
                  refine g_get dX8_pattern_242 fl_X8_149 (by repeat' (first | assumption | exact rF_eq | refine rF_ne (by decide) ?_ | refine rF_a ?_ | exact rA_eq | refine rA_ne (by decide) ?_ | refine rA_f ?_)) (by repeat' (first | assumption | exact rF_eq | refine rF_ne (by decide) ?_ | refine rF_a ?_ | exact rA_eq | refine rA_ne (by decide) ?_ | refine rA_f ?_)) ?_
                  refine g_callV (M' := mX8_bad) dX8_pattern_245 lc_X8_bad ml_X8_158 (c_bad r1 r5 1 (nI p)) rfl rfl (by repeat' (first | assumption | exact rF_eq | refine rF_ne (by decide) ?_ | refine rF_a ?_ | exact rA_eq | refine rA_ne (by decide) ?_ | refine rA_f ?_)) rfl ⟨Nat.le_of_ble_eq_true rfl, Nat.le_of_ble_eq_true rfl, Nat.le_of_ble_eq_true rfl, Nat.le_of_ble_eq_true rfl⟩ (Nat.le_of_ble_eq_true rfl) ?_
                  intro r_ h_ q_; obtain ⟨q1_, q2_⟩ := q_; have q2_ := q2_.symm; subst q1_; subst q2_
                  have o1 : OutM t L tp A0 (sF (sF h2 44 10 (.int 1)) 44 11 (.int (nI p))) (tokB L tp (d, M, T, nl, pn) p) := by
                    rw [tok_0 hfe (by omega) (by omega)]
                    exact pn_bad hr hw ho 1 p (by omega) (by omega) (by omega)
                  have o2 : Fr saM sfM h2 (sF (sF h2 44 10 (.int 1)) 44 11 (.int (nI p))) := fr_sF (by decide) (fr_sF (by decide) fr_rf)
                  exact hpost _ _ _ _ o1 o2
                · have hd228 := i_eq.mp hc228; (try simp (disch := omega) only [nT, t_m1000100, t_m1000010, t_m1000003, t_m1000002, t_m1000001, t_m1000000, t_m65535, t_m1000, t_m3, t_m1, t_0, t_1, t_2, t_3, t_4, t_5, t_6, t_7, t_8, t_9, t_10, t_11, t_12, t_13, t_15, t_16, t_20, t_21, t_22, t_32, t_40, t_41, t_48, t_49, t_57, t_59, t_60, t_63, t_72, t_76, t_88, t_100, t_144, t_200, t_255, t_288, t_400, t_800, t_999, t_1000, t_1024, t_1200, t_1600, t_3200, t_100000, t_200000, t_252645135, t_858993459, t_1431655765, u_m1000002, u_m1000001, u_m1000, u_m3, u_m1, u_0, u_1, u_2, u_3, u_4, u_5, u_7, u_8, u_10, u_11, u_15, u_60, u_100, u_255, u_999, u_1000, u_100000, u_4294967295] at hd228)
                  refine g_aload_n (i := 0) dX8_pattern_231 rfl rfl ?_
                  refine g_iload_n (i := 1) dX8_pattern_232 rfl rfl ?_
                  refine g_callV (M' := mX8_close) dX8_pattern_233 lc_X8_close ml_X8_184 (m_close ht2 hr hv ho hpl (by omega)) rfl rfl (by repeat' (first | assumption | exact rF_eq | refine rF_ne (by decide) ?_ | refine rF_a ?_ | exact rA_eq | refine rA_ne (by decide) ?_ | refine rA_f ?_)) rfl ⟨Nat.le_of_ble_eq_true rfl, Nat.le_of_ble_eq_true rfl, Nat.le_of_ble_eq_true rfl, Nat.le_of_ble_eq_true rfl⟩ (Nat.le_of_ble_eq_true rfl) ?_
                  intro r_ h_ q_; obtain ⟨rfl, o1, o2⟩ := q_
                  refine g_goto (tgt := 248) dX8_pattern_236 (by decide) ?_
                  exact hpost _ _ _ _ o1 o2
              · (try simp (disch := omega) only [nT, t_m1000100, t_m1000010, t_m1000003, t_m1000002, t_m1000001, t_m1000000, t_m65535, t_m1000, t_m3, t_m1, t_0, t_1, t_2, t_3, t_4, t_5, t_6, t_7, t_8, t_9, t_10, t_11, t_12, t_13, t_15, t_16, t_20, t_21, t_22, t_32, t_40, t_41, t_48, t_49, t_57, t_59, t_60, t_63, t_72, t_76, t_88, t_100, t_144, t_200, t_255, t_288, t_400, t_800, t_999, t_1000, t_1024, t_1200, t_1600, t_3200, t_100000, t_200000, t_252645135, t_858993459, t_1431655765, u_m1000002, u_m1000001, u_m1000, u_m3, u_m1, u_0, u_1, u_2, u_3, u_4, u_5, u_7, u_8, u_10, u_11, u_15, u_60, u_100, u_255, u_999, u_1000, u_100000, u_4294967295] at hc205)
                refine g_aload_n (i := 0) dX8_pattern_208 rfl rfl ?_
                refine g_iload_n (i := 1) dX8_pattern_209 rfl rfl ?_
                refine g_iload_n (i := 2) dX8_pattern_210 rfl rfl ?_
                refine g_iload_n (i := 3) dX8_pattern_211 rfl rfl ?_
                refine g_callV (M' := mX8_readLine) dX8_pattern_212 lc_X8_readLine ml_X8_181 (m_readLine ht2 hr hv ho hpl hfe (hrw (by omega)) (by omega) (by first | (exact Or.inl (hby59.mp (by omega))) | (by_cases z9 : e < L ∧ (tp e).toInt = 59; exact Or.inl z9; exact Or.inr ⟨z9, bI_0.mp (by assumption)⟩))) rfl rfl (by repeat' (first | assumption | exact rF_eq | refine rF_ne (by decide) ?_ | refine rF_a ?_ | exact rA_eq | refine rA_ne (by decide) ?_ | refine rA_f ?_)) rfl ⟨Nat.le_of_ble_eq_true rfl, Nat.le_of_ble_eq_true rfl, Nat.le_of_ble_eq_true rfl, Nat.le_of_ble_eq_true rfl⟩ (Nat.le_of_ble_eq_true rfl) ?_
                intro r_ h_ q_; obtain ⟨rfl, o1, o2⟩ := q_
                refine g_goto (tgt := 248) dX8_pattern_215 (by decide) ?_
                exact hpost _ _ _ _ o1 o2
            · (try simp (disch := omega) only [nT, t_m1000100, t_m1000010, t_m1000003, t_m1000002, t_m1000001, t_m1000000, t_m65535, t_m1000, t_m3, t_m1, t_0, t_1, t_2, t_3, t_4, t_5, t_6, t_7, t_8, t_9, t_10, t_11, t_12, t_13, t_15, t_16, t_20, t_21, t_22, t_32, t_40, t_41, t_48, t_49, t_57, t_59, t_60, t_63, t_72, t_76, t_88, t_100, t_144, t_200, t_255, t_288, t_400, t_800, t_999, t_1000, t_1024, t_1200, t_1600, t_3200, t_100000, t_200000, t_252645135, t_858993459, t_1431655765, u_m1000002, u_m1000001, u_m1000, u_m3, u_m1, u_0, u_1, u_2, u_3, u_4, u_5, u_7, u_8, u_10, u_11, u_15, u_60, u_100, u_255, u_999, u_1000, u_100000, u_4294967295] at hc175)
              refine g_iload dX8_pattern_178 rfl ?_
              refine g_if_eq (tgt := 203) dX8_pattern_180 (by decide) (fun hc180 => ?_) (fun hc180 => ?_)
              · have hd180 := i_eq.mp hc180; (try simp (disch := omega) only [nT, t_m1000100, t_m1000010, t_m1000003, t_m1000002, t_m1000001, t_m1000000, t_m65535, t_m1000, t_m3, t_m1, t_0, t_1, t_2, t_3, t_4, t_5, t_6, t_7, t_8, t_9, t_10, t_11, t_12, t_13, t_15, t_16, t_20, t_21, t_22, t_32, t_40, t_41, t_48, t_49, t_57, t_59, t_60, t_63, t_72, t_76, t_88, t_100, t_144, t_200, t_255, t_288, t_400, t_800, t_999, t_1000, t_1024, t_1200, t_1600, t_3200, t_100000, t_200000, t_252645135, t_858993459, t_1431655765, u_m1000002, u_m1000001, u_m1000, u_m3, u_m1, u_0, u_1, u_2, u_3, u_4, u_5, u_7, u_8, u_10, u_11, u_15, u_60, u_100, u_255, u_999, u_1000, u_100000, u_4294967295] at hd180)
                refine g_iload_n (i := 3) dX8_pattern_203 rfl rfl ?_
                refine g_iload_n (i := 2) dX8_pattern_204 rfl rfl ?_
                refine g_icmp_le (tgt := 218) dX8_pattern_205 (by decide) (fun hc205 => ?_) (fun hc205 => ?_)
                · (try simp (disch := omega) only [nT, t_m1000100, t_m1000010, t_m1000003, t_m1000002, t_m1000001, t_m1000000, t_m65535, t_m1000, t_m3, t_m1, t_0, t_1, t_2, t_3, t_4, t_5, t_6, t_7, t_8, t_9, t_10, t_11, t_12, t_13, t_15, t_16, t_20, t_21, t_22, t_32, t_40, t_41, t_48, t_49, t_57, t_59, t_60, t_63, t_72, t_76, t_88, t_100, t_144, t_200, t_255, t_288, t_400, t_800, t_999, t_1000, t_1024, t_1200, t_1600, t_3200, t_100000, t_200000, t_252645135, t_858993459, t_1431655765, u_m1000002, u_m1000001, u_m1000, u_m3, u_m1, u_0, u_1, u_2, u_3, u_4, u_5, u_7, u_8, u_10, u_11, u_15, u_60, u_100, u_255, u_999, u_1000, u_100000, u_4294967295] at hc205)
                  refine g_aload_n (i := 0) dX8_pattern_218 rfl rfl ?_
                  refine g_aload_n (i := 0) dX8_pattern_219 rfl rfl ?_
                  refine g_get dX8_pattern_220 fl_X8_149 (by repeat' (first | assumption | exact rF_eq | refine rF_ne (by decide) ?_ | refine rF_a ?_ | exact rA_eq | refine rA_ne (by decide) ?_ | refine rA_f ?_)) (by repeat' (first | assumption | exact rF_eq | refine rF_ne (by decide) ?_ | refine rF_a ?_ | exact rA_eq | refine rA_ne (by decide) ?_ | refine rA_f ?_)) ?_
                  refine g_callV (M' := mX8_byteAt) dX8_pattern_223 lc_X8_byteAt ml_X8_152 (c_byteAt hr hw hpL) rfl rfl (by repeat' (first | assumption | exact rF_eq | refine rF_ne (by decide) ?_ | refine rF_a ?_ | exact rA_eq | refine rA_ne (by decide) ?_ | refine rA_f ?_)) rfl ⟨Nat.le_of_ble_eq_true rfl, Nat.le_of_ble_eq_true rfl, Nat.le_of_ble_eq_true rfl, Nat.le_of_ble_eq_true rfl⟩ (Nat.le_of_ble_eq_true rfl) ?_
                  intro r_ h_ q_; obtain ⟨q1_, q2_⟩ := q_; have q2_ := q2_.symm; subst q1_; subst q2_
                  rw [byB_t hpl]
                  refine g_bipush (v := 41) dX8_pattern_226 (by decide) ?_
                  refine g_icmp_ne (tgt := 239) dX8_pattern_228 (by decide) (fun hc228 => ?_) (fun hc228 => ?_)
                  · have hd228 := mt i_eq.mpr hc228; (try simp (disch := omega) only [nT, t_m1000100, t_m1000010, t_m1000003, t_m1000002, t_m1000001, t_m1000000, t_m65535, t_m1000, t_m3, t_m1, t_0, t_1, t_2, t_3, t_4, t_5, t_6, t_7, t_8, t_9, t_10, t_11, t_12, t_13, t_15, t_16, t_20, t_21, t_22, t_32, t_40, t_41, t_48, t_49, t_57, t_59, t_60, t_63, t_72, t_76, t_88, t_100, t_144, t_200, t_255, t_288, t_400, t_800, t_999, t_1000, t_1024, t_1200, t_1600, t_3200, t_100000, t_200000, t_252645135, t_858993459, t_1431655765, u_m1000002, u_m1000001, u_m1000, u_m3, u_m1, u_0, u_1, u_2, u_3, u_4, u_5, u_7, u_8, u_10, u_11, u_15, u_60, u_100, u_255, u_999, u_1000, u_100000, u_4294967295] at hd228)
                    refine g_aload_n (i := 0) dX8_pattern_239 rfl rfl ?_
                    refine g_iconst (v := 1) dX8_pattern_240 (by decide) ?_
                    refine g_aload_n (i := 0) dX8_pattern_241 rfl rfl ?_
                    refine g_get dX8_pattern_242 fl_X8_149 (by repeat' (first | assumption | exact rF_eq | refine rF_ne (by decide) ?_ | refine rF_a ?_ | exact rA_eq | refine rA_ne (by decide) ?_ | refine rA_f ?_)) (by repeat' (first | assumption | exact rF_eq | refine rF_ne (by decide) ?_ | refine rF_a ?_ | exact rA_eq | refine rA_ne (by decide) ?_ | refine rA_f ?_)) ?_
                    refine g_callV (M' := mX8_bad) dX8_pattern_245 lc_X8_bad ml_X8_158 (c_bad r1 r5 1 (nI p)) rfl rfl (by repeat' (first | assumption | exact rF_eq | refine rF_ne (by decide) ?_ | refine rF_a ?_ | exact rA_eq | refine rA_ne (by decide) ?_ | refine rA_f ?_)) rfl ⟨Nat.le_of_ble_eq_true rfl, Nat.le_of_ble_eq_true rfl, Nat.le_of_ble_eq_true rfl, Nat.le_of_ble_eq_true rfl⟩ (Nat.le_of_ble_eq_true rfl) ?_
                    intro r_ h_ q_; obtain ⟨q1_, q2_⟩ := q_; have q2_ := q2_.symm; subst q1_; subst q2_
                    have o1 : OutM t L tp A0 (sF (sF h2 44 10 (.int 1)) 44 11 (.int (nI p))) (tokB L tp (d, M, T, nl, pn) p) := by
                      rw [tok_0 hfe (by omega) (by omega)]
                      exact pn_bad hr hw ho 1 p (by omega) (by omega) (by omega)
                    have o2 : Fr saM sfM h2 (sF (sF h2 44 10 (.int 1)) 44 11 (.int (nI p))) := fr_sF (by decide) (fr_sF (by decide) fr_rf)
                    exact hpost _ _ _ _ o1 o2
                  · have hd228 := i_eq.mp hc228; (try simp (disch := omega) only [nT, t_m1000100, t_m1000010, t_m1000003, t_m1000002, t_m1000001, t_m1000000, t_m65535, t_m1000, t_m3, t_m1, t_0, t_1, t_2, t_3, t_4, t_5, t_6, t_7, t_8, t_9, t_10, t_11, t_12, t_13, t_15, t_16, t_20, t_21, t_22, t_32, t_40, t_41, t_48, t_49, t_57, t_59, t_60, t_63, t_72, t_76, t_88, t_100, t_144, t_200, t_255, t_288, t_400, t_800, t_999, t_1000, t_1024, t_1200, t_1600, t_3200, t_100000, t_200000, t_252645135, t_858993459, t_1431655765, u_m1000002, u_m1000001, u_m1000, u_m3, u_m1, u_0, u_1, u_2, u_3, u_4, u_5, u_7, u_8, u_10, u_11, u_15, u_60, u_100, u_255, u_999, u_1000, u_100000, u_4294967295] at hd228)
                    refine g_aload_n (i := 0) dX8_pattern_231 rfl rfl ?_
                    refine g_iload_n (i := 1) dX8_pattern_232 rfl rfl ?_
                    refine g_callV (M' := mX8_close) dX8_pattern_233 lc_X8_close ml_X8_184 (m_close ht2 hr hv ho hpl (by omega)) rfl rfl (by repeat' (first | assumption | exact rF_eq | refine rF_ne (by decide) ?_ | refine rF_a ?_ | exact rA_eq | refine rA_ne (by decide) ?_ | refine rA_f ?_)) rfl ⟨Nat.le_of_ble_eq_true rfl, Nat.le_of_ble_eq_true rfl, Nat.le_of_ble_eq_true rfl, Nat.le_of_ble_eq_true rfl⟩ (Nat.le_of_ble_eq_true rfl) ?_
                    intro r_ h_ q_; obtain ⟨rfl, o1, o2⟩ := q_
                    refine g_goto (tgt := 248) dX8_pattern_236 (by decide) ?_
                    exact hpost _ _ _ _ o1 o2
                · (try simp (disch := omega) only [nT, t_m1000100, t_m1000010, t_m1000003, t_m1000002, t_m1000001, t_m1000000, t_m65535, t_m1000, t_m3, t_m1, t_0, t_1, t_2, t_3, t_4, t_5, t_6, t_7, t_8, t_9, t_10, t_11, t_12, t_13, t_15, t_16, t_20, t_21, t_22, t_32, t_40, t_41, t_48, t_49, t_57, t_59, t_60, t_63, t_72, t_76, t_88, t_100, t_144, t_200, t_255, t_288, t_400, t_800, t_999, t_1000, t_1024, t_1200, t_1600, t_3200, t_100000, t_200000, t_252645135, t_858993459, t_1431655765, u_m1000002, u_m1000001, u_m1000, u_m3, u_m1, u_0, u_1, u_2, u_3, u_4, u_5, u_7, u_8, u_10, u_11, u_15, u_60, u_100, u_255, u_999, u_1000, u_100000, u_4294967295] at hc205)
                  refine g_aload_n (i := 0) dX8_pattern_208 rfl rfl ?_
                  refine g_iload_n (i := 1) dX8_pattern_209 rfl rfl ?_
                  refine g_iload_n (i := 2) dX8_pattern_210 rfl rfl ?_
                  refine g_iload_n (i := 3) dX8_pattern_211 rfl rfl ?_
                  refine g_callV (M' := mX8_readLine) dX8_pattern_212 lc_X8_readLine ml_X8_181 (m_readLine ht2 hr hv ho hpl hfe (hrw (by omega)) (by omega) (by first | (exact Or.inl (hby59.mp (by omega))) | (by_cases z9 : e < L ∧ (tp e).toInt = 59; exact Or.inl z9; exact Or.inr ⟨z9, bI_0.mp (by assumption)⟩))) rfl rfl (by repeat' (first | assumption | exact rF_eq | refine rF_ne (by decide) ?_ | refine rF_a ?_ | exact rA_eq | refine rA_ne (by decide) ?_ | refine rA_f ?_)) rfl ⟨Nat.le_of_ble_eq_true rfl, Nat.le_of_ble_eq_true rfl, Nat.le_of_ble_eq_true rfl, Nat.le_of_ble_eq_true rfl⟩ (Nat.le_of_ble_eq_true rfl) ?_
                  intro r_ h_ q_; obtain ⟨rfl, o1, o2⟩ := q_
                  refine g_goto (tgt := 248) dX8_pattern_215 (by decide) ?_
                  exact hpost _ _ _ _ o1 o2
              · have hd180 := mt i_eq.mpr hc180; (try simp (disch := omega) only [nT, t_m1000100, t_m1000010, t_m1000003, t_m1000002, t_m1000001, t_m1000000, t_m65535, t_m1000, t_m3, t_m1, t_0, t_1, t_2, t_3, t_4, t_5, t_6, t_7, t_8, t_9, t_10, t_11, t_12, t_13, t_15, t_16, t_20, t_21, t_22, t_32, t_40, t_41, t_48, t_49, t_57, t_59, t_60, t_63, t_72, t_76, t_88, t_100, t_144, t_200, t_255, t_288, t_400, t_800, t_999, t_1000, t_1024, t_1200, t_1600, t_3200, t_100000, t_200000, t_252645135, t_858993459, t_1431655765, u_m1000002, u_m1000001, u_m1000, u_m3, u_m1, u_0, u_1, u_2, u_3, u_4, u_5, u_7, u_8, u_10, u_11, u_15, u_60, u_100, u_255, u_999, u_1000, u_100000, u_4294967295] at hd180)
                refine g_aload_n (i := 0) dX8_pattern_183 rfl rfl ?_
                refine g_iload_n (i := 3) dX8_pattern_184 rfl rfl ?_
                refine g_callV (M' := mX8_byteAt) dX8_pattern_185 lc_X8_byteAt ml_X8_152 (c_byteAt hr hw heL) rfl rfl (by repeat' (first | assumption | exact rF_eq | refine rF_ne (by decide) ?_ | refine rF_a ?_ | exact rA_eq | refine rA_ne (by decide) ?_ | refine rA_f ?_)) rfl ⟨Nat.le_of_ble_eq_true rfl, Nat.le_of_ble_eq_true rfl, Nat.le_of_ble_eq_true rfl, Nat.le_of_ble_eq_true rfl⟩ (Nat.le_of_ble_eq_true rfl) ?_
                intro r_ h_ q_; obtain ⟨q1_, q2_⟩ := q_; have q2_ := q2_.symm; subst q1_; subst q2_
                refine g_bipush (v := 59) dX8_pattern_188 (by decide) ?_
                refine g_icmp_eq (tgt := 203) dX8_pattern_190 (by decide) (fun hc190 => ?_) (fun hc190 => ?_)
                · have hd190 := i_eq.mp hc190; (try simp (disch := omega) only [nT, t_m1000100, t_m1000010, t_m1000003, t_m1000002, t_m1000001, t_m1000000, t_m65535, t_m1000, t_m3, t_m1, t_0, t_1, t_2, t_3, t_4, t_5, t_6, t_7, t_8, t_9, t_10, t_11, t_12, t_13, t_15, t_16, t_20, t_21, t_22, t_32, t_40, t_41, t_48, t_49, t_57, t_59, t_60, t_63, t_72, t_76, t_88, t_100, t_144, t_200, t_255, t_288, t_400, t_800, t_999, t_1000, t_1024, t_1200, t_1600, t_3200, t_100000, t_200000, t_252645135, t_858993459, t_1431655765, u_m1000002, u_m1000001, u_m1000, u_m3, u_m1, u_0, u_1, u_2, u_3, u_4, u_5, u_7, u_8, u_10, u_11, u_15, u_60, u_100, u_255, u_999, u_1000, u_100000, u_4294967295] at hd190)
                  refine g_iload_n (i := 3) dX8_pattern_203 rfl rfl ?_
                  refine g_iload_n (i := 2) dX8_pattern_204 rfl rfl ?_
                  refine g_icmp_le (tgt := 218) dX8_pattern_205 (by decide) (fun hc205 => ?_) (fun hc205 => ?_)
                  · (try simp (disch := omega) only [nT, t_m1000100, t_m1000010, t_m1000003, t_m1000002, t_m1000001, t_m1000000, t_m65535, t_m1000, t_m3, t_m1, t_0, t_1, t_2, t_3, t_4, t_5, t_6, t_7, t_8, t_9, t_10, t_11, t_12, t_13, t_15, t_16, t_20, t_21, t_22, t_32, t_40, t_41, t_48, t_49, t_57, t_59, t_60, t_63, t_72, t_76, t_88, t_100, t_144, t_200, t_255, t_288, t_400, t_800, t_999, t_1000, t_1024, t_1200, t_1600, t_3200, t_100000, t_200000, t_252645135, t_858993459, t_1431655765, u_m1000002, u_m1000001, u_m1000, u_m3, u_m1, u_0, u_1, u_2, u_3, u_4, u_5, u_7, u_8, u_10, u_11, u_15, u_60, u_100, u_255, u_999, u_1000, u_100000, u_4294967295] at hc205)
                    refine g_aload_n (i := 0) dX8_pattern_218 rfl rfl ?_
                    refine g_aload_n (i := 0) dX8_pattern_219 rfl rfl ?_
                    refine g_get dX8_pattern_220 fl_X8_149 (by repeat' (first | assumption | exact rF_eq | refine rF_ne (by decide) ?_ | refine rF_a ?_ | exact rA_eq | refine rA_ne (by decide) ?_ | refine rA_f ?_)) (by repeat' (first | assumption | exact rF_eq | refine rF_ne (by decide) ?_ | refine rF_a ?_ | exact rA_eq | refine rA_ne (by decide) ?_ | refine rA_f ?_)) ?_
                    refine g_callV (M' := mX8_byteAt) dX8_pattern_223 lc_X8_byteAt ml_X8_152 (c_byteAt hr hw hpL) rfl rfl (by repeat' (first | assumption | exact rF_eq | refine rF_ne (by decide) ?_ | refine rF_a ?_ | exact rA_eq | refine rA_ne (by decide) ?_ | refine rA_f ?_)) rfl ⟨Nat.le_of_ble_eq_true rfl, Nat.le_of_ble_eq_true rfl, Nat.le_of_ble_eq_true rfl, Nat.le_of_ble_eq_true rfl⟩ (Nat.le_of_ble_eq_true rfl) ?_
                    intro r_ h_ q_; obtain ⟨q1_, q2_⟩ := q_; have q2_ := q2_.symm; subst q1_; subst q2_
                    rw [byB_t hpl]
                    refine g_bipush (v := 41) dX8_pattern_226 (by decide) ?_
                    refine g_icmp_ne (tgt := 239) dX8_pattern_228 (by decide) (fun hc228 => ?_) (fun hc228 => ?_)
                    · have hd228 := mt i_eq.mpr hc228; (try simp (disch := omega) only [nT, t_m1000100, t_m1000010, t_m1000003, t_m1000002, t_m1000001, t_m1000000, t_m65535, t_m1000, t_m3, t_m1, t_0, t_1, t_2, t_3, t_4, t_5, t_6, t_7, t_8, t_9, t_10, t_11, t_12, t_13, t_15, t_16, t_20, t_21, t_22, t_32, t_40, t_41, t_48, t_49, t_57, t_59, t_60, t_63, t_72, t_76, t_88, t_100, t_144, t_200, t_255, t_288, t_400, t_800, t_999, t_1000, t_1024, t_1200, t_1600, t_3200, t_100000, t_200000, t_252645135, t_858993459, t_1431655765, u_m1000002, u_m1000001, u_m1000, u_m3, u_m1, u_0, u_1, u_2, u_3, u_4, u_5, u_7, u_8, u_10, u_11, u_15, u_60, u_100, u_255, u_999, u_1000, u_100000, u_4294967295] at hd228)
                      refine g_aload_n (i := 0) dX8_pattern_239 rfl rfl ?_
                      refine g_iconst (v := 1) dX8_pattern_240 (by decide) ?_
                      refine g_aload_n (i := 0) dX8_pattern_241 rfl rfl ?_
                      refine g_get dX8_pattern_242 fl_X8_149 (by repeat' (first | assumption | exact rF_eq | refine rF_ne (by decide) ?_ | refine rF_a ?_ | exact rA_eq | refine rA_ne (by decide) ?_ | refine rA_f ?_)) (by repeat' (first | assumption | exact rF_eq | refine rF_ne (by decide) ?_ | refine rF_a ?_ | exact rA_eq | refine rA_ne (by decide) ?_ | refine rA_f ?_)) ?_
                      refine g_callV (M' := mX8_bad) dX8_pattern_245 lc_X8_bad ml_X8_158 (c_bad r1 r5 1 (nI p)) rfl rfl (by repeat' (first | assumption | exact rF_eq | refine rF_ne (by decide) ?_ | refine rF_a ?_ | exact rA_eq | refine rA_ne (by decide) ?_ | refine rA_f ?_)) rfl ⟨Nat.le_of_ble_eq_true rfl, Nat.le_of_ble_eq_true rfl, Nat.le_of_ble_eq_true rfl, Nat.le_of_ble_eq_true rfl⟩ (Nat.le_of_ble_eq_true rfl) ?_
                      intro r_ h_ q_; obtain ⟨q1_, q2_⟩ := q_; have q2_ := q2_.symm; subst q1_; subst q2_
                      have o1 : OutM t L tp A0 (sF (sF h2 44 10 (.int 1)) 44 11 (.int (nI p))) (tokB L tp (d, M, T, nl, pn) p) := by
                        rw [tok_0 hfe (by omega) (by omega)]
                        exact pn_bad hr hw ho 1 p (by omega) (by omega) (by omega)
                      have o2 : Fr saM sfM h2 (sF (sF h2 44 10 (.int 1)) 44 11 (.int (nI p))) := fr_sF (by decide) (fr_sF (by decide) fr_rf)
                      exact hpost _ _ _ _ o1 o2
                    · have hd228 := i_eq.mp hc228; (try simp (disch := omega) only [nT, t_m1000100, t_m1000010, t_m1000003, t_m1000002, t_m1000001, t_m1000000, t_m65535, t_m1000, t_m3, t_m1, t_0, t_1, t_2, t_3, t_4, t_5, t_6, t_7, t_8, t_9, t_10, t_11, t_12, t_13, t_15, t_16, t_20, t_21, t_22, t_32, t_40, t_41, t_48, t_49, t_57, t_59, t_60, t_63, t_72, t_76, t_88, t_100, t_144, t_200, t_255, t_288, t_400, t_800, t_999, t_1000, t_1024, t_1200, t_1600, t_3200, t_100000, t_200000, t_252645135, t_858993459, t_1431655765, u_m1000002, u_m1000001, u_m1000, u_m3, u_m1, u_0, u_1, u_2, u_3, u_4, u_5, u_7, u_8, u_10, u_11, u_15, u_60, u_100, u_255, u_999, u_1000, u_100000, u_4294967295] at hd228)
                      refine g_aload_n (i := 0) dX8_pattern_231 rfl rfl ?_
                      refine g_iload_n (i := 1) dX8_pattern_232 rfl rfl ?_
                      refine g_callV (M' := mX8_close) dX8_pattern_233 lc_X8_close ml_X8_184 (m_close ht2 hr hv ho hpl (by omega)) rfl rfl (by repeat' (first | assumption | exact rF_eq | refine rF_ne (by decide) ?_ | refine rF_a ?_ | exact rA_eq | refine rA_ne (by decide) ?_ | refine rA_f ?_)) rfl ⟨Nat.le_of_ble_eq_true rfl, Nat.le_of_ble_eq_true rfl, Nat.le_of_ble_eq_true rfl, Nat.le_of_ble_eq_true rfl⟩ (Nat.le_of_ble_eq_true rfl) ?_
                      intro r_ h_ q_; obtain ⟨rfl, o1, o2⟩ := q_
                      refine g_goto (tgt := 248) dX8_pattern_236 (by decide) ?_
                      exact hpost _ _ _ _ o1 o2
                  · (try simp (disch := omega) only [nT, t_m1000100, t_m1000010, t_m1000003, t_m1000002, t_m1000001, t_m1000000, t_m65535, t_m1000, t_m3, t_m1, t_0, t_1, t_2, t_3, t_4, t_5, t_6, t_7, t_8, t_9, t_10, t_11, t_12, t_13, t_15, t_16, t_20, t_21, t_22, t_32, t_40, t_41, t_48, t_49, t_57, t_59, t_60, t_63, t_72, t_76, t_88, t_100, t_144, t_200, t_255, t_288, t_400, t_800, t_999, t_1000, t_1024, t_1200, t_1600, t_3200, t_100000, t_200000, t_252645135, t_858993459, t_1431655765, u_m1000002, u_m1000001, u_m1000, u_m3, u_m1, u_0, u_1, u_2, u_3, u_4, u_5, u_7, u_8, u_10, u_11, u_15, u_60, u_100, u_255, u_999, u_1000, u_100000, u_4294967295] at hc205)
                    refine g_aload_n (i := 0) dX8_pattern_208 rfl rfl ?_
                    refine g_iload_n (i := 1) dX8_pattern_209 rfl rfl ?_
                    refine g_iload_n (i := 2) dX8_pattern_210 rfl rfl ?_
                    refine g_iload_n (i := 3) dX8_pattern_211 rfl rfl ?_
                    refine g_callV (M' := mX8_readLine) dX8_pattern_212 lc_X8_readLine ml_X8_181 (m_readLine ht2 hr hv ho hpl hfe (hrw (by omega)) (by omega) (by first | (exact Or.inl (hby59.mp (by omega))) | (by_cases z9 : e < L ∧ (tp e).toInt = 59; exact Or.inl z9; exact Or.inr ⟨z9, bI_0.mp (by assumption)⟩))) rfl rfl (by repeat' (first | assumption | exact rF_eq | refine rF_ne (by decide) ?_ | refine rF_a ?_ | exact rA_eq | refine rA_ne (by decide) ?_ | refine rA_f ?_)) rfl ⟨Nat.le_of_ble_eq_true rfl, Nat.le_of_ble_eq_true rfl, Nat.le_of_ble_eq_true rfl, Nat.le_of_ble_eq_true rfl⟩ (Nat.le_of_ble_eq_true rfl) ?_
                    intro r_ h_ q_; obtain ⟨rfl, o1, o2⟩ := q_
                    refine g_goto (tgt := 248) dX8_pattern_215 (by decide) ?_
                    exact hpost _ _ _ _ o1 o2
                · have hd190 := mt i_eq.mpr hc190; (try simp (disch := omega) only [nT, t_m1000100, t_m1000010, t_m1000003, t_m1000002, t_m1000001, t_m1000000, t_m65535, t_m1000, t_m3, t_m1, t_0, t_1, t_2, t_3, t_4, t_5, t_6, t_7, t_8, t_9, t_10, t_11, t_12, t_13, t_15, t_16, t_20, t_21, t_22, t_32, t_40, t_41, t_48, t_49, t_57, t_59, t_60, t_63, t_72, t_76, t_88, t_100, t_144, t_200, t_255, t_288, t_400, t_800, t_999, t_1000, t_1024, t_1200, t_1600, t_3200, t_100000, t_200000, t_252645135, t_858993459, t_1431655765, u_m1000002, u_m1000001, u_m1000, u_m3, u_m1, u_0, u_1, u_2, u_3, u_4, u_5, u_7, u_8, u_10, u_11, u_15, u_60, u_100, u_255, u_999, u_1000, u_100000, u_4294967295] at hd190)
                  refine g_aload_n (i := 0) dX8_pattern_193 rfl rfl ?_
                  refine g_iload_n (i := 1) dX8_pattern_194 rfl rfl ?_
                  refine g_iload_n (i := 2) dX8_pattern_195 rfl rfl ?_
                  refine g_iload_n (i := 3) dX8_pattern_196 rfl rfl ?_
                  refine g_callV (M' := mX8_readNumber) dX8_pattern_197 lc_X8_readNumber ml_X8_177 (m_readNumber ht2 hr hv ho hpl hfe (hrw (by omega)) (by omega) (fun q => by have := hby59.mpr q; omega) (bI_n0.mp (by assumption))) rfl rfl (by repeat' (first | assumption | exact rF_eq | refine rF_ne (by decide) ?_ | refine rF_a ?_ | exact rA_eq | refine rA_ne (by decide) ?_ | refine rA_f ?_)) rfl ⟨Nat.le_of_ble_eq_true rfl, Nat.le_of_ble_eq_true rfl, Nat.le_of_ble_eq_true rfl, Nat.le_of_ble_eq_true rfl⟩ (Nat.le_of_ble_eq_true rfl) ?_
                  intro r_ h_ q_; obtain ⟨rfl, o1, o2⟩ := q_
                  refine g_goto (tgt := 248) dX8_pattern_200 (by decide) ?_
                  exact hpost _ _ _ _ o1 o2
          have keyL : ∀ (r k : Nat) (g : Bool), k + r = L → fwd isRw L tp k = e → (g && alB isFg tp (e - k) k) = alB isFg tp (e - p) p → GG (EM mX8_pattern 3 0 0 Q') 0 0 103 [.ref 44, .int (nI t), .int (nI p), .int (nI k), .int (bI (g = true))] [] h2 := by
            intro r
            induction r with
            | zero =>
              intro k g hk hke hg
              rw [fwd_e (by omega)] at hke
              subst hke
              rw [Nat.sub_self, show alB isFg tp 0 k = true from rfl, Bool.and_true] at hg
              subst hg
              refine g_aload_n (i := 0) dX8_pattern_103 rfl rfl ?_
              refine g_iload_n (i := 3) dX8_pattern_104 rfl rfl ?_
              refine g_callV (M' := mX8_byteAt) dX8_pattern_105 lc_X8_byteAt ml_X8_152 (c_byteAt hr hw (by omega)) rfl rfl (by repeat' (first | assumption | exact rF_eq | refine rF_ne (by decide) ?_ | refine rF_a ?_ | exact rA_eq | refine rA_ne (by decide) ?_ | refine rA_f ?_)) rfl ⟨Nat.le_of_ble_eq_true rfl, Nat.le_of_ble_eq_true rfl, Nat.le_of_ble_eq_true rfl, Nat.le_of_ble_eq_true rfl⟩ (Nat.le_of_ble_eq_true rfl) ?_
              intro r_ h_ q_; obtain ⟨q1_, q2_⟩ := q_; have q2_ := q2_.symm; subst q1_; subst q2_
              rw [byB_f (by omega)]
              refine g_callS (M' := mX8_isFigure) dX8_pattern_108 lc_X8_isFigure ml_X8_174 (c_x8fig _ _) rfl rfl ⟨Nat.le_of_ble_eq_true rfl, Nat.le_of_ble_eq_true rfl, Nat.le_of_ble_eq_true rfl, Nat.le_of_ble_eq_true rfl⟩ (Nat.le_of_ble_eq_true rfl) ?_
              intro r_ h_ q_; obtain ⟨q1_, q2_⟩ := q_; have q2_ := q2_.symm; subst q1_; subst q2_
              refine g_if_ne (tgt := 144) dX8_pattern_111 (by decide) (fun hc111 => ?_) (fun hc111 => ?_)
              · replace hc111 := bI_n0.mp hc111; (try simp (disch := omega) only [nT, t_m1000100, t_m1000010, t_m1000003, t_m1000002, t_m1000001, t_m1000000, t_m65535, t_m1000, t_m3, t_m1, t_0, t_1, t_2, t_3, t_4, t_5, t_6, t_7, t_8, t_9, t_10, t_11, t_12, t_13, t_15, t_16, t_20, t_21, t_22, t_32, t_40, t_41, t_48, t_49, t_57, t_59, t_60, t_63, t_72, t_76, t_88, t_100, t_144, t_200, t_255, t_288, t_400, t_800, t_999, t_1000, t_1024, t_1200, t_1600, t_3200, t_100000, t_200000, t_252645135, t_858993459, t_1431655765, u_m1000002, u_m1000001, u_m1000, u_m3, u_m1, u_0, u_1, u_2, u_3, u_4, u_5, u_7, u_8, u_10, u_11, u_15, u_60, u_100, u_255, u_999, u_1000, u_100000, u_4294967295] at hc111); exact absurd hc111 (by decide)
              · replace hc111 := bI_0.mp hc111
                (try simp (disch := omega) only [nT, t_m1000100, t_m1000010, t_m1000003, t_m1000002, t_m1000001, t_m1000000, t_m65535, t_m1000, t_m3, t_m1, t_0, t_1, t_2, t_3, t_4, t_5, t_6, t_7, t_8, t_9, t_10, t_11, t_12, t_13, t_15, t_16, t_20, t_21, t_22, t_32, t_40, t_41, t_48, t_49, t_57, t_59, t_60, t_63, t_72, t_76, t_88, t_100, t_144, t_200, t_255, t_288, t_400, t_800, t_999, t_1000, t_1024, t_1200, t_1600, t_3200, t_100000, t_200000, t_252645135, t_858993459, t_1431655765, u_m1000002, u_m1000001, u_m1000, u_m3, u_m1, u_0, u_1, u_2, u_3, u_4, u_5, u_7, u_8, u_10, u_11, u_15, u_60, u_100, u_255, u_999, u_1000, u_100000, u_4294967295] at hc111)
                refine g_aload_n (i := 0) dX8_pattern_114 rfl rfl ?_
                refine g_iload_n (i := 3) dX8_pattern_115 rfl rfl ?_
                refine g_callV (M' := mX8_byteAt) dX8_pattern_116 lc_X8_byteAt ml_X8_152 (c_byteAt hr hw (by omega)) rfl rfl (by repeat' (first | assumption | exact rF_eq | refine rF_ne (by decide) ?_ | refine rF_a ?_ | exact rA_eq | refine rA_ne (by decide) ?_ | refine rA_f ?_)) rfl ⟨Nat.le_of_ble_eq_true rfl, Nat.le_of_ble_eq_true rfl, Nat.le_of_ble_eq_true rfl, Nat.le_of_ble_eq_true rfl⟩ (Nat.le_of_ble_eq_true rfl) ?_
                intro r_ h_ q_; obtain ⟨q1_, q2_⟩ := q_; have q2_ := q2_.symm; subst q1_; subst q2_
                rw [byB_f (by omega)]
                refine g_bipush (v := 76) dX8_pattern_119 (by decide) ?_
                refine g_icmp_eq (tgt := 144) dX8_pattern_121 (by decide) (fun hc121 => ?_) (fun hc121 => ?_)
                · have hd121 := i_eq.mp hc121; (try simp (disch := omega) only [nT, t_m1000100, t_m1000010, t_m1000003, t_m1000002, t_m1000001, t_m1000000, t_m65535, t_m1000, t_m3, t_m1, t_0, t_1, t_2, t_3, t_4, t_5, t_6, t_7, t_8, t_9, t_10, t_11, t_12, t_13, t_15, t_16, t_20, t_21, t_22, t_32, t_40, t_41, t_48, t_49, t_57, t_59, t_60, t_63, t_72, t_76, t_88, t_100, t_144, t_200, t_255, t_288, t_400, t_800, t_999, t_1000, t_1024, t_1200, t_1600, t_3200, t_100000, t_200000, t_252645135, t_858993459, t_1431655765, u_m1000002, u_m1000001, u_m1000, u_m3, u_m1, u_0, u_1, u_2, u_3, u_4, u_5, u_7, u_8, u_10, u_11, u_15, u_60, u_100, u_255, u_999, u_1000, u_100000, u_4294967295] at hd121); exact absurd hc121 (by decide)
                · have hd121 := mt i_eq.mpr hc121; (try simp (disch := omega) only [nT, t_m1000100, t_m1000010, t_m1000003, t_m1000002, t_m1000001, t_m1000000, t_m65535, t_m1000, t_m3, t_m1, t_0, t_1, t_2, t_3, t_4, t_5, t_6, t_7, t_8, t_9, t_10, t_11, t_12, t_13, t_15, t_16, t_20, t_21, t_22, t_32, t_40, t_41, t_48, t_49, t_57, t_59, t_60, t_63, t_72, t_76, t_88, t_100, t_144, t_200, t_255, t_288, t_400, t_800, t_999, t_1000, t_1024, t_1200, t_1600, t_3200, t_100000, t_200000, t_252645135, t_858993459, t_1431655765, u_m1000002, u_m1000001, u_m1000, u_m3, u_m1, u_0, u_1, u_2, u_3, u_4, u_5, u_7, u_8, u_10, u_11, u_15, u_60, u_100, u_255, u_999, u_1000, u_100000, u_4294967295] at hd121)
                  refine g_aload_n (i := 0) dX8_pattern_124 rfl rfl ?_
                  refine g_iload_n (i := 3) dX8_pattern_125 rfl rfl ?_
                  refine g_callV (M' := mX8_byteAt) dX8_pattern_126 lc_X8_byteAt ml_X8_152 (c_byteAt hr hw (by omega)) rfl rfl (by repeat' (first | assumption | exact rF_eq | refine rF_ne (by decide) ?_ | refine rF_a ?_ | exact rA_eq | refine rA_ne (by decide) ?_ | refine rA_f ?_)) rfl ⟨Nat.le_of_ble_eq_true rfl, Nat.le_of_ble_eq_true rfl, Nat.le_of_ble_eq_true rfl, Nat.le_of_ble_eq_true rfl⟩ (Nat.le_of_ble_eq_true rfl) ?_
                  intro r_ h_ q_; obtain ⟨q1_, q2_⟩ := q_; have q2_ := q2_.symm; subst q1_; subst q2_
                  rw [byB_f (by omega)]
                  refine g_bipush (v := 72) dX8_pattern_129 (by decide) ?_
                  refine g_icmp_eq (tgt := 144) dX8_pattern_131 (by decide) (fun hc131 => ?_) (fun hc131 => ?_)
                  · have hd131 := i_eq.mp hc131; (try simp (disch := omega) only [nT, t_m1000100, t_m1000010, t_m1000003, t_m1000002, t_m1000001, t_m1000000, t_m65535, t_m1000, t_m3, t_m1, t_0, t_1, t_2, t_3, t_4, t_5, t_6, t_7, t_8, t_9, t_10, t_11, t_12, t_13, t_15, t_16, t_20, t_21, t_22, t_32, t_40, t_41, t_48, t_49, t_57, t_59, t_60, t_63, t_72, t_76, t_88, t_100, t_144, t_200, t_255, t_288, t_400, t_800, t_999, t_1000, t_1024, t_1200, t_1600, t_3200, t_100000, t_200000, t_252645135, t_858993459, t_1431655765, u_m1000002, u_m1000001, u_m1000, u_m3, u_m1, u_0, u_1, u_2, u_3, u_4, u_5, u_7, u_8, u_10, u_11, u_15, u_60, u_100, u_255, u_999, u_1000, u_100000, u_4294967295] at hd131); exact absurd hc131 (by decide)
                  · have hd131 := mt i_eq.mpr hc131; (try simp (disch := omega) only [nT, t_m1000100, t_m1000010, t_m1000003, t_m1000002, t_m1000001, t_m1000000, t_m65535, t_m1000, t_m3, t_m1, t_0, t_1, t_2, t_3, t_4, t_5, t_6, t_7, t_8, t_9, t_10, t_11, t_12, t_13, t_15, t_16, t_20, t_21, t_22, t_32, t_40, t_41, t_48, t_49, t_57, t_59, t_60, t_63, t_72, t_76, t_88, t_100, t_144, t_200, t_255, t_288, t_400, t_800, t_999, t_1000, t_1024, t_1200, t_1600, t_3200, t_100000, t_200000, t_252645135, t_858993459, t_1431655765, u_m1000002, u_m1000001, u_m1000, u_m3, u_m1, u_0, u_1, u_2, u_3, u_4, u_5, u_7, u_8, u_10, u_11, u_15, u_60, u_100, u_255, u_999, u_1000, u_100000, u_4294967295] at hd131)
                    refine g_aload_n (i := 0) dX8_pattern_134 rfl rfl ?_
                    refine g_iload_n (i := 3) dX8_pattern_135 rfl rfl ?_
                    refine g_callV (M' := mX8_byteAt) dX8_pattern_136 lc_X8_byteAt ml_X8_152 (c_byteAt hr hw (by omega)) rfl rfl (by repeat' (first | assumption | exact rF_eq | refine rF_ne (by decide) ?_ | refine rF_a ?_ | exact rA_eq | refine rA_ne (by decide) ?_ | refine rA_f ?_)) rfl ⟨Nat.le_of_ble_eq_true rfl, Nat.le_of_ble_eq_true rfl, Nat.le_of_ble_eq_true rfl, Nat.le_of_ble_eq_true rfl⟩ (Nat.le_of_ble_eq_true rfl) ?_
                    intro r_ h_ q_; obtain ⟨q1_, q2_⟩ := q_; have q2_ := q2_.symm; subst q1_; subst q2_
                    rw [byB_f (by omega)]
                    refine g_bipush (v := 88) dX8_pattern_139 (by decide) ?_
                    refine g_icmp_ne (tgt := 173) dX8_pattern_141 (by decide) (fun hc141 => ?_) (fun hc141 => ?_)
                    · have hd141 := mt i_eq.mpr hc141; (try simp (disch := omega) only [nT, t_m1000100, t_m1000010, t_m1000003, t_m1000002, t_m1000001, t_m1000000, t_m65535, t_m1000, t_m3, t_m1, t_0, t_1, t_2, t_3, t_4, t_5, t_6, t_7, t_8, t_9, t_10, t_11, t_12, t_13, t_15, t_16, t_20, t_21, t_22, t_32, t_40, t_41, t_48, t_49, t_57, t_59, t_60, t_63, t_72, t_76, t_88, t_100, t_144, t_200, t_255, t_288, t_400, t_800, t_999, t_1000, t_1024, t_1200, t_1600, t_3200, t_100000, t_200000, t_252645135, t_858993459, t_1431655765, u_m1000002, u_m1000001, u_m1000, u_m3, u_m1, u_0, u_1, u_2, u_3, u_4, u_5, u_7, u_8, u_10, u_11, u_15, u_60, u_100, u_255, u_999, u_1000, u_100000, u_4294967295] at hd141)
                      exact fin2
                    · have hd141 := i_eq.mp hc141; (try simp (disch := omega) only [nT, t_m1000100, t_m1000010, t_m1000003, t_m1000002, t_m1000001, t_m1000000, t_m65535, t_m1000, t_m3, t_m1, t_0, t_1, t_2, t_3, t_4, t_5, t_6, t_7, t_8, t_9, t_10, t_11, t_12, t_13, t_15, t_16, t_20, t_21, t_22, t_32, t_40, t_41, t_48, t_49, t_57, t_59, t_60, t_63, t_72, t_76, t_88, t_100, t_144, t_200, t_255, t_288, t_400, t_800, t_999, t_1000, t_1024, t_1200, t_1600, t_3200, t_100000, t_200000, t_252645135, t_858993459, t_1431655765, u_m1000002, u_m1000001, u_m1000, u_m3, u_m1, u_0, u_1, u_2, u_3, u_4, u_5, u_7, u_8, u_10, u_11, u_15, u_60, u_100, u_255, u_999, u_1000, u_100000, u_4294967295] at hd141); exact absurd hc141 (by decide)
            | succ r ihr =>
              intro k g hk hke hg
              have hkb := fwd_le (q := isRw) (L := L) (tp := tp) (show k + 1 ≤ L by omega)
              have hrow : isRw (tp k) = true → fwd isRw L tp (k + 1) = e ∧ alB isFg tp (e - k) k = (isFg (tp k) && alB isFg tp (e - (k + 1)) (k + 1)) := fun hq => by
                rw [fwd_t (by omega) hq] at hke
                refine ⟨hke, ?_⟩
                rw [show e - k = (e - (k + 1)) + 1 by omega]
                rfl
              refine g_aload_n (i := 0) dX8_pattern_103 rfl rfl ?_
              refine g_iload_n (i := 3) dX8_pattern_104 rfl rfl ?_
              refine g_callV (M' := mX8_byteAt) dX8_pattern_105 lc_X8_byteAt ml_X8_152 (c_byteAt hr hw (by omega)) rfl rfl (by repeat' (first | assumption | exact rF_eq | refine rF_ne (by decide) ?_ | refine rF_a ?_ | exact rA_eq | refine rA_ne (by decide) ?_ | refine rA_f ?_)) rfl ⟨Nat.le_of_ble_eq_true rfl, Nat.le_of_ble_eq_true rfl, Nat.le_of_ble_eq_true rfl, Nat.le_of_ble_eq_true rfl⟩ (Nat.le_of_ble_eq_true rfl) ?_
              intro r_ h_ q_; obtain ⟨q1_, q2_⟩ := q_; have q2_ := q2_.symm; subst q1_; subst q2_
              rw [byB_t (by omega)]
              refine g_callS (M' := mX8_isFigure) dX8_pattern_108 lc_X8_isFigure ml_X8_174 (c_x8fig _ _) rfl rfl ⟨Nat.le_of_ble_eq_true rfl, Nat.le_of_ble_eq_true rfl, Nat.le_of_ble_eq_true rfl, Nat.le_of_ble_eq_true rfl⟩ (Nat.le_of_ble_eq_true rfl) ?_
              intro r_ h_ q_; obtain ⟨q1_, q2_⟩ := q_; have q2_ := q2_.symm; subst q1_; subst q2_
              refine g_if_ne (tgt := 144) dX8_pattern_111 (by decide) (fun hc111 => ?_) (fun hc111 => ?_)
              · replace hc111 := bI_n0.mp hc111
                (try simp (disch := omega) only [nT, t_m1000100, t_m1000010, t_m1000003, t_m1000002, t_m1000001, t_m1000000, t_m65535, t_m1000, t_m3, t_m1, t_0, t_1, t_2, t_3, t_4, t_5, t_6, t_7, t_8, t_9, t_10, t_11, t_12, t_13, t_15, t_16, t_20, t_21, t_22, t_32, t_40, t_41, t_48, t_49, t_57, t_59, t_60, t_63, t_72, t_76, t_88, t_100, t_144, t_200, t_255, t_288, t_400, t_800, t_999, t_1000, t_1024, t_1200, t_1600, t_3200, t_100000, t_200000, t_252645135, t_858993459, t_1431655765, u_m1000002, u_m1000001, u_m1000, u_m3, u_m1, u_0, u_1, u_2, u_3, u_4, u_5, u_7, u_8, u_10, u_11, u_15, u_60, u_100, u_255, u_999, u_1000, u_100000, u_4294967295] at hc111)
                refine g_iload dX8_pattern_144 rfl ?_
                refine g_if_eq (tgt := 164) dX8_pattern_146 (by decide) (fun hc146 => ?_) (fun hc146 => ?_)
                · have hd146 := i_eq.mp hc146; (try simp (disch := omega) only [nT, t_m1000100, t_m1000010, t_m1000003, t_m1000002, t_m1000001, t_m1000000, t_m65535, t_m1000, t_m3, t_m1, t_0, t_1, t_2, t_3, t_4, t_5, t_6, t_7, t_8, t_9, t_10, t_11, t_12, t_13, t_15, t_16, t_20, t_21, t_22, t_32, t_40, t_41, t_48, t_49, t_57, t_59, t_60, t_63, t_72, t_76, t_88, t_100, t_144, t_200, t_255, t_288, t_400, t_800, t_999, t_1000, t_1024, t_1200, t_1600, t_3200, t_100000, t_200000, t_252645135, t_858993459, t_1431655765, u_m1000002, u_m1000001, u_m1000, u_m3, u_m1, u_0, u_1, u_2, u_3, u_4, u_5, u_7, u_8, u_10, u_11, u_15, u_60, u_100, u_255, u_999, u_1000, u_100000, u_4294967295] at hd146)
                  refine g_iconst (v := 0) dX8_pattern_164 (by decide) ?_
                  refine g_istore dX8_pattern_165 (Nat.le_of_ble_eq_true rfl) rfl ?_
                  refine g_iinc dX8_pattern_167 rfl (Nat.le_of_ble_eq_true rfl) rfl ?_
                  refine g_goto (tgt := 103) dX8_pattern_170 (by decide) ?_
                  rw [ni_incO]
                  obtain ⟨w1, w2⟩ := hrow (isRw_t.mpr (by first | exact Or.inl (by assumption) | exact Or.inr (isSg_t.mpr (by omega))))
                  rw [w2] at hg
                  first
                  | exact ihr (k + 1) true (by omega) w1 (by rw [bI_n0.mp hc146, hc157, Bool.true_and, Bool.true_and] at hg; rw [Bool.true_and]; exact hg)
                  | exact ihr (k + 1) false (by omega) w1 (by rw [bI_n0.mp hc146, Bool.eq_false_iff.mpr hc157, Bool.false_and, Bool.and_false] at hg; rw [Bool.false_and]; exact hg)
                  | exact ihr (k + 1) false (by omega) w1 (by rw [Bool.eq_false_iff.mpr (bI_0.mp hc146), Bool.false_and] at hg; rw [Bool.false_and]; exact hg)
                · have hd146 := mt i_eq.mpr hc146; (try simp (disch := omega) only [nT, t_m1000100, t_m1000010, t_m1000003, t_m1000002, t_m1000001, t_m1000000, t_m65535, t_m1000, t_m3, t_m1, t_0, t_1, t_2, t_3, t_4, t_5, t_6, t_7, t_8, t_9, t_10, t_11, t_12, t_13, t_15, t_16, t_20, t_21, t_22, t_32, t_40, t_41, t_48, t_49, t_57, t_59, t_60, t_63, t_72, t_76, t_88, t_100, t_144, t_200, t_255, t_288, t_400, t_800, t_999, t_1000, t_1024, t_1200, t_1600, t_3200, t_100000, t_200000, t_252645135, t_858993459, t_1431655765, u_m1000002, u_m1000001, u_m1000, u_m3, u_m1, u_0, u_1, u_2, u_3, u_4, u_5, u_7, u_8, u_10, u_11, u_15, u_60, u_100, u_255, u_999, u_1000, u_100000, u_4294967295] at hd146)
                  refine g_aload_n (i := 0) dX8_pattern_149 rfl rfl ?_
                  refine g_iload_n (i := 3) dX8_pattern_150 rfl rfl ?_
                  refine g_callV (M' := mX8_byteAt) dX8_pattern_151 lc_X8_byteAt ml_X8_152 (c_byteAt hr hw (by omega)) rfl rfl (by repeat' (first | assumption | exact rF_eq | refine rF_ne (by decide) ?_ | refine rF_a ?_ | exact rA_eq | refine rA_ne (by decide) ?_ | refine rA_f ?_)) rfl ⟨Nat.le_of_ble_eq_true rfl, Nat.le_of_ble_eq_true rfl, Nat.le_of_ble_eq_true rfl, Nat.le_of_ble_eq_true rfl⟩ (Nat.le_of_ble_eq_true rfl) ?_
                  intro r_ h_ q_; obtain ⟨q1_, q2_⟩ := q_; have q2_ := q2_.symm; subst q1_; subst q2_
                  rw [byB_t (by omega)]
                  refine g_callS (M' := mX8_isFigure) dX8_pattern_154 lc_X8_isFigure ml_X8_174 (c_x8fig _ _) rfl rfl ⟨Nat.le_of_ble_eq_true rfl, Nat.le_of_ble_eq_true rfl, Nat.le_of_ble_eq_true rfl, Nat.le_of_ble_eq_true rfl⟩ (Nat.le_of_ble_eq_true rfl) ?_
                  intro r_ h_ q_; obtain ⟨q1_, q2_⟩ := q_; have q2_ := q2_.symm; subst q1_; subst q2_
                  refine g_if_eq (tgt := 164) dX8_pattern_157 (by decide) (fun hc157 => ?_) (fun hc157 => ?_)
                  · replace hc157 := bI_0.mp hc157
                    (try simp (disch := omega) only [nT, t_m1000100, t_m1000010, t_m1000003, t_m1000002, t_m1000001, t_m1000000, t_m65535, t_m1000, t_m3, t_m1, t_0, t_1, t_2, t_3, t_4, t_5, t_6, t_7, t_8, t_9, t_10, t_11, t_12, t_13, t_15, t_16, t_20, t_21, t_22, t_32, t_40, t_41, t_48, t_49, t_57, t_59, t_60, t_63, t_72, t_76, t_88, t_100, t_144, t_200, t_255, t_288, t_400, t_800, t_999, t_1000, t_1024, t_1200, t_1600, t_3200, t_100000, t_200000, t_252645135, t_858993459, t_1431655765, u_m1000002, u_m1000001, u_m1000, u_m3, u_m1, u_0, u_1, u_2, u_3, u_4, u_5, u_7, u_8, u_10, u_11, u_15, u_60, u_100, u_255, u_999, u_1000, u_100000, u_4294967295] at hc157)
                    refine g_iconst (v := 0) dX8_pattern_164 (by decide) ?_
                    refine g_istore dX8_pattern_165 (Nat.le_of_ble_eq_true rfl) rfl ?_
                    refine g_iinc dX8_pattern_167 rfl (Nat.le_of_ble_eq_true rfl) rfl ?_
                    refine g_goto (tgt := 103) dX8_pattern_170 (by decide) ?_
                    rw [ni_incO]
                    obtain ⟨w1, w2⟩ := hrow (isRw_t.mpr (by first | exact Or.inl (by assumption) | exact Or.inr (isSg_t.mpr (by omega))))
                    rw [w2] at hg
                    first
                    | exact ihr (k + 1) true (by omega) w1 (by rw [bI_n0.mp hc146, hc157, Bool.true_and, Bool.true_and] at hg; rw [Bool.true_and]; exact hg)
                    | exact ihr (k + 1) false (by omega) w1 (by rw [bI_n0.mp hc146, Bool.eq_false_iff.mpr hc157, Bool.false_and, Bool.and_false] at hg; rw [Bool.false_and]; exact hg)
                    | exact ihr (k + 1) false (by omega) w1 (by rw [Bool.eq_false_iff.mpr (bI_0.mp hc146), Bool.false_and] at hg; rw [Bool.false_and]; exact hg)
                  · replace hc157 := bI_n0.mp hc157
                    (try simp (disch := omega) only [nT, t_m1000100, t_m1000010, t_m1000003, t_m1000002, t_m1000001, t_m1000000, t_m65535, t_m1000, t_m3, t_m1, t_0, t_1, t_2, t_3, t_4, t_5, t_6, t_7, t_8, t_9, t_10, t_11, t_12, t_13, t_15, t_16, t_20, t_21, t_22, t_32, t_40, t_41, t_48, t_49, t_57, t_59, t_60, t_63, t_72, t_76, t_88, t_100, t_144, t_200, t_255, t_288, t_400, t_800, t_999, t_1000, t_1024, t_1200, t_1600, t_3200, t_100000, t_200000, t_252645135, t_858993459, t_1431655765, u_m1000002, u_m1000001, u_m1000, u_m3, u_m1, u_0, u_1, u_2, u_3, u_4, u_5, u_7, u_8, u_10, u_11, u_15, u_60, u_100, u_255, u_999, u_1000, u_100000, u_4294967295] at hc157)
                    refine g_iconst (v := 1) dX8_pattern_160 (by decide) ?_
                    refine g_goto (tgt := 165) dX8_pattern_161 (by decide) ?_
                    refine g_istore dX8_pattern_165 (Nat.le_of_ble_eq_true rfl) rfl ?_
                    refine g_iinc dX8_pattern_167 rfl (Nat.le_of_ble_eq_true rfl) rfl ?_
                    refine g_goto (tgt := 103) dX8_pattern_170 (by decide) ?_
                    rw [ni_incO]
                    obtain ⟨w1, w2⟩ := hrow (isRw_t.mpr (by first | exact Or.inl (by assumption) | exact Or.inr (isSg_t.mpr (by omega))))
                    rw [w2] at hg
                    first
                    | exact ihr (k + 1) true (by omega) w1 (by rw [bI_n0.mp hc146, hc157, Bool.true_and, Bool.true_and] at hg; rw [Bool.true_and]; exact hg)
                    | exact ihr (k + 1) false (by omega) w1 (by rw [bI_n0.mp hc146, Bool.eq_false_iff.mpr hc157, Bool.false_and, Bool.and_false] at hg; rw [Bool.false_and]; exact hg)
                    | exact ihr (k + 1) false (by omega) w1 (by rw [Bool.eq_false_iff.mpr (bI_0.mp hc146), Bool.false_and] at hg; rw [Bool.false_and]; exact hg)
              · replace hc111 := bI_0.mp hc111
                (try simp (disch := omega) only [nT, t_m1000100, t_m1000010, t_m1000003, t_m1000002, t_m1000001, t_m1000000, t_m65535, t_m1000, t_m3, t_m1, t_0, t_1, t_2, t_3, t_4, t_5, t_6, t_7, t_8, t_9, t_10, t_11, t_12, t_13, t_15, t_16, t_20, t_21, t_22, t_32, t_40, t_41, t_48, t_49, t_57, t_59, t_60, t_63, t_72, t_76, t_88, t_100, t_144, t_200, t_255, t_288, t_400, t_800, t_999, t_1000, t_1024, t_1200, t_1600, t_3200, t_100000, t_200000, t_252645135, t_858993459, t_1431655765, u_m1000002, u_m1000001, u_m1000, u_m3, u_m1, u_0, u_1, u_2, u_3, u_4, u_5, u_7, u_8, u_10, u_11, u_15, u_60, u_100, u_255, u_999, u_1000, u_100000, u_4294967295] at hc111)
                refine g_aload_n (i := 0) dX8_pattern_114 rfl rfl ?_
                refine g_iload_n (i := 3) dX8_pattern_115 rfl rfl ?_
                refine g_callV (M' := mX8_byteAt) dX8_pattern_116 lc_X8_byteAt ml_X8_152 (c_byteAt hr hw (by omega)) rfl rfl (by repeat' (first | assumption | exact rF_eq | refine rF_ne (by decide) ?_ | refine rF_a ?_ | exact rA_eq | refine rA_ne (by decide) ?_ | refine rA_f ?_)) rfl ⟨Nat.le_of_ble_eq_true rfl, Nat.le_of_ble_eq_true rfl, Nat.le_of_ble_eq_true rfl, Nat.le_of_ble_eq_true rfl⟩ (Nat.le_of_ble_eq_true rfl) ?_
                intro r_ h_ q_; obtain ⟨q1_, q2_⟩ := q_; have q2_ := q2_.symm; subst q1_; subst q2_
                rw [byB_t (by omega)]
                refine g_bipush (v := 76) dX8_pattern_119 (by decide) ?_
                refine g_icmp_eq (tgt := 144) dX8_pattern_121 (by decide) (fun hc121 => ?_) (fun hc121 => ?_)
                · have hd121 := i_eq.mp hc121; (try simp (disch := omega) only [nT, t_m1000100, t_m1000010, t_m1000003, t_m1000002, t_m1000001, t_m1000000, t_m65535, t_m1000, t_m3, t_m1, t_0, t_1, t_2, t_3, t_4, t_5, t_6, t_7, t_8, t_9, t_10, t_11, t_12, t_13, t_15, t_16, t_20, t_21, t_22, t_32, t_40, t_41, t_48, t_49, t_57, t_59, t_60, t_63, t_72, t_76, t_88, t_100, t_144, t_200, t_255, t_288, t_400, t_800, t_999, t_1000, t_1024, t_1200, t_1600, t_3200, t_100000, t_200000, t_252645135, t_858993459, t_1431655765, u_m1000002, u_m1000001, u_m1000, u_m3, u_m1, u_0, u_1, u_2, u_3, u_4, u_5, u_7, u_8, u_10, u_11, u_15, u_60, u_100, u_255, u_999, u_1000, u_100000, u_4294967295] at hd121)
                  refine g_iload dX8_pattern_144 rfl ?_
                  refine g_if_eq (tgt := 164) dX8_pattern_146 (by decide) (fun hc146 => ?_) (fun hc146 => ?_)
                  · have hd146 := i_eq.mp hc146; (try simp (disch := omega) only [nT, t_m1000100, t_m1000010, t_m1000003, t_m1000002, t_m1000001, t_m1000000, t_m65535, t_m1000, t_m3, t_m1, t_0, t_1, t_2, t_3, t_4, t_5, t_6, t_7, t_8, t_9, t_10, t_11, t_12, t_13, t_15, t_16, t_20, t_21, t_22, t_32, t_40, t_41, t_48, t_49, t_57, t_59, t_60, t_63, t_72, t_76, t_88, t_100, t_144, t_200, t_255, t_288, t_400, t_800, t_999, t_1000, t_1024, t_1200, t_1600, t_3200, t_100000, t_200000, t_252645135, t_858993459, t_1431655765, u_m1000002, u_m1000001, u_m1000, u_m3, u_m1, u_0, u_1, u_2, u_3, u_4, u_5, u_7, u_8, u_10, u_11, u_15, u_60, u_100, u_255, u_999, u_1000, u_100000, u_4294967295] at hd146)
                    refine g_iconst (v := 0) dX8_pattern_164 (by decide) ?_
                    refine g_istore dX8_pattern_165 (Nat.le_of_ble_eq_true rfl) rfl ?_
                    refine g_iinc dX8_pattern_167 rfl (Nat.le_of_ble_eq_true rfl) rfl ?_
                    refine g_goto (tgt := 103) dX8_pattern_170 (by decide) ?_
                    rw [ni_incO]
                    obtain ⟨w1, w2⟩ := hrow (isRw_t.mpr (by first | exact Or.inl (by assumption) | exact Or.inr (isSg_t.mpr (by omega))))
                    rw [w2] at hg
                    first
                    | exact ihr (k + 1) true (by omega) w1 (by rw [bI_n0.mp hc146, hc157, Bool.true_and, Bool.true_and] at hg; rw [Bool.true_and]; exact hg)
                    | exact ihr (k + 1) false (by omega) w1 (by rw [bI_n0.mp hc146, Bool.eq_false_iff.mpr hc157, Bool.false_and, Bool.and_false] at hg; rw [Bool.false_and]; exact hg)
                    | exact ihr (k + 1) false (by omega) w1 (by rw [Bool.eq_false_iff.mpr (bI_0.mp hc146), Bool.false_and] at hg; rw [Bool.false_and]; exact hg)
                  · have hd146 := mt i_eq.mpr hc146; (try simp (disch := omega) only [nT, t_m1000100, t_m1000010, t_m1000003, t_m1000002, t_m1000001, t_m1000000, t_m65535, t_m1000, t_m3, t_m1, t_0, t_1, t_2, t_3, t_4, t_5, t_6, t_7, t_8, t_9, t_10, t_11, t_12, t_13, t_15, t_16, t_20, t_21, t_22, t_32, t_40, t_41, t_48, t_49, t_57, t_59, t_60, t_63, t_72, t_76, t_88, t_100, t_144, t_200, t_255, t_288, t_400, t_800, t_999, t_1000, t_1024, t_1200, t_1600, t_3200, t_100000, t_200000, t_252645135, t_858993459, t_1431655765, u_m1000002, u_m1000001, u_m1000, u_m3, u_m1, u_0, u_1, u_2, u_3, u_4, u_5, u_7, u_8, u_10, u_11, u_15, u_60, u_100, u_255, u_999, u_1000, u_100000, u_4294967295] at hd146)
                    refine g_aload_n (i := 0) dX8_pattern_149 rfl rfl ?_
                    refine g_iload_n (i := 3) dX8_pattern_150 rfl rfl ?_
                    refine g_callV (M' := mX8_byteAt) dX8_pattern_151 lc_X8_byteAt ml_X8_152 (c_byteAt hr hw (by omega)) rfl rfl (by repeat' (first | assumption | exact rF_eq | refine rF_ne (by decide) ?_ | refine rF_a ?_ | exact rA_eq | refine rA_ne (by decide) ?_ | refine rA_f ?_)) rfl ⟨Nat.le_of_ble_eq_true rfl, Nat.le_of_ble_eq_true rfl, Nat.le_of_ble_eq_true rfl, Nat.le_of_ble_eq_true rfl⟩ (Nat.le_of_ble_eq_true rfl) ?_
                    intro r_ h_ q_; obtain ⟨q1_, q2_⟩ := q_; have q2_ := q2_.symm; subst q1_; subst q2_
                    rw [byB_t (by omega)]
                    refine g_callS (M' := mX8_isFigure) dX8_pattern_154 lc_X8_isFigure ml_X8_174 (c_x8fig _ _) rfl rfl ⟨Nat.le_of_ble_eq_true rfl, Nat.le_of_ble_eq_true rfl, Nat.le_of_ble_eq_true rfl, Nat.le_of_ble_eq_true rfl⟩ (Nat.le_of_ble_eq_true rfl) ?_
                    intro r_ h_ q_; obtain ⟨q1_, q2_⟩ := q_; have q2_ := q2_.symm; subst q1_; subst q2_
                    refine g_if_eq (tgt := 164) dX8_pattern_157 (by decide) (fun hc157 => ?_) (fun hc157 => ?_)
                    · replace hc157 := bI_0.mp hc157
                      (try simp (disch := omega) only [nT, t_m1000100, t_m1000010, t_m1000003, t_m1000002, t_m1000001, t_m1000000, t_m65535, t_m1000, t_m3, t_m1, t_0, t_1, t_2, t_3, t_4, t_5, t_6, t_7, t_8, t_9, t_10, t_11, t_12, t_13, t_15, t_16, t_20, t_21, t_22, t_32, t_40, t_41, t_48, t_49, t_57, t_59, t_60, t_63, t_72, t_76, t_88, t_100, t_144, t_200, t_255, t_288, t_400, t_800, t_999, t_1000, t_1024, t_1200, t_1600, t_3200, t_100000, t_200000, t_252645135, t_858993459, t_1431655765, u_m1000002, u_m1000001, u_m1000, u_m3, u_m1, u_0, u_1, u_2, u_3, u_4, u_5, u_7, u_8, u_10, u_11, u_15, u_60, u_100, u_255, u_999, u_1000, u_100000, u_4294967295] at hc157)
                      refine g_iconst (v := 0) dX8_pattern_164 (by decide) ?_
                      refine g_istore dX8_pattern_165 (Nat.le_of_ble_eq_true rfl) rfl ?_
                      refine g_iinc dX8_pattern_167 rfl (Nat.le_of_ble_eq_true rfl) rfl ?_
                      refine g_goto (tgt := 103) dX8_pattern_170 (by decide) ?_
                      rw [ni_incO]
                      obtain ⟨w1, w2⟩ := hrow (isRw_t.mpr (by first | exact Or.inl (by assumption) | exact Or.inr (isSg_t.mpr (by omega))))
                      rw [w2] at hg
                      first
                      | exact ihr (k + 1) true (by omega) w1 (by rw [bI_n0.mp hc146, hc157, Bool.true_and, Bool.true_and] at hg; rw [Bool.true_and]; exact hg)
                      | exact ihr (k + 1) false (by omega) w1 (by rw [bI_n0.mp hc146, Bool.eq_false_iff.mpr hc157, Bool.false_and, Bool.and_false] at hg; rw [Bool.false_and]; exact hg)
                      | exact ihr (k + 1) false (by omega) w1 (by rw [Bool.eq_false_iff.mpr (bI_0.mp hc146), Bool.false_and] at hg; rw [Bool.false_and]; exact hg)
                    · replace hc157 := bI_n0.mp hc157
                      (try simp (disch := omega) only [nT, t_m1000100, t_m1000010, t_m1000003, t_m1000002, t_m1000001, t_m1000000, t_m65535, t_m1000, t_m3, t_m1, t_0, t_1, t_2, t_3, t_4, t_5, t_6, t_7, t_8, t_9, t_10, t_11, t_12, t_13, t_15, t_16, t_20, t_21, t_22, t_32, t_40, t_41, t_48, t_49, t_57, t_59, t_60, t_63, t_72, t_76, t_88, t_100, t_144, t_200, t_255, t_288, t_400, t_800, t_999, t_1000, t_1024, t_1200, t_1600, t_3200, t_100000, t_200000, t_252645135, t_858993459, t_1431655765, u_m1000002, u_m1000001, u_m1000, u_m3, u_m1, u_0, u_1, u_2, u_3, u_4, u_5, u_7, u_8, u_10, u_11, u_15, u_60, u_100, u_255, u_999, u_1000, u_100000, u_4294967295] at hc157)
                      refine g_iconst (v := 1) dX8_pattern_160 (by decide) ?_
                      refine g_goto (tgt := 165) dX8_pattern_161 (by decide) ?_
                      refine g_istore dX8_pattern_165 (Nat.le_of_ble_eq_true rfl) rfl ?_
                      refine g_iinc dX8_pattern_167 rfl (Nat.le_of_ble_eq_true rfl) rfl ?_
                      refine g_goto (tgt := 103) dX8_pattern_170 (by decide) ?_
                      rw [ni_incO]
                      obtain ⟨w1, w2⟩ := hrow (isRw_t.mpr (by first | exact Or.inl (by assumption) | exact Or.inr (isSg_t.mpr (by omega))))
                      rw [w2] at hg
                      first
                      | exact ihr (k + 1) true (by omega) w1 (by rw [bI_n0.mp hc146, hc157, Bool.true_and, Bool.true_and] at hg; rw [Bool.true_and]; exact hg)
                      | exact ihr (k + 1) false (by omega) w1 (by rw [bI_n0.mp hc146, Bool.eq_false_iff.mpr hc157, Bool.false_and, Bool.and_false] at hg; rw [Bool.false_and]; exact hg)
                      | exact ihr (k + 1) false (by omega) w1 (by rw [Bool.eq_false_iff.mpr (bI_0.mp hc146), Bool.false_and] at hg; rw [Bool.false_and]; exact hg)
                · have hd121 := mt i_eq.mpr hc121; (try simp (disch := omega) only [nT, t_m1000100, t_m1000010, t_m1000003, t_m1000002, t_m1000001, t_m1000000, t_m65535, t_m1000, t_m3, t_m1, t_0, t_1, t_2, t_3, t_4, t_5, t_6, t_7, t_8, t_9, t_10, t_11, t_12, t_13, t_15, t_16, t_20, t_21, t_22, t_32, t_40, t_41, t_48, t_49, t_57, t_59, t_60, t_63, t_72, t_76, t_88, t_100, t_144, t_200, t_255, t_288, t_400, t_800, t_999, t_1000, t_1024, t_1200, t_1600, t_3200, t_100000, t_200000, t_252645135, t_858993459, t_1431655765, u_m1000002, u_m1000001, u_m1000, u_m3, u_m1, u_0, u_1, u_2, u_3, u_4, u_5, u_7, u_8, u_10, u_11, u_15, u_60, u_100, u_255, u_999, u_1000, u_100000, u_4294967295] at hd121)
                  refine g_aload_n (i := 0) dX8_pattern_124 rfl rfl ?_
                  refine g_iload_n (i := 3) dX8_pattern_125 rfl rfl ?_
                  refine g_callV (M' := mX8_byteAt) dX8_pattern_126 lc_X8_byteAt ml_X8_152 (c_byteAt hr hw (by omega)) rfl rfl (by repeat' (first | assumption | exact rF_eq | refine rF_ne (by decide) ?_ | refine rF_a ?_ | exact rA_eq | refine rA_ne (by decide) ?_ | refine rA_f ?_)) rfl ⟨Nat.le_of_ble_eq_true rfl, Nat.le_of_ble_eq_true rfl, Nat.le_of_ble_eq_true rfl, Nat.le_of_ble_eq_true rfl⟩ (Nat.le_of_ble_eq_true rfl) ?_
                  intro r_ h_ q_; obtain ⟨q1_, q2_⟩ := q_; have q2_ := q2_.symm; subst q1_; subst q2_
                  rw [byB_t (by omega)]
                  refine g_bipush (v := 72) dX8_pattern_129 (by decide) ?_
                  refine g_icmp_eq (tgt := 144) dX8_pattern_131 (by decide) (fun hc131 => ?_) (fun hc131 => ?_)
                  · have hd131 := i_eq.mp hc131; (try simp (disch := omega) only [nT, t_m1000100, t_m1000010, t_m1000003, t_m1000002, t_m1000001, t_m1000000, t_m65535, t_m1000, t_m3, t_m1, t_0, t_1, t_2, t_3, t_4, t_5, t_6, t_7, t_8, t_9, t_10, t_11, t_12, t_13, t_15, t_16, t_20, t_21, t_22, t_32, t_40, t_41, t_48, t_49, t_57, t_59, t_60, t_63, t_72, t_76, t_88, t_100, t_144, t_200, t_255, t_288, t_400, t_800, t_999, t_1000, t_1024, t_1200, t_1600, t_3200, t_100000, t_200000, t_252645135, t_858993459, t_1431655765, u_m1000002, u_m1000001, u_m1000, u_m3, u_m1, u_0, u_1, u_2, u_3, u_4, u_5, u_7, u_8, u_10, u_11, u_15, u_60, u_100, u_255, u_999, u_1000, u_100000, u_4294967295] at hd131)
                    refine g_iload dX8_pattern_144 rfl ?_
                    refine g_if_eq (tgt := 164) dX8_pattern_146 (by decide) (fun hc146 => ?_) (fun hc146 => ?_)
                    · have hd146 := i_eq.mp hc146; (try simp (disch := omega) only [nT, t_m1000100, t_m1000010, t_m1000003, t_m1000002, t_m1000001, t_m1000000, t_m65535, t_m1000, t_m3, t_m1, t_0, t_1, t_2, t_3, t_4, t_5, t_6, t_7, t_8, t_9, t_10, t_11, t_12, t_13, t_15, t_16, t_20, t_21, t_22, t_32, t_40, t_41, t_48, t_49, t_57, t_59, t_60, t_63, t_72, t_76, t_88, t_100, t_144, t_200, t_255, t_288, t_400, t_800, t_999, t_1000, t_1024, t_1200, t_1600, t_3200, t_100000, t_200000, t_252645135, t_858993459, t_1431655765, u_m1000002, u_m1000001, u_m1000, u_m3, u_m1, u_0, u_1, u_2, u_3, u_4, u_5, u_7, u_8, u_10, u_11, u_15, u_60, u_100, u_255, u_999, u_1000, u_100000, u_4294967295] at hd146)
                      refine g_iconst (v := 0) dX8_pattern_164 (by decide) ?_
                      refine g_istore dX8_pattern_165 (Nat.le_of_ble_eq_true rfl) rfl ?_
                      refine g_iinc dX8_pattern_167 rfl (Nat.le_of_ble_eq_true rfl) rfl ?_
                      refine g_goto (tgt := 103) dX8_pattern_170 (by decide) ?_
                      rw [ni_incO]
                      obtain ⟨w1, w2⟩ := hrow (isRw_t.mpr (by first | exact Or.inl (by assumption) | exact Or.inr (isSg_t.mpr (by omega))))
                      rw [w2] at hg
                      first
                      | exact ihr (k + 1) true (by omega) w1 (by rw [bI_n0.mp hc146, hc157, Bool.true_and, Bool.true_and] at hg; rw [Bool.true_and]; exact hg)
                      | exact ihr (k + 1) false (by omega) w1 (by rw [bI_n0.mp hc146, Bool.eq_false_iff.mpr hc157, Bool.false_and, Bool.and_false] at hg; rw [Bool.false_and]; exact hg)
                      | exact ihr (k + 1) false (by omega) w1 (by rw [Bool.eq_false_iff.mpr (bI_0.mp hc146), Bool.false_and] at hg; rw [Bool.false_and]; exact hg)
                    · have hd146 := mt i_eq.mpr hc146; (try simp (disch := omega) only [nT, t_m1000100, t_m1000010, t_m1000003, t_m1000002, t_m1000001, t_m1000000, t_m65535, t_m1000, t_m3, t_m1, t_0, t_1, t_2, t_3, t_4, t_5, t_6, t_7, t_8, t_9, t_10, t_11, t_12, t_13, t_15, t_16, t_20, t_21, t_22, t_32, t_40, t_41, t_48, t_49, t_57, t_59, t_60, t_63, t_72, t_76, t_88, t_100, t_144, t_200, t_255, t_288, t_400, t_800, t_999, t_1000, t_1024, t_1200, t_1600, t_3200, t_100000, t_200000, t_252645135, t_858993459, t_1431655765, u_m1000002, u_m1000001, u_m1000, u_m3, u_m1, u_0, u_1, u_2, u_3, u_4, u_5, u_7, u_8, u_10, u_11, u_15, u_60, u_100, u_255, u_999, u_1000, u_100000, u_4294967295] at hd146)
                      refine g_aload_n (i := 0) dX8_pattern_149 rfl rfl ?_
                      refine g_iload_n (i := 3) dX8_pattern_150 rfl rfl ?_
                      refine g_callV (M' := mX8_byteAt) dX8_pattern_151 lc_X8_byteAt ml_X8_152 (c_byteAt hr hw (by omega)) rfl rfl (by repeat' (first | assumption | exact rF_eq | refine rF_ne (by decide) ?_ | refine rF_a ?_ | exact rA_eq | refine rA_ne (by decide) ?_ | refine rA_f ?_)) rfl ⟨Nat.le_of_ble_eq_true rfl, Nat.le_of_ble_eq_true rfl, Nat.le_of_ble_eq_true rfl, Nat.le_of_ble_eq_true rfl⟩ (Nat.le_of_ble_eq_true rfl) ?_
                      intro r_ h_ q_; obtain ⟨q1_, q2_⟩ := q_; have q2_ := q2_.symm; subst q1_; subst q2_
                      rw [byB_t (by omega)]
                      refine g_callS (M' := mX8_isFigure) dX8_pattern_154 lc_X8_isFigure ml_X8_174 (c_x8fig _ _) rfl rfl ⟨Nat.le_of_ble_eq_true rfl, Nat.le_of_ble_eq_true rfl, Nat.le_of_ble_eq_true rfl, Nat.le_of_ble_eq_true rfl⟩ (Nat.le_of_ble_eq_true rfl) ?_
                      intro r_ h_ q_; obtain ⟨q1_, q2_⟩ := q_; have q2_ := q2_.symm; subst q1_; subst q2_
                      refine g_if_eq (tgt := 164) dX8_pattern_157 (by decide) (fun hc157 => ?_) (fun hc157 => ?_)
                      · replace hc157 := bI_0.mp hc157
                        (try simp (disch := omega) only [nT, t_m1000100, t_m1000010, t_m1000003, t_m1000002, t_m1000001, t_m1000000, t_m65535, t_m1000, t_m3, t_m1, t_0, t_1, t_2, t_3, t_4, t_5, t_6, t_7, t_8, t_9, t_10, t_11, t_12, t_13, t_15, t_16, t_20, t_21, t_22, t_32, t_40, t_41, t_48, t_49, t_57, t_59, t_60, t_63, t_72, t_76, t_88, t_100, t_144, t_200, t_255, t_288, t_400, t_800, t_999, t_1000, t_1024, t_1200, t_1600, t_3200, t_100000, t_200000, t_252645135, t_858993459, t_1431655765, u_m1000002, u_m1000001, u_m1000, u_m3, u_m1, u_0, u_1, u_2, u_3, u_4, u_5, u_7, u_8, u_10, u_11, u_15, u_60, u_100, u_255, u_999, u_1000, u_100000, u_4294967295] at hc157)
                        refine g_iconst (v := 0) dX8_pattern_164 (by decide) ?_
                        refine g_istore dX8_pattern_165 (Nat.le_of_ble_eq_true rfl) rfl ?_
                        refine g_iinc dX8_pattern_167 rfl (Nat.le_of_ble_eq_true rfl) rfl ?_
                        refine g_goto (tgt := 103) dX8_pattern_170 (by decide) ?_
                        rw [ni_incO]
                        obtain ⟨w1, w2⟩ := hrow (isRw_t.mpr (by first | exact Or.inl (by assumption) | exact Or.inr (isSg_t.mpr (by omega))))
                        rw [w2] at hg
                        first
                        | exact ihr (k + 1) true (by omega) w1 (by rw [bI_n0.mp hc146, hc157, Bool.true_and, Bool.true_and] at hg; rw [Bool.true_and]; exact hg)
                        | exact ihr (k + 1) false (by omega) w1 (by rw [bI_n0.mp hc146, Bool.eq_false_iff.mpr hc157, Bool.false_and, Bool.and_false] at hg; rw [Bool.false_and]; exact hg)
                        | exact ihr (k + 1) false (by omega) w1 (by rw [Bool.eq_false_iff.mpr (bI_0.mp hc146), Bool.false_and] at hg; rw [Bool.false_and]; exact hg)
                      · replace hc157 := bI_n0.mp hc157
                        (try simp (disch := omega) only [nT, t_m1000100, t_m1000010, t_m1000003, t_m1000002, t_m1000001, t_m1000000, t_m65535, t_m1000, t_m3, t_m1, t_0, t_1, t_2, t_3, t_4, t_5, t_6, t_7, t_8, t_9, t_10, t_11, t_12, t_13, t_15, t_16, t_20, t_21, t_22, t_32, t_40, t_41, t_48, t_49, t_57, t_59, t_60, t_63, t_72, t_76, t_88, t_100, t_144, t_200, t_255, t_288, t_400, t_800, t_999, t_1000, t_1024, t_1200, t_1600, t_3200, t_100000, t_200000, t_252645135, t_858993459, t_1431655765, u_m1000002, u_m1000001, u_m1000, u_m3, u_m1, u_0, u_1, u_2, u_3, u_4, u_5, u_7, u_8, u_10, u_11, u_15, u_60, u_100, u_255, u_999, u_1000, u_100000, u_4294967295] at hc157)
                        refine g_iconst (v := 1) dX8_pattern_160 (by decide) ?_
                        refine g_goto (tgt := 165) dX8_pattern_161 (by decide) ?_
                        refine g_istore dX8_pattern_165 (Nat.le_of_ble_eq_true rfl) rfl ?_
                        refine g_iinc dX8_pattern_167 rfl (Nat.le_of_ble_eq_true rfl) rfl ?_
                        refine g_goto (tgt := 103) dX8_pattern_170 (by decide) ?_
                        rw [ni_incO]
                        obtain ⟨w1, w2⟩ := hrow (isRw_t.mpr (by first | exact Or.inl (by assumption) | exact Or.inr (isSg_t.mpr (by omega))))
                        rw [w2] at hg
                        first
                        | exact ihr (k + 1) true (by omega) w1 (by rw [bI_n0.mp hc146, hc157, Bool.true_and, Bool.true_and] at hg; rw [Bool.true_and]; exact hg)
                        | exact ihr (k + 1) false (by omega) w1 (by rw [bI_n0.mp hc146, Bool.eq_false_iff.mpr hc157, Bool.false_and, Bool.and_false] at hg; rw [Bool.false_and]; exact hg)
                        | exact ihr (k + 1) false (by omega) w1 (by rw [Bool.eq_false_iff.mpr (bI_0.mp hc146), Bool.false_and] at hg; rw [Bool.false_and]; exact hg)
                  · have hd131 := mt i_eq.mpr hc131; (try simp (disch := omega) only [nT, t_m1000100, t_m1000010, t_m1000003, t_m1000002, t_m1000001, t_m1000000, t_m65535, t_m1000, t_m3, t_m1, t_0, t_1, t_2, t_3, t_4, t_5, t_6, t_7, t_8, t_9, t_10, t_11, t_12, t_13, t_15, t_16, t_20, t_21, t_22, t_32, t_40, t_41, t_48, t_49, t_57, t_59, t_60, t_63, t_72, t_76, t_88, t_100, t_144, t_200, t_255, t_288, t_400, t_800, t_999, t_1000, t_1024, t_1200, t_1600, t_3200, t_100000, t_200000, t_252645135, t_858993459, t_1431655765, u_m1000002, u_m1000001, u_m1000, u_m3, u_m1, u_0, u_1, u_2, u_3, u_4, u_5, u_7, u_8, u_10, u_11, u_15, u_60, u_100, u_255, u_999, u_1000, u_100000, u_4294967295] at hd131)
                    refine g_aload_n (i := 0) dX8_pattern_134 rfl rfl ?_
                    refine g_iload_n (i := 3) dX8_pattern_135 rfl rfl ?_
                    refine g_callV (M' := mX8_byteAt) dX8_pattern_136 lc_X8_byteAt ml_X8_152 (c_byteAt hr hw (by omega)) rfl rfl (by repeat' (first | assumption | exact rF_eq | refine rF_ne (by decide) ?_ | refine rF_a ?_ | exact rA_eq | refine rA_ne (by decide) ?_ | refine rA_f ?_)) rfl ⟨Nat.le_of_ble_eq_true rfl, Nat.le_of_ble_eq_true rfl, Nat.le_of_ble_eq_true rfl, Nat.le_of_ble_eq_true rfl⟩ (Nat.le_of_ble_eq_true rfl) ?_
                    intro r_ h_ q_; obtain ⟨q1_, q2_⟩ := q_; have q2_ := q2_.symm; subst q1_; subst q2_
                    rw [byB_t (by omega)]
                    refine g_bipush (v := 88) dX8_pattern_139 (by decide) ?_
                    refine g_icmp_ne (tgt := 173) dX8_pattern_141 (by decide) (fun hc141 => ?_) (fun hc141 => ?_)
                    · have hd141 := mt i_eq.mpr hc141; (try simp (disch := omega) only [nT, t_m1000100, t_m1000010, t_m1000003, t_m1000002, t_m1000001, t_m1000000, t_m65535, t_m1000, t_m3, t_m1, t_0, t_1, t_2, t_3, t_4, t_5, t_6, t_7, t_8, t_9, t_10, t_11, t_12, t_13, t_15, t_16, t_20, t_21, t_22, t_32, t_40, t_41, t_48, t_49, t_57, t_59, t_60, t_63, t_72, t_76, t_88, t_100, t_144, t_200, t_255, t_288, t_400, t_800, t_999, t_1000, t_1024, t_1200, t_1600, t_3200, t_100000, t_200000, t_252645135, t_858993459, t_1431655765, u_m1000002, u_m1000001, u_m1000, u_m3, u_m1, u_0, u_1, u_2, u_3, u_4, u_5, u_7, u_8, u_10, u_11, u_15, u_60, u_100, u_255, u_999, u_1000, u_100000, u_4294967295] at hd141)
                      have hnr : ¬ isRw (tp k) = true := fun q => by
                        rcases isRw_t.mp q with q | q
                        · contradiction
                        · have := isSg_t.mp q
                          have := mt isFg_t.mpr (by assumption)
                          omega
                      rw [fwd_f hnr] at hke
                      subst hke
                      rw [Nat.sub_self, show alB isFg tp 0 k = true from rfl, Bool.and_true] at hg
                      subst hg
                      exact fin2
                    · have hd141 := i_eq.mp hc141; (try simp (disch := omega) only [nT, t_m1000100, t_m1000010, t_m1000003, t_m1000002, t_m1000001, t_m1000000, t_m65535, t_m1000, t_m3, t_m1, t_0, t_1, t_2, t_3, t_4, t_5, t_6, t_7, t_8, t_9, t_10, t_11, t_12, t_13, t_15, t_16, t_20, t_21, t_22, t_32, t_40, t_41, t_48, t_49, t_57, t_59, t_60, t_63, t_72, t_76, t_88, t_100, t_144, t_200, t_255, t_288, t_400, t_800, t_999, t_1000, t_1024, t_1200, t_1600, t_3200, t_100000, t_200000, t_252645135, t_858993459, t_1431655765, u_m1000002, u_m1000001, u_m1000, u_m3, u_m1, u_0, u_1, u_2, u_3, u_4, u_5, u_7, u_8, u_10, u_11, u_15, u_60, u_100, u_255, u_999, u_1000, u_100000, u_4294967295] at hd141)
                      refine g_iload dX8_pattern_144 rfl ?_
                      refine g_if_eq (tgt := 164) dX8_pattern_146 (by decide) (fun hc146 => ?_) (fun hc146 => ?_)
                      · have hd146 := i_eq.mp hc146; (try simp (disch := omega) only [nT, t_m1000100, t_m1000010, t_m1000003, t_m1000002, t_m1000001, t_m1000000, t_m65535, t_m1000, t_m3, t_m1, t_0, t_1, t_2, t_3, t_4, t_5, t_6, t_7, t_8, t_9, t_10, t_11, t_12, t_13, t_15, t_16, t_20, t_21, t_22, t_32, t_40, t_41, t_48, t_49, t_57, t_59, t_60, t_63, t_72, t_76, t_88, t_100, t_144, t_200, t_255, t_288, t_400, t_800, t_999, t_1000, t_1024, t_1200, t_1600, t_3200, t_100000, t_200000, t_252645135, t_858993459, t_1431655765, u_m1000002, u_m1000001, u_m1000, u_m3, u_m1, u_0, u_1, u_2, u_3, u_4, u_5, u_7, u_8, u_10, u_11, u_15, u_60, u_100, u_255, u_999, u_1000, u_100000, u_4294967295] at hd146)
                        refine g_iconst (v := 0) dX8_pattern_164 (by decide) ?_
                        refine g_istore dX8_pattern_165 (Nat.le_of_ble_eq_true rfl) rfl ?_
                        refine g_iinc dX8_pattern_167 rfl (Nat.le_of_ble_eq_true rfl) rfl ?_
                        refine g_goto (tgt := 103) dX8_pattern_170 (by decide) ?_
                        rw [ni_incO]
                        obtain ⟨w1, w2⟩ := hrow (isRw_t.mpr (by first | exact Or.inl (by assumption) | exact Or.inr (isSg_t.mpr (by omega))))
                        rw [w2] at hg
                        first
                        | exact ihr (k + 1) true (by omega) w1 (by rw [bI_n0.mp hc146, hc157, Bool.true_and, Bool.true_and] at hg; rw [Bool.true_and]; exact hg)
                        | exact ihr (k + 1) false (by omega) w1 (by rw [bI_n0.mp hc146, Bool.eq_false_iff.mpr hc157, Bool.false_and, Bool.and_false] at hg; rw [Bool.false_and]; exact hg)
                        | exact ihr (k + 1) false (by omega) w1 (by rw [Bool.eq_false_iff.mpr (bI_0.mp hc146), Bool.false_and] at hg; rw [Bool.false_and]; exact hg)
                      · have hd146 := mt i_eq.mpr hc146; (try simp (disch := omega) only [nT, t_m1000100, t_m1000010, t_m1000003, t_m1000002, t_m1000001, t_m1000000, t_m65535, t_m1000, t_m3, t_m1, t_0, t_1, t_2, t_3, t_4, t_5, t_6, t_7, t_8, t_9, t_10, t_11, t_12, t_13, t_15, t_16, t_20, t_21, t_22, t_32, t_40, t_41, t_48, t_49, t_57, t_59, t_60, t_63, t_72, t_76, t_88, t_100, t_144, t_200, t_255, t_288, t_400, t_800, t_999, t_1000, t_1024, t_1200, t_1600, t_3200, t_100000, t_200000, t_252645135, t_858993459, t_1431655765, u_m1000002, u_m1000001, u_m1000, u_m3, u_m1, u_0, u_1, u_2, u_3, u_4, u_5, u_7, u_8, u_10, u_11, u_15, u_60, u_100, u_255, u_999, u_1000, u_100000, u_4294967295] at hd146)
                        refine g_aload_n (i := 0) dX8_pattern_149 rfl rfl ?_
                        refine g_iload_n (i := 3) dX8_pattern_150 rfl rfl ?_
                        refine g_callV (M' := mX8_byteAt) dX8_pattern_151 lc_X8_byteAt ml_X8_152 (c_byteAt hr hw (by omega)) rfl rfl (by repeat' (first | assumption | exact rF_eq | refine rF_ne (by decide) ?_ | refine rF_a ?_ | exact rA_eq | refine rA_ne (by decide) ?_ | refine rA_f ?_)) rfl ⟨Nat.le_of_ble_eq_true rfl, Nat.le_of_ble_eq_true rfl, Nat.le_of_ble_eq_true rfl, Nat.le_of_ble_eq_true rfl⟩ (Nat.le_of_ble_eq_true rfl) ?_
                        intro r_ h_ q_; obtain ⟨q1_, q2_⟩ := q_; have q2_ := q2_.symm; subst q1_; subst q2_
                        rw [byB_t (by omega)]
                        refine g_callS (M' := mX8_isFigure) dX8_pattern_154 lc_X8_isFigure ml_X8_174 (c_x8fig _ _) rfl rfl ⟨Nat.le_of_ble_eq_true rfl, Nat.le_of_ble_eq_true rfl, Nat.le_of_ble_eq_true rfl, Nat.le_of_ble_eq_true rfl⟩ (Nat.le_of_ble_eq_true rfl) ?_
                        intro r_ h_ q_; obtain ⟨q1_, q2_⟩ := q_; have q2_ := q2_.symm; subst q1_; subst q2_
                        refine g_if_eq (tgt := 164) dX8_pattern_157 (by decide) (fun hc157 => ?_) (fun hc157 => ?_)
                        · replace hc157 := bI_0.mp hc157
                          (try simp (disch := omega) only [nT, t_m1000100, t_m1000010, t_m1000003, t_m1000002, t_m1000001, t_m1000000, t_m65535, t_m1000, t_m3, t_m1, t_0, t_1, t_2, t_3, t_4, t_5, t_6, t_7, t_8, t_9, t_10, t_11, t_12, t_13, t_15, t_16, t_20, t_21, t_22, t_32, t_40, t_41, t_48, t_49, t_57, t_59, t_60, t_63, t_72, t_76, t_88, t_100, t_144, t_200, t_255, t_288, t_400, t_800, t_999, t_1000, t_1024, t_1200, t_1600, t_3200, t_100000, t_200000, t_252645135, t_858993459, t_1431655765, u_m1000002, u_m1000001, u_m1000, u_m3, u_m1, u_0, u_1, u_2, u_3, u_4, u_5, u_7, u_8, u_10, u_11, u_15, u_60, u_100, u_255, u_999, u_1000, u_100000, u_4294967295] at hc157)
                          refine g_iconst (v := 0) dX8_pattern_164 (by decide) ?_
                          refine g_istore dX8_pattern_165 (Nat.le_of_ble_eq_true rfl) rfl ?_
                          refine g_iinc dX8_pattern_167 rfl (Nat.le_of_ble_eq_true rfl) rfl ?_
                          refine g_goto (tgt := 103) dX8_pattern_170 (by decide) ?_
                          rw [ni_incO]
                          obtain ⟨w1, w2⟩ := hrow (isRw_t.mpr (by first | exact Or.inl (by assumption) | exact Or.inr (isSg_t.mpr (by omega))))
                          rw [w2] at hg
                          first
                          | exact ihr (k + 1) true (by omega) w1 (by rw [bI_n0.mp hc146, hc157, Bool.true_and, Bool.true_and] at hg; rw [Bool.true_and]; exact hg)
                          | exact ihr (k + 1) false (by omega) w1 (by rw [bI_n0.mp hc146, Bool.eq_false_iff.mpr hc157, Bool.false_and, Bool.and_false] at hg; rw [Bool.false_and]; exact hg)
                          | exact ihr (k + 1) false (by omega) w1 (by rw [Bool.eq_false_iff.mpr (bI_0.mp hc146), Bool.false_and] at hg; rw [Bool.false_and]; exact hg)
                        · replace hc157 := bI_n0.mp hc157
                          (try simp (disch := omega) only [nT, t_m1000100, t_m1000010, t_m1000003, t_m1000002, t_m1000001, t_m1000000, t_m65535, t_m1000, t_m3, t_m1, t_0, t_1, t_2, t_3, t_4, t_5, t_6, t_7, t_8, t_9, t_10, t_11, t_12, t_13, t_15, t_16, t_20, t_21, t_22, t_32, t_40, t_41, t_48, t_49, t_57, t_59, t_60, t_63, t_72, t_76, t_88, t_100, t_144, t_200, t_255, t_288, t_400, t_800, t_999, t_1000, t_1024, t_1200, t_1600, t_3200, t_100000, t_200000, t_252645135, t_858993459, t_1431655765, u_m1000002, u_m1000001, u_m1000, u_m3, u_m1, u_0, u_1, u_2, u_3, u_4, u_5, u_7, u_8, u_10, u_11, u_15, u_60, u_100, u_255, u_999, u_1000, u_100000, u_4294967295] at hc157)
                          refine g_iconst (v := 1) dX8_pattern_160 (by decide) ?_
                          refine g_goto (tgt := 165) dX8_pattern_161 (by decide) ?_
                          refine g_istore dX8_pattern_165 (Nat.le_of_ble_eq_true rfl) rfl ?_
                          refine g_iinc dX8_pattern_167 rfl (Nat.le_of_ble_eq_true rfl) rfl ?_
                          refine g_goto (tgt := 103) dX8_pattern_170 (by decide) ?_
                          rw [ni_incO]
                          obtain ⟨w1, w2⟩ := hrow (isRw_t.mpr (by first | exact Or.inl (by assumption) | exact Or.inr (isSg_t.mpr (by omega))))
                          rw [w2] at hg
                          first
                          | exact ihr (k + 1) true (by omega) w1 (by rw [bI_n0.mp hc146, hc157, Bool.true_and, Bool.true_and] at hg; rw [Bool.true_and]; exact hg)
                          | exact ihr (k + 1) false (by omega) w1 (by rw [bI_n0.mp hc146, Bool.eq_false_iff.mpr hc157, Bool.false_and, Bool.and_false] at hg; rw [Bool.false_and]; exact hg)
                          | exact ihr (k + 1) false (by omega) w1 (by rw [Bool.eq_false_iff.mpr (bI_0.mp hc146), Bool.false_and] at hg; rw [Bool.false_and]; exact hg)
          refine g_aload_n (i := 0) dX8_pattern_72 rfl rfl ?_
          refine g_get dX8_pattern_73 fl_X8_143 (by repeat' (first | assumption | exact rF_eq | refine rF_ne (by decide) ?_ | refine rF_a ?_ | exact rA_eq | refine rA_ne (by decide) ?_ | refine rA_f ?_)) (by repeat' (first | assumption | exact rF_eq | refine rF_ne (by decide) ?_ | refine rF_a ?_ | exact rA_eq | refine rA_ne (by decide) ?_ | refine rA_f ?_)) ?_
          refine g_if_ne (tgt := 262) dX8_pattern_76 (by decide) (fun hc76 => ?_) (fun hc76 => ?_)
          · have hd76 := mt i_eq.mpr hc76; (try simp (disch := omega) only [nT, t_m1000100, t_m1000010, t_m1000003, t_m1000002, t_m1000001, t_m1000000, t_m65535, t_m1000, t_m3, t_m1, t_0, t_1, t_2, t_3, t_4, t_5, t_6, t_7, t_8, t_9, t_10, t_11, t_12, t_13, t_15, t_16, t_20, t_21, t_22, t_32, t_40, t_41, t_48, t_49, t_57, t_59, t_60, t_63, t_72, t_76, t_88, t_100, t_144, t_200, t_255, t_288, t_400, t_800, t_999, t_1000, t_1024, t_1200, t_1600, t_3200, t_100000, t_200000, t_252645135, t_858993459, t_1431655765, u_m1000002, u_m1000001, u_m1000, u_m3, u_m1, u_0, u_1, u_2, u_3, u_4, u_5, u_7, u_8, u_10, u_11, u_15, u_60, u_100, u_255, u_999, u_1000, u_100000, u_4294967295] at hd76); exact absurd rfl hc76
          · have hd76 := i_eq.mp hc76; (try simp (disch := omega) only [nT, t_m1000100, t_m1000010, t_m1000003, t_m1000002, t_m1000001, t_m1000000, t_m65535, t_m1000, t_m3, t_m1, t_0, t_1, t_2, t_3, t_4, t_5, t_6, t_7, t_8, t_9, t_10, t_11, t_12, t_13, t_15, t_16, t_20, t_21, t_22, t_32, t_40, t_41, t_48, t_49, t_57, t_59, t_60, t_63, t_72, t_76, t_88, t_100, t_144, t_200, t_255, t_288, t_400, t_800, t_999, t_1000, t_1024, t_1200, t_1600, t_3200, t_100000, t_200000, t_252645135, t_858993459, t_1431655765, u_m1000002, u_m1000001, u_m1000, u_m3, u_m1, u_0, u_1, u_2, u_3, u_4, u_5, u_7, u_8, u_10, u_11, u_15, u_60, u_100, u_255, u_999, u_1000, u_100000, u_4294967295] at hd76)
            refine g_aload_n (i := 0) dX8_pattern_79 rfl rfl ?_
            refine g_get dX8_pattern_80 fl_X8_149 (by repeat' (first | assumption | exact rF_eq | refine rF_ne (by decide) ?_ | refine rF_a ?_ | exact rA_eq | refine rA_ne (by decide) ?_ | refine rA_f ?_)) (by repeat' (first | assumption | exact rF_eq | refine rF_ne (by decide) ?_ | refine rF_a ?_ | exact rA_eq | refine rA_ne (by decide) ?_ | refine rA_f ?_)) ?_
            refine g_aload_n (i := 0) dX8_pattern_83 rfl rfl ?_
            refine g_get dX8_pattern_84 fl_X8_139 (by repeat' (first | assumption | exact rF_eq | refine rF_ne (by decide) ?_ | refine rF_a ?_ | exact rA_eq | refine rA_ne (by decide) ?_ | refine rA_f ?_)) (by repeat' (first | assumption | exact rF_eq | refine rF_ne (by decide) ?_ | refine rF_a ?_ | exact rA_eq | refine rA_ne (by decide) ?_ | refine rA_f ?_)) ?_
            refine g_icmp_ge (tgt := 262) dX8_pattern_87 (by decide) (fun hc87 => ?_) (fun hc87 => ?_)
            · (try simp (disch := omega) only [nT, t_m1000100, t_m1000010, t_m1000003, t_m1000002, t_m1000001, t_m1000000, t_m65535, t_m1000, t_m3, t_m1, t_0, t_1, t_2, t_3, t_4, t_5, t_6, t_7, t_8, t_9, t_10, t_11, t_12, t_13, t_15, t_16, t_20, t_21, t_22, t_32, t_40, t_41, t_48, t_49, t_57, t_59, t_60, t_63, t_72, t_76, t_88, t_100, t_144, t_200, t_255, t_288, t_400, t_800, t_999, t_1000, t_1024, t_1200, t_1600, t_3200, t_100000, t_200000, t_252645135, t_858993459, t_1431655765, u_m1000002, u_m1000001, u_m1000, u_m3, u_m1, u_0, u_1, u_2, u_3, u_4, u_5, u_7, u_8, u_10, u_11, u_15, u_60, u_100, u_255, u_999, u_1000, u_100000, u_4294967295] at hc87); omega
            · (try simp (disch := omega) only [nT, t_m1000100, t_m1000010, t_m1000003, t_m1000002, t_m1000001, t_m1000000, t_m65535, t_m1000, t_m3, t_m1, t_0, t_1, t_2, t_3, t_4, t_5, t_6, t_7, t_8, t_9, t_10, t_11, t_12, t_13, t_15, t_16, t_20, t_21, t_22, t_32, t_40, t_41, t_48, t_49, t_57, t_59, t_60, t_63, t_72, t_76, t_88, t_100, t_144, t_200, t_255, t_288, t_400, t_800, t_999, t_1000, t_1024, t_1200, t_1600, t_3200, t_100000, t_200000, t_252645135, t_858993459, t_1431655765, u_m1000002, u_m1000001, u_m1000, u_m3, u_m1, u_0, u_1, u_2, u_3, u_4, u_5, u_7, u_8, u_10, u_11, u_15, u_60, u_100, u_255, u_999, u_1000, u_100000, u_4294967295] at hc87)
              refine g_aload_n (i := 0) dX8_pattern_90 rfl rfl ?_
              refine g_get dX8_pattern_91 fl_X8_149 (by repeat' (first | assumption | exact rF_eq | refine rF_ne (by decide) ?_ | refine rF_a ?_ | exact rA_eq | refine rA_ne (by decide) ?_ | refine rA_f ?_)) (by repeat' (first | assumption | exact rF_eq | refine rF_ne (by decide) ?_ | refine rF_a ?_ | exact rA_eq | refine rA_ne (by decide) ?_ | refine rA_f ?_)) ?_
              refine g_istore_n (i := 2) dX8_pattern_94 rfl (Nat.le_of_ble_eq_true rfl) rfl ?_
              refine g_aload_n (i := 0) dX8_pattern_95 rfl rfl ?_
              refine g_get dX8_pattern_96 fl_X8_149 (by repeat' (first | assumption | exact rF_eq | refine rF_ne (by decide) ?_ | refine rF_a ?_ | exact rA_eq | refine rA_ne (by decide) ?_ | refine rA_f ?_)) (by repeat' (first | assumption | exact rF_eq | refine rF_ne (by decide) ?_ | refine rF_a ?_ | exact rA_eq | refine rA_ne (by decide) ?_ | refine rA_f ?_)) ?_
              refine g_istore_n (i := 3) dX8_pattern_99 rfl (Nat.le_of_ble_eq_true rfl) rfl ?_
              refine g_iconst (v := 1) dX8_pattern_100 (by decide) ?_
              refine g_istore dX8_pattern_101 (Nat.le_of_ble_eq_true rfl) rfl ?_
              exact keyL (L - p) p true (by omega) hfe (Bool.true_and _)
        · rw [if_neg hpl] at he
          obtain rfl : p = L := by omega
          refine g_aload_n (i := 0) dX8_pattern_72 rfl rfl ?_
          refine g_get dX8_pattern_73 fl_X8_143 (by repeat' (first | assumption | exact rF_eq | refine rF_ne (by decide) ?_ | refine rF_a ?_ | exact rA_eq | refine rA_ne (by decide) ?_ | refine rA_f ?_)) (by repeat' (first | assumption | exact rF_eq | refine rF_ne (by decide) ?_ | refine rF_a ?_ | exact rA_eq | refine rA_ne (by decide) ?_ | refine rA_f ?_)) ?_
          refine g_if_ne (tgt := 262) dX8_pattern_76 (by decide) (fun hc76 => ?_) (fun hc76 => ?_)
          · have hd76 := mt i_eq.mpr hc76; (try simp (disch := omega) only [nT, t_m1000100, t_m1000010, t_m1000003, t_m1000002, t_m1000001, t_m1000000, t_m65535, t_m1000, t_m3, t_m1, t_0, t_1, t_2, t_3, t_4, t_5, t_6, t_7, t_8, t_9, t_10, t_11, t_12, t_13, t_15, t_16, t_20, t_21, t_22, t_32, t_40, t_41, t_48, t_49, t_57, t_59, t_60, t_63, t_72, t_76, t_88, t_100, t_144, t_200, t_255, t_288, t_400, t_800, t_999, t_1000, t_1024, t_1200, t_1600, t_3200, t_100000, t_200000, t_252645135, t_858993459, t_1431655765, u_m1000002, u_m1000001, u_m1000, u_m3, u_m1, u_0, u_1, u_2, u_3, u_4, u_5, u_7, u_8, u_10, u_11, u_15, u_60, u_100, u_255, u_999, u_1000, u_100000, u_4294967295] at hd76); exact absurd rfl hc76
          · have hd76 := i_eq.mp hc76; (try simp (disch := omega) only [nT, t_m1000100, t_m1000010, t_m1000003, t_m1000002, t_m1000001, t_m1000000, t_m65535, t_m1000, t_m3, t_m1, t_0, t_1, t_2, t_3, t_4, t_5, t_6, t_7, t_8, t_9, t_10, t_11, t_12, t_13, t_15, t_16, t_20, t_21, t_22, t_32, t_40, t_41, t_48, t_49, t_57, t_59, t_60, t_63, t_72, t_76, t_88, t_100, t_144, t_200, t_255, t_288, t_400, t_800, t_999, t_1000, t_1024, t_1200, t_1600, t_3200, t_100000, t_200000, t_252645135, t_858993459, t_1431655765, u_m1000002, u_m1000001, u_m1000, u_m3, u_m1, u_0, u_1, u_2, u_3, u_4, u_5, u_7, u_8, u_10, u_11, u_15, u_60, u_100, u_255, u_999, u_1000, u_100000, u_4294967295] at hd76)
            refine g_aload_n (i := 0) dX8_pattern_79 rfl rfl ?_
            refine g_get dX8_pattern_80 fl_X8_149 (by repeat' (first | assumption | exact rF_eq | refine rF_ne (by decide) ?_ | refine rF_a ?_ | exact rA_eq | refine rA_ne (by decide) ?_ | refine rA_f ?_)) (by repeat' (first | assumption | exact rF_eq | refine rF_ne (by decide) ?_ | refine rF_a ?_ | exact rA_eq | refine rA_ne (by decide) ?_ | refine rA_f ?_)) ?_
            refine g_aload_n (i := 0) dX8_pattern_83 rfl rfl ?_
            refine g_get dX8_pattern_84 fl_X8_139 (by repeat' (first | assumption | exact rF_eq | refine rF_ne (by decide) ?_ | refine rF_a ?_ | exact rA_eq | refine rA_ne (by decide) ?_ | refine rA_f ?_)) (by repeat' (first | assumption | exact rF_eq | refine rF_ne (by decide) ?_ | refine rF_a ?_ | exact rA_eq | refine rA_ne (by decide) ?_ | refine rA_f ?_)) ?_
            refine g_icmp_ge (tgt := 262) dX8_pattern_87 (by decide) (fun hc87 => ?_) (fun hc87 => ?_)
            · (try simp (disch := omega) only [nT, t_m1000100, t_m1000010, t_m1000003, t_m1000002, t_m1000001, t_m1000000, t_m65535, t_m1000, t_m3, t_m1, t_0, t_1, t_2, t_3, t_4, t_5, t_6, t_7, t_8, t_9, t_10, t_11, t_12, t_13, t_15, t_16, t_20, t_21, t_22, t_32, t_40, t_41, t_48, t_49, t_57, t_59, t_60, t_63, t_72, t_76, t_88, t_100, t_144, t_200, t_255, t_288, t_400, t_800, t_999, t_1000, t_1024, t_1200, t_1600, t_3200, t_100000, t_200000, t_252645135, t_858993459, t_1431655765, u_m1000002, u_m1000001, u_m1000, u_m3, u_m1, u_0, u_1, u_2, u_3, u_4, u_5, u_7, u_8, u_10, u_11, u_15, u_60, u_100, u_255, u_999, u_1000, u_100000, u_4294967295] at hc87)
              refine g_aload_n (i := 0) dX8_pattern_262 rfl rfl ?_
              refine g_get dX8_pattern_263 fl_X8_143 (by repeat' (first | assumption | exact rF_eq | refine rF_ne (by decide) ?_ | refine rF_a ?_ | exact rA_eq | refine rA_ne (by decide) ?_ | refine rA_f ?_)) (by repeat' (first | assumption | exact rF_eq | refine rF_ne (by decide) ?_ | refine rF_a ?_ | exact rA_eq | refine rA_ne (by decide) ?_ | refine rA_f ?_)) ?_
              refine g_if_ne (tgt := 285) dX8_pattern_266 (by decide) (fun hc266 => ?_) (fun hc266 => ?_)
              · have hd266 := mt i_eq.mpr hc266; (try simp (disch := omega) only [nT, t_m1000100, t_m1000010, t_m1000003, t_m1000002, t_m1000001, t_m1000000, t_m65535, t_m1000, t_m3, t_m1, t_0, t_1, t_2, t_3, t_4, t_5, t_6, t_7, t_8, t_9, t_10, t_11, t_12, t_13, t_15, t_16, t_20, t_21, t_22, t_32, t_40, t_41, t_48, t_49, t_57, t_59, t_60, t_63, t_72, t_76, t_88, t_100, t_144, t_200, t_255, t_288, t_400, t_800, t_999, t_1000, t_1024, t_1200, t_1600, t_3200, t_100000, t_200000, t_252645135, t_858993459, t_1431655765, u_m1000002, u_m1000001, u_m1000, u_m3, u_m1, u_0, u_1, u_2, u_3, u_4, u_5, u_7, u_8, u_10, u_11, u_15, u_60, u_100, u_255, u_999, u_1000, u_100000, u_4294967295] at hd266); exact absurd rfl hc266
              · have hd266 := i_eq.mp hc266; (try simp (disch := omega) only [nT, t_m1000100, t_m1000010, t_m1000003, t_m1000002, t_m1000001, t_m1000000, t_m65535, t_m1000, t_m3, t_m1, t_0, t_1, t_2, t_3, t_4, t_5, t_6, t_7, t_8, t_9, t_10, t_11, t_12, t_13, t_15, t_16, t_20, t_21, t_22, t_32, t_40, t_41, t_48, t_49, t_57, t_59, t_60, t_63, t_72, t_76, t_88, t_100, t_144, t_200, t_255, t_288, t_400, t_800, t_999, t_1000, t_1024, t_1200, t_1600, t_3200, t_100000, t_200000, t_252645135, t_858993459, t_1431655765, u_m1000002, u_m1000001, u_m1000, u_m3, u_m1, u_0, u_1, u_2, u_3, u_4, u_5, u_7, u_8, u_10, u_11, u_15, u_60, u_100, u_255, u_999, u_1000, u_100000, u_4294967295] at hd266)
                refine g_aload_n (i := 0) dX8_pattern_269 rfl rfl ?_
                refine g_get dX8_pattern_270 fl_X8_162 (by repeat' (first | assumption | exact rF_eq | refine rF_ne (by decide) ?_ | refine rF_a ?_ | exact rA_eq | refine rA_ne (by decide) ?_ | refine rA_f ?_)) (by repeat' (first | assumption | exact rF_eq | refine rF_ne (by decide) ?_ | refine rF_a ?_ | exact rA_eq | refine rA_ne (by decide) ?_ | refine rA_f ?_)) ?_
                refine g_if_le (tgt := 285) dX8_pattern_273 (by decide) (fun hc273 => ?_) (fun hc273 => ?_)
                · (try simp (disch := omega) only [nT, t_m1000100, t_m1000010, t_m1000003, t_m1000002, t_m1000001, t_m1000000, t_m65535, t_m1000, t_m3, t_m1, t_0, t_1, t_2, t_3, t_4, t_5, t_6, t_7, t_8, t_9, t_10, t_11, t_12, t_13, t_15, t_16, t_20, t_21, t_22, t_32, t_40, t_41, t_48, t_49, t_57, t_59, t_60, t_63, t_72, t_76, t_88, t_100, t_144, t_200, t_255, t_288, t_400, t_800, t_999, t_1000, t_1024, t_1200, t_1600, t_3200, t_100000, t_200000, t_252645135, t_858993459, t_1431655765, u_m1000002, u_m1000001, u_m1000, u_m3, u_m1, u_0, u_1, u_2, u_3, u_4, u_5, u_7, u_8, u_10, u_11, u_15, u_60, u_100, u_255, u_999, u_1000, u_100000, u_4294967295] at hc273)
                  first
                  | (rw [if_pos (by omega)] at he; exact keyF2 1 p _ _ _ _ he.symm (pn_bad hr hw ho 1 p (by omega) (by omega) (by omega)) (fr_sF (by decide) (fr_sF (by decide) hfr)))
                  | (have hd0 : d = 0 := by omega
                     rw [if_neg (by dsimp only; omega)] at he
                     exact keyS _ _ _ _ _ he.symm hd0 hp hfr)
                · (try simp (disch := omega) only [nT, t_m1000100, t_m1000010, t_m1000003, t_m1000002, t_m1000001, t_m1000000, t_m65535, t_m1000, t_m3, t_m1, t_0, t_1, t_2, t_3, t_4, t_5, t_6, t_7, t_8, t_9, t_10, t_11, t_12, t_13, t_15, t_16, t_20, t_21, t_22, t_32, t_40, t_41, t_48, t_49, t_57, t_59, t_60, t_63, t_72, t_76, t_88, t_100, t_144, t_200, t_255, t_288, t_400, t_800, t_999, t_1000, t_1024, t_1200, t_1600, t_3200, t_100000, t_200000, t_252645135, t_858993459, t_1431655765, u_m1000002, u_m1000001, u_m1000, u_m3, u_m1, u_0, u_1, u_2, u_3, u_4, u_5, u_7, u_8, u_10, u_11, u_15, u_60, u_100, u_255, u_999, u_1000, u_100000, u_4294967295] at hc273)
                  refine g_aload_n (i := 0) dX8_pattern_276 rfl rfl ?_
                  refine g_iconst (v := 1) dX8_pattern_277 (by decide) ?_
                  refine g_aload_n (i := 0) dX8_pattern_278 rfl rfl ?_
                  refine g_get dX8_pattern_279 fl_X8_139 (by repeat' (first | assumption | exact rF_eq | refine rF_ne (by decide) ?_ | refine rF_a ?_ | exact rA_eq | refine rA_ne (by decide) ?_ | refine rA_f ?_)) (by repeat' (first | assumption | exact rF_eq | refine rF_ne (by decide) ?_ | refine rF_a ?_ | exact rA_eq | refine rA_ne (by decide) ?_ | refine rA_f ?_)) ?_
                  refine g_callV (M' := mX8_bad) dX8_pattern_282 lc_X8_bad ml_X8_158 (c_bad r1 r5 1 (nI p)) rfl rfl (by repeat' (first | assumption | exact rF_eq | refine rF_ne (by decide) ?_ | refine rF_a ?_ | exact rA_eq | refine rA_ne (by decide) ?_ | refine rA_f ?_)) rfl ⟨Nat.le_of_ble_eq_true rfl, Nat.le_of_ble_eq_true rfl, Nat.le_of_ble_eq_true rfl, Nat.le_of_ble_eq_true rfl⟩ (Nat.le_of_ble_eq_true rfl) ?_
                  intro r_ h_ q_; obtain ⟨q1_, q2_⟩ := q_; have q2_ := q2_.symm; subst q1_; subst q2_
                  first
                  | (rw [if_pos (by omega)] at he; exact keyF2 1 p _ _ _ _ he.symm (pn_bad hr hw ho 1 p (by omega) (by omega) (by omega)) (fr_sF (by decide) (fr_sF (by decide) hfr)))
                  | (have hd0 : d = 0 := by omega
                     rw [if_neg (by dsimp only; omega)] at he
                     exact keyS _ _ _ _ _ he.symm hd0 hp hfr)
            · (try simp (disch := omega) only [nT, t_m1000100, t_m1000010, t_m1000003, t_m1000002, t_m1000001, t_m1000000, t_m65535, t_m1000, t_m3, t_m1, t_0, t_1, t_2, t_3, t_4, t_5, t_6, t_7, t_8, t_9, t_10, t_11, t_12, t_13, t_15, t_16, t_20, t_21, t_22, t_32, t_40, t_41, t_48, t_49, t_57, t_59, t_60, t_63, t_72, t_76, t_88, t_100, t_144, t_200, t_255, t_288, t_400, t_800, t_999, t_1000, t_1024, t_1200, t_1600, t_3200, t_100000, t_200000, t_252645135, t_858993459, t_1431655765, u_m1000002, u_m1000001, u_m1000, u_m3, u_m1, u_0, u_1, u_2, u_3, u_4, u_5, u_7, u_8, u_10, u_11, u_15, u_60, u_100, u_255, u_999, u_1000, u_100000, u_4294967295] at hc87); omega
    have hb := fwd_le (q := isBl) (L := L) (tp := tp) (show 0 ≤ L by omega)
    exact key (L + 1) s0B _ h1 _ _ _ (by omega) hp1 fr_rf hzz
  refine g_aload_n (i := 0) dX8_pattern_0 rfl rfl ?_
  refine g_iconst (v := 0) dX8_pattern_1 (by decide) ?_
  refine g_put dX8_pattern_2 pl_X8_107 (by repeat' (first | assumption | exact rF_eq | refine rF_ne (by decide) ?_ | refine rF_a ?_ | exact rA_eq | refine rA_ne (by decide) ?_ | refine rA_f ?_)) (fun _ => ⟨rfl, rfl⟩) ?_
  refine g_aload_n (i := 0) dX8_pattern_5 rfl rfl ?_
  refine g_aload_n (i := 0) dX8_pattern_6 rfl rfl ?_
  refine g_get dX8_pattern_7 fl_X8_133 (by repeat' (first | assumption | exact rF_eq | refine rF_ne (by decide) ?_ | refine rF_a ?_ | exact rA_eq | refine rA_ne (by decide) ?_ | refine rA_f ?_)) (by repeat' (first | assumption | exact rF_eq | refine rF_ne (by decide) ?_ | refine rF_a ?_ | exact rA_eq | refine rA_ne (by decide) ?_ | refine rA_f ?_)) ?_
  refine g_put dX8_pattern_10 pl_X8_139 (by repeat' (first | assumption | exact rF_eq | refine rF_ne (by decide) ?_ | refine rF_a ?_ | exact rA_eq | refine rA_ne (by decide) ?_ | refine rA_f ?_)) (fun _ => ⟨rfl, rfl⟩) ?_
  refine g_aload_n (i := 0) dX8_pattern_13 rfl rfl ?_
  refine g_iconst (v := 0) dX8_pattern_14 (by decide) ?_
  refine g_put dX8_pattern_15 pl_X8_133 (by repeat' (first | assumption | exact rF_eq | refine rF_ne (by decide) ?_ | refine rF_a ?_ | exact rA_eq | refine rA_ne (by decide) ?_ | refine rA_f ?_)) (fun _ => ⟨rfl, rfl⟩) ?_
  refine g_aload_n (i := 0) dX8_pattern_18 rfl rfl ?_
  refine g_iconst (v := 0) dX8_pattern_19 (by decide) ?_
  refine g_put dX8_pattern_20 pl_X8_149 (by repeat' (first | assumption | exact rF_eq | refine rF_ne (by decide) ?_ | refine rF_a ?_ | exact rA_eq | refine rA_ne (by decide) ?_ | refine rA_f ?_)) (fun _ => ⟨rfl, rfl⟩) ?_
  refine g_aload_n (i := 0) dX8_pattern_23 rfl rfl ?_
  refine g_iconst (v := 0) dX8_pattern_24 (by decide) ?_
  refine g_put dX8_pattern_25 pl_X8_143 (by repeat' (first | assumption | exact rF_eq | refine rF_ne (by decide) ?_ | refine rF_a ?_ | exact rA_eq | refine rA_ne (by decide) ?_ | refine rA_f ?_)) (fun _ => ⟨rfl, rfl⟩) ?_
  refine g_aload_n (i := 0) dX8_pattern_28 rfl rfl ?_
  refine g_iconst (v := 0) dX8_pattern_29 (by decide) ?_
  refine g_put dX8_pattern_30 pl_X8_162 (by repeat' (first | assumption | exact rF_eq | refine rF_ne (by decide) ?_ | refine rF_a ?_ | exact rA_eq | refine rA_ne (by decide) ?_ | refine rA_f ?_)) (fun _ => ⟨rfl, rfl⟩) ?_
  refine g_aload_n (i := 0) dX8_pattern_33 rfl rfl ?_
  refine g_get dX8_pattern_34 fl_X8_44 (by repeat' (first | assumption | exact rF_eq | refine rF_ne (by decide) ?_ | refine rF_a ?_ | exact rA_eq | refine rA_ne (by decide) ?_ | refine rA_f ?_)) (by repeat' (first | assumption | exact rF_eq | refine rF_ne (by decide) ?_ | refine rF_a ?_ | exact rA_eq | refine rA_ne (by decide) ?_ | refine rA_f ?_)) ?_
  refine g_iconst (v := 0) dX8_pattern_37 (by decide) ?_
  refine g_iconst (v := 0) dX8_pattern_38 (by decide) ?_
  refine g_iast dX8_pattern_39 (by repeat' (first | assumption | exact rF_eq | refine rF_ne (by decide) ?_ | refine rF_a ?_ | exact rA_eq | refine rA_ne (by decide) ?_ | refine rA_f ?_)) (t0N) (by omega) ?_
  refine g_iconst (v := 1) dX8_pattern_40 (by decide) ?_
  refine g_aload_n (i := 0) dX8_pattern_41 rfl rfl ?_
  refine g_get dX8_pattern_42 fl_X8_171 (by repeat' (first | assumption | exact rF_eq | refine rF_ne (by decide) ?_ | refine rF_a ?_ | exact rA_eq | refine rA_ne (by decide) ?_ | refine rA_f ?_)) (by repeat' (first | assumption | exact rF_eq | refine rF_ne (by decide) ?_ | refine rF_a ?_ | exact rA_eq | refine rA_ne (by decide) ?_ | refine rA_f ?_)) ?_
  refine g_isub dX8_pattern_45 ?_
  rw [show (1 : Int32) - nI sd = nI t by rw [show (1 : Int32) = nI 1 from rfl, n_sub (by omega), ht]]
  refine g_istore_n (i := 1) dX8_pattern_46 rfl (Nat.le_of_ble_eq_true rfl) rfl ?_
  refine g_aload_n (i := 0) dX8_pattern_47 rfl rfl ?_
  refine g_get dX8_pattern_48 fl_X8_22 (by repeat' (first | assumption | exact rF_eq | refine rF_ne (by decide) ?_ | refine rF_a ?_ | exact rA_eq | refine rA_ne (by decide) ?_ | refine rA_f ?_)) (by repeat' (first | assumption | exact rF_eq | refine rF_ne (by decide) ?_ | refine rF_a ?_ | exact rA_eq | refine rA_ne (by decide) ?_ | refine rA_f ?_)) ?_
  refine g_iload_n (i := 1) dX8_pattern_51 rfl rfl ?_
  refine g_iconst (v := 0) dX8_pattern_52 (by decide) ?_
  refine g_iast dX8_pattern_53 (by repeat' (first | assumption | exact rF_eq | refine rF_ne (by decide) ?_ | refine rF_a ?_ | exact rA_eq | refine rA_ne (by decide) ?_ | refine rA_f ?_)) (nT (by omega)) (by omega) ?_
  refine g_aload_n (i := 0) dX8_pattern_54 rfl rfl ?_
  refine g_get dX8_pattern_55 fl_X8_25 (by repeat' (first | assumption | exact rF_eq | refine rF_ne (by decide) ?_ | refine rF_a ?_ | exact rA_eq | refine rA_ne (by decide) ?_ | refine rA_f ?_)) (by repeat' (first | assumption | exact rF_eq | refine rF_ne (by decide) ?_ | refine rF_a ?_ | exact rA_eq | refine rA_ne (by decide) ?_ | refine rA_f ?_)) ?_
  refine g_iload_n (i := 1) dX8_pattern_58 rfl rfl ?_
  refine g_iconst (v := 0) dX8_pattern_59 (by decide) ?_
  refine g_iast dX8_pattern_60 (by repeat' (first | assumption | exact rF_eq | refine rF_ne (by decide) ?_ | refine rF_a ?_ | exact rA_eq | refine rA_ne (by decide) ?_ | refine rA_f ?_)) (nT (by omega)) (by omega) ?_
  refine g_aload_n (i := 0) dX8_pattern_61 rfl rfl ?_
  refine g_get dX8_pattern_62 fl_X8_28 (by repeat' (first | assumption | exact rF_eq | refine rF_ne (by decide) ?_ | refine rF_a ?_ | exact rA_eq | refine rA_ne (by decide) ?_ | refine rA_f ?_)) (by repeat' (first | assumption | exact rF_eq | refine rF_ne (by decide) ?_ | refine rF_a ?_ | exact rA_eq | refine rA_ne (by decide) ?_ | refine rA_f ?_)) ?_
  refine g_iload_n (i := 1) dX8_pattern_65 rfl rfl ?_
  refine g_iconst (v := 0) dX8_pattern_66 (by decide) ?_
  refine g_iast dX8_pattern_67 (by repeat' (first | assumption | exact rF_eq | refine rF_ne (by decide) ?_ | refine rF_a ?_ | exact rA_eq | refine rA_ne (by decide) ?_ | refine rA_f ?_)) (nT (by omega)) (by omega) ?_
  have hr1 : RmX (sA (sA (sA (sA (sF (sF (sF (sF (sF (sF h 44 0 (.int 0)) 44 8 (.int (nI L))) 44 6 (.int 0)) 44 9 (.int 0)) 44 10 (.int 0)) 44 22 (.int 0)) 56 (aI 7 (upd ins 0 0))) 49 (aI 2 (upd A0.1 t 0))) 50 (aI 2 (upd A0.2.1 t 0))) 51 (aI 2 (upd A0.2.2.1 t 0))) L tp 0 0 0 (upd A0.1 t 0, upd A0.2.1 t 0, upd A0.2.2.1 t 0, A0.2.2.2) op ot (upd ins 0 0) := ⟨e0, t2, rfl, rfl, rfl, q14, q15, q16, q17, q18, q19, q20, q21, rfl, t5, rfl, rfl, rfl, b4, b5, b6, b7, rfl⟩
  refine g_aload_n (i := 0) dX8_pattern_68 rfl rfl ?_
  refine g_callV (M' := mX8_skip) dX8_pattern_69 lc_X8_skip ml_X8_166 (c_skip hr1 hw (by omega)) rfl rfl (by repeat' (first | assumption | exact rF_eq | refine rF_ne (by decide) ?_ | refine rF_a ?_ | exact rA_eq | refine rA_ne (by decide) ?_ | refine rA_f ?_)) rfl ⟨Nat.le_of_ble_eq_true rfl, Nat.le_of_ble_eq_true rfl, Nat.le_of_ble_eq_true rfl, Nat.le_of_ble_eq_true rfl⟩ (Nat.le_of_ble_eq_true rfl) ?_
  intro r_ h_ q_; obtain ⟨q1_, q2_⟩ := q_; have q2_ := q2_.symm; subst q1_; subst q2_
  have hb := fwd_le (q := isBl) (L := L) (tp := tp) (show 0 ≤ L by omega)
  refine main _ rfl q7 q12 q13 (fr_sF (by decide) (fr_sA (by decide) (fr_sA (by decide) (fr_sA (by decide) (fr_sA (by decide) (fr_sF (by decide) (fr_sF (by decide) (fr_sF (by decide) (fr_sF (by decide) (fr_sF (by decide) (fr_sF (by decide) fr_rf))))))))))) ⟨_, op, ot, _, rm_at hr1 _, ?_, ⟨upd_n (by omega), upd_n (by omega), upd_n (by omega), fun _ _ => rfl, fun _ _ => rfl⟩⟩
  exact invM_0 hw ht2 hb.2 upd_s upd_s upd_s upd_s
