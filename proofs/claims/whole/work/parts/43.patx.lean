/-! pattern and sign of the class -/
/-- THE PATTERN: its LINES, its PINS, of each CYCLE the place of its LINE, the text -/
abbrev PT : Type := Nat × Nat × List Nat × (Nat → Int32)
def WfP (pt : PT) : Prop := pt.2.1 ≤ 8 ∧ pt.2.2.1.length ≤ 100000 ∧ pt.1 ≤ 400
def PatX (P : Nat) (pt : PT) (h : HH) : Prop := ∃ (tx rl lk tm wi lo hi tu : Nat → Int32) (sz : Nat) (ws : Int32) (Ls : List Nat) (f : Nat), StX h P tx rl lk tm wi lo hi tu sz ws (nI pt.2.1) (nI pt.1) ∧ gF h P 12 = .int (nI pt.2.2.1.length) ∧ sz ≤ 400 ∧ blk rl lk tm wi f 6 0 sz Ls ∧ pt.2.2.1 = Ls.map (lkP lk)
  ∧ ∀ i, i < sz → rl i = 0 → ∃ q, lk i = nI q ∧ q + pt.2.1 ≤ 400 ∧ lo i = nI (pwB 76 tx q pt.2.1) ∧ hi i = nI (pwB 72 tx q pt.2.1) ∧ ∀ j, j < pt.2.1 → tx (q + j) = pt.2.2.2 (q + j)
def GQX (pt : PT) (fl : Int32) (h : HH) : Prop := gA h 0 = aO 7 ∧ gF h 0 4 = .ref 6 ∧ gF h 0 6 = .int fl ∧ ∃ P I : Nat, (P = 7 ∧ I = 18 ∨ P = 18 ∧ I = 7) ∧ gF h 0 5 = .ref P ∧ PatX P pt h ∧ SpX I h
def opPat (w : TP) (pt : PT) (fl : Int32) : Int32 × (PT × Int32) := match prsB w.1 w.2 (w.1 + 1) s0B (fwd isBl w.1 w.2 0) with
  | .inl f => (-1000100 - nI f.2, pt, nI f.1)
  | .inr s => (nI (s.2.1 0).length, (s.2.2.2.1, s.2.2.2.2, s.2.1 0, w.2), fl)
theorem stx_fr {h h' : HH} {I sz : Nat} {ws pn nl : Int32} {tx rl lk tm wi lo hi tu : Nat → Int32} (hs : StX h I tx rl lk tm wi lo hi tu sz ws pn nl) (hA : ∀ k, I ≤ k → k ≤ I + 8 → gA h' k = gA h k) (hF : ∀ j, gF h' I j = gF h I j) : StX h' I tx rl lk tm wi lo hi tu sz ws pn nl := by
  obtain ⟨e0, e1, e2, e3, e4, e5, e6, e7, e8, a1, a2, a3, a4, a5, a6, a7, a8, f8, f9, f10, f11⟩ := hs
  refine ⟨?_, ?_, ?_, ?_, ?_, ?_, ?_, ?_, ?_, ?_, ?_, ?_, ?_, ?_, ?_, ?_, ?_, ?_, ?_, ?_, ?_⟩
  all_goals (first | (rw [hF]; assumption) | (rw [hA _ (by omega) (by omega)]; assumption))
theorem spx_fr {h h' : HH} {I : Nat} (hp : SpX I h) (hA : ∀ k, 6 ≤ k → k ≤ 26 → gA h' k = gA h k) (hF : ∀ k j, 6 ≤ k → k ≤ 26 → gF h' k j = gF h k j) : SpX I h' := by
  obtain ⟨hI, r1, r2, r6, r7, ⟨cn, bg, r8, r9⟩, tx, rl, lk, tm, wi, lo, hi, tu, sz, ws, pn, nl, hs⟩ := hp
  exact ⟨hI, by rw [hA 6 (by omega) (by omega)]; exact r1, by rw [hF 6 _ (by omega) (by omega)]; exact r2, by rw [hF 6 _ (by omega) (by omega)]; exact r6, by rw [hF 6 _ (by omega) (by omega)]; exact r7, ⟨cn, bg, by rw [hA 16 (by omega) (by omega)]; exact r8, by rw [hA 17 (by omega) (by omega)]; exact r9⟩, tx, rl, lk, tm, wi, lo, hi, tu, sz, ws, pn, nl, stx_fr hs (fun k _ _ => hA k (by omega) (by omega)) (fun j => hF I j (by omega) (by omega))⟩
theorem patx_fr {h h' : HH} {P : Nat} {pt : PT} (hp : PatX P pt h) (hA : ∀ k, P ≤ k → k ≤ P + 8 → gA h' k = gA h k) (hF : ∀ j, gF h' P j = gF h P j) : PatX P pt h' := by
  obtain ⟨tx, rl, lk, tm, wi, lo, hi, tu, sz, ws, Ls, f, hs, h12, k1, k2, k3, k4⟩ := hp
  exact ⟨tx, rl, lk, tm, wi, lo, hi, tu, sz, ws, Ls, f, stx_fr hs hA hF, by rw [hF]; exact h12, k1, k2, k3, k4⟩
theorem spx_of {h : HH} {I L sz d : Nat} {fl ws pn nl : Int32} {cn bg tx rl lk tm wi lo hi tu : Nat → Int32} (hr : RdX h I L fl d cn bg) (hs : StX h I tx rl lk tm wi lo hi tu sz ws pn nl) : SpX I h := by
  obtain ⟨hI, e1, e2, e3, e4, e5, e6, e7, e8, e9⟩ := hr
  exact ⟨hI, e1, e2, e6, e7, ⟨cn, bg, e8, e9⟩, tx, rl, lk, tm, wi, lo, hi, tu, sz, ws, pn, nl, hs⟩
theorem patx_of {h : HH} {I L : Nat} {tp : Nat → Int32} {s : PS} {p : Nat} (hp : PrX I L tp s p h) (h0 : s.1 = 0) (h12 : gF h I 12 = .int (nI (s.2.1 0).length)) : PatX I (s.2.2.2.1, s.2.2.2.2, s.2.1 0, tp) h := by
  obtain ⟨tx, rl, lk, tm, wi, lo, hi, tu, cn, bg, sz, ws, hr, hs, hv⟩ := hp
  obtain ⟨⟨v1, v2, v3, v4, v5⟩, w1, w2, S, Ls, f, c1, c2, c3, c4, c5⟩ := hv
  rw [h0, c1] at c5
  refine ⟨tx, rl, lk, tm, wi, lo, hi, tu, sz, ws, Ls 0, f, hs, h12, by omega, c5, (c3 0 (by omega)).2.2, fun i hi hr => ?_⟩
  obtain ⟨-, q, k1, k2, k3, k4⟩ := w2 i hi hr
  exact ⟨q, k1, by dsimp only; omega, k3, k4, fun j hj => w1 _ (by dsimp only at hj; omega)⟩
abbrev saPat : List Nat := [8, 9, 10, 11, 12, 13, 14, 15, 16, 17, 19, 20, 21, 22, 23, 24, 25, 26]
abbrev sfPat : List (Nat × Nat) := [(0, 3), (0, 5), (0, 6), (6, 0), (6, 1), (6, 2), (6, 3), (6, 4), (7, 8), (7, 9), (7, 10), (7, 11), (7, 12), (18, 8), (18, 9), (18, 10), (18, 11), (18, 12)]
theorem fi_fr {I : Nat} {h h' : HH} (hI : I = 7 ∨ I = 18) (f : FrI I h h') : Fr saPat sfPat h h' := by
  refine ⟨fun k hk => f.1 k (fun q => hk ?_), fun k j hk => f.2 k j (fun q => hk ?_)⟩
  · rcases hI with rfl | rfl
    · obtain rfl | rfl | rfl | rfl | rfl | rfl | rfl | rfl | rfl | rfl : k = 16 ∨ k = 17 ∨ k = 8 ∨ k = 9 ∨ k = 10 ∨ k = 11 ∨ k = 12 ∨ k = 13 ∨ k = 14 ∨ k = 15 := by omega
      all_goals decide
    · obtain rfl | rfl | rfl | rfl | rfl | rfl | rfl | rfl | rfl | rfl : k = 16 ∨ k = 17 ∨ k = 19 ∨ k = 20 ∨ k = 21 ∨ k = 22 ∨ k = 23 ∨ k = 24 ∨ k = 25 ∨ k = 26 := by omega
      all_goals decide
  · rcases q with ⟨rfl, q⟩ | ⟨rfl, q⟩
    · obtain rfl | rfl | rfl | rfl : j = 1 ∨ j = 2 ∨ j = 3 ∨ j = 4 := by omega
      all_goals decide
    · obtain rfl | rfl | rfl | rfl | rfl : j = 8 ∨ j = 9 ∨ j = 10 ∨ j = 11 ∨ j = 12 := by omega
      all_goals (rcases hI with rfl | rfl <;> decide)
theorem x_pattern {w : TP} (hw : w.1 ≤ 400) {pt : PT} {fl : Int32} {h : HH} (gp : GPX w h) (gq : GQX pt fl h) : CT mX7_pattern 5 0 0 [.ref 0] h (fun r h' => r = some (.int (opPat w pt fl).1) ∧ GPX (0, w.2) h' ∧ GQX (opPat w pt fl).2.1 (opPat w pt fl).2.2 h' ∧ Fr saPat sfPat h h') := by
  obtain ⟨L, tp⟩ := w
  obtain ⟨e0, t2, t3, t5⟩ := gp
  dsimp only at t3 t5 hw
  obtain ⟨-, q4, q6, P, I, hPI, q5, hpat, hsp⟩ := gq
  have hI : I = 7 ∨ I = 18 := by omega
  have hz : opPat (L, tp) pt fl = match prsB L tp (L + 1) s0B (fwd isBl L tp 0) with
    | .inl f => (-1000100 - nI f.2, pt, nI f.1)
    | .inr s => (nI (s.2.1 0).length, (s.2.2.2.1, s.2.2.2.2, s.2.1 0, tp), fl) := rfl
  have h6 := hsp.2.1
  have h60 := hsp.2.2.1
  have hPI1 : P = 7 ∨ P = 18 := by omega
  have hPI2 : I = 25 - P := by omega
  refine CT.go [.ref 0, hU, hU] (by decide +kernel) rfl rfl (fun Q' hQ => ?_)
  refine g_aload_n (i := 0) dX7_pattern_0 rfl rfl ?_
  refine g_get dX7_pattern_1 fl_X7_30 (by repeat' (first | assumption | exact rF_eq | refine rF_ne (by decide) ?_ | refine rF_a ?_ | exact rA_eq | refine rA_ne (by decide) ?_ | refine rA_f ?_)) (by repeat' (first | assumption | exact rF_eq | refine rF_ne (by decide) ?_ | refine rF_a ?_ | exact rA_eq | refine rA_ne (by decide) ?_ | refine rA_f ?_)) ?_
  refine g_aload_n (i := 0) dX7_pattern_4 rfl rfl ?_
  refine g_get dX7_pattern_5 fl_X7_20 (by repeat' (first | assumption | exact rF_eq | refine rF_ne (by decide) ?_ | refine rF_a ?_ | exact rA_eq | refine rA_ne (by decide) ?_ | refine rA_f ?_)) (by repeat' (first | assumption | exact rF_eq | refine rF_ne (by decide) ?_ | refine rF_a ?_ | exact rA_eq | refine rA_ne (by decide) ?_ | refine rA_f ?_)) ?_
  refine g_aload_n (i := 0) dX7_pattern_8 rfl rfl ?_
  refine g_get dX7_pattern_9 fl_X7_24 (by repeat' (first | assumption | exact rF_eq | refine rF_ne (by decide) ?_ | refine rF_a ?_ | exact rA_eq | refine rA_ne (by decide) ?_ | refine rA_f ?_)) (by repeat' (first | assumption | exact rF_eq | refine rF_ne (by decide) ?_ | refine rF_a ?_ | exact rA_eq | refine rA_ne (by decide) ?_ | refine rA_f ?_)) ?_
  refine g_callV (M' := mX4_read) dX7_pattern_12 lc_X4_read ml_X7_138 (c_read hsp t5 hw) rfl rfl (by repeat' (first | assumption | exact rF_eq | refine rF_ne (by decide) ?_ | refine rF_a ?_ | exact rA_eq | refine rA_ne (by decide) ?_ | refine rA_f ?_)) rfl ⟨Nat.le_of_ble_eq_true rfl, Nat.le_of_ble_eq_true rfl, Nat.le_of_ble_eq_true rfl, Nat.le_of_ble_eq_true rfl⟩ (Nat.le_of_ble_eq_true rfl) ?_
  intro r_ h_ q_; obtain ⟨o1, o2⟩ := q_
  have ff := fi_fr hI o2
  have a0 := (o2.1 0 (by omega)).trans e0
  have f04 := (o2.2 0 4 (by omega)).trans q4
  have f05 := (o2.2 0 5 (by omega)).trans q5
  have f06 := (o2.2 0 6 (by omega)).trans q6
  have f02 := (o2.2 0 2 (by omega)).trans t2
  have a5 := (o2.1 5 (by omega)).trans t5
  have hpat2 : PatX P pt h_ := patx_fr hpat (fun k k1 k2 => o2.1 k (fun z => by omega)) (fun j => o2.2 P j (fun z => by omega))
  generalize prsB L tp (L + 1) s0B (fwd isBl L tp 0) = o at o1 hz
  rcases o with f | s
  · obtain ⟨rfl, ⟨z1, z2, z3, z4⟩, tx, rl, lk, tm, wi, lo, hi, tu, cn, bg, sz, d, ws, pn, nl, hr, f61, hs, -⟩ := o1
    have hsp2 := spx_of hr hs
    have a6 := hsp2.2.1
    have hne : ¬ nI f.1 = 0 := nI_ne0 (by omega) (by omega)
    refine g_istore_n (i := 1) dX7_pattern_15 rfl (Nat.le_of_ble_eq_true rfl) rfl ?_
    refine g_aload_n (i := 0) dX7_pattern_16 rfl rfl ?_
    refine g_iconst (v := 0) dX7_pattern_17 (by decide) ?_
    refine g_put dX7_pattern_18 pl_X7_24 (by repeat' (first | assumption | exact rF_eq | refine rF_ne (by decide) ?_ | refine rF_a ?_ | exact rA_eq | refine rA_ne (by decide) ?_ | refine rA_f ?_)) (fun _ => ⟨rfl, rfl⟩) ?_
    refine g_iload_n (i := 1) dX7_pattern_21 rfl rfl ?_
    refine g_if_eq (tgt := 41) dX7_pattern_22 (by decide) (fun hc22 => ?_) (fun hc22 => ?_)
    · have hd22 := i_eq.mp hc22; (try simp (disch := omega) only [nT, t_m1000100, t_m1000010, t_m1000003, t_m1000002, t_m1000001, t_m1000000, t_m65535, t_m1000, t_m3, t_m1, t_0, t_1, t_2, t_3, t_4, t_5, t_6, t_7, t_8, t_9, t_10, t_11, t_12, t_13, t_15, t_16, t_20, t_21, t_22, t_32, t_40, t_41, t_48, t_49, t_57, t_59, t_60, t_63, t_72, t_76, t_88, t_100, t_144, t_200, t_255, t_288, t_400, t_800, t_999, t_1000, t_1024, t_1200, t_1600, t_3200, t_100000, t_200000, t_252645135, t_858993459, t_1431655765, u_m1000002, u_m1000001, u_m1000, u_m3, u_m1, u_0, u_1, u_2, u_3, u_4, u_5, u_7, u_8, u_10, u_11, u_15, u_60, u_100, u_255, u_999, u_1000, u_100000, u_4294967295] at hd22); exact absurd hc22 hne
    · have hd22 := mt i_eq.mpr hc22; (try simp (disch := omega) only [nT, t_m1000100, t_m1000010, t_m1000003, t_m1000002, t_m1000001, t_m1000000, t_m65535, t_m1000, t_m3, t_m1, t_0, t_1, t_2, t_3, t_4, t_5, t_6, t_7, t_8, t_9, t_10, t_11, t_12, t_13, t_15, t_16, t_20, t_21, t_22, t_32, t_40, t_41, t_48, t_49, t_57, t_59, t_60, t_63, t_72, t_76, t_88, t_100, t_144, t_200, t_255, t_288, t_400, t_800, t_999, t_1000, t_1024, t_1200, t_1600, t_3200, t_100000, t_200000, t_252645135, t_858993459, t_1431655765, u_m1000002, u_m1000001, u_m1000, u_m3, u_m1, u_0, u_1, u_2, u_3, u_4, u_5, u_7, u_8, u_10, u_11, u_15, u_60, u_100, u_255, u_999, u_1000, u_100000, u_4294967295] at hd22)
      refine g_aload_n (i := 0) dX7_pattern_25 rfl rfl ?_
      refine g_iload_n (i := 1) dX7_pattern_26 rfl rfl ?_
      refine g_put dX7_pattern_27 pl_X7_41 (by repeat' (first | assumption | exact rF_eq | refine rF_ne (by decide) ?_ | refine rF_a ?_ | exact rA_eq | refine rA_ne (by decide) ?_ | refine rA_f ?_)) (fun _ => ⟨rfl, rfl⟩) ?_
      refine g_ldc dX7_pattern_30 kc_X7_142 ?_
      refine g_aload_n (i := 0) dX7_pattern_32 rfl rfl ?_
      refine g_get dX7_pattern_33 fl_X7_30 (by repeat' (first | assumption | exact rF_eq | refine rF_ne (by decide) ?_ | refine rF_a ?_ | exact rA_eq | refine rA_ne (by decide) ?_ | refine rA_f ?_)) (by repeat' (first | assumption | exact rF_eq | refine rF_ne (by decide) ?_ | refine rF_a ?_ | exact rA_eq | refine rA_ne (by decide) ?_ | refine rA_f ?_)) ?_
      refine g_get dX7_pattern_36 fl_X7_143 (by repeat' (first | assumption | exact rF_eq | refine rF_ne (by decide) ?_ | refine rF_a ?_ | exact rA_eq | refine rA_ne (by decide) ?_ | refine rA_f ?_)) (by repeat' (first | assumption | exact rF_eq | refine rF_ne (by decide) ?_ | refine rF_a ?_ | exact rA_eq | refine rA_ne (by decide) ?_ | refine rA_f ?_)) ?_
      refine g_isub dX7_pattern_39 ?_
      refine g_iret dX7_pattern_40 rfl (rfl) (hQ _ _ ?_)
      rw [hz]
      exact ⟨rfl, ⟨a0, f02, rfl, a5⟩, ⟨a0, f04, rfl, P, I, hPI, f05, patx_fr hpat2 (fun k _ _ => rfl) (fun j => by rw [gF_sF, if_neg (by omega), gF_sF, if_neg (by omega)]), spx_fr hsp2 (fun k _ _ => rfl) (fun k j _ _ => by rw [gF_sF, if_neg (by omega), gF_sF, if_neg (by omega)])⟩, fr_sF (by decide) (fr_sF (by decide) ff)⟩
  · obtain ⟨rfl, hs0, hpr, f12⟩ := o1
    have hpt := patx_of hpr hs0 f12
    obtain ⟨tx, rl, lk, tm, wi, lo, hi, tu, cn, bg, sz, ws, hr, hs, hv⟩ := id hpr
    obtain ⟨-, r1, r2, r3, r4, r5, r6, r7, r8, r9⟩ := id hr
    have aI0 := hs.1
    refine g_istore_n (i := 1) dX7_pattern_15 rfl (Nat.le_of_ble_eq_true rfl) rfl ?_
    refine g_aload_n (i := 0) dX7_pattern_16 rfl rfl ?_
    refine g_iconst (v := 0) dX7_pattern_17 (by decide) ?_
    refine g_put dX7_pattern_18 pl_X7_24 (by repeat' (first | assumption | exact rF_eq | (apply rF_nj; focus decide) | (apply rF_nk; focus omega) | refine rF_a ?_ | exact rA_eq | refine rA_ne (by omega) ?_ | refine rA_f ?_)) (fun _ => ⟨rfl, rfl⟩) ?_
    refine g_iload_n (i := 1) dX7_pattern_21 rfl rfl ?_
    refine g_if_eq (tgt := 41) dX7_pattern_22 (by decide) (fun hc22 => ?_) (fun hc22 => ?_)
    · have hd22 := i_eq.mp hc22; (try simp (disch := omega) only [nT, t_m1000100, t_m1000010, t_m1000003, t_m1000002, t_m1000001, t_m1000000, t_m65535, t_m1000, t_m3, t_m1, t_0, t_1, t_2, t_3, t_4, t_5, t_6, t_7, t_8, t_9, t_10, t_11, t_12, t_13, t_15, t_16, t_20, t_21, t_22, t_32, t_40, t_41, t_48, t_49, t_57, t_59, t_60, t_63, t_72, t_76, t_88, t_100, t_144, t_200, t_255, t_288, t_400, t_800, t_999, t_1000, t_1024, t_1200, t_1600, t_3200, t_100000, t_200000, t_252645135, t_858993459, t_1431655765, u_m1000002, u_m1000001, u_m1000, u_m3, u_m1, u_0, u_1, u_2, u_3, u_4, u_5, u_7, u_8, u_10, u_11, u_15, u_60, u_100, u_255, u_999, u_1000, u_100000, u_4294967295] at hd22)
      refine g_aload_n (i := 0) dX7_pattern_41 rfl rfl ?_
      refine g_get dX7_pattern_42 fl_X7_30 (by repeat' (first | assumption | exact rF_eq | (apply rF_nj; focus decide) | (apply rF_nk; focus omega) | refine rF_a ?_ | exact rA_eq | refine rA_ne (by omega) ?_ | refine rA_f ?_)) (by repeat' (first | assumption | exact rF_eq | (apply rF_nj; focus decide) | (apply rF_nk; focus omega) | refine rF_a ?_ | exact rA_eq | refine rA_ne (by omega) ?_ | refine rA_f ?_)) ?_
      refine g_get dX7_pattern_45 fl_X7_146 (by repeat' (first | assumption | exact rF_eq | (apply rF_nj; focus decide) | (apply rF_nk; focus omega) | refine rF_a ?_ | exact rA_eq | refine rA_ne (by omega) ?_ | refine rA_f ?_)) (by repeat' (first | assumption | exact rF_eq | (apply rF_nj; focus decide) | (apply rF_nk; focus omega) | refine rF_a ?_ | exact rA_eq | refine rA_ne (by omega) ?_ | refine rA_f ?_)) ?_
      refine g_astore_n (i := 2) dX7_pattern_48 rfl (Nat.le_of_ble_eq_true rfl) rfl ?_
      refine g_aload_n (i := 0) dX7_pattern_49 rfl rfl ?_
      refine g_get dX7_pattern_50 fl_X7_30 (by repeat' (first | assumption | exact rF_eq | (apply rF_nj; focus decide) | (apply rF_nk; focus omega) | refine rF_a ?_ | exact rA_eq | refine rA_ne (by omega) ?_ | refine rA_f ?_)) (by repeat' (first | assumption | exact rF_eq | (apply rF_nj; focus decide) | (apply rF_nk; focus omega) | refine rF_a ?_ | exact rA_eq | refine rA_ne (by omega) ?_ | refine rA_f ?_)) ?_
      refine g_aload_n (i := 0) dX7_pattern_53 rfl rfl ?_
      refine g_get dX7_pattern_54 fl_X7_37 (by repeat' (first | assumption | exact rF_eq | (apply rF_nj; focus decide) | (apply rF_nk; focus omega) | refine rF_a ?_ | exact rA_eq | refine rA_ne (by omega) ?_ | refine rA_f ?_)) (by repeat' (first | assumption | exact rF_eq | (apply rF_nj; focus decide) | (apply rF_nk; focus omega) | refine rF_a ?_ | exact rA_eq | refine rA_ne (by omega) ?_ | refine rA_f ?_)) ?_
      refine g_put dX7_pattern_57 pl_X7_146 (by repeat' (first | assumption | exact rF_eq | (apply rF_nj; focus decide) | (apply rF_nk; focus omega) | refine rF_a ?_ | exact rA_eq | refine rA_ne (by omega) ?_ | refine rA_f ?_)) (fun _ => ⟨rfl, rfl⟩) ?_
      refine g_aload_n (i := 0) dX7_pattern_60 rfl rfl ?_
      refine g_aload_n (i := 2) dX7_pattern_61 rfl rfl ?_
      refine g_put dX7_pattern_62 pl_X7_37 (by repeat' (first | assumption | exact rF_eq | (apply rF_nj; focus decide) | (apply rF_nk; focus omega) | refine rF_a ?_ | exact rA_eq | refine rA_ne (by omega) ?_ | refine rA_f ?_)) (fun _ => ⟨rfl, rfl⟩) ?_
      refine g_aload_n (i := 0) dX7_pattern_65 rfl rfl ?_
      refine g_get dX7_pattern_66 fl_X7_37 (by repeat' (first | assumption | exact rF_eq | (apply rF_nj; focus decide) | (apply rF_nk; focus omega) | refine rF_a ?_ | exact rA_eq | refine rA_ne (by omega) ?_ | refine rA_f ?_)) (by repeat' (first | assumption | exact rF_eq | (apply rF_nj; focus decide) | (apply rF_nk; focus omega) | refine rF_a ?_ | exact rA_eq | refine rA_ne (by omega) ?_ | refine rA_f ?_)) ?_
      refine g_get dX7_pattern_69 fl_X7_149 (by repeat' (first | assumption | exact rF_eq | (apply rF_nj; focus decide) | (apply rF_nk; focus omega) | refine rF_a ?_ | exact rA_eq | refine rA_ne (by omega) ?_ | refine rA_f ?_)) (by repeat' (first | assumption | exact rF_eq | (apply rF_nj; focus decide) | (apply rF_nk; focus omega) | refine rF_a ?_ | exact rA_eq | refine rA_ne (by omega) ?_ | refine rA_f ?_)) ?_
      refine g_iret dX7_pattern_72 rfl (rfl) (hQ _ _ ?_)
      rw [hz]
      obtain ⟨ax, arl, alk, atm, awi, alo, ahi, atu, asz, aws, aLs, af, ahs, -⟩ := id hpat2
      refine ⟨rfl, ⟨a0, f02, rfl, a5⟩, ⟨a0, f04, f06, I, P, by omega, rfl, patx_fr hpt (fun k _ _ => rfl) (fun j => by rw [gF_sF, if_neg (by omega), gF_sF, if_neg (by omega), gF_sF, if_neg (by omega)]), ?_⟩, fr_sF (by decide) (fr_sF (by decide) (fr_sF (by decide) ff))⟩
      exact ⟨by omega, r1, rfl, r6, r7, ⟨cn, bg, r8, r9⟩, ax, arl, alk, atm, awi, alo, ahi, atu, asz, aws, _, _, stx_fr ahs (fun k _ _ => rfl) (fun j => by rw [gF_sF, if_neg (by omega), gF_sF, if_neg (by omega), gF_sF, if_neg (by omega)])⟩
    · have hd22 := mt i_eq.mpr hc22; (try simp (disch := omega) only [nT, t_m1000100, t_m1000010, t_m1000003, t_m1000002, t_m1000001, t_m1000000, t_m65535, t_m1000, t_m3, t_m1, t_0, t_1, t_2, t_3, t_4, t_5, t_6, t_7, t_8, t_9, t_10, t_11, t_12, t_13, t_15, t_16, t_20, t_21, t_22, t_32, t_40, t_41, t_48, t_49, t_57, t_59, t_60, t_63, t_72, t_76, t_88, t_100, t_144, t_200, t_255, t_288, t_400, t_800, t_999, t_1000, t_1024, t_1200, t_1600, t_3200, t_100000, t_200000, t_252645135, t_858993459, t_1431655765, u_m1000002, u_m1000001, u_m1000, u_m3, u_m1, u_0, u_1, u_2, u_3, u_4, u_5, u_7, u_8, u_10, u_11, u_15, u_60, u_100, u_255, u_999, u_1000, u_100000, u_4294967295] at hd22); exact absurd rfl hc22
  skip
/-! the LINE of a CYCLE -/
section LineOf
variable {h : HH} {P sz : Nat} {ws pn nl : Int32} {tx rl lk tm wi lo hi tu : Nat → Int32}
theorem c_lineOf (hs : StX h P tx rl lk tm wi lo hi tu sz ws pn nl) (hz : sz ≤ 400) {f0 : Nat} {Ls : List Nat} (hb : blk rl lk tm wi f0 6 0 sz Ls) (hL : Ls.length ≤ 100000) {c s : Nat} (hc : Ls[c]? = some s) : CT mX2_lineOf 0 0 0 [.ref P, .int (nI c)] h (fun r h' => r = some (.int (nI s)) ∧ h' = h) := by
  obtain ⟨e0, e1, e2, e3, e4, e5, e6, e7, e8, a1, a2, a3, a4, a5, a6, a7, a8, f8, f9, f10, f11⟩ := hs
  have hcl : c < Ls.length := (List.getElem?_eq_some_iff.mp hc).1
  refine CT.go [.ref P, .int (nI c), hU, hU, hU] (by decide +kernel) rfl rfl (fun Q' hQ => ?_)
  have key : ∀ (f d a b : Nat) (L : List Nat) (x i : Nat), blk rl lk tm wi f d a b L → b ≤ sz → L.length ≤ 100000 → L[x]? = some s → i ≤ a → GG (EM mX2_lineOf 0 0 0 Q') 0 0 7 [.ref P, .int (nI c), .int (nI x), .int (nI a), .int (nI i)] [] h := by
    intro f
    induction f with
    | zero =>
      intro d a b L x i hb hbs hL hx hia
      rw [hb.2] at hx
      cases hx
    | succ f ih =>
      intro d a b L x i hb hbs hL hx hia
      have hxl : x < L.length := (List.getElem?_eq_some_iff.mp hx).1
      rcases hb with ⟨-, h2⟩ | ⟨h1, h2, L', h3, h4⟩ | ⟨h1, d', e, t, X, L', h2, h3, h4, h5, h6, h7, h8, h9, h10, h11, h12, h13, h14, h15⟩
      · rw [h2] at hx; cases hx
      · subst h3
        refine g_iload dX2_lineOf_7 rfl ?_
        refine g_sipush (v := 400) dX2_lineOf_9 (by decide) ?_
        refine g_icmp_ge (tgt := 145) dX2_lineOf_12 (by decide) (fun hc12 => ?_) (fun hc12 => ?_)
        · (try simp (disch := omega) only [nT, t_m1000100, t_m1000010, t_m1000003, t_m1000002, t_m1000001, t_m1000000, t_m65535, t_m1000, t_m3, t_m1, t_0, t_1, t_2, t_3, t_4, t_5, t_6, t_7, t_8, t_9, t_10, t_11, t_12, t_13, t_15, t_16, t_20, t_21, t_22, t_32, t_40, t_41, t_48, t_49, t_57, t_59, t_60, t_63, t_72, t_76, t_88, t_100, t_144, t_200, t_255, t_288, t_400, t_800, t_999, t_1000, t_1024, t_1200, t_1600, t_3200, t_100000, t_200000, t_252645135, t_858993459, t_1431655765, u_m1000002, u_m1000001, u_m1000, u_m3, u_m1, u_0, u_1, u_2, u_3, u_4, u_5, u_7, u_8, u_10, u_11, u_15, u_60, u_100, u_255, u_999, u_1000, u_100000, u_4294967295] at hc12); omega
        · (try simp (disch := omega) only [nT, t_m1000100, t_m1000010, t_m1000003, t_m1000002, t_m1000001, t_m1000000, t_m65535, t_m1000, t_m3, t_m1, t_0, t_1, t_2, t_3, t_4, t_5, t_6, t_7, t_8, t_9, t_10, t_11, t_12, t_13, t_15, t_16, t_20, t_21, t_22, t_32, t_40, t_41, t_48, t_49, t_57, t_59, t_60, t_63, t_72, t_76, t_88, t_100, t_144, t_200, t_255, t_288, t_400, t_800, t_999, t_1000, t_1024, t_1200, t_1600, t_3200, t_100000, t_200000, t_252645135, t_858993459, t_1431655765, u_m1000002, u_m1000001, u_m1000, u_m3, u_m1, u_0, u_1, u_2, u_3, u_4, u_5, u_7, u_8, u_10, u_11, u_15, u_60, u_100, u_255, u_999, u_1000, u_100000, u_4294967295] at hc12)
          refine g_iload_n (i := 3) dX2_lineOf_15 rfl rfl ?_
          refine g_aload_n (i := 0) dX2_lineOf_16 rfl rfl ?_
          refine g_get dX2_lineOf_17 fl_X2_36 (by repeat' (first | assumption | exact rF_eq | (apply rF_nj; focus decide) | (apply rF_nk; focus omega) | refine rF_a ?_ | exact rA_eq | refine rA_ne (by omega) ?_ | refine rA_f ?_)) (by repeat' (first | assumption | exact rF_eq | (apply rF_nj; focus decide) | (apply rF_nk; focus omega) | refine rF_a ?_ | exact rA_eq | refine rA_ne (by omega) ?_ | refine rA_f ?_)) ?_
          refine g_icmp_ge (tgt := 145) dX2_lineOf_20 (by decide) (fun hc20 => ?_) (fun hc20 => ?_)
          · (try simp (disch := omega) only [nT, t_m1000100, t_m1000010, t_m1000003, t_m1000002, t_m1000001, t_m1000000, t_m65535, t_m1000, t_m3, t_m1, t_0, t_1, t_2, t_3, t_4, t_5, t_6, t_7, t_8, t_9, t_10, t_11, t_12, t_13, t_15, t_16, t_20, t_21, t_22, t_32, t_40, t_41, t_48, t_49, t_57, t_59, t_60, t_63, t_72, t_76, t_88, t_100, t_144, t_200, t_255, t_288, t_400, t_800, t_999, t_1000, t_1024, t_1200, t_1600, t_3200, t_100000, t_200000, t_252645135, t_858993459, t_1431655765, u_m1000002, u_m1000001, u_m1000, u_m3, u_m1, u_0, u_1, u_2, u_3, u_4, u_5, u_7, u_8, u_10, u_11, u_15, u_60, u_100, u_255, u_999, u_1000, u_100000, u_4294967295] at hc20); omega
          · (try simp (disch := omega) only [nT, t_m1000100, t_m1000010, t_m1000003, t_m1000002, t_m1000001, t_m1000000, t_m65535, t_m1000, t_m3, t_m1, t_0, t_1, t_2, t_3, t_4, t_5, t_6, t_7, t_8, t_9, t_10, t_11, t_12, t_13, t_15, t_16, t_20, t_21, t_22, t_32, t_40, t_41, t_48, t_49, t_57, t_59, t_60, t_63, t_72, t_76, t_88, t_100, t_144, t_200, t_255, t_288, t_400, t_800, t_999, t_1000, t_1024, t_1200, t_1600, t_3200, t_100000, t_200000, t_252645135, t_858993459, t_1431655765, u_m1000002, u_m1000001, u_m1000, u_m3, u_m1, u_0, u_1, u_2, u_3, u_4, u_5, u_7, u_8, u_10, u_11, u_15, u_60, u_100, u_255, u_999, u_1000, u_100000, u_4294967295] at hc20)
            refine g_aload_n (i := 0) dX2_lineOf_23 rfl rfl ?_
            refine g_get dX2_lineOf_24 fl_X2_15 (by repeat' (first | assumption | exact rF_eq | (apply rF_nj; focus decide) | (apply rF_nk; focus omega) | refine rF_a ?_ | exact rA_eq | refine rA_ne (by omega) ?_ | refine rA_f ?_)) (by repeat' (first | assumption | exact rF_eq | (apply rF_nj; focus decide) | (apply rF_nk; focus omega) | refine rF_a ?_ | exact rA_eq | refine rA_ne (by omega) ?_ | refine rA_f ?_)) ?_
            refine g_iload_n (i := 3) dX2_lineOf_27 rfl rfl ?_
            refine g_iald dX2_lineOf_28 (by repeat' (first | assumption | exact rF_eq | (apply rF_nj; focus decide) | (apply rF_nk; focus omega) | refine rF_a ?_ | exact rA_eq | refine rA_ne (by omega) ?_ | refine rA_f ?_)) (nT (by omega)) (by omega) ?_
            rw [h2]
            refine g_if_ne (tgt := 47) dX2_lineOf_29 (by decide) (fun hc29 => ?_) (fun hc29 => ?_)
            · have hd29 := mt i_eq.mpr hc29; (try simp (disch := omega) only [nT, t_m1000100, t_m1000010, t_m1000003, t_m1000002, t_m1000001, t_m1000000, t_m65535, t_m1000, t_m3, t_m1, t_0, t_1, t_2, t_3, t_4, t_5, t_6, t_7, t_8, t_9, t_10, t_11, t_12, t_13, t_15, t_16, t_20, t_21, t_22, t_32, t_40, t_41, t_48, t_49, t_57, t_59, t_60, t_63, t_72, t_76, t_88, t_100, t_144, t_200, t_255, t_288, t_400, t_800, t_999, t_1000, t_1024, t_1200, t_1600, t_3200, t_100000, t_200000, t_252645135, t_858993459, t_1431655765, u_m1000002, u_m1000001, u_m1000, u_m3, u_m1, u_0, u_1, u_2, u_3, u_4, u_5, u_7, u_8, u_10, u_11, u_15, u_60, u_100, u_255, u_999, u_1000, u_100000, u_4294967295] at hd29); exact absurd rfl hc29
            · have hd29 := i_eq.mp hc29; (try simp (disch := omega) only [nT, t_m1000100, t_m1000010, t_m1000003, t_m1000002, t_m1000001, t_m1000000, t_m65535, t_m1000, t_m3, t_m1, t_0, t_1, t_2, t_3, t_4, t_5, t_6, t_7, t_8, t_9, t_10, t_11, t_12, t_13, t_15, t_16, t_20, t_21, t_22, t_32, t_40, t_41, t_48, t_49, t_57, t_59, t_60, t_63, t_72, t_76, t_88, t_100, t_144, t_200, t_255, t_288, t_400, t_800, t_999, t_1000, t_1024, t_1200, t_1600, t_3200, t_100000, t_200000, t_252645135, t_858993459, t_1431655765, u_m1000002, u_m1000001, u_m1000, u_m3, u_m1, u_0, u_1, u_2, u_3, u_4, u_5, u_7, u_8, u_10, u_11, u_15, u_60, u_100, u_255, u_999, u_1000, u_100000, u_4294967295] at hd29)
              refine g_iload_n (i := 2) dX2_lineOf_32 rfl rfl ?_
              refine g_if_ne (tgt := 38) dX2_lineOf_33 (by decide) (fun hc33 => ?_) (fun hc33 => ?_)
              · have hd33 := mt i_eq.mpr hc33; (try simp (disch := omega) only [nT, t_m1000100, t_m1000010, t_m1000003, t_m1000002, t_m1000001, t_m1000000, t_m65535, t_m1000, t_m3, t_m1, t_0, t_1, t_2, t_3, t_4, t_5, t_6, t_7, t_8, t_9, t_10, t_11, t_12, t_13, t_15, t_16, t_20, t_21, t_22, t_32, t_40, t_41, t_48, t_49, t_57, t_59, t_60, t_63, t_72, t_76, t_88, t_100, t_144, t_200, t_255, t_288, t_400, t_800, t_999, t_1000, t_1024, t_1200, t_1600, t_3200, t_100000, t_200000, t_252645135, t_858993459, t_1431655765, u_m1000002, u_m1000001, u_m1000, u_m3, u_m1, u_0, u_1, u_2, u_3, u_4, u_5, u_7, u_8, u_10, u_11, u_15, u_60, u_100, u_255, u_999, u_1000, u_100000, u_4294967295] at hd33)
                refine g_iinc dX2_lineOf_38 rfl (Nat.le_of_ble_eq_true rfl) rfl ?_
                refine g_iinc dX2_lineOf_41 rfl (Nat.le_of_ble_eq_true rfl) rfl ?_
                refine g_goto (tgt := 139) dX2_lineOf_44 (by decide) ?_
                refine g_iinc dX2_lineOf_139 rfl (Nat.le_of_ble_eq_true rfl) rfl ?_
                refine g_goto (tgt := 7) dX2_lineOf_142 (by decide) ?_
                rw [n_dec, ni_incO, ni_incO]
                obtain ⟨y, rfl⟩ : ∃ y, x = y + 1 := ⟨x - 1, by omega⟩
                rw [n_m1]
                rw [List.getElem?_cons_succ] at hx
                exact ih d (a + 1) b L' y (i + 1) h4 hbs (by rw [List.length_cons] at hL; omega) hx (by omega)
              · have hd33 := i_eq.mp hc33; (try simp (disch := omega) only [nT, t_m1000100, t_m1000010, t_m1000003, t_m1000002, t_m1000001, t_m1000000, t_m65535, t_m1000, t_m3, t_m1, t_0, t_1, t_2, t_3, t_4, t_5, t_6, t_7, t_8, t_9, t_10, t_11, t_12, t_13, t_15, t_16, t_20, t_21, t_22, t_32, t_40, t_41, t_48, t_49, t_57, t_59, t_60, t_63, t_72, t_76, t_88, t_100, t_144, t_200, t_255, t_288, t_400, t_800, t_999, t_1000, t_1024, t_1200, t_1600, t_3200, t_100000, t_200000, t_252645135, t_858993459, t_1431655765, u_m1000002, u_m1000001, u_m1000, u_m3, u_m1, u_0, u_1, u_2, u_3, u_4, u_5, u_7, u_8, u_10, u_11, u_15, u_60, u_100, u_255, u_999, u_1000, u_100000, u_4294967295] at hd33)
                obtain rfl : x = 0 := by omega
                obtain rfl : a = s := by simpa using hx
                refine g_iload_n (i := 3) dX2_lineOf_36 rfl rfl ?_
                refine g_iret dX2_lineOf_37 rfl (rfl) (hQ _ _ ?_)
                exact ⟨rfl, rfl⟩
      · subst h14
        have hXp : 0 < X.length := List.length_pos_iff.mpr h12
        have hbe := blk_le _ _ _ _ _ h15
        rw [List.length_append, repL_len] at hxl hL
        have hXle : X.length ≤ t * X.length := Nat.le_mul_of_pos_left _ (by omega)
        refine g_iload dX2_lineOf_7 rfl ?_
        refine g_sipush (v := 400) dX2_lineOf_9 (by decide) ?_
        refine g_icmp_ge (tgt := 145) dX2_lineOf_12 (by decide) (fun hc12 => ?_) (fun hc12 => ?_)
        · (try simp (disch := omega) only [nT, t_m1000100, t_m1000010, t_m1000003, t_m1000002, t_m1000001, t_m1000000, t_m65535, t_m1000, t_m3, t_m1, t_0, t_1, t_2, t_3, t_4, t_5, t_6, t_7, t_8, t_9, t_10, t_11, t_12, t_13, t_15, t_16, t_20, t_21, t_22, t_32, t_40, t_41, t_48, t_49, t_57, t_59, t_60, t_63, t_72, t_76, t_88, t_100, t_144, t_200, t_255, t_288, t_400, t_800, t_999, t_1000, t_1024, t_1200, t_1600, t_3200, t_100000, t_200000, t_252645135, t_858993459, t_1431655765, u_m1000002, u_m1000001, u_m1000, u_m3, u_m1, u_0, u_1, u_2, u_3, u_4, u_5, u_7, u_8, u_10, u_11, u_15, u_60, u_100, u_255, u_999, u_1000, u_100000, u_4294967295] at hc12); omega
        · (try simp (disch := omega) only [nT, t_m1000100, t_m1000010, t_m1000003, t_m1000002, t_m1000001, t_m1000000, t_m65535, t_m1000, t_m3, t_m1, t_0, t_1, t_2, t_3, t_4, t_5, t_6, t_7, t_8, t_9, t_10, t_11, t_12, t_13, t_15, t_16, t_20, t_21, t_22, t_32, t_40, t_41, t_48, t_49, t_57, t_59, t_60, t_63, t_72, t_76, t_88, t_100, t_144, t_200, t_255, t_288, t_400, t_800, t_999, t_1000, t_1024, t_1200, t_1600, t_3200, t_100000, t_200000, t_252645135, t_858993459, t_1431655765, u_m1000002, u_m1000001, u_m1000, u_m3, u_m1, u_0, u_1, u_2, u_3, u_4, u_5, u_7, u_8, u_10, u_11, u_15, u_60, u_100, u_255, u_999, u_1000, u_100000, u_4294967295] at hc12)
          refine g_iload_n (i := 3) dX2_lineOf_15 rfl rfl ?_
          refine g_aload_n (i := 0) dX2_lineOf_16 rfl rfl ?_
          refine g_get dX2_lineOf_17 fl_X2_36 (by repeat' (first | assumption | exact rF_eq | (apply rF_nj; focus decide) | (apply rF_nk; focus omega) | refine rF_a ?_ | exact rA_eq | refine rA_ne (by omega) ?_ | refine rA_f ?_)) (by repeat' (first | assumption | exact rF_eq | (apply rF_nj; focus decide) | (apply rF_nk; focus omega) | refine rF_a ?_ | exact rA_eq | refine rA_ne (by omega) ?_ | refine rA_f ?_)) ?_
          refine g_icmp_ge (tgt := 145) dX2_lineOf_20 (by decide) (fun hc20 => ?_) (fun hc20 => ?_)
          · (try simp (disch := omega) only [nT, t_m1000100, t_m1000010, t_m1000003, t_m1000002, t_m1000001, t_m1000000, t_m65535, t_m1000, t_m3, t_m1, t_0, t_1, t_2, t_3, t_4, t_5, t_6, t_7, t_8, t_9, t_10, t_11, t_12, t_13, t_15, t_16, t_20, t_21, t_22, t_32, t_40, t_41, t_48, t_49, t_57, t_59, t_60, t_63, t_72, t_76, t_88, t_100, t_144, t_200, t_255, t_288, t_400, t_800, t_999, t_1000, t_1024, t_1200, t_1600, t_3200, t_100000, t_200000, t_252645135, t_858993459, t_1431655765, u_m1000002, u_m1000001, u_m1000, u_m3, u_m1, u_0, u_1, u_2, u_3, u_4, u_5, u_7, u_8, u_10, u_11, u_15, u_60, u_100, u_255, u_999, u_1000, u_100000, u_4294967295] at hc20); omega
          · (try simp (disch := omega) only [nT, t_m1000100, t_m1000010, t_m1000003, t_m1000002, t_m1000001, t_m1000000, t_m65535, t_m1000, t_m3, t_m1, t_0, t_1, t_2, t_3, t_4, t_5, t_6, t_7, t_8, t_9, t_10, t_11, t_12, t_13, t_15, t_16, t_20, t_21, t_22, t_32, t_40, t_41, t_48, t_49, t_57, t_59, t_60, t_63, t_72, t_76, t_88, t_100, t_144, t_200, t_255, t_288, t_400, t_800, t_999, t_1000, t_1024, t_1200, t_1600, t_3200, t_100000, t_200000, t_252645135, t_858993459, t_1431655765, u_m1000002, u_m1000001, u_m1000, u_m3, u_m1, u_0, u_1, u_2, u_3, u_4, u_5, u_7, u_8, u_10, u_11, u_15, u_60, u_100, u_255, u_999, u_1000, u_100000, u_4294967295] at hc20)
            refine g_aload_n (i := 0) dX2_lineOf_23 rfl rfl ?_
            refine g_get dX2_lineOf_24 fl_X2_15 (by repeat' (first | assumption | exact rF_eq | (apply rF_nj; focus decide) | (apply rF_nk; focus omega) | refine rF_a ?_ | exact rA_eq | refine rA_ne (by omega) ?_ | refine rA_f ?_)) (by repeat' (first | assumption | exact rF_eq | (apply rF_nj; focus decide) | (apply rF_nk; focus omega) | refine rF_a ?_ | exact rA_eq | refine rA_ne (by omega) ?_ | refine rA_f ?_)) ?_
            refine g_iload_n (i := 3) dX2_lineOf_27 rfl rfl ?_
            refine g_iald dX2_lineOf_28 (by repeat' (first | assumption | exact rF_eq | (apply rF_nj; focus decide) | (apply rF_nk; focus omega) | refine rF_a ?_ | exact rA_eq | refine rA_ne (by omega) ?_ | refine rA_f ?_)) (nT (by omega)) (by omega) ?_
            rw [h1]
            refine g_if_ne (tgt := 47) dX2_lineOf_29 (by decide) (fun hc29 => ?_) (fun hc29 => ?_)
            · have hd29 := mt i_eq.mpr hc29; (try simp (disch := omega) only [nT, t_m1000100, t_m1000010, t_m1000003, t_m1000002, t_m1000001, t_m1000000, t_m65535, t_m1000, t_m3, t_m1, t_0, t_1, t_2, t_3, t_4, t_5, t_6, t_7, t_8, t_9, t_10, t_11, t_12, t_13, t_15, t_16, t_20, t_21, t_22, t_32, t_40, t_41, t_48, t_49, t_57, t_59, t_60, t_63, t_72, t_76, t_88, t_100, t_144, t_200, t_255, t_288, t_400, t_800, t_999, t_1000, t_1024, t_1200, t_1600, t_3200, t_100000, t_200000, t_252645135, t_858993459, t_1431655765, u_m1000002, u_m1000001, u_m1000, u_m3, u_m1, u_0, u_1, u_2, u_3, u_4, u_5, u_7, u_8, u_10, u_11, u_15, u_60, u_100, u_255, u_999, u_1000, u_100000, u_4294967295] at hd29)
              refine g_aload_n (i := 0) dX2_lineOf_47 rfl rfl ?_
              refine g_get dX2_lineOf_48 fl_X2_15 (by repeat' (first | assumption | exact rF_eq | (apply rF_nj; focus decide) | (apply rF_nk; focus omega) | refine rF_a ?_ | exact rA_eq | refine rA_ne (by omega) ?_ | refine rA_f ?_)) (by repeat' (first | assumption | exact rF_eq | (apply rF_nj; focus decide) | (apply rF_nk; focus omega) | refine rF_a ?_ | exact rA_eq | refine rA_ne (by omega) ?_ | refine rA_f ?_)) ?_
              refine g_iload_n (i := 3) dX2_lineOf_51 rfl rfl ?_
              refine g_iald dX2_lineOf_52 (by repeat' (first | assumption | exact rF_eq | (apply rF_nj; focus decide) | (apply rF_nk; focus omega) | refine rF_a ?_ | exact rA_eq | refine rA_ne (by omega) ?_ | refine rA_f ?_)) (nT (by omega)) (by omega) ?_
              rw [h1]
              refine g_iconst (v := 1) dX2_lineOf_53 (by decide) ?_
              refine g_icmp_ne (tgt := 98) dX2_lineOf_54 (by decide) (fun hc54 => ?_) (fun hc54 => ?_)
              · have hd54 := mt i_eq.mpr hc54; (try simp (disch := omega) only [nT, t_m1000100, t_m1000010, t_m1000003, t_m1000002, t_m1000001, t_m1000000, t_m65535, t_m1000, t_m3, t_m1, t_0, t_1, t_2, t_3, t_4, t_5, t_6, t_7, t_8, t_9, t_10, t_11, t_12, t_13, t_15, t_16, t_20, t_21, t_22, t_32, t_40, t_41, t_48, t_49, t_57, t_59, t_60, t_63, t_72, t_76, t_88, t_100, t_144, t_200, t_255, t_288, t_400, t_800, t_999, t_1000, t_1024, t_1200, t_1600, t_3200, t_100000, t_200000, t_252645135, t_858993459, t_1431655765, u_m1000002, u_m1000001, u_m1000, u_m3, u_m1, u_0, u_1, u_2, u_3, u_4, u_5, u_7, u_8, u_10, u_11, u_15, u_60, u_100, u_255, u_999, u_1000, u_100000, u_4294967295] at hd54); exact absurd rfl hc54
              · have hd54 := i_eq.mp hc54; (try simp (disch := omega) only [nT, t_m1000100, t_m1000010, t_m1000003, t_m1000002, t_m1000001, t_m1000000, t_m65535, t_m1000, t_m3, t_m1, t_0, t_1, t_2, t_3, t_4, t_5, t_6, t_7, t_8, t_9, t_10, t_11, t_12, t_13, t_15, t_16, t_20, t_21, t_22, t_32, t_40, t_41, t_48, t_49, t_57, t_59, t_60, t_63, t_72, t_76, t_88, t_100, t_144, t_200, t_255, t_288, t_400, t_800, t_999, t_1000, t_1024, t_1200, t_1600, t_3200, t_100000, t_200000, t_252645135, t_858993459, t_1431655765, u_m1000002, u_m1000001, u_m1000, u_m3, u_m1, u_0, u_1, u_2, u_3, u_4, u_5, u_7, u_8, u_10, u_11, u_15, u_60, u_100, u_255, u_999, u_1000, u_100000, u_4294967295] at hd54)
                refine g_aload_n (i := 0) dX2_lineOf_57 rfl rfl ?_
                refine g_get dX2_lineOf_58 fl_X2_24 (by repeat' (first | assumption | exact rF_eq | (apply rF_nj; focus decide) | (apply rF_nk; focus omega) | refine rF_a ?_ | exact rA_eq | refine rA_ne (by omega) ?_ | refine rA_f ?_)) (by repeat' (first | assumption | exact rF_eq | (apply rF_nj; focus decide) | (apply rF_nk; focus omega) | refine rF_a ?_ | exact rA_eq | refine rA_ne (by omega) ?_ | refine rA_f ?_)) ?_
                refine g_iload_n (i := 3) dX2_lineOf_61 rfl rfl ?_
                refine g_iald dX2_lineOf_62 (by repeat' (first | assumption | exact rF_eq | (apply rF_nj; focus decide) | (apply rF_nk; focus omega) | refine rF_a ?_ | exact rA_eq | refine rA_ne (by omega) ?_ | refine rA_f ?_)) (nT (by omega)) (by omega) ?_
                rw [h11]
                refine g_if_le (tgt := 98) dX2_lineOf_63 (by decide) (fun hc63 => ?_) (fun hc63 => ?_)
                · (try simp (disch := omega) only [nT, t_m1000100, t_m1000010, t_m1000003, t_m1000002, t_m1000001, t_m1000000, t_m65535, t_m1000, t_m3, t_m1, t_0, t_1, t_2, t_3, t_4, t_5, t_6, t_7, t_8, t_9, t_10, t_11, t_12, t_13, t_15, t_16, t_20, t_21, t_22, t_32, t_40, t_41, t_48, t_49, t_57, t_59, t_60, t_63, t_72, t_76, t_88, t_100, t_144, t_200, t_255, t_288, t_400, t_800, t_999, t_1000, t_1024, t_1200, t_1600, t_3200, t_100000, t_200000, t_252645135, t_858993459, t_1431655765, u_m1000002, u_m1000001, u_m1000, u_m3, u_m1, u_0, u_1, u_2, u_3, u_4, u_5, u_7, u_8, u_10, u_11, u_15, u_60, u_100, u_255, u_999, u_1000, u_100000, u_4294967295] at hc63); omega
                · (try simp (disch := omega) only [nT, t_m1000100, t_m1000010, t_m1000003, t_m1000002, t_m1000001, t_m1000000, t_m65535, t_m1000, t_m3, t_m1, t_0, t_1, t_2, t_3, t_4, t_5, t_6, t_7, t_8, t_9, t_10, t_11, t_12, t_13, t_15, t_16, t_20, t_21, t_22, t_32, t_40, t_41, t_48, t_49, t_57, t_59, t_60, t_63, t_72, t_76, t_88, t_100, t_144, t_200, t_255, t_288, t_400, t_800, t_999, t_1000, t_1024, t_1200, t_1600, t_3200, t_100000, t_200000, t_252645135, t_858993459, t_1431655765, u_m1000002, u_m1000001, u_m1000, u_m3, u_m1, u_0, u_1, u_2, u_3, u_4, u_5, u_7, u_8, u_10, u_11, u_15, u_60, u_100, u_255, u_999, u_1000, u_100000, u_4294967295] at hc63)
                  refine g_iload_n (i := 2) dX2_lineOf_66 rfl rfl ?_
                  refine g_aload_n (i := 0) dX2_lineOf_67 rfl rfl ?_
                  refine g_get dX2_lineOf_68 fl_X2_21 (by repeat' (first | assumption | exact rF_eq | (apply rF_nj; focus decide) | (apply rF_nk; focus omega) | refine rF_a ?_ | exact rA_eq | refine rA_ne (by omega) ?_ | refine rA_f ?_)) (by repeat' (first | assumption | exact rF_eq | (apply rF_nj; focus decide) | (apply rF_nk; focus omega) | refine rF_a ?_ | exact rA_eq | refine rA_ne (by omega) ?_ | refine rA_f ?_)) ?_
                  refine g_iload_n (i := 3) dX2_lineOf_71 rfl rfl ?_
                  refine g_iald dX2_lineOf_72 (by repeat' (first | assumption | exact rF_eq | (apply rF_nj; focus decide) | (apply rF_nk; focus omega) | refine rF_a ?_ | exact rA_eq | refine rA_ne (by omega) ?_ | refine rA_f ?_)) (nT (by omega)) (by omega) ?_
                  rw [h8]
                  refine g_aload_n (i := 0) dX2_lineOf_73 rfl rfl ?_
                  refine g_get dX2_lineOf_74 fl_X2_24 (by repeat' (first | assumption | exact rF_eq | (apply rF_nj; focus decide) | (apply rF_nk; focus omega) | refine rF_a ?_ | exact rA_eq | refine rA_ne (by omega) ?_ | refine rA_f ?_)) (by repeat' (first | assumption | exact rF_eq | (apply rF_nj; focus decide) | (apply rF_nk; focus omega) | refine rF_a ?_ | exact rA_eq | refine rA_ne (by omega) ?_ | refine rA_f ?_)) ?_
                  refine g_iload_n (i := 3) dX2_lineOf_77 rfl rfl ?_
                  refine g_iald dX2_lineOf_78 (by repeat' (first | assumption | exact rF_eq | (apply rF_nj; focus decide) | (apply rF_nk; focus omega) | refine rF_a ?_ | exact rA_eq | refine rA_ne (by omega) ?_ | refine rA_f ?_)) (nT (by omega)) (by omega) ?_
                  rw [h11]
                  refine g_imul dX2_lineOf_79 ?_
                  rw [pk_mul]
                  refine g_icmp_ge (tgt := 98) dX2_lineOf_80 (by decide) (fun hc80 => ?_) (fun hc80 => ?_)
                  · (try simp (disch := omega) only [nT, t_m1000100, t_m1000010, t_m1000003, t_m1000002, t_m1000001, t_m1000000, t_m65535, t_m1000, t_m3, t_m1, t_0, t_1, t_2, t_3, t_4, t_5, t_6, t_7, t_8, t_9, t_10, t_11, t_12, t_13, t_15, t_16, t_20, t_21, t_22, t_32, t_40, t_41, t_48, t_49, t_57, t_59, t_60, t_63, t_72, t_76, t_88, t_100, t_144, t_200, t_255, t_288, t_400, t_800, t_999, t_1000, t_1024, t_1200, t_1600, t_3200, t_100000, t_200000, t_252645135, t_858993459, t_1431655765, u_m1000002, u_m1000001, u_m1000, u_m3, u_m1, u_0, u_1, u_2, u_3, u_4, u_5, u_7, u_8, u_10, u_11, u_15, u_60, u_100, u_255, u_999, u_1000, u_100000, u_4294967295] at hc80)
                    refine g_aload_n (i := 0) dX2_lineOf_98 rfl rfl ?_
                    refine g_get dX2_lineOf_99 fl_X2_15 (by repeat' (first | assumption | exact rF_eq | (apply rF_nj; focus decide) | (apply rF_nk; focus omega) | refine rF_a ?_ | exact rA_eq | refine rA_ne (by omega) ?_ | refine rA_f ?_)) (by repeat' (first | assumption | exact rF_eq | (apply rF_nj; focus decide) | (apply rF_nk; focus omega) | refine rF_a ?_ | exact rA_eq | refine rA_ne (by omega) ?_ | refine rA_f ?_)) ?_
                    refine g_iload_n (i := 3) dX2_lineOf_102 rfl rfl ?_
                    refine g_iald dX2_lineOf_103 (by repeat' (first | assumption | exact rF_eq | (apply rF_nj; focus decide) | (apply rF_nk; focus omega) | refine rF_a ?_ | exact rA_eq | refine rA_ne (by omega) ?_ | refine rA_f ?_)) (nT (by omega)) (by omega) ?_
                    rw [h1]
                    refine g_iconst (v := 1) dX2_lineOf_104 (by decide) ?_
                    refine g_icmp_ne (tgt := 136) dX2_lineOf_105 (by decide) (fun hc105 => ?_) (fun hc105 => ?_)
                    · have hd105 := mt i_eq.mpr hc105; (try simp (disch := omega) only [nT, t_m1000100, t_m1000010, t_m1000003, t_m1000002, t_m1000001, t_m1000000, t_m65535, t_m1000, t_m3, t_m1, t_0, t_1, t_2, t_3, t_4, t_5, t_6, t_7, t_8, t_9, t_10, t_11, t_12, t_13, t_15, t_16, t_20, t_21, t_22, t_32, t_40, t_41, t_48, t_49, t_57, t_59, t_60, t_63, t_72, t_76, t_88, t_100, t_144, t_200, t_255, t_288, t_400, t_800, t_999, t_1000, t_1024, t_1200, t_1600, t_3200, t_100000, t_200000, t_252645135, t_858993459, t_1431655765, u_m1000002, u_m1000001, u_m1000, u_m3, u_m1, u_0, u_1, u_2, u_3, u_4, u_5, u_7, u_8, u_10, u_11, u_15, u_60, u_100, u_255, u_999, u_1000, u_100000, u_4294967295] at hd105); exact absurd rfl hc105
                    · have hd105 := i_eq.mp hc105; (try simp (disch := omega) only [nT, t_m1000100, t_m1000010, t_m1000003, t_m1000002, t_m1000001, t_m1000000, t_m65535, t_m1000, t_m3, t_m1, t_0, t_1, t_2, t_3, t_4, t_5, t_6, t_7, t_8, t_9, t_10, t_11, t_12, t_13, t_15, t_16, t_20, t_21, t_22, t_32, t_40, t_41, t_48, t_49, t_57, t_59, t_60, t_63, t_72, t_76, t_88, t_100, t_144, t_200, t_255, t_288, t_400, t_800, t_999, t_1000, t_1024, t_1200, t_1600, t_3200, t_100000, t_200000, t_252645135, t_858993459, t_1431655765, u_m1000002, u_m1000001, u_m1000, u_m3, u_m1, u_0, u_1, u_2, u_3, u_4, u_5, u_7, u_8, u_10, u_11, u_15, u_60, u_100, u_255, u_999, u_1000, u_100000, u_4294967295] at hd105)
                      refine g_iload_n (i := 2) dX2_lineOf_108 rfl rfl ?_
                      refine g_aload_n (i := 0) dX2_lineOf_109 rfl rfl ?_
                      refine g_get dX2_lineOf_110 fl_X2_21 (by repeat' (first | assumption | exact rF_eq | (apply rF_nj; focus decide) | (apply rF_nk; focus omega) | refine rF_a ?_ | exact rA_eq | refine rA_ne (by omega) ?_ | refine rA_f ?_)) (by repeat' (first | assumption | exact rF_eq | (apply rF_nj; focus decide) | (apply rF_nk; focus omega) | refine rF_a ?_ | exact rA_eq | refine rA_ne (by omega) ?_ | refine rA_f ?_)) ?_
                      refine g_iload_n (i := 3) dX2_lineOf_113 rfl rfl ?_
                      refine g_iald dX2_lineOf_114 (by repeat' (first | assumption | exact rF_eq | (apply rF_nj; focus decide) | (apply rF_nk; focus omega) | refine rF_a ?_ | exact rA_eq | refine rA_ne (by omega) ?_ | refine rA_f ?_)) (nT (by omega)) (by omega) ?_
                      rw [h8]
                      refine g_aload_n (i := 0) dX2_lineOf_115 rfl rfl ?_
                      refine g_get dX2_lineOf_116 fl_X2_24 (by repeat' (first | assumption | exact rF_eq | (apply rF_nj; focus decide) | (apply rF_nk; focus omega) | refine rF_a ?_ | exact rA_eq | refine rA_ne (by omega) ?_ | refine rA_f ?_)) (by repeat' (first | assumption | exact rF_eq | (apply rF_nj; focus decide) | (apply rF_nk; focus omega) | refine rF_a ?_ | exact rA_eq | refine rA_ne (by omega) ?_ | refine rA_f ?_)) ?_
                      refine g_iload_n (i := 3) dX2_lineOf_119 rfl rfl ?_
                      refine g_iald dX2_lineOf_120 (by repeat' (first | assumption | exact rF_eq | (apply rF_nj; focus decide) | (apply rF_nk; focus omega) | refine rF_a ?_ | exact rA_eq | refine rA_ne (by omega) ?_ | refine rA_f ?_)) (nT (by omega)) (by omega) ?_
                      rw [h11]
                      refine g_imul dX2_lineOf_121 ?_
                      rw [pk_mul]
                      refine g_isub dX2_lineOf_122 ?_
                      rw [n_sub (by omega)]
                      refine g_istore_n (i := 2) dX2_lineOf_123 rfl (Nat.le_of_ble_eq_true rfl) rfl ?_
                      refine g_aload_n (i := 0) dX2_lineOf_124 rfl rfl ?_
                      refine g_get dX2_lineOf_125 fl_X2_18 (by repeat' (first | assumption | exact rF_eq | (apply rF_nj; focus decide) | (apply rF_nk; focus omega) | refine rF_a ?_ | exact rA_eq | refine rA_ne (by omega) ?_ | refine rA_f ?_)) (by repeat' (first | assumption | exact rF_eq | (apply rF_nj; focus decide) | (apply rF_nk; focus omega) | refine rF_a ?_ | exact rA_eq | refine rA_ne (by omega) ?_ | refine rA_f ?_)) ?_
                      refine g_iload_n (i := 3) dX2_lineOf_128 rfl rfl ?_
                      refine g_iald dX2_lineOf_129 (by repeat' (first | assumption | exact rF_eq | (apply rF_nj; focus decide) | (apply rF_nk; focus omega) | refine rF_a ?_ | exact rA_eq | refine rA_ne (by omega) ?_ | refine rA_f ?_)) (nT (by omega)) (by omega) ?_
                      rw [h6]
                      refine g_iconst (v := 1) dX2_lineOf_130 (by decide) ?_
                      refine g_iadd dX2_lineOf_131 ?_
                      rw [ni_inc]
                      refine g_istore_n (i := 3) dX2_lineOf_132 rfl (Nat.le_of_ble_eq_true rfl) rfl ?_
                      refine g_goto (tgt := 139) dX2_lineOf_133 (by decide) ?_
                      refine g_iinc dX2_lineOf_139 rfl (Nat.le_of_ble_eq_true rfl) rfl ?_
                      refine g_goto (tgt := 7) dX2_lineOf_142 (by decide) ?_
                      first
                      | (rw [ni_incO, ni_incO]
                         rw [List.getElem?_append_left (by rw [repL_len]; omega), repL_get _ _ _ (by omega)] at hx
                         exact ih d' (a + 1) e X _ (i + 1) h13 (by omega) (by omega) hx (by omega))
                      | (rw [ni_incO]
                         rw [List.getElem?_append_right (by rw [repL_len]; omega), repL_len] at hx
                         exact ih d (e + 1) b L' _ (i + 1) h15 hbs (by omega) hx (by omega))
                  · (try simp (disch := omega) only [nT, t_m1000100, t_m1000010, t_m1000003, t_m1000002, t_m1000001, t_m1000000, t_m65535, t_m1000, t_m3, t_m1, t_0, t_1, t_2, t_3, t_4, t_5, t_6, t_7, t_8, t_9, t_10, t_11, t_12, t_13, t_15, t_16, t_20, t_21, t_22, t_32, t_40, t_41, t_48, t_49, t_57, t_59, t_60, t_63, t_72, t_76, t_88, t_100, t_144, t_200, t_255, t_288, t_400, t_800, t_999, t_1000, t_1024, t_1200, t_1600, t_3200, t_100000, t_200000, t_252645135, t_858993459, t_1431655765, u_m1000002, u_m1000001, u_m1000, u_m3, u_m1, u_0, u_1, u_2, u_3, u_4, u_5, u_7, u_8, u_10, u_11, u_15, u_60, u_100, u_255, u_999, u_1000, u_100000, u_4294967295] at hc80)
                    refine g_iload_n (i := 2) dX2_lineOf_83 rfl rfl ?_
                    refine g_aload_n (i := 0) dX2_lineOf_84 rfl rfl ?_
                    refine g_get dX2_lineOf_85 fl_X2_24 (by repeat' (first | assumption | exact rF_eq | (apply rF_nj; focus decide) | (apply rF_nk; focus omega) | refine rF_a ?_ | exact rA_eq | refine rA_ne (by omega) ?_ | refine rA_f ?_)) (by repeat' (first | assumption | exact rF_eq | (apply rF_nj; focus decide) | (apply rF_nk; focus omega) | refine rF_a ?_ | exact rA_eq | refine rA_ne (by omega) ?_ | refine rA_f ?_)) ?_
                    refine g_iload_n (i := 3) dX2_lineOf_88 rfl rfl ?_
                    refine g_iald dX2_lineOf_89 (by repeat' (first | assumption | exact rF_eq | (apply rF_nj; focus decide) | (apply rF_nk; focus omega) | refine rF_a ?_ | exact rA_eq | refine rA_ne (by omega) ?_ | refine rA_f ?_)) (nT (by omega)) (by omega) ?_
                    rw [h11]
                    refine g_irem dX2_lineOf_90 (nI_ne0 (by omega) (by omega)) ?_
                    rw [pk_rem (by omega) (by omega) (by omega)]
                    refine g_istore_n (i := 2) dX2_lineOf_91 rfl (Nat.le_of_ble_eq_true rfl) rfl ?_
                    refine g_iinc dX2_lineOf_92 rfl (Nat.le_of_ble_eq_true rfl) rfl ?_
                    refine g_goto (tgt := 139) dX2_lineOf_95 (by decide) ?_
                    refine g_iinc dX2_lineOf_139 rfl (Nat.le_of_ble_eq_true rfl) rfl ?_
                    refine g_goto (tgt := 7) dX2_lineOf_142 (by decide) ?_
                    first
                    | (rw [ni_incO, ni_incO]
                       rw [List.getElem?_append_left (by rw [repL_len]; omega), repL_get _ _ _ (by omega)] at hx
                       exact ih d' (a + 1) e X _ (i + 1) h13 (by omega) (by omega) hx (by omega))
                    | (rw [ni_incO]
                       rw [List.getElem?_append_right (by rw [repL_len]; omega), repL_len] at hx
                       exact ih d (e + 1) b L' _ (i + 1) h15 hbs (by omega) hx (by omega))
            · have hd29 := i_eq.mp hc29; (try simp (disch := omega) only [nT, t_m1000100, t_m1000010, t_m1000003, t_m1000002, t_m1000001, t_m1000000, t_m65535, t_m1000, t_m3, t_m1, t_0, t_1, t_2, t_3, t_4, t_5, t_6, t_7, t_8, t_9, t_10, t_11, t_12, t_13, t_15, t_16, t_20, t_21, t_22, t_32, t_40, t_41, t_48, t_49, t_57, t_59, t_60, t_63, t_72, t_76, t_88, t_100, t_144, t_200, t_255, t_288, t_400, t_800, t_999, t_1000, t_1024, t_1200, t_1600, t_3200, t_100000, t_200000, t_252645135, t_858993459, t_1431655765, u_m1000002, u_m1000001, u_m1000, u_m3, u_m1, u_0, u_1, u_2, u_3, u_4, u_5, u_7, u_8, u_10, u_11, u_15, u_60, u_100, u_255, u_999, u_1000, u_100000, u_4294967295] at hd29); exact absurd hc29 (by decide)
  refine g_iload_n (i := 1) dX2_lineOf_0 rfl rfl ?_
  refine g_istore_n (i := 2) dX2_lineOf_1 rfl (Nat.le_of_ble_eq_true rfl) rfl ?_
  refine g_iconst (v := 0) dX2_lineOf_2 (by decide) ?_
  refine g_istore_n (i := 3) dX2_lineOf_3 rfl (Nat.le_of_ble_eq_true rfl) rfl ?_
  refine g_iconst (v := 0) dX2_lineOf_4 (by decide) ?_
  refine g_istore dX2_lineOf_5 (Nat.le_of_ble_eq_true rfl) rfl ?_
  exact key f0 6 0 sz Ls c 0 hb (by omega) hL hc (by omega)
end LineOf
def opSign (pt : PT) (c p : Int32) : Int32 := if (0 ≤ c.toInt ∧ c.toInt < (pt.2.2.1.length : Int)) ∧ 0 ≤ p.toInt ∧ p.toInt < (pt.2.1 : Int) then pt.2.2.2 (pt.2.2.1.getD c.toInt.toNat 0 + p.toInt.toNat) else -1000000
theorem c_signOf {h : HH} {P sz : Nat} {ws pn nl : Int32} {tx rl lk tm wi lo hi tu : Nat → Int32} (hs : StX h P tx rl lk tm wi lo hi tu sz ws pn nl) {s q p : Nat} (hsz : s < 400) (hq : lk s = nI q) (hp : q + p < 400) : CT mX2_signOf 0 0 0 [.ref P, .int (nI s), .int (nI p)] h (fun r h' => r = some (.int (tx (q + p))) ∧ h' = h) := by
  obtain ⟨e0, e1, e2, e3, e4, e5, e6, e7, e8, a1, a2, a3, a4, a5, a6, a7, a8, f8, f9, f10, f11⟩ := hs
  refine CT.go [.ref P, .int (nI s), .int (nI p)] (by decide +kernel) rfl rfl (fun Q' hQ => ?_)
  refine g_iload_n (i := 1) dX2_signOf_0 rfl rfl ?_
  refine g_ldc dX2_signOf_1 kc_X2_62 ?_
  refine g_icmp_ne (tgt := 11) dX2_signOf_3 (by decide) (fun hc3 => ?_) (fun hc3 => ?_)
  · have hd3 := mt i_eq.mpr hc3; (try simp (disch := omega) only [nT, t_m1000100, t_m1000010, t_m1000003, t_m1000002, t_m1000001, t_m1000000, t_m65535, t_m1000, t_m3, t_m1, t_0, t_1, t_2, t_3, t_4, t_5, t_6, t_7, t_8, t_9, t_10, t_11, t_12, t_13, t_15, t_16, t_20, t_21, t_22, t_32, t_40, t_41, t_48, t_49, t_57, t_59, t_60, t_63, t_72, t_76, t_88, t_100, t_144, t_200, t_255, t_288, t_400, t_800, t_999, t_1000, t_1024, t_1200, t_1600, t_3200, t_100000, t_200000, t_252645135, t_858993459, t_1431655765, u_m1000002, u_m1000001, u_m1000, u_m3, u_m1, u_0, u_1, u_2, u_3, u_4, u_5, u_7, u_8, u_10, u_11, u_15, u_60, u_100, u_255, u_999, u_1000, u_100000, u_4294967295] at hd3)
    refine g_aload_n (i := 0) dX2_signOf_11 rfl rfl ?_
    refine g_get dX2_signOf_12 fl_X2_9 (by repeat' (first | assumption | exact rF_eq | (apply rF_nj; focus decide) | (apply rF_nk; focus omega) | refine rF_a ?_ | exact rA_eq | refine rA_ne (by omega) ?_ | refine rA_f ?_)) (by repeat' (first | assumption | exact rF_eq | (apply rF_nj; focus decide) | (apply rF_nk; focus omega) | refine rF_a ?_ | exact rA_eq | refine rA_ne (by omega) ?_ | refine rA_f ?_)) ?_
    refine g_aload_n (i := 0) dX2_signOf_15 rfl rfl ?_
    refine g_get dX2_signOf_16 fl_X2_18 (by repeat' (first | assumption | exact rF_eq | (apply rF_nj; focus decide) | (apply rF_nk; focus omega) | refine rF_a ?_ | exact rA_eq | refine rA_ne (by omega) ?_ | refine rA_f ?_)) (by repeat' (first | assumption | exact rF_eq | (apply rF_nj; focus decide) | (apply rF_nk; focus omega) | refine rF_a ?_ | exact rA_eq | refine rA_ne (by omega) ?_ | refine rA_f ?_)) ?_
    refine g_iload_n (i := 1) dX2_signOf_19 rfl rfl ?_
    refine g_iald dX2_signOf_20 (by repeat' (first | assumption | exact rF_eq | (apply rF_nj; focus decide) | (apply rF_nk; focus omega) | refine rF_a ?_ | exact rA_eq | refine rA_ne (by omega) ?_ | refine rA_f ?_)) (nT (by omega)) (by omega) ?_
    rw [hq]
    refine g_iload_n (i := 2) dX2_signOf_21 rfl rfl ?_
    refine g_iadd dX2_signOf_22 ?_
    rw [ni_add]
    refine g_iald dX2_signOf_23 (by repeat' (first | assumption | exact rF_eq | (apply rF_nj; focus decide) | (apply rF_nk; focus omega) | refine rF_a ?_ | exact rA_eq | refine rA_ne (by omega) ?_ | refine rA_f ?_)) (nT (by omega)) (by omega) ?_
    refine g_iret dX2_signOf_24 rfl (rfl) (hQ _ _ ?_)
    exact ⟨rfl, rfl⟩
  · have hd3 := i_eq.mp hc3; (try simp (disch := omega) only [nT, t_m1000100, t_m1000010, t_m1000003, t_m1000002, t_m1000001, t_m1000000, t_m65535, t_m1000, t_m3, t_m1, t_0, t_1, t_2, t_3, t_4, t_5, t_6, t_7, t_8, t_9, t_10, t_11, t_12, t_13, t_15, t_16, t_20, t_21, t_22, t_32, t_40, t_41, t_48, t_49, t_57, t_59, t_60, t_63, t_72, t_76, t_88, t_100, t_144, t_200, t_255, t_288, t_400, t_800, t_999, t_1000, t_1024, t_1200, t_1600, t_3200, t_100000, t_200000, t_252645135, t_858993459, t_1431655765, u_m1000002, u_m1000001, u_m1000, u_m3, u_m1, u_0, u_1, u_2, u_3, u_4, u_5, u_7, u_8, u_10, u_11, u_15, u_60, u_100, u_255, u_999, u_1000, u_100000, u_4294967295] at hd3); have q9 := congrArg Int32.toInt (show nI s = -1000000 from hc3); rw [nT (by omega), t_m1000000] at q9; omega
theorem x_sign {pt : PT} {fl : Int32} (hw : WfP pt) {h : HH} (gq : GQX pt fl h) (c p : Int32) : CT mX7_sign 1 0 0 [.ref 0, .int c, .int p] h (fun r h' => r = some (.int (opSign pt c p)) ∧ h' = h) := by
  obtain ⟨e0, q4, q6, P, I, hPI, q5, hpat, hsp⟩ := gq
  obtain ⟨tx, rl, lk, tm, wi, lo, hi, tu, sz, ws, Ls, f, hs, h12, hsz, hb, hM, hl⟩ := hpat
  obtain ⟨w1, w2, w3⟩ := hw
  have aP := hs.1
  obtain ⟨-, -, -, -, -, -, -, -, -, -, -, -, -, -, -, -, -, -, -, g10, -⟩ := id hs
  have hlen : pt.2.2.1.length = Ls.length := by rw [hM, List.length_map]
  refine CT.go [.ref 0, .int c, .int p] (by decide +kernel) rfl rfl (fun Q' hQ => ?_)
  refine g_iload_n (i := 1) dX7_sign_0 rfl rfl ?_
  refine g_aload_n (i := 0) dX7_sign_1 rfl rfl ?_
  refine g_get dX7_sign_2 fl_X7_37 (by repeat' (first | assumption | exact rF_eq | refine rF_ne (by decide) ?_ | refine rF_a ?_ | exact rA_eq | refine rA_ne (by decide) ?_ | refine rA_f ?_)) (by repeat' (first | assumption | exact rF_eq | refine rF_ne (by decide) ?_ | refine rF_a ?_ | exact rA_eq | refine rA_ne (by decide) ?_ | refine rA_f ?_)) ?_
  refine g_get dX7_sign_5 fl_X7_149 (by repeat' (first | assumption | exact rF_eq | refine rF_ne (by decide) ?_ | refine rF_a ?_ | exact rA_eq | refine rA_ne (by decide) ?_ | refine rA_f ?_)) (by repeat' (first | assumption | exact rF_eq | refine rF_ne (by decide) ?_ | refine rF_a ?_ | exact rA_eq | refine rA_ne (by decide) ?_ | refine rA_f ?_)) ?_
  refine g_callS (M' := mX7_isWithin) dX7_sign_8 lc_X7_isWithin ml_X7_90 (c_isWithin h c (nI pt.2.2.1.length) (pt.2.2.1.length : Int) (nT (by omega))) rfl rfl ⟨Nat.le_of_ble_eq_true rfl, Nat.le_of_ble_eq_true rfl, Nat.le_of_ble_eq_true rfl, Nat.le_of_ble_eq_true rfl⟩ (Nat.le_of_ble_eq_true rfl) ?_
  intro r_ h_ q_; obtain ⟨q1_, q2_⟩ := q_; have q2_ := q2_.symm; subst q1_; subst q2_
  refine g_if_eq (tgt := 28) dX7_sign_11 (by decide) (fun hc11 => ?_) (fun hc11 => ?_)
  · replace hc11 := bI_0.mp hc11
    (try simp (disch := omega) only [nT, t_m1000100, t_m1000010, t_m1000003, t_m1000002, t_m1000001, t_m1000000, t_m65535, t_m1000, t_m3, t_m1, t_0, t_1, t_2, t_3, t_4, t_5, t_6, t_7, t_8, t_9, t_10, t_11, t_12, t_13, t_15, t_16, t_20, t_21, t_22, t_32, t_40, t_41, t_48, t_49, t_57, t_59, t_60, t_63, t_72, t_76, t_88, t_100, t_144, t_200, t_255, t_288, t_400, t_800, t_999, t_1000, t_1024, t_1200, t_1600, t_3200, t_100000, t_200000, t_252645135, t_858993459, t_1431655765, u_m1000002, u_m1000001, u_m1000, u_m3, u_m1, u_0, u_1, u_2, u_3, u_4, u_5, u_7, u_8, u_10, u_11, u_15, u_60, u_100, u_255, u_999, u_1000, u_100000, u_4294967295] at hc11)
    refine g_ldc dX7_sign_28 kc_X7_155 ?_
    refine g_iret dX7_sign_30 rfl (rfl) (hQ _ _ ?_)
    refine ⟨?_, rfl⟩
    unfold opSign
    rw [if_neg (fun q => by first | exact absurd q.1 (by assumption) | exact absurd q.2 (by assumption))]
  · replace hc11 := bI_n0.mp hc11
    (try simp (disch := omega) only [nT, t_m1000100, t_m1000010, t_m1000003, t_m1000002, t_m1000001, t_m1000000, t_m65535, t_m1000, t_m3, t_m1, t_0, t_1, t_2, t_3, t_4, t_5, t_6, t_7, t_8, t_9, t_10, t_11, t_12, t_13, t_15, t_16, t_20, t_21, t_22, t_32, t_40, t_41, t_48, t_49, t_57, t_59, t_60, t_63, t_72, t_76, t_88, t_100, t_144, t_200, t_255, t_288, t_400, t_800, t_999, t_1000, t_1024, t_1200, t_1600, t_3200, t_100000, t_200000, t_252645135, t_858993459, t_1431655765, u_m1000002, u_m1000001, u_m1000, u_m3, u_m1, u_0, u_1, u_2, u_3, u_4, u_5, u_7, u_8, u_10, u_11, u_15, u_60, u_100, u_255, u_999, u_1000, u_100000, u_4294967295] at hc11)
    refine g_iload_n (i := 2) dX7_sign_14 rfl rfl ?_
    refine g_aload_n (i := 0) dX7_sign_15 rfl rfl ?_
    refine g_get dX7_sign_16 fl_X7_37 (by repeat' (first | assumption | exact rF_eq | refine rF_ne (by decide) ?_ | refine rF_a ?_ | exact rA_eq | refine rA_ne (by decide) ?_ | refine rA_f ?_)) (by repeat' (first | assumption | exact rF_eq | refine rF_ne (by decide) ?_ | refine rF_a ?_ | exact rA_eq | refine rA_ne (by decide) ?_ | refine rA_f ?_)) ?_
    refine g_get dX7_sign_19 fl_X7_152 (by repeat' (first | assumption | exact rF_eq | refine rF_ne (by decide) ?_ | refine rF_a ?_ | exact rA_eq | refine rA_ne (by decide) ?_ | refine rA_f ?_)) (by repeat' (first | assumption | exact rF_eq | refine rF_ne (by decide) ?_ | refine rF_a ?_ | exact rA_eq | refine rA_ne (by decide) ?_ | refine rA_f ?_)) ?_
    refine g_callS (M' := mX7_isWithin) dX7_sign_22 lc_X7_isWithin ml_X7_90 (c_isWithin h p (nI pt.2.1) (pt.2.1 : Int) (nT (by omega))) rfl rfl ⟨Nat.le_of_ble_eq_true rfl, Nat.le_of_ble_eq_true rfl, Nat.le_of_ble_eq_true rfl, Nat.le_of_ble_eq_true rfl⟩ (Nat.le_of_ble_eq_true rfl) ?_
    intro r_ h_ q_; obtain ⟨q1_, q2_⟩ := q_; have q2_ := q2_.symm; subst q1_; subst q2_
    refine g_if_ne (tgt := 31) dX7_sign_25 (by decide) (fun hc25 => ?_) (fun hc25 => ?_)
    · replace hc25 := bI_n0.mp hc25
      (try simp (disch := omega) only [nT, t_m1000100, t_m1000010, t_m1000003, t_m1000002, t_m1000001, t_m1000000, t_m65535, t_m1000, t_m3, t_m1, t_0, t_1, t_2, t_3, t_4, t_5, t_6, t_7, t_8, t_9, t_10, t_11, t_12, t_13, t_15, t_16, t_20, t_21, t_22, t_32, t_40, t_41, t_48, t_49, t_57, t_59, t_60, t_63, t_72, t_76, t_88, t_100, t_144, t_200, t_255, t_288, t_400, t_800, t_999, t_1000, t_1024, t_1200, t_1600, t_3200, t_100000, t_200000, t_252645135, t_858993459, t_1431655765, u_m1000002, u_m1000001, u_m1000, u_m3, u_m1, u_0, u_1, u_2, u_3, u_4, u_5, u_7, u_8, u_10, u_11, u_15, u_60, u_100, u_255, u_999, u_1000, u_100000, u_4294967295] at hc25)
      obtain ⟨cc, hc1, rfl, hc3⟩ := n_of (n := pt.2.2.1.length) (x := c) (by omega) (by omega)
      obtain ⟨pp, hp1, rfl, hp3⟩ := n_of (n := pt.2.1) (x := p) (by omega) (by omega)
      have hsg : Ls[cc]? = some Ls[cc] := List.getElem?_eq_getElem (by omega)
      have hmem := blk_mem _ _ _ _ _ hb Ls[cc] (List.getElem_mem (by omega))
      obtain ⟨q, k1, k2, k3, k4, k5⟩ := hl Ls[cc] hmem.2.1 hmem.2.2
      have hk : pt.2.2.1.getD cc 0 = q := by
        rw [hM, List.getD_eq_getElem?_getD, List.getElem?_map, hsg]
        show lkP lk Ls[cc] = q
        unfold lkP
        rw [k1, nTN (by omega)]
      have hop : opSign pt (nI cc) (nI pp) = tx (q + pp) := by
        unfold opSign
        rw [if_pos ⟨⟨by omega, by omega⟩, by omega, by omega⟩, hc3, hp3, k5 pp hp1, Int.toNat_natCast, Int.toNat_natCast, hk]
      refine g_aload_n (i := 0) dX7_sign_31 rfl rfl ?_
      refine g_get dX7_sign_32 fl_X7_37 (by repeat' (first | assumption | exact rF_eq | refine rF_ne (by decide) ?_ | refine rF_a ?_ | exact rA_eq | refine rA_ne (by decide) ?_ | refine rA_f ?_)) (by repeat' (first | assumption | exact rF_eq | refine rF_ne (by decide) ?_ | refine rF_a ?_ | exact rA_eq | refine rA_ne (by decide) ?_ | refine rA_f ?_)) ?_
      refine g_aload_n (i := 0) dX7_sign_35 rfl rfl ?_
      refine g_get dX7_sign_36 fl_X7_37 (by repeat' (first | assumption | exact rF_eq | refine rF_ne (by decide) ?_ | refine rF_a ?_ | exact rA_eq | refine rA_ne (by decide) ?_ | refine rA_f ?_)) (by repeat' (first | assumption | exact rF_eq | refine rF_ne (by decide) ?_ | refine rF_a ?_ | exact rA_eq | refine rA_ne (by decide) ?_ | refine rA_f ?_)) ?_
      refine g_iload_n (i := 1) dX7_sign_39 rfl rfl ?_
      refine g_callV (M' := mX2_lineOf) dX7_sign_40 lc_X2_lineOf ml_X7_156 (c_lineOf hs hsz hb (by omega) hsg) rfl rfl (by repeat' (first | assumption | exact rF_eq | refine rF_ne (by decide) ?_ | refine rF_a ?_ | exact rA_eq | refine rA_ne (by decide) ?_ | refine rA_f ?_)) rfl ⟨Nat.le_of_ble_eq_true rfl, Nat.le_of_ble_eq_true rfl, Nat.le_of_ble_eq_true rfl, Nat.le_of_ble_eq_true rfl⟩ (Nat.le_of_ble_eq_true rfl) ?_
      intro r_ h_ q_; obtain ⟨q1_, q2_⟩ := q_; have q2_ := q2_.symm; subst q1_; subst q2_
      refine g_iload_n (i := 2) dX7_sign_43 rfl rfl ?_
      refine g_callV (M' := mX2_signOf) dX7_sign_44 lc_X2_signOf ml_X7_159 (c_signOf hs (s := Ls[cc]) (q := q) (p := pp) (by omega) k1 (by omega)) rfl rfl (by repeat' (first | assumption | exact rF_eq | refine rF_ne (by decide) ?_ | refine rF_a ?_ | exact rA_eq | refine rA_ne (by decide) ?_ | refine rA_f ?_)) rfl ⟨Nat.le_of_ble_eq_true rfl, Nat.le_of_ble_eq_true rfl, Nat.le_of_ble_eq_true rfl, Nat.le_of_ble_eq_true rfl⟩ (Nat.le_of_ble_eq_true rfl) ?_
      intro r_ h_ q_; obtain ⟨q1_, q2_⟩ := q_; have q2_ := q2_.symm; subst q1_; subst q2_
      refine g_iret dX7_sign_47 rfl (rfl) (hQ _ _ ?_)
      rw [hop]; exact ⟨rfl, rfl⟩
    · replace hc25 := bI_0.mp hc25
      (try simp (disch := omega) only [nT, t_m1000100, t_m1000010, t_m1000003, t_m1000002, t_m1000001, t_m1000000, t_m65535, t_m1000, t_m3, t_m1, t_0, t_1, t_2, t_3, t_4, t_5, t_6, t_7, t_8, t_9, t_10, t_11, t_12, t_13, t_15, t_16, t_20, t_21, t_22, t_32, t_40, t_41, t_48, t_49, t_57, t_59, t_60, t_63, t_72, t_76, t_88, t_100, t_144, t_200, t_255, t_288, t_400, t_800, t_999, t_1000, t_1024, t_1200, t_1600, t_3200, t_100000, t_200000, t_252645135, t_858993459, t_1431655765, u_m1000002, u_m1000001, u_m1000, u_m3, u_m1, u_0, u_1, u_2, u_3, u_4, u_5, u_7, u_8, u_10, u_11, u_15, u_60, u_100, u_255, u_999, u_1000, u_100000, u_4294967295] at hc25)
      refine g_ldc dX7_sign_28 kc_X7_155 ?_
      refine g_iret dX7_sign_30 rfl (rfl) (hQ _ _ ?_)
      refine ⟨?_, rfl⟩
      unfold opSign
      rw [if_neg (fun q => by first | exact absurd q.1 (by assumption) | exact absurd q.2 (by assumption))]
