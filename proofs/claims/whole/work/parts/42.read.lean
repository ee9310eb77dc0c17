/-! the reader of the class: the whole tape; pattern -/
theorem t0N : (0 : Int32).toInt = ((0 : Nat) : Int) := rfl
theorem tok_r {L : Nat} {tp : Nat → Int32} {s : PS} {p : Nat} {q : PS × Nat} (h : tokB L tp s p = .inr q) (hp : p < L) : 2 * q.1.2.2.2.1 + p ≤ 2 * s.2.2.2.1 + q.2 ∧ p < q.2 ∧ q.2 ≤ L := by
  have b1 := fwd_le (q := isRw) (tp := tp) (show p ≤ L by omega)
  have b2 := fwd_le (q := isBl) (tp := tp) b1.2
  unfold tokB at h
  split at h
  · split at h
    · cases h
    · split at h
      · cases h
      · cases h; dsimp only; omega
  · split at h
    · cases h
    · split at h
      · split at h
        · cases h
        · split at h
          · cases h
          · split at h
            · cases h
            · cases h; dsimp only; omega
      · split at h
        · cases h
        · split at h
          · cases h
          · split at h
            · cases h
            · rename_i q4 q5 q6
              have q7 : fwd isBl L tp (fwd isRw L tp p) < L := by
                by_cases z : fwd isBl L tp (fwd isRw L tp p) < L
                · exact z
                · exact absurd (Or.inr (Or.inr (fun y => z y.1))) q4
              cases h; dsimp only; omega
def s0B : PS := (0, fun _ => [], fun _ => 1, 0, 0)
def SpX (I : Nat) (h : HH) : Prop := (I = 7 ∨ I = 18) ∧ gA h 6 = aO 4 ∧ gF h 6 0 = .ref I ∧ gF h 6 5 = .ref 16 ∧ gF h 6 6 = .ref 17 ∧ (∃ cn bg, gA h 16 = aI 7 cn ∧ gA h 17 = aI 7 bg) ∧ ∃ (tx rl lk tm wi lo hi tu : Nat → Int32) (sz : Nat) (ws pn nl : Int32), StX h I tx rl lk tm wi lo hi tu sz ws pn nl
def OutR (I L : Nat) (tp : Nat → Int32) (r : Option Value) (h : HH) : (Nat × Nat) ⊕ PS → Prop
  | .inl f => r = some (.int (nI f.1)) ∧ PrF I L tp f.1 f.2 h
  | .inr s => r = some (.int 0) ∧ s.1 = 0 ∧ PrX I L tp s L h ∧ gF h I 12 = .int (nI (s.2.1 0).length)
theorem stx_12 {h : HH} {I sz : Nat} {ws pn nl : Int32} {tx rl lk tm wi lo hi tu : Nat → Int32} (hs : StX h I tx rl lk tm wi lo hi tu sz ws pn nl) (v : Value) : StX (sF h I 12 v) I tx rl lk tm wi lo hi tu sz ws pn nl := by
  obtain ⟨e0, e1, e2, e3, e4, e5, e6, e7, e8, a1, a2, a3, a4, a5, a6, a7, a8, f8, f9, f10, f11⟩ := hs
  refine ⟨e0, ?_, ?_, ?_, ?_, ?_, ?_, ?_, ?_, a1, a2, a3, a4, a5, a6, a7, a8, ?_, ?_, ?_, ?_⟩
  all_goals (refine rF_nj (by decide) ?_; assumption)
theorem rdx_12 {h : HH} {I L d : Nat} {fl : Int32} {cn bg : Nat → Int32} (hr : RdX h I L fl d cn bg) (v : Value) : RdX (sF h I 12 v) I L fl d cn bg := by
  have hI := hr.1
  exact rdx_st hr rfl (fun j => by rw [gF_sF, if_neg (by omega)]) rfl rfl
theorem c_startWith {h : HH} {I L : Nat} {ws pn nl : Int32} {sz : Nat} {tp tx rl lk tm wi lo hi tu : Nat → Int32} (hI : I = 7 ∨ I = 18) (hs : StX h I tx rl lk tm wi lo hi tu sz ws pn nl) (h5 : gA h 5 = aI 400 tp) (hL : L ≤ 400) : CT mX2_startWith 1 0 0 [.ref I, .ref 5, .int (nI L)] h (fun r h' => r = none ∧ StX h' I (va_cpy tp tx 0 0 L) rl lk tm wi lo hi tu 0 ws 0 0 ∧ (∀ k, k ≠ I + 1 → gA h' k = gA h k) ∧ ∀ k j, ¬ (k = I ∧ 8 ≤ j ∧ j ≤ 12) → gF h' k j = gF h k j) := by
  obtain ⟨e0, e1, e2, e3, e4, e5, e6, e7, e8, a1, a2, a3, a4, a5, a6, a7, a8, f8, f9, f10, f11⟩ := hs
  refine CT.go [.ref I, .ref 5, .int (nI L)] (by decide +kernel) rfl rfl (fun Q' hQ => ?_)
  refine g_aload_n (i := 1) dX2_startWith_0 rfl rfl ?_
  refine g_iconst (v := 0) dX2_startWith_1 (by decide) ?_
  refine g_aload_n (i := 0) dX2_startWith_2 rfl rfl ?_
  refine g_get dX2_startWith_3 fl_X2_9 (by repeat' (first | assumption | exact rF_eq | (apply rF_nj; focus decide) | (apply rF_nk; focus omega) | refine rF_a ?_ | exact rA_eq | refine rA_ne (by omega) ?_ | refine rA_f ?_)) (by repeat' (first | assumption | exact rF_eq | (apply rF_nj; focus decide) | (apply rF_nk; focus omega) | refine rF_a ?_ | exact rA_eq | refine rA_ne (by omega) ?_ | refine rA_f ?_)) ?_
  refine g_iconst (v := 0) dX2_startWith_6 (by decide) ?_
  refine g_iload_n (i := 2) dX2_startWith_7 rfl rfl ?_
  refine g_copyi dX2_startWith_8 ml_X2_52 ac_nat ac_stat ac_init (by repeat' (first | assumption | exact rF_eq | (apply rF_nj; focus decide) | (apply rF_nk; focus omega) | refine rF_a ?_ | exact rA_eq | refine rA_ne (by omega) ?_ | refine rA_f ?_)) (by repeat' (first | assumption | exact rF_eq | (apply rF_nj; focus decide) | (apply rF_nk; focus omega) | refine rF_a ?_ | exact rA_eq | refine rA_ne (by omega) ?_ | refine rA_f ?_)) t0N t0N (nT (by omega)) (by omega) (by omega) ⟨Nat.le_of_ble_eq_true rfl, Nat.le_of_ble_eq_true rfl⟩ ?_
  refine g_aload_n (i := 0) dX2_startWith_11 rfl rfl ?_
  refine g_iconst (v := 0) dX2_startWith_12 (by decide) ?_
  refine g_put dX2_startWith_13 pl_X2_36 (by repeat' (first | assumption | exact rF_eq | (apply rF_nj; focus decide) | (apply rF_nk; focus omega) | refine rF_a ?_ | exact rA_eq | refine rA_ne (by omega) ?_ | refine rA_f ?_)) (fun _ => ⟨rfl, rfl⟩) ?_
  refine g_aload_n (i := 0) dX2_startWith_16 rfl rfl ?_
  refine g_iconst (v := 0) dX2_startWith_17 (by decide) ?_
  refine g_put dX2_startWith_18 pl_X2_43 (by repeat' (first | assumption | exact rF_eq | (apply rF_nj; focus decide) | (apply rF_nk; focus omega) | refine rF_a ?_ | exact rA_eq | refine rA_ne (by omega) ?_ | refine rA_f ?_)) (fun _ => ⟨rfl, rfl⟩) ?_
  refine g_aload_n (i := 0) dX2_startWith_21 rfl rfl ?_
  refine g_iconst (v := 0) dX2_startWith_22 (by decide) ?_
  refine g_put dX2_startWith_23 pl_X2_46 (by repeat' (first | assumption | exact rF_eq | (apply rF_nj; focus decide) | (apply rF_nk; focus omega) | refine rF_a ?_ | exact rA_eq | refine rA_ne (by omega) ?_ | refine rA_f ?_)) (fun _ => ⟨rfl, rfl⟩) ?_
  refine g_aload_n (i := 0) dX2_startWith_26 rfl rfl ?_
  refine g_iconst (v := 0) dX2_startWith_27 (by decide) ?_
  refine g_put dX2_startWith_28 pl_X2_49 (by repeat' (first | assumption | exact rF_eq | (apply rF_nj; focus decide) | (apply rF_nk; focus omega) | refine rF_a ?_ | exact rA_eq | refine rA_ne (by omega) ?_ | refine rA_f ?_)) (fun _ => ⟨rfl, rfl⟩) ?_
  refine g_vret dX2_startWith_31 rfl (hQ _ _ ?_)
  refine ⟨rfl, ⟨?_, ?_, ?_, ?_, ?_, ?_, ?_, ?_, ?_, ?_, ?_, ?_, ?_, ?_, ?_, ?_, ?_, ?_, ?_, ?_, ?_⟩, fun k hk => rA_ne hk rfl, fun k j hk => by rw [gF_sF, if_neg (by omega), gF_sF, if_neg (by omega), gF_sF, if_neg (by omega), gF_sF, if_neg (by omega)]; rfl⟩
  all_goals repeat' (first | assumption | exact rF_eq | refine rF_nj (by decide) ?_ | refine rF_nk (by omega) ?_ | refine rF_a ?_ | exact rA_eq | refine rA_ne (by omega) ?_ | refine rA_f ?_ | rfl)
theorem inv_0 {L : Nat} {tp tx rl lk tm wi lo hi cn bg : Nat → Int32} (hL : L ≤ 400) (ht : ∀ j, j < L → tx j = tp j) (hc : cn 0 = 0) {p : Nat} (hp : p ≤ L) : InvP L tp tx rl lk tm wi lo hi cn bg 0 0 (fun _ => []) (fun _ => 1) 0 0 p :=
  ⟨⟨hp, hL, by omega, by omega, by omega⟩, ht, fun i hi => by omega, fun _ => 0, fun _ => [], 0, rfl, fun j h1 h2 => by omega, fun j hj => by
    obtain rfl : j = 0 := by omega
    exact ⟨hc, by simp, rfl⟩, fun j hj => by omega, blk_nil⟩
theorem c_read {h : HH} {I L : Nat} {tp : Nat → Int32} (hp : SpX I h) (h5 : gA h 5 = aI 400 tp) (hL : L ≤ 400) : CT mX4_read 4 0 0 [.ref 6, .ref 5, .int (nI L)] h (fun r h' => OutR I L tp r h' (prsB L tp (L + 1) s0B (fwd isBl L tp 0)) ∧ FrI I h h') := by
  obtain ⟨hI, r1, r2, r6, r7, ⟨cn, bg, r8, r9⟩, tx, rl, lk, tm, wi, lo, hi, tu, sz, ws, pn, nl, hs⟩ := hp
  refine CT.go [.ref 6, .ref 5, .int (nI L), hU, hU] (by decide +kernel) rfl rfl (fun Q' hQ => ?_)
  generalize hz : prsB L tp (L + 1) s0B (fwd isBl L tp 0) = z at hQ
  have keyF : ∀ (f q : Nat) (h2 : HH) (v3 v4 : Value), z = .inl (f, q) → PrF I L tp f q h2 → FrI I h h2 → GG (EM mX4_read 4 0 0 Q') 0 0 104 [.ref 6, .ref 5, .int (nI L), v3, v4] [] h2 := by
    intro f q h2 v3 v4 hzf hf hfr
    obtain ⟨⟨f1, f2, f3, f4⟩, tx, rl, lk, tm, wi, lo, hi, tu, cn, bg, sz, d, ws, pn, nl, hr, hq, hs, ht⟩ := hf
    obtain ⟨-, k1, k2, k3, k4, k5, k6, k7, k8, k9⟩ := id hr
    have s0 := hs.1
    refine g_aload_n (i := 0) dX4_read_104 rfl rfl ?_
    refine g_get dX4_read_105 fl_X4_12 (by repeat' (first | assumption | exact rF_eq | (apply rF_nj; focus decide) | (apply rF_nk; focus omega) | refine rF_a ?_ | exact rA_eq | refine rA_ne (by omega) ?_ | refine rA_f ?_)) (by repeat' (first | assumption | exact rF_eq | (apply rF_nj; focus decide) | (apply rF_nk; focus omega) | refine rF_a ?_ | exact rA_eq | refine rA_ne (by omega) ?_ | refine rA_f ?_)) ?_
    refine g_aload_n (i := 0) dX4_read_108 rfl rfl ?_
    refine g_get dX4_read_109 fl_X4_31 (by repeat' (first | assumption | exact rF_eq | (apply rF_nj; focus decide) | (apply rF_nk; focus omega) | refine rF_a ?_ | exact rA_eq | refine rA_ne (by omega) ?_ | refine rA_f ?_)) (by repeat' (first | assumption | exact rF_eq | (apply rF_nj; focus decide) | (apply rF_nk; focus omega) | refine rF_a ?_ | exact rA_eq | refine rA_ne (by omega) ?_ | refine rA_f ?_)) ?_
    refine g_iconst (v := 0) dX4_read_112 (by decide) ?_
    refine g_iald dX4_read_113 (by repeat' (first | assumption | exact rF_eq | (apply rF_nj; focus decide) | (apply rF_nk; focus omega) | refine rF_a ?_ | exact rA_eq | refine rA_ne (by omega) ?_ | refine rA_f ?_)) (t0N) (by omega) ?_
    refine g_put dX4_read_114 pl_X4_53 (by repeat' (first | assumption | exact rF_eq | (apply rF_nj; focus decide) | (apply rF_nk; focus omega) | refine rF_a ?_ | exact rA_eq | refine rA_ne (by omega) ?_ | refine rA_f ?_)) (fun _ => ⟨rfl, rfl⟩) ?_
    refine g_aload_n (i := 0) dX4_read_117 rfl rfl ?_
    refine g_get dX4_read_118 fl_X4_22 (by repeat' (first | assumption | exact rF_eq | (apply rF_nj; focus decide) | (apply rF_nk; focus omega) | refine rF_a ?_ | exact rA_eq | refine rA_ne (by omega) ?_ | refine rA_f ?_)) (by repeat' (first | assumption | exact rF_eq | (apply rF_nj; focus decide) | (apply rF_nk; focus omega) | refine rF_a ?_ | exact rA_eq | refine rA_ne (by omega) ?_ | refine rA_f ?_)) ?_
    refine g_iret dX4_read_121 rfl (rfl) (hQ _ _ ?_)
    rw [hzf]
    exact ⟨⟨rfl, ⟨f1, f2, f3, f4⟩, tx, rl, lk, tm, wi, lo, hi, tu, cn, bg, sz, d, ws, pn, nl, rdx_12 hr _, rF_nk (by omega) hq, stx_12 hs _, ht⟩, fi_sF (by omega) hfr⟩
  have keyS : ∀ (s : PS) (h2 : HH) (v3 v4 : Value), z = .inr s → s.1 = 0 → PrX I L tp s L h2 → FrI I h h2 → GG (EM mX4_read 4 0 0 Q') 0 0 104 [.ref 6, .ref 5, .int (nI L), v3, v4] [] h2 := by
    intro s h2 v3 v4 hzs hs0 hp hfr
    obtain ⟨tx, rl, lk, tm, wi, lo, hi, tu, cn, bg, sz, ws, hr, hs, hv⟩ := hp
    obtain ⟨-, k1, k2, k3, k4, k5, k6, k7, k8, k9⟩ := id hr
    have s0 := hs.1
    have hn := (inv_n hv (j := 0) (by omega)).1
    refine g_aload_n (i := 0) dX4_read_104 rfl rfl ?_
    refine g_get dX4_read_105 fl_X4_12 (by repeat' (first | assumption | exact rF_eq | (apply rF_nj; focus decide) | (apply rF_nk; focus omega) | refine rF_a ?_ | exact rA_eq | refine rA_ne (by omega) ?_ | refine rA_f ?_)) (by repeat' (first | assumption | exact rF_eq | (apply rF_nj; focus decide) | (apply rF_nk; focus omega) | refine rF_a ?_ | exact rA_eq | refine rA_ne (by omega) ?_ | refine rA_f ?_)) ?_
    refine g_aload_n (i := 0) dX4_read_108 rfl rfl ?_
    refine g_get dX4_read_109 fl_X4_31 (by repeat' (first | assumption | exact rF_eq | (apply rF_nj; focus decide) | (apply rF_nk; focus omega) | refine rF_a ?_ | exact rA_eq | refine rA_ne (by omega) ?_ | refine rA_f ?_)) (by repeat' (first | assumption | exact rF_eq | (apply rF_nj; focus decide) | (apply rF_nk; focus omega) | refine rF_a ?_ | exact rA_eq | refine rA_ne (by omega) ?_ | refine rA_f ?_)) ?_
    refine g_iconst (v := 0) dX4_read_112 (by decide) ?_
    refine g_iald dX4_read_113 (by repeat' (first | assumption | exact rF_eq | (apply rF_nj; focus decide) | (apply rF_nk; focus omega) | refine rF_a ?_ | exact rA_eq | refine rA_ne (by omega) ?_ | refine rA_f ?_)) (t0N) (by omega) ?_
    rw [hn]
    refine g_put dX4_read_114 pl_X4_53 (by repeat' (first | assumption | exact rF_eq | (apply rF_nj; focus decide) | (apply rF_nk; focus omega) | refine rF_a ?_ | exact rA_eq | refine rA_ne (by omega) ?_ | refine rA_f ?_)) (fun _ => ⟨rfl, rfl⟩) ?_
    refine g_aload_n (i := 0) dX4_read_117 rfl rfl ?_
    refine g_get dX4_read_118 fl_X4_22 (by repeat' (first | assumption | exact rF_eq | (apply rF_nj; focus decide) | (apply rF_nk; focus omega) | refine rF_a ?_ | exact rA_eq | refine rA_ne (by omega) ?_ | refine rA_f ?_)) (by repeat' (first | assumption | exact rF_eq | (apply rF_nj; focus decide) | (apply rF_nk; focus omega) | refine rF_a ?_ | exact rA_eq | refine rA_ne (by omega) ?_ | refine rA_f ?_)) ?_
    refine g_iret dX4_read_121 rfl (rfl) (hQ _ _ ?_)
    rw [hzs]
    exact ⟨⟨rfl, hs0, ⟨tx, rl, lk, tm, wi, lo, hi, tu, cn, bg, sz, ws, rdx_12 hr _, stx_12 hs _, hv⟩, rF_eq⟩, fi_sF (by omega) hfr⟩
  have keyG : ∀ (f q t : Nat) (h2 : HH), t ≤ L → z = .inl (f, q) → PrF I L tp f q h2 → FrI I h h2 → GG (EM mX4_read 4 0 0 Q') 0 0 40 [.ref 6, .ref 5, .int (nI L), .int (nI L), .int (nI t)] [] h2 := by
    intro f q t h2 htL hzf hf hfr
    obtain ⟨⟨f1, f2, f3, f4⟩, tx, rl, lk, tm, wi, lo, hi, tu, cn, bg, sz, d, ws, pn, nl, hr, hq, hs, ht⟩ := id hf
    obtain ⟨-, k1, k2, k3, k4, k5, k6, k7, k8, k9⟩ := id hr
    have hne : ¬ nI f = 0 := nI_ne0 (by omega) (by omega)
    refine g_iload dX4_read_40 rfl ?_
    refine g_aload_n (i := 0) dX4_read_42 rfl rfl ?_
    refine g_get dX4_read_43 fl_X4_25 (by repeat' (first | assumption | exact rF_eq | (apply rF_nj; focus decide) | (apply rF_nk; focus omega) | refine rF_a ?_ | exact rA_eq | refine rA_ne (by omega) ?_ | refine rA_f ?_)) (by repeat' (first | assumption | exact rF_eq | (apply rF_nj; focus decide) | (apply rF_nk; focus omega) | refine rF_a ?_ | exact rA_eq | refine rA_ne (by omega) ?_ | refine rA_f ?_)) ?_
    refine g_icmp_ge (tgt := 80) dX4_read_46 (by decide) (fun hc46 => ?_) (fun hc46 => ?_)
    · (try simp (disch := omega) only [nT, t_m1000100, t_m1000010, t_m1000003, t_m1000002, t_m1000001, t_m1000000, t_m65535, t_m1000, t_m3, t_m1, t_0, t_1, t_2, t_3, t_4, t_5, t_6, t_7, t_8, t_9, t_10, t_11, t_12, t_13, t_15, t_16, t_20, t_21, t_22, t_32, t_40, t_41, t_48, t_49, t_57, t_59, t_60, t_63, t_72, t_76, t_88, t_100, t_144, t_200, t_255, t_288, t_400, t_800, t_999, t_1000, t_1024, t_1200, t_1600, t_3200, t_100000, t_200000, t_252645135, t_858993459, t_1431655765, u_m1000002, u_m1000001, u_m1000, u_m3, u_m1, u_0, u_1, u_2, u_3, u_4, u_5, u_7, u_8, u_10, u_11, u_15, u_60, u_100, u_255, u_999, u_1000, u_100000, u_4294967295] at hc46)
      refine g_aload_n (i := 0) dX4_read_80 rfl rfl ?_
      refine g_get dX4_read_81 fl_X4_22 (by repeat' (first | assumption | exact rF_eq | (apply rF_nj; focus decide) | (apply rF_nk; focus omega) | refine rF_a ?_ | exact rA_eq | refine rA_ne (by omega) ?_ | refine rA_f ?_)) (by repeat' (first | assumption | exact rF_eq | (apply rF_nj; focus decide) | (apply rF_nk; focus omega) | refine rF_a ?_ | exact rA_eq | refine rA_ne (by omega) ?_ | refine rA_f ?_)) ?_
      refine g_if_ne (tgt := 104) dX4_read_84 (by decide) (fun hc84 => ?_) (fun hc84 => ?_)
      · have hd84 := mt i_eq.mpr hc84; (try simp (disch := omega) only [nT, t_m1000100, t_m1000010, t_m1000003, t_m1000002, t_m1000001, t_m1000000, t_m65535, t_m1000, t_m3, t_m1, t_0, t_1, t_2, t_3, t_4, t_5, t_6, t_7, t_8, t_9, t_10, t_11, t_12, t_13, t_15, t_16, t_20, t_21, t_22, t_32, t_40, t_41, t_48, t_49, t_57, t_59, t_60, t_63, t_72, t_76, t_88, t_100, t_144, t_200, t_255, t_288, t_400, t_800, t_999, t_1000, t_1024, t_1200, t_1600, t_3200, t_100000, t_200000, t_252645135, t_858993459, t_1431655765, u_m1000002, u_m1000001, u_m1000, u_m3, u_m1, u_0, u_1, u_2, u_3, u_4, u_5, u_7, u_8, u_10, u_11, u_15, u_60, u_100, u_255, u_999, u_1000, u_100000, u_4294967295] at hd84)
        exact keyF f q h2 _ _ hzf hf hfr
      · have hd84 := i_eq.mp hc84; (try simp (disch := omega) only [nT, t_m1000100, t_m1000010, t_m1000003, t_m1000002, t_m1000001, t_m1000000, t_m65535, t_m1000, t_m3, t_m1, t_0, t_1, t_2, t_3, t_4, t_5, t_6, t_7, t_8, t_9, t_10, t_11, t_12, t_13, t_15, t_16, t_20, t_21, t_22, t_32, t_40, t_41, t_48, t_49, t_57, t_59, t_60, t_63, t_72, t_76, t_88, t_100, t_144, t_200, t_255, t_288, t_400, t_800, t_999, t_1000, t_1024, t_1200, t_1600, t_3200, t_100000, t_200000, t_252645135, t_858993459, t_1431655765, u_m1000002, u_m1000001, u_m1000, u_m3, u_m1, u_0, u_1, u_2, u_3, u_4, u_5, u_7, u_8, u_10, u_11, u_15, u_60, u_100, u_255, u_999, u_1000, u_100000, u_4294967295] at hd84); exact absurd hc84 hne
    · (try simp (disch := omega) only [nT, t_m1000100, t_m1000010, t_m1000003, t_m1000002, t_m1000001, t_m1000000, t_m65535, t_m1000, t_m3, t_m1, t_0, t_1, t_2, t_3, t_4, t_5, t_6, t_7, t_8, t_9, t_10, t_11, t_12, t_13, t_15, t_16, t_20, t_21, t_22, t_32, t_40, t_41, t_48, t_49, t_57, t_59, t_60, t_63, t_72, t_76, t_88, t_100, t_144, t_200, t_255, t_288, t_400, t_800, t_999, t_1000, t_1024, t_1200, t_1600, t_3200, t_100000, t_200000, t_252645135, t_858993459, t_1431655765, u_m1000002, u_m1000001, u_m1000, u_m3, u_m1, u_0, u_1, u_2, u_3, u_4, u_5, u_7, u_8, u_10, u_11, u_15, u_60, u_100, u_255, u_999, u_1000, u_100000, u_4294967295] at hc46)
      refine g_iload_n (i := 3) dX4_read_49 rfl rfl ?_
      refine g_aload_n (i := 0) dX4_read_50 rfl rfl ?_
      refine g_get dX4_read_51 fl_X4_25 (by repeat' (first | assumption | exact rF_eq | (apply rF_nj; focus decide) | (apply rF_nk; focus omega) | refine rF_a ?_ | exact rA_eq | refine rA_ne (by omega) ?_ | refine rA_f ?_)) (by repeat' (first | assumption | exact rF_eq | (apply rF_nj; focus decide) | (apply rF_nk; focus omega) | refine rF_a ?_ | exact rA_eq | refine rA_ne (by omega) ?_ | refine rA_f ?_)) ?_
      refine g_icmp_ge (tgt := 80) dX4_read_54 (by decide) (fun hc54 => ?_) (fun hc54 => ?_)
      · (try simp (disch := omega) only [nT, t_m1000100, t_m1000010, t_m1000003, t_m1000002, t_m1000001, t_m1000000, t_m65535, t_m1000, t_m3, t_m1, t_0, t_1, t_2, t_3, t_4, t_5, t_6, t_7, t_8, t_9, t_10, t_11, t_12, t_13, t_15, t_16, t_20, t_21, t_22, t_32, t_40, t_41, t_48, t_49, t_57, t_59, t_60, t_63, t_72, t_76, t_88, t_100, t_144, t_200, t_255, t_288, t_400, t_800, t_999, t_1000, t_1024, t_1200, t_1600, t_3200, t_100000, t_200000, t_252645135, t_858993459, t_1431655765, u_m1000002, u_m1000001, u_m1000, u_m3, u_m1, u_0, u_1, u_2, u_3, u_4, u_5, u_7, u_8, u_10, u_11, u_15, u_60, u_100, u_255, u_999, u_1000, u_100000, u_4294967295] at hc54)
        refine g_aload_n (i := 0) dX4_read_80 rfl rfl ?_
        refine g_get dX4_read_81 fl_X4_22 (by repeat' (first | assumption | exact rF_eq | (apply rF_nj; focus decide) | (apply rF_nk; focus omega) | refine rF_a ?_ | exact rA_eq | refine rA_ne (by omega) ?_ | refine rA_f ?_)) (by repeat' (first | assumption | exact rF_eq | (apply rF_nj; focus decide) | (apply rF_nk; focus omega) | refine rF_a ?_ | exact rA_eq | refine rA_ne (by omega) ?_ | refine rA_f ?_)) ?_
        refine g_if_ne (tgt := 104) dX4_read_84 (by decide) (fun hc84 => ?_) (fun hc84 => ?_)
        · have hd84 := mt i_eq.mpr hc84; (try simp (disch := omega) only [nT, t_m1000100, t_m1000010, t_m1000003, t_m1000002, t_m1000001, t_m1000000, t_m65535, t_m1000, t_m3, t_m1, t_0, t_1, t_2, t_3, t_4, t_5, t_6, t_7, t_8, t_9, t_10, t_11, t_12, t_13, t_15, t_16, t_20, t_21, t_22, t_32, t_40, t_41, t_48, t_49, t_57, t_59, t_60, t_63, t_72, t_76, t_88, t_100, t_144, t_200, t_255, t_288, t_400, t_800, t_999, t_1000, t_1024, t_1200, t_1600, t_3200, t_100000, t_200000, t_252645135, t_858993459, t_1431655765, u_m1000002, u_m1000001, u_m1000, u_m3, u_m1, u_0, u_1, u_2, u_3, u_4, u_5, u_7, u_8, u_10, u_11, u_15, u_60, u_100, u_255, u_999, u_1000, u_100000, u_4294967295] at hd84)
          exact keyF f q h2 _ _ hzf hf hfr
        · have hd84 := i_eq.mp hc84; (try simp (disch := omega) only [nT, t_m1000100, t_m1000010, t_m1000003, t_m1000002, t_m1000001, t_m1000000, t_m65535, t_m1000, t_m3, t_m1, t_0, t_1, t_2, t_3, t_4, t_5, t_6, t_7, t_8, t_9, t_10, t_11, t_12, t_13, t_15, t_16, t_20, t_21, t_22, t_32, t_40, t_41, t_48, t_49, t_57, t_59, t_60, t_63, t_72, t_76, t_88, t_100, t_144, t_200, t_255, t_288, t_400, t_800, t_999, t_1000, t_1024, t_1200, t_1600, t_3200, t_100000, t_200000, t_252645135, t_858993459, t_1431655765, u_m1000002, u_m1000001, u_m1000, u_m3, u_m1, u_0, u_1, u_2, u_3, u_4, u_5, u_7, u_8, u_10, u_11, u_15, u_60, u_100, u_255, u_999, u_1000, u_100000, u_4294967295] at hd84); exact absurd hc84 hne
      · (try simp (disch := omega) only [nT, t_m1000100, t_m1000010, t_m1000003, t_m1000002, t_m1000001, t_m1000000, t_m65535, t_m1000, t_m3, t_m1, t_0, t_1, t_2, t_3, t_4, t_5, t_6, t_7, t_8, t_9, t_10, t_11, t_12, t_13, t_15, t_16, t_20, t_21, t_22, t_32, t_40, t_41, t_48, t_49, t_57, t_59, t_60, t_63, t_72, t_76, t_88, t_100, t_144, t_200, t_255, t_288, t_400, t_800, t_999, t_1000, t_1024, t_1200, t_1600, t_3200, t_100000, t_200000, t_252645135, t_858993459, t_1431655765, u_m1000002, u_m1000001, u_m1000, u_m3, u_m1, u_0, u_1, u_2, u_3, u_4, u_5, u_7, u_8, u_10, u_11, u_15, u_60, u_100, u_255, u_999, u_1000, u_100000, u_4294967295] at hc54); omega
  have key : ∀ (m p t : Nat) (s : PS) (h2 : HH), L - p < m → t ≤ p → 2 * s.2.2.2.1 ≤ p → PrX I L tp s p h2 → FrI I h h2 → prsB L tp m s p = z → GG (EM mX4_read 4 0 0 Q') 0 0 40 [.ref 6, .ref 5, .int (nI L), .int (nI p), .int (nI t)] [] h2 := by
    intro m
    induction m with
    | zero => intro p t s h2 hm; omega
    | succ m ih =>
      intro p t s h2 hm htp hnl hp hfr he
      unfold prsB at he
      obtain ⟨tx, rl, lk, tm, wi, lo, hi, tu, cn, bg, sz, ws, hr, hs, hv⟩ := id hp
      obtain ⟨-, k1, k2, k3, k4, k5, k6, k7, k8, k9⟩ := id hr
      have hpL := hv.1.1
      have hvt := hv.2.1
      have hd6 := hv.1.2.2.2.1
      have h6 : gF h2 6 1 = gF h2 6 1 := rfl
      have htx := txx_of hr hs hL hvt
      refine g_iload dX4_read_40 rfl ?_
      refine g_aload_n (i := 0) dX4_read_42 rfl rfl ?_
      refine g_get dX4_read_43 fl_X4_25 (by repeat' (first | assumption | exact rF_eq | (apply rF_nj; focus decide) | (apply rF_nk; focus omega) | refine rF_a ?_ | exact rA_eq | refine rA_ne (by omega) ?_ | refine rA_f ?_)) (by repeat' (first | assumption | exact rF_eq | (apply rF_nj; focus decide) | (apply rF_nk; focus omega) | refine rF_a ?_ | exact rA_eq | refine rA_ne (by omega) ?_ | refine rA_f ?_)) ?_
      refine g_icmp_ge (tgt := 80) dX4_read_46 (by decide) (fun hc46 => ?_) (fun hc46 => ?_)
      · (try simp (disch := omega) only [nT, t_m1000100, t_m1000010, t_m1000003, t_m1000002, t_m1000001, t_m1000000, t_m65535, t_m1000, t_m3, t_m1, t_0, t_1, t_2, t_3, t_4, t_5, t_6, t_7, t_8, t_9, t_10, t_11, t_12, t_13, t_15, t_16, t_20, t_21, t_22, t_32, t_40, t_41, t_48, t_49, t_57, t_59, t_60, t_63, t_72, t_76, t_88, t_100, t_144, t_200, t_255, t_288, t_400, t_800, t_999, t_1000, t_1024, t_1200, t_1600, t_3200, t_100000, t_200000, t_252645135, t_858993459, t_1431655765, u_m1000002, u_m1000001, u_m1000, u_m3, u_m1, u_0, u_1, u_2, u_3, u_4, u_5, u_7, u_8, u_10, u_11, u_15, u_60, u_100, u_255, u_999, u_1000, u_100000, u_4294967295] at hc46); have hpe : ¬ p < L := by omega
        rw [if_neg hpe] at he
        refine g_aload_n (i := 0) dX4_read_80 rfl rfl ?_
        refine g_get dX4_read_81 fl_X4_22 (by repeat' (first | assumption | exact rF_eq | (apply rF_nj; focus decide) | (apply rF_nk; focus omega) | refine rF_a ?_ | exact rA_eq | refine rA_ne (by omega) ?_ | refine rA_f ?_)) (by repeat' (first | assumption | exact rF_eq | (apply rF_nj; focus decide) | (apply rF_nk; focus omega) | refine rF_a ?_ | exact rA_eq | refine rA_ne (by omega) ?_ | refine rA_f ?_)) ?_
        refine g_if_ne (tgt := 104) dX4_read_84 (by decide) (fun hc84 => ?_) (fun hc84 => ?_)
        · have hd84 := mt i_eq.mpr hc84; (try simp (disch := omega) only [nT, t_m1000100, t_m1000010, t_m1000003, t_m1000002, t_m1000001, t_m1000000, t_m65535, t_m1000, t_m3, t_m1, t_0, t_1, t_2, t_3, t_4, t_5, t_6, t_7, t_8, t_9, t_10, t_11, t_12, t_13, t_15, t_16, t_20, t_21, t_22, t_32, t_40, t_41, t_48, t_49, t_57, t_59, t_60, t_63, t_72, t_76, t_88, t_100, t_144, t_200, t_255, t_288, t_400, t_800, t_999, t_1000, t_1024, t_1200, t_1600, t_3200, t_100000, t_200000, t_252645135, t_858993459, t_1431655765, u_m1000002, u_m1000001, u_m1000, u_m3, u_m1, u_0, u_1, u_2, u_3, u_4, u_5, u_7, u_8, u_10, u_11, u_15, u_60, u_100, u_255, u_999, u_1000, u_100000, u_4294967295] at hd84); exact absurd rfl hc84
        · have hd84 := i_eq.mp hc84; (try simp (disch := omega) only [nT, t_m1000100, t_m1000010, t_m1000003, t_m1000002, t_m1000001, t_m1000000, t_m65535, t_m1000, t_m3, t_m1, t_0, t_1, t_2, t_3, t_4, t_5, t_6, t_7, t_8, t_9, t_10, t_11, t_12, t_13, t_15, t_16, t_20, t_21, t_22, t_32, t_40, t_41, t_48, t_49, t_57, t_59, t_60, t_63, t_72, t_76, t_88, t_100, t_144, t_200, t_255, t_288, t_400, t_800, t_999, t_1000, t_1024, t_1200, t_1600, t_3200, t_100000, t_200000, t_252645135, t_858993459, t_1431655765, u_m1000002, u_m1000001, u_m1000, u_m3, u_m1, u_0, u_1, u_2, u_3, u_4, u_5, u_7, u_8, u_10, u_11, u_15, u_60, u_100, u_255, u_999, u_1000, u_100000, u_4294967295] at hd84)
          refine g_aload_n (i := 0) dX4_read_87 rfl rfl ?_
          refine g_get dX4_read_88 fl_X4_28 (by repeat' (first | assumption | exact rF_eq | (apply rF_nj; focus decide) | (apply rF_nk; focus omega) | refine rF_a ?_ | exact rA_eq | refine rA_ne (by omega) ?_ | refine rA_f ?_)) (by repeat' (first | assumption | exact rF_eq | (apply rF_nj; focus decide) | (apply rF_nk; focus omega) | refine rF_a ?_ | exact rA_eq | refine rA_ne (by omega) ?_ | refine rA_f ?_)) ?_
          refine g_if_le (tgt := 104) dX4_read_91 (by decide) (fun hc91 => ?_) (fun hc91 => ?_)
          · (try simp (disch := omega) only [nT, t_m1000100, t_m1000010, t_m1000003, t_m1000002, t_m1000001, t_m1000000, t_m65535, t_m1000, t_m3, t_m1, t_0, t_1, t_2, t_3, t_4, t_5, t_6, t_7, t_8, t_9, t_10, t_11, t_12, t_13, t_15, t_16, t_20, t_21, t_22, t_32, t_40, t_41, t_48, t_49, t_57, t_59, t_60, t_63, t_72, t_76, t_88, t_100, t_144, t_200, t_255, t_288, t_400, t_800, t_999, t_1000, t_1024, t_1200, t_1600, t_3200, t_100000, t_200000, t_252645135, t_858993459, t_1431655765, u_m1000002, u_m1000001, u_m1000, u_m3, u_m1, u_0, u_1, u_2, u_3, u_4, u_5, u_7, u_8, u_10, u_11, u_15, u_60, u_100, u_255, u_999, u_1000, u_100000, u_4294967295] at hc91)
            first
            | (rw [if_pos (by omega)] at he; exact keyF 1 L _ _ _ he.symm (pf_stop hr hs hL hvt 1 L (by omega) (by omega) (by omega)) (fi_tr hfr fi_stop))
            | (have hd0 : s.1 = 0 := by omega
               rw [if_neg (by omega)] at he
               obtain rfl : p = L := by omega
               exact keyS s _ _ _ he.symm hd0 hp hfr)
          · (try simp (disch := omega) only [nT, t_m1000100, t_m1000010, t_m1000003, t_m1000002, t_m1000001, t_m1000000, t_m65535, t_m1000, t_m3, t_m1, t_0, t_1, t_2, t_3, t_4, t_5, t_6, t_7, t_8, t_9, t_10, t_11, t_12, t_13, t_15, t_16, t_20, t_21, t_22, t_32, t_40, t_41, t_48, t_49, t_57, t_59, t_60, t_63, t_72, t_76, t_88, t_100, t_144, t_200, t_255, t_288, t_400, t_800, t_999, t_1000, t_1024, t_1200, t_1600, t_3200, t_100000, t_200000, t_252645135, t_858993459, t_1431655765, u_m1000002, u_m1000001, u_m1000, u_m3, u_m1, u_0, u_1, u_2, u_3, u_4, u_5, u_7, u_8, u_10, u_11, u_15, u_60, u_100, u_255, u_999, u_1000, u_100000, u_4294967295] at hc91)
            refine g_aload_n (i := 0) dX4_read_94 rfl rfl ?_
            refine g_iconst (v := 1) dX4_read_95 (by decide) ?_
            refine g_aload_n (i := 0) dX4_read_96 rfl rfl ?_
            refine g_get dX4_read_97 fl_X4_25 (by repeat' (first | assumption | exact rF_eq | (apply rF_nj; focus decide) | (apply rF_nk; focus omega) | refine rF_a ?_ | exact rA_eq | refine rA_ne (by omega) ?_ | refine rA_f ?_)) (by repeat' (first | assumption | exact rF_eq | (apply rF_nj; focus decide) | (apply rF_nk; focus omega) | refine rF_a ?_ | exact rA_eq | refine rA_ne (by omega) ?_ | refine rA_f ?_)) ?_
            refine g_callV (M' := mX4_stopAt) dX4_read_100 lc_X4_stopAt ml_X4_49 (c_stopAt (L := L) (by assumption) (by assumption) 1 (nI L)) rfl rfl (by repeat' (first | assumption | exact rF_eq | (apply rF_nj; focus decide) | (apply rF_nk; focus omega) | refine rF_a ?_ | exact rA_eq | refine rA_ne (by omega) ?_ | refine rA_f ?_)) rfl ⟨Nat.le_of_ble_eq_true rfl, Nat.le_of_ble_eq_true rfl, Nat.le_of_ble_eq_true rfl, Nat.le_of_ble_eq_true rfl⟩ (Nat.le_of_ble_eq_true rfl) ?_
            intro r_ h_ q_; obtain ⟨q1_, q2_⟩ := q_; have q2_ := q2_.symm; subst q1_; subst q2_
            refine g_pop dX4_read_103 rfl ?_
            first
            | (rw [if_pos (by omega)] at he; exact keyF 1 L _ _ _ he.symm (pf_stop hr hs hL hvt 1 L (by omega) (by omega) (by omega)) (fi_tr hfr fi_stop))
            | (have hd0 : s.1 = 0 := by omega
               rw [if_neg (by omega)] at he
               obtain rfl : p = L := by omega
               exact keyS s _ _ _ he.symm hd0 hp hfr)
      · (try simp (disch := omega) only [nT, t_m1000100, t_m1000010, t_m1000003, t_m1000002, t_m1000001, t_m1000000, t_m65535, t_m1000, t_m3, t_m1, t_0, t_1, t_2, t_3, t_4, t_5, t_6, t_7, t_8, t_9, t_10, t_11, t_12, t_13, t_15, t_16, t_20, t_21, t_22, t_32, t_40, t_41, t_48, t_49, t_57, t_59, t_60, t_63, t_72, t_76, t_88, t_100, t_144, t_200, t_255, t_288, t_400, t_800, t_999, t_1000, t_1024, t_1200, t_1600, t_3200, t_100000, t_200000, t_252645135, t_858993459, t_1431655765, u_m1000002, u_m1000001, u_m1000, u_m3, u_m1, u_0, u_1, u_2, u_3, u_4, u_5, u_7, u_8, u_10, u_11, u_15, u_60, u_100, u_255, u_999, u_1000, u_100000, u_4294967295] at hc46)
        refine g_iload_n (i := 3) dX4_read_49 rfl rfl ?_
        refine g_aload_n (i := 0) dX4_read_50 rfl rfl ?_
        refine g_get dX4_read_51 fl_X4_25 (by repeat' (first | assumption | exact rF_eq | (apply rF_nj; focus decide) | (apply rF_nk; focus omega) | refine rF_a ?_ | exact rA_eq | refine rA_ne (by omega) ?_ | refine rA_f ?_)) (by repeat' (first | assumption | exact rF_eq | (apply rF_nj; focus decide) | (apply rF_nk; focus omega) | refine rF_a ?_ | exact rA_eq | refine rA_ne (by omega) ?_ | refine rA_f ?_)) ?_
        refine g_icmp_ge (tgt := 80) dX4_read_54 (by decide) (fun hc54 => ?_) (fun hc54 => ?_)
        · (try simp (disch := omega) only [nT, t_m1000100, t_m1000010, t_m1000003, t_m1000002, t_m1000001, t_m1000000, t_m65535, t_m1000, t_m3, t_m1, t_0, t_1, t_2, t_3, t_4, t_5, t_6, t_7, t_8, t_9, t_10, t_11, t_12, t_13, t_15, t_16, t_20, t_21, t_22, t_32, t_40, t_41, t_48, t_49, t_57, t_59, t_60, t_63, t_72, t_76, t_88, t_100, t_144, t_200, t_255, t_288, t_400, t_800, t_999, t_1000, t_1024, t_1200, t_1600, t_3200, t_100000, t_200000, t_252645135, t_858993459, t_1431655765, u_m1000002, u_m1000001, u_m1000, u_m3, u_m1, u_0, u_1, u_2, u_3, u_4, u_5, u_7, u_8, u_10, u_11, u_15, u_60, u_100, u_255, u_999, u_1000, u_100000, u_4294967295] at hc54); have hpe : ¬ p < L := by omega
          rw [if_neg hpe] at he
          refine g_aload_n (i := 0) dX4_read_80 rfl rfl ?_
          refine g_get dX4_read_81 fl_X4_22 (by repeat' (first | assumption | exact rF_eq | (apply rF_nj; focus decide) | (apply rF_nk; focus omega) | refine rF_a ?_ | exact rA_eq | refine rA_ne (by omega) ?_ | refine rA_f ?_)) (by repeat' (first | assumption | exact rF_eq | (apply rF_nj; focus decide) | (apply rF_nk; focus omega) | refine rF_a ?_ | exact rA_eq | refine rA_ne (by omega) ?_ | refine rA_f ?_)) ?_
          refine g_if_ne (tgt := 104) dX4_read_84 (by decide) (fun hc84 => ?_) (fun hc84 => ?_)
          · have hd84 := mt i_eq.mpr hc84; (try simp (disch := omega) only [nT, t_m1000100, t_m1000010, t_m1000003, t_m1000002, t_m1000001, t_m1000000, t_m65535, t_m1000, t_m3, t_m1, t_0, t_1, t_2, t_3, t_4, t_5, t_6, t_7, t_8, t_9, t_10, t_11, t_12, t_13, t_15, t_16, t_20, t_21, t_22, t_32, t_40, t_41, t_48, t_49, t_57, t_59, t_60, t_63, t_72, t_76, t_88, t_100, t_144, t_200, t_255, t_288, t_400, t_800, t_999, t_1000, t_1024, t_1200, t_1600, t_3200, t_100000, t_200000, t_252645135, t_858993459, t_1431655765, u_m1000002, u_m1000001, u_m1000, u_m3, u_m1, u_0, u_1, u_2, u_3, u_4, u_5, u_7, u_8, u_10, u_11, u_15, u_60, u_100, u_255, u_999, u_1000, u_100000, u_4294967295] at hd84); exact absurd rfl hc84
          · have hd84 := i_eq.mp hc84; (try simp (disch := omega) only [nT, t_m1000100, t_m1000010, t_m1000003, t_m1000002, t_m1000001, t_m1000000, t_m65535, t_m1000, t_m3, t_m1, t_0, t_1, t_2, t_3, t_4, t_5, t_6, t_7, t_8, t_9, t_10, t_11, t_12, t_13, t_15, t_16, t_20, t_21, t_22, t_32, t_40, t_41, t_48, t_49, t_57, t_59, t_60, t_63, t_72, t_76, t_88, t_100, t_144, t_200, t_255, t_288, t_400, t_800, t_999, t_1000, t_1024, t_1200, t_1600, t_3200, t_100000, t_200000, t_252645135, t_858993459, t_1431655765, u_m1000002, u_m1000001, u_m1000, u_m3, u_m1, u_0, u_1, u_2, u_3, u_4, u_5, u_7, u_8, u_10, u_11, u_15, u_60, u_100, u_255, u_999, u_1000, u_100000, u_4294967295] at hd84)
            refine g_aload_n (i := 0) dX4_read_87 rfl rfl ?_
            refine g_get dX4_read_88 fl_X4_28 (by repeat' (first | assumption | exact rF_eq | (apply rF_nj; focus decide) | (apply rF_nk; focus omega) | refine rF_a ?_ | exact rA_eq | refine rA_ne (by omega) ?_ | refine rA_f ?_)) (by repeat' (first | assumption | exact rF_eq | (apply rF_nj; focus decide) | (apply rF_nk; focus omega) | refine rF_a ?_ | exact rA_eq | refine rA_ne (by omega) ?_ | refine rA_f ?_)) ?_
            refine g_if_le (tgt := 104) dX4_read_91 (by decide) (fun hc91 => ?_) (fun hc91 => ?_)
            · (try simp (disch := omega) only [nT, t_m1000100, t_m1000010, t_m1000003, t_m1000002, t_m1000001, t_m1000000, t_m65535, t_m1000, t_m3, t_m1, t_0, t_1, t_2, t_3, t_4, t_5, t_6, t_7, t_8, t_9, t_10, t_11, t_12, t_13, t_15, t_16, t_20, t_21, t_22, t_32, t_40, t_41, t_48, t_49, t_57, t_59, t_60, t_63, t_72, t_76, t_88, t_100, t_144, t_200, t_255, t_288, t_400, t_800, t_999, t_1000, t_1024, t_1200, t_1600, t_3200, t_100000, t_200000, t_252645135, t_858993459, t_1431655765, u_m1000002, u_m1000001, u_m1000, u_m3, u_m1, u_0, u_1, u_2, u_3, u_4, u_5, u_7, u_8, u_10, u_11, u_15, u_60, u_100, u_255, u_999, u_1000, u_100000, u_4294967295] at hc91)
              first
              | (rw [if_pos (by omega)] at he; exact keyF 1 L _ _ _ he.symm (pf_stop hr hs hL hvt 1 L (by omega) (by omega) (by omega)) (fi_tr hfr fi_stop))
              | (have hd0 : s.1 = 0 := by omega
                 rw [if_neg (by omega)] at he
                 obtain rfl : p = L := by omega
                 exact keyS s _ _ _ he.symm hd0 hp hfr)
            · (try simp (disch := omega) only [nT, t_m1000100, t_m1000010, t_m1000003, t_m1000002, t_m1000001, t_m1000000, t_m65535, t_m1000, t_m3, t_m1, t_0, t_1, t_2, t_3, t_4, t_5, t_6, t_7, t_8, t_9, t_10, t_11, t_12, t_13, t_15, t_16, t_20, t_21, t_22, t_32, t_40, t_41, t_48, t_49, t_57, t_59, t_60, t_63, t_72, t_76, t_88, t_100, t_144, t_200, t_255, t_288, t_400, t_800, t_999, t_1000, t_1024, t_1200, t_1600, t_3200, t_100000, t_200000, t_252645135, t_858993459, t_1431655765, u_m1000002, u_m1000001, u_m1000, u_m3, u_m1, u_0, u_1, u_2, u_3, u_4, u_5, u_7, u_8, u_10, u_11, u_15, u_60, u_100, u_255, u_999, u_1000, u_100000, u_4294967295] at hc91)
              refine g_aload_n (i := 0) dX4_read_94 rfl rfl ?_
              refine g_iconst (v := 1) dX4_read_95 (by decide) ?_
              refine g_aload_n (i := 0) dX4_read_96 rfl rfl ?_
              refine g_get dX4_read_97 fl_X4_25 (by repeat' (first | assumption | exact rF_eq | (apply rF_nj; focus decide) | (apply rF_nk; focus omega) | refine rF_a ?_ | exact rA_eq | refine rA_ne (by omega) ?_ | refine rA_f ?_)) (by repeat' (first | assumption | exact rF_eq | (apply rF_nj; focus decide) | (apply rF_nk; focus omega) | refine rF_a ?_ | exact rA_eq | refine rA_ne (by omega) ?_ | refine rA_f ?_)) ?_
              refine g_callV (M' := mX4_stopAt) dX4_read_100 lc_X4_stopAt ml_X4_49 (c_stopAt (L := L) (by assumption) (by assumption) 1 (nI L)) rfl rfl (by repeat' (first | assumption | exact rF_eq | (apply rF_nj; focus decide) | (apply rF_nk; focus omega) | refine rF_a ?_ | exact rA_eq | refine rA_ne (by omega) ?_ | refine rA_f ?_)) rfl ⟨Nat.le_of_ble_eq_true rfl, Nat.le_of_ble_eq_true rfl, Nat.le_of_ble_eq_true rfl, Nat.le_of_ble_eq_true rfl⟩ (Nat.le_of_ble_eq_true rfl) ?_
              intro r_ h_ q_; obtain ⟨q1_, q2_⟩ := q_; have q2_ := q2_.symm; subst q1_; subst q2_
              refine g_pop dX4_read_103 rfl ?_
              first
              | (rw [if_pos (by omega)] at he; exact keyF 1 L _ _ _ he.symm (pf_stop hr hs hL hvt 1 L (by omega) (by omega) (by omega)) (fi_tr hfr fi_stop))
              | (have hd0 : s.1 = 0 := by omega
                 rw [if_neg (by omega)] at he
                 obtain rfl : p = L := by omega
                 exact keyS s _ _ _ he.symm hd0 hp hfr)
        · (try simp (disch := omega) only [nT, t_m1000100, t_m1000010, t_m1000003, t_m1000002, t_m1000001, t_m1000000, t_m65535, t_m1000, t_m3, t_m1, t_0, t_1, t_2, t_3, t_4, t_5, t_6, t_7, t_8, t_9, t_10, t_11, t_12, t_13, t_15, t_16, t_20, t_21, t_22, t_32, t_40, t_41, t_48, t_49, t_57, t_59, t_60, t_63, t_72, t_76, t_88, t_100, t_144, t_200, t_255, t_288, t_400, t_800, t_999, t_1000, t_1024, t_1200, t_1600, t_3200, t_100000, t_200000, t_252645135, t_858993459, t_1431655765, u_m1000002, u_m1000001, u_m1000, u_m3, u_m1, u_0, u_1, u_2, u_3, u_4, u_5, u_7, u_8, u_10, u_11, u_15, u_60, u_100, u_255, u_999, u_1000, u_100000, u_4294967295] at hc54)
          refine g_aload_n (i := 0) dX4_read_57 rfl rfl ?_
          refine g_get dX4_read_58 fl_X4_22 (by repeat' (first | assumption | exact rF_eq | (apply rF_nj; focus decide) | (apply rF_nk; focus omega) | refine rF_a ?_ | exact rA_eq | refine rA_ne (by omega) ?_ | refine rA_f ?_)) (by repeat' (first | assumption | exact rF_eq | (apply rF_nj; focus decide) | (apply rF_nk; focus omega) | refine rF_a ?_ | exact rA_eq | refine rA_ne (by omega) ?_ | refine rA_f ?_)) ?_
          refine g_if_ne (tgt := 80) dX4_read_61 (by decide) (fun hc61 => ?_) (fun hc61 => ?_)
          · have hd61 := mt i_eq.mpr hc61; (try simp (disch := omega) only [nT, t_m1000100, t_m1000010, t_m1000003, t_m1000002, t_m1000001, t_m1000000, t_m65535, t_m1000, t_m3, t_m1, t_0, t_1, t_2, t_3, t_4, t_5, t_6, t_7, t_8, t_9, t_10, t_11, t_12, t_13, t_15, t_16, t_20, t_21, t_22, t_32, t_40, t_41, t_48, t_49, t_57, t_59, t_60, t_63, t_72, t_76, t_88, t_100, t_144, t_200, t_255, t_288, t_400, t_800, t_999, t_1000, t_1024, t_1200, t_1600, t_3200, t_100000, t_200000, t_252645135, t_858993459, t_1431655765, u_m1000002, u_m1000001, u_m1000, u_m3, u_m1, u_0, u_1, u_2, u_3, u_4, u_5, u_7, u_8, u_10, u_11, u_15, u_60, u_100, u_255, u_999, u_1000, u_100000, u_4294967295] at hd61); exact absurd rfl hc61
          · have hd61 := i_eq.mp hc61; (try simp (disch := omega) only [nT, t_m1000100, t_m1000010, t_m1000003, t_m1000002, t_m1000001, t_m1000000, t_m65535, t_m1000, t_m3, t_m1, t_0, t_1, t_2, t_3, t_4, t_5, t_6, t_7, t_8, t_9, t_10, t_11, t_12, t_13, t_15, t_16, t_20, t_21, t_22, t_32, t_40, t_41, t_48, t_49, t_57, t_59, t_60, t_63, t_72, t_76, t_88, t_100, t_144, t_200, t_255, t_288, t_400, t_800, t_999, t_1000, t_1024, t_1200, t_1600, t_3200, t_100000, t_200000, t_252645135, t_858993459, t_1431655765, u_m1000002, u_m1000001, u_m1000, u_m3, u_m1, u_0, u_1, u_2, u_3, u_4, u_5, u_7, u_8, u_10, u_11, u_15, u_60, u_100, u_255, u_999, u_1000, u_100000, u_4294967295] at hd61)
            refine g_aload_n (i := 0) dX4_read_64 rfl rfl ?_
            refine g_aload_n (i := 0) dX4_read_65 rfl rfl ?_
            refine g_iload_n (i := 3) dX4_read_66 rfl rfl ?_
            refine g_callV (M' := mX4_readToken) dX4_read_67 lc_X4_readToken ml_X4_46 (c_readToken hp (by omega) (by omega)) rfl rfl (by repeat' (first | assumption | exact rF_eq | (apply rF_nj; focus decide) | (apply rF_nk; focus omega) | refine rF_a ?_ | exact rA_eq | refine rA_ne (by omega) ?_ | refine rA_f ?_)) rfl ⟨Nat.le_of_ble_eq_true rfl, Nat.le_of_ble_eq_true rfl, Nat.le_of_ble_eq_true rfl, Nat.le_of_ble_eq_true rfl⟩ (Nat.le_of_ble_eq_true rfl) ?_
            intro r_ h_ q_; obtain ⟨o1, o2⟩ := q_
            rw [if_pos (by omega)] at he
            have hfr2 := fi_tr hfr o2
            rcases ho : tokB L tp s p with o | o
            · rw [ho] at o1 he
              obtain ⟨rfl, o1⟩ := o1
              obtain ⟨-, tx, rl, lk, tm, wi, lo, hi, tu, cn, bg, sz, d, ws, pn, nl, hr, hq, hs, ht⟩ := id o1
              have htx := txx_of hr hs hL ht
              obtain ⟨-, k1, k2, k3, k4, k5, k6, k7, k8, k9⟩ := id hr
              refine g_callV (M' := mX4_behindBlanks) dX4_read_70 lc_X4_behindBlanks ml_X4_42 (c_bblanks htx (Nat.le_refl L)) rfl rfl (by repeat' (first | assumption | exact rF_eq | (apply rF_nj; focus decide) | (apply rF_nk; focus omega) | refine rF_a ?_ | exact rA_eq | refine rA_ne (by omega) ?_ | refine rA_f ?_)) rfl ⟨Nat.le_of_ble_eq_true rfl, Nat.le_of_ble_eq_true rfl, Nat.le_of_ble_eq_true rfl, Nat.le_of_ble_eq_true rfl⟩ (Nat.le_of_ble_eq_true rfl) ?_
              intro r_ h_ q_; obtain ⟨q1_, q2_⟩ := q_; have q2_ := q2_.symm; subst q1_; subst q2_
              rw [fwd_e (Nat.le_refl L)]
              refine g_istore_n (i := 3) dX4_read_73 rfl (Nat.le_of_ble_eq_true rfl) rfl ?_
              refine g_iinc dX4_read_74 rfl (Nat.le_of_ble_eq_true rfl) rfl ?_
              refine g_goto (tgt := 40) dX4_read_77 (by decide) ?_
              rw [ni_incO]
              exact keyG o.1 o.2 (t + 1) _ (by omega) he.symm o1 hfr2
            · have hor := tok_r ho (by omega)
              rw [ho] at o1 he
              obtain ⟨rfl, o1⟩ := o1
              obtain ⟨tx, rl, lk, tm, wi, lo, hi, tu, cn, bg, sz, ws, hr, hs, hv⟩ := id o1
              have htx := txx_of hr hs hL hv.2.1
              obtain ⟨-, k1, k2, k3, k4, k5, k6, k7, k8, k9⟩ := id hr
              have hb := fwd_le (q := isBl) (tp := tp) hor.2.2
              refine g_callV (M' := mX4_behindBlanks) dX4_read_70 lc_X4_behindBlanks ml_X4_42 (c_bblanks htx hor.2.2) rfl rfl (by repeat' (first | assumption | exact rF_eq | (apply rF_nj; focus decide) | (apply rF_nk; focus omega) | refine rF_a ?_ | exact rA_eq | refine rA_ne (by omega) ?_ | refine rA_f ?_)) rfl ⟨Nat.le_of_ble_eq_true rfl, Nat.le_of_ble_eq_true rfl, Nat.le_of_ble_eq_true rfl, Nat.le_of_ble_eq_true rfl⟩ (Nat.le_of_ble_eq_true rfl) ?_
              intro r_ h_ q_; obtain ⟨q1_, q2_⟩ := q_; have q2_ := q2_.symm; subst q1_; subst q2_
              refine g_istore_n (i := 3) dX4_read_73 rfl (Nat.le_of_ble_eq_true rfl) rfl ?_
              refine g_iinc dX4_read_74 rfl (Nat.le_of_ble_eq_true rfl) rfl ?_
              refine g_goto (tgt := 40) dX4_read_77 (by decide) ?_
              rw [ni_incO]
              exact ih _ (t + 1) o.1 _ (by omega) (by omega) (by omega) ⟨tx, rl, lk, tm, wi, lo, hi, tu, cn, bg, sz, ws, hr, hs, inv_mono hv hb.1 hb.2⟩ hfr2 he
            skip
  have s0 := hs.1
  refine g_aload_n (i := 0) dX4_read_0 rfl rfl ?_
  refine g_get dX4_read_1 fl_X4_12 (by repeat' (first | assumption | exact rF_eq | (apply rF_nj; focus decide) | (apply rF_nk; focus omega) | refine rF_a ?_ | exact rA_eq | refine rA_ne (by omega) ?_ | refine rA_f ?_)) (by repeat' (first | assumption | exact rF_eq | (apply rF_nj; focus decide) | (apply rF_nk; focus omega) | refine rF_a ?_ | exact rA_eq | refine rA_ne (by omega) ?_ | refine rA_f ?_)) ?_
  refine g_aload_n (i := 1) dX4_read_4 rfl rfl ?_
  refine g_iload_n (i := 2) dX4_read_5 rfl rfl ?_
  refine g_callV (M' := mX2_startWith) dX4_read_6 lc_X2_startWith ml_X4_38 (c_startWith hI hs h5 hL) rfl rfl (by repeat' (first | assumption | exact rF_eq | (apply rF_nj; focus decide) | (apply rF_nk; focus omega) | refine rF_a ?_ | exact rA_eq | refine rA_ne (by omega) ?_ | refine rA_f ?_)) rfl ⟨Nat.le_of_ble_eq_true rfl, Nat.le_of_ble_eq_true rfl, Nat.le_of_ble_eq_true rfl, Nat.le_of_ble_eq_true rfl⟩ (Nat.le_of_ble_eq_true rfl) ?_
  intro r_ h_ q_; obtain ⟨rfl, hs2, hA2, hF2⟩ := q_
  have a6 := (hA2 6 (by omega)).trans r1
  have a16 := (hA2 16 (by omega)).trans r8
  have a17 := (hA2 17 (by omega)).trans r9
  have f60 := (hF2 6 0 (by omega)).trans r2
  have f65 := (hF2 6 5 (by omega)).trans r6
  have f66 := (hF2 6 6 (by omega)).trans r7
  refine g_aload_n (i := 0) dX4_read_9 rfl rfl ?_
  refine g_iload_n (i := 2) dX4_read_10 rfl rfl ?_
  refine g_put dX4_read_11 pl_X4_25 (by repeat' (first | assumption | exact rF_eq | (apply rF_nj; focus decide) | (apply rF_nk; focus omega) | refine rF_a ?_ | exact rA_eq | refine rA_ne (by omega) ?_ | refine rA_f ?_)) (fun _ => ⟨rfl, rfl⟩) ?_
  refine g_aload_n (i := 0) dX4_read_14 rfl rfl ?_
  refine g_iconst (v := 0) dX4_read_15 (by decide) ?_
  refine g_put dX4_read_16 pl_X4_22 (by repeat' (first | assumption | exact rF_eq | (apply rF_nj; focus decide) | (apply rF_nk; focus omega) | refine rF_a ?_ | exact rA_eq | refine rA_ne (by omega) ?_ | refine rA_f ?_)) (fun _ => ⟨rfl, rfl⟩) ?_
  refine g_aload_n (i := 0) dX4_read_19 rfl rfl ?_
  refine g_iconst (v := 0) dX4_read_20 (by decide) ?_
  refine g_put dX4_read_21 pl_X4_28 (by repeat' (first | assumption | exact rF_eq | (apply rF_nj; focus decide) | (apply rF_nk; focus omega) | refine rF_a ?_ | exact rA_eq | refine rA_ne (by omega) ?_ | refine rA_f ?_)) (fun _ => ⟨rfl, rfl⟩) ?_
  refine g_aload_n (i := 0) dX4_read_24 rfl rfl ?_
  refine g_get dX4_read_25 fl_X4_31 (by repeat' (first | assumption | exact rF_eq | (apply rF_nj; focus decide) | (apply rF_nk; focus omega) | refine rF_a ?_ | exact rA_eq | refine rA_ne (by omega) ?_ | refine rA_f ?_)) (by repeat' (first | assumption | exact rF_eq | (apply rF_nj; focus decide) | (apply rF_nk; focus omega) | refine rF_a ?_ | exact rA_eq | refine rA_ne (by omega) ?_ | refine rA_f ?_)) ?_
  refine g_iconst (v := 0) dX4_read_28 (by decide) ?_
  refine g_iconst (v := 0) dX4_read_29 (by decide) ?_
  refine g_iast dX4_read_30 (by repeat' (first | assumption | exact rF_eq | (apply rF_nj; focus decide) | (apply rF_nk; focus omega) | refine rF_a ?_ | exact rA_eq | refine rA_ne (by omega) ?_ | refine rA_f ?_)) (t0N) (by omega) ?_
  have hs3 := stx_16 hI (stx_6 hI (stx_6 hI (stx_6 hI hs2 3 (.int (nI L))) 2 (.int 0)) 4 (.int 0)) (aI 7 (upd cn 0 0))
  have hr3 : RdX (sA (sF (sF (sF h_ 6 3 (.int (nI L))) 6 2 (.int 0)) 6 4 (.int 0)) 16 (aI 7 (upd cn 0 0))) I L 0 0 (upd cn 0 0) bg := ⟨hI, rA_ne (by decide) a6, f60, rfl, rfl, rfl, f65, f66, rA_eq, rA_ne (by decide) a17⟩
  have ht : ∀ j, j < L → va_cpy tp tx 0 0 L j = tp j := fun j hj => by rw [pk_cpy_in (by omega) (by omega)]; congr 1; omega
  have hb := fwd_le (q := isBl) (tp := tp) (show 0 ≤ L by omega)
  refine g_aload_n (i := 0) dX4_read_31 rfl rfl ?_
  refine g_iconst (v := 0) dX4_read_32 (by decide) ?_
  refine g_callV (M' := mX4_behindBlanks) dX4_read_33 lc_X4_behindBlanks ml_X4_42 (c_bblanks (p := 0) (txx_of hr3 hs3 hL ht) (by omega)) rfl rfl (by repeat' (first | assumption | exact rF_eq | (apply rF_nj; focus decide) | (apply rF_nk; focus omega) | refine rF_a ?_ | exact rA_eq | refine rA_ne (by omega) ?_ | refine rA_f ?_)) rfl ⟨Nat.le_of_ble_eq_true rfl, Nat.le_of_ble_eq_true rfl, Nat.le_of_ble_eq_true rfl, Nat.le_of_ble_eq_true rfl⟩ (Nat.le_of_ble_eq_true rfl) ?_
  intro r_ h_ q_; obtain ⟨q1_, q2_⟩ := q_; have q2_ := q2_.symm; subst q1_; subst q2_
  refine g_istore_n (i := 3) dX4_read_36 rfl (Nat.le_of_ble_eq_true rfl) rfl ?_
  refine g_iconst (v := 0) dX4_read_37 (by decide) ?_
  refine g_istore dX4_read_38 (Nat.le_of_ble_eq_true rfl) rfl ?_
  have hfr : FrI I h (sA (sF (sF (sF h_ 6 3 (.int (nI L))) 6 2 (.int 0)) 6 4 (.int 0)) 16 (aI 7 (upd cn 0 0))) := fi_sA (by omega) (fi_sF (by omega) (fi_sF (by omega) (fi_sF (by omega) ⟨fun k hk => hA2 k (by omega), fun k j hk => hF2 k j (by omega)⟩)))
  exact key (L + 1) _ 0 s0B _ (by omega) (by omega) (by show 2 * 0 ≤ _; omega) ⟨_, _, _, _, _, _, _, _, _, _, _, _, hr3, hs3, inv_0 hL ht upd_s hb.2⟩ hfr hz
