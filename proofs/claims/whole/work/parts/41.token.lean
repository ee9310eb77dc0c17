/-! the reader of the class: a token -/
def RdX (h : HH) (I L : Nat) (fl : Int32) (d : Nat) (cn bg : Nat → Int32) : Prop := (I = 7 ∨ I = 18) ∧ gA h 6 = aO 4 ∧ gF h 6 0 = .ref I ∧ gF h 6 2 = .int fl ∧ gF h 6 3 = .int (nI L) ∧ gF h 6 4 = .int (nI d) ∧ gF h 6 5 = .ref 16 ∧ gF h 6 6 = .ref 17 ∧ gA h 16 = aI 7 cn ∧ gA h 17 = aI 7 bg
def PrX (I L : Nat) (tp : Nat → Int32) (s : PS) (p : Nat) (h : HH) : Prop := ∃ (tx rl lk tm wi lo hi tu cn bg : Nat → Int32) (sz : Nat) (ws : Int32), RdX h I L 0 s.1 cn bg ∧ StX h I tx rl lk tm wi lo hi tu sz ws (nI s.2.2.2.2) (nI s.2.2.2.1) ∧ InvP L tp tx rl lk tm wi lo hi cn bg sz s.1 s.2.1 s.2.2.1 s.2.2.2.1 s.2.2.2.2 p
def PrF (I L : Nat) (tp : Nat → Int32) (f q : Nat) (h : HH) : Prop := (1 ≤ f ∧ f ≤ 4 ∧ q ≤ L ∧ L ≤ 400) ∧ ∃ (tx rl lk tm wi lo hi tu cn bg : Nat → Int32) (sz d : Nat) (ws pn nl : Int32), RdX h I L (nI f) d cn bg ∧ gF h 6 1 = .int (nI q) ∧ StX h I tx rl lk tm wi lo hi tu sz ws pn nl ∧ ∀ j, j < L → tx j = tp j
def OutX (I L : Nat) (tp : Nat → Int32) (r : Option Value) (h : HH) : (Nat × Nat) ⊕ (PS × Nat) → Prop
  | .inl f => r = some (.int (nI L)) ∧ PrF I L tp f.1 f.2 h
  | .inr q => r = some (.int (nI q.2)) ∧ PrX I L tp q.1 q.2 h
section RdS
variable {h h' : HH} {I L d sz : Nat} {fl ws pn nl : Int32} {cn bg tx rl lk tm wi lo hi tu tp : Nat → Int32}
theorem stx_16 (hI : I = 7 ∨ I = 18) (hs : StX h I tx rl lk tm wi lo hi tu sz ws pn nl) (a : AE) : StX (sA h 16 a) I tx rl lk tm wi lo hi tu sz ws pn nl := by
  obtain ⟨e0, e1, e2, e3, e4, e5, e6, e7, e8, a1, a2, a3, a4, a5, a6, a7, a8, f8, f9, f10, f11⟩ := hs
  refine ⟨?_, e1, e2, e3, e4, e5, e6, e7, e8, ?_, ?_, ?_, ?_, ?_, ?_, ?_, ?_, f8, f9, f10, f11⟩
  all_goals (refine rA_ne (by omega) ?_; assumption)
theorem stx_17 (hI : I = 7 ∨ I = 18) (hs : StX h I tx rl lk tm wi lo hi tu sz ws pn nl) (a : AE) : StX (sA h 17 a) I tx rl lk tm wi lo hi tu sz ws pn nl := by
  obtain ⟨e0, e1, e2, e3, e4, e5, e6, e7, e8, a1, a2, a3, a4, a5, a6, a7, a8, f8, f9, f10, f11⟩ := hs
  refine ⟨?_, e1, e2, e3, e4, e5, e6, e7, e8, ?_, ?_, ?_, ?_, ?_, ?_, ?_, ?_, f8, f9, f10, f11⟩
  all_goals (refine rA_ne (by omega) ?_; assumption)
theorem stx_6 (hI : I = 7 ∨ I = 18) (hs : StX h I tx rl lk tm wi lo hi tu sz ws pn nl) (j : Nat) (v : Value) : StX (sF h 6 j v) I tx rl lk tm wi lo hi tu sz ws pn nl := by
  obtain ⟨e0, e1, e2, e3, e4, e5, e6, e7, e8, a1, a2, a3, a4, a5, a6, a7, a8, f8, f9, f10, f11⟩ := hs
  refine ⟨e0, ?_, ?_, ?_, ?_, ?_, ?_, ?_, ?_, a1, a2, a3, a4, a5, a6, a7, a8, ?_, ?_, ?_, ?_⟩
  all_goals (refine rF_nk (by omega) ?_; assumption)
theorem rdx_st (hr : RdX h I L fl d cn bg) (hA : gA h' 6 = gA h 6) (hF : ∀ j, gF h' 6 j = gF h 6 j) (h16 : gA h' 16 = gA h 16) (h17 : gA h' 17 = gA h 17) : RdX h' I L fl d cn bg := by
  obtain ⟨hI, e1, e2, e3, e4, e5, e6, e7, e8, e9⟩ := hr
  exact ⟨hI, by rw [hA]; exact e1, by rw [hF]; exact e2, by rw [hF]; exact e3, by rw [hF]; exact e4, by rw [hF]; exact e5, by rw [hF]; exact e6, by rw [hF]; exact e7, by rw [h16]; exact e8, by rw [h17]; exact e9⟩
theorem rdx_16 (hr : RdX h I L fl d cn bg) (c2 : Nat → Int32) : RdX (sA h 16 (aI 7 c2)) I L fl d c2 bg := by
  obtain ⟨hI, e1, e2, e3, e4, e5, e6, e7, e8, e9⟩ := hr
  exact ⟨hI, e1, e2, e3, e4, e5, e6, e7, rfl, e9⟩
theorem rdx_17 (hr : RdX h I L fl d cn bg) (c2 : Nat → Int32) : RdX (sA h 17 (aI 7 c2)) I L fl d cn c2 := by
  obtain ⟨hI, e1, e2, e3, e4, e5, e6, e7, e8, e9⟩ := hr
  exact ⟨hI, e1, e2, e3, e4, e5, e6, e7, e8, rfl⟩
theorem rdx_d (hr : RdX h I L fl d cn bg) (d2 : Nat) : RdX (sF h 6 4 (.int (nI d2))) I L fl d2 cn bg := by
  obtain ⟨hI, e1, e2, e3, e4, e5, e6, e7, e8, e9⟩ := hr
  exact ⟨hI, e1, e2, e3, e4, rfl, e6, e7, e8, e9⟩
theorem txx_of (hr : RdX h I L fl d cn bg) (hs : StX h I tx rl lk tm wi lo hi tu sz ws pn nl) (hL : L ≤ 400) (ht : ∀ j, j < L → tx j = tp j) : TxX h I L tp := by
  obtain ⟨hI, e1, e2, e3, e4, e5, e6, e7, e8, e9⟩ := hr
  exact ⟨hI, hL, e1, e2, e4, hs.1, hs.2.1, tx, hs.2.2.2.2.2.2.2.2.2.1, ht⟩
/-- a FAULT is told -/
theorem pf_stop (hr : RdX h I L fl d cn bg) (hs : StX h I tx rl lk tm wi lo hi tu sz ws pn nl) (hL : L ≤ 400) (ht : ∀ j, j < L → tx j = tp j) (f q : Nat) (h1 : 1 ≤ f) (h2 : f ≤ 4) (h3 : q ≤ L) : PrF I L tp f q (sF (sF h 6 2 (.int (nI f))) 6 1 (.int (nI q))) := by
  have hI := hr.1
  have hs2 := stx_6 hI (stx_6 hI hs 2 (.int (nI f))) 1 (.int (nI q))
  obtain ⟨-, e1, e2, e3, e4, e5, e6, e7, e8, e9⟩ := hr
  exact ⟨⟨h1, h2, h3, hL⟩, tx, rl, lk, tm, wi, lo, hi, tu, cn, bg, sz, d, ws, pn, nl, ⟨hI, e1, e2, rfl, e4, e5, e6, e7, e8, e9⟩, rfl, hs2, ht⟩
theorem fi_stop {f q : Nat} : FrI I h (sF (sF h 6 2 (.int (nI f))) 6 1 (.int (nI q))) := fi_sF (by omega) (fi_sF (by omega) fi_rf)
end RdS
section Tok
variable {h : HH} {I L d sz nl pn p e : Nat} {ws : Int32} {M : Nat → List Nat} {T : Nat → Nat} {cn bg tx rl lk tm wi lo hi tu tp : Nat → Int32}
theorem c_readLine (hr : RdX h I L 0 d cn bg) (hs : StX h I tx rl lk tm wi lo hi tu sz ws (nI pn) (nI nl)) (hv : InvP L tp tx rl lk tm wi lo hi cn bg sz d M T nl pn p) (hnl : nl ≤ 400) (hpL : p < L) (he : fwd isRw L tp p = e) (h1 : ¬ (tp p).toInt = 41) (h2 : ¬ e = p) (h3 : e < L ∧ (tp e).toInt = 59) : CT mX4_readLine 2 0 0 [.ref 6, .int (nI p), .int (nI e)] h (fun r h' => OutX I L tp r h' (tokB L tp (d, M, T, nl, pn) p) ∧ FrI I h h') := by
  have hpe : p ≤ e := by have := fwd_le (q := isRw) (tp := tp) (show p ≤ L by omega); omega
  obtain ⟨⟨v1, v2, v3, v4, v5⟩, w1, w2, w3⟩ := id hv
  obtain ⟨S, Ls, f, u1, u2, u3, -⟩ := w3
  have hI := hr.1
  have htx := txx_of hr hs v2 w1
  obtain ⟨-, r1, r2, r3, r4, r5, r6, r7, r8, r9⟩ := id hr
  obtain ⟨s0, s1, s2, s3, s4, s5, s6, s7, s8, b1, b2, b3, b4, b5, b6, b7, b8, g8, g9, g10, g11⟩ := id hs
  have hcd := (u3 d (by omega)).1
  have hcl := (u3 d (by omega)).2.1
  rw [show (Ls d).length = (M d).length by rw [(u3 d (by omega)).2.2, List.length_map]] at hcd hcl
  refine CT.go [.ref 6, .int (nI p), .int (nI e), hU] (by decide +kernel) rfl rfl (fun Q' hQ => ?_)
  refine g_iload_n (i := 2) dX4_readLine_0 rfl rfl ?_
  refine g_iload_n (i := 1) dX4_readLine_1 rfl rfl ?_
  refine g_isub dX4_readLine_2 ?_
  rw [n_sub hpe]
  refine g_istore_n (i := 3) dX4_readLine_3 rfl (Nat.le_of_ble_eq_true rfl) rfl ?_
  refine g_iload_n (i := 3) dX4_readLine_4 rfl rfl ?_
  refine g_bipush (v := 8) dX4_readLine_5 (by decide) ?_
  refine g_icmp_gt (tgt := 19) dX4_readLine_7 (by decide) (fun hc7 => ?_) (fun hc7 => ?_)
  · (try simp (disch := omega) only [nT, t_m1000100, t_m1000010, t_m1000003, t_m1000002, t_m1000001, t_m1000000, t_m65535, t_m1000, t_m3, t_m1, t_0, t_1, t_2, t_3, t_4, t_5, t_6, t_7, t_8, t_9, t_10, t_11, t_12, t_13, t_15, t_16, t_20, t_21, t_22, t_32, t_40, t_41, t_48, t_49, t_57, t_59, t_60, t_63, t_72, t_76, t_88, t_100, t_144, t_200, t_255, t_288, t_400, t_800, t_999, t_1000, t_1024, t_1200, t_1600, t_3200, t_100000, t_200000, t_252645135, t_858993459, t_1431655765, u_m1000002, u_m1000001, u_m1000, u_m3, u_m1, u_0, u_1, u_2, u_3, u_4, u_5, u_7, u_8, u_10, u_11, u_15, u_60, u_100, u_255, u_999, u_1000, u_100000, u_4294967295] at hc7)
    refine g_aload_n (i := 0) dX4_readLine_19 rfl rfl ?_
    refine g_iconst (v := 1) dX4_readLine_20 (by decide) ?_
    refine g_iload_n (i := 1) dX4_readLine_21 rfl rfl ?_
    refine g_callV (M' := mX4_stopAt) dX4_readLine_22 lc_X4_stopAt ml_X4_49 (c_stopAt (L := L) (by assumption) (by assumption) 1 (nI p)) rfl rfl (by repeat' (first | assumption | exact rF_eq | (apply rF_nj; focus decide) | (apply rF_nk; focus omega) | refine rF_a ?_ | exact rA_eq | refine rA_ne (by omega) ?_ | refine rA_f ?_)) rfl ⟨Nat.le_of_ble_eq_true rfl, Nat.le_of_ble_eq_true rfl, Nat.le_of_ble_eq_true rfl, Nat.le_of_ble_eq_true rfl⟩ (Nat.le_of_ble_eq_true rfl) ?_
    intro r_ h_ q_; obtain ⟨q1_, q2_⟩ := q_; have q2_ := q2_.symm; subst q1_; subst q2_
    refine g_iret dX4_readLine_25 rfl (rfl) (hQ _ _ ?_)
    rw [tok_l1 he h1 h2 h3 (by first | exact Or.inl (by omega) | exact Or.inr (by assumption))]
    exact ⟨⟨rfl, pf_stop hr hs v2 w1 1 p (by omega) (by omega) (by omega)⟩, fi_stop⟩
  · (try simp (disch := omega) only [nT, t_m1000100, t_m1000010, t_m1000003, t_m1000002, t_m1000001, t_m1000000, t_m65535, t_m1000, t_m3, t_m1, t_0, t_1, t_2, t_3, t_4, t_5, t_6, t_7, t_8, t_9, t_10, t_11, t_12, t_13, t_15, t_16, t_20, t_21, t_22, t_32, t_40, t_41, t_48, t_49, t_57, t_59, t_60, t_63, t_72, t_76, t_88, t_100, t_144, t_200, t_255, t_288, t_400, t_800, t_999, t_1000, t_1024, t_1200, t_1600, t_3200, t_100000, t_200000, t_252645135, t_858993459, t_1431655765, u_m1000002, u_m1000001, u_m1000, u_m3, u_m1, u_0, u_1, u_2, u_3, u_4, u_5, u_7, u_8, u_10, u_11, u_15, u_60, u_100, u_255, u_999, u_1000, u_100000, u_4294967295] at hc7)
    refine g_aload_n (i := 0) dX4_readLine_10 rfl rfl ?_
    refine g_iload_n (i := 1) dX4_readLine_11 rfl rfl ?_
    refine g_iload_n (i := 2) dX4_readLine_12 rfl rfl ?_
    refine g_callV (M' := mX4_areSigns) dX4_readLine_13 lc_X4_areSigns ml_X4_83 (c_areSigns htx hpe (by omega)) rfl rfl (by repeat' (first | assumption | exact rF_eq | (apply rF_nj; focus decide) | (apply rF_nk; focus omega) | refine rF_a ?_ | exact rA_eq | refine rA_ne (by omega) ?_ | refine rA_f ?_)) rfl ⟨Nat.le_of_ble_eq_true rfl, Nat.le_of_ble_eq_true rfl, Nat.le_of_ble_eq_true rfl, Nat.le_of_ble_eq_true rfl⟩ (Nat.le_of_ble_eq_true rfl) ?_
    intro r_ h_ q_; obtain ⟨q1_, q2_⟩ := q_; have q2_ := q2_.symm; subst q1_; subst q2_
    refine g_if_ne (tgt := 26) dX4_readLine_16 (by decide) (fun hc16 => ?_) (fun hc16 => ?_)
    · replace hc16 := bI_n0.mp hc16
      (try simp (disch := omega) only [nT, t_m1000100, t_m1000010, t_m1000003, t_m1000002, t_m1000001, t_m1000000, t_m65535, t_m1000, t_m3, t_m1, t_0, t_1, t_2, t_3, t_4, t_5, t_6, t_7, t_8, t_9, t_10, t_11, t_12, t_13, t_15, t_16, t_20, t_21, t_22, t_32, t_40, t_41, t_48, t_49, t_57, t_59, t_60, t_63, t_72, t_76, t_88, t_100, t_144, t_200, t_255, t_288, t_400, t_800, t_999, t_1000, t_1024, t_1200, t_1600, t_3200, t_100000, t_200000, t_252645135, t_858993459, t_1431655765, u_m1000002, u_m1000001, u_m1000, u_m3, u_m1, u_0, u_1, u_2, u_3, u_4, u_5, u_7, u_8, u_10, u_11, u_15, u_60, u_100, u_255, u_999, u_1000, u_100000, u_4294967295] at hc16)
      refine g_aload_n (i := 0) dX4_readLine_26 rfl rfl ?_
      refine g_get dX4_readLine_27 fl_X4_12 (by repeat' (first | assumption | exact rF_eq | (apply rF_nj; focus decide) | (apply rF_nk; focus omega) | refine rF_a ?_ | exact rA_eq | refine rA_ne (by omega) ?_ | refine rA_f ?_)) (by repeat' (first | assumption | exact rF_eq | (apply rF_nj; focus decide) | (apply rF_nk; focus omega) | refine rF_a ?_ | exact rA_eq | refine rA_ne (by omega) ?_ | refine rA_f ?_)) ?_
      refine g_get dX4_readLine_30 fl_X4_86 (by repeat' (first | assumption | exact rF_eq | (apply rF_nj; focus decide) | (apply rF_nk; focus omega) | refine rF_a ?_ | exact rA_eq | refine rA_ne (by omega) ?_ | refine rA_f ?_)) (by repeat' (first | assumption | exact rF_eq | (apply rF_nj; focus decide) | (apply rF_nk; focus omega) | refine rF_a ?_ | exact rA_eq | refine rA_ne (by omega) ?_ | refine rA_f ?_)) ?_
      refine g_if_le (tgt := 54) dX4_readLine_33 (by decide) (fun hc33 => ?_) (fun hc33 => ?_)
      · (try simp (disch := omega) only [nT, t_m1000100, t_m1000010, t_m1000003, t_m1000002, t_m1000001, t_m1000000, t_m65535, t_m1000, t_m3, t_m1, t_0, t_1, t_2, t_3, t_4, t_5, t_6, t_7, t_8, t_9, t_10, t_11, t_12, t_13, t_15, t_16, t_20, t_21, t_22, t_32, t_40, t_41, t_48, t_49, t_57, t_59, t_60, t_63, t_72, t_76, t_88, t_100, t_144, t_200, t_255, t_288, t_400, t_800, t_999, t_1000, t_1024, t_1200, t_1600, t_3200, t_100000, t_200000, t_252645135, t_858993459, t_1431655765, u_m1000002, u_m1000001, u_m1000, u_m3, u_m1, u_0, u_1, u_2, u_3, u_4, u_5, u_7, u_8, u_10, u_11, u_15, u_60, u_100, u_255, u_999, u_1000, u_100000, u_4294967295] at hc33)
        refine g_aload_n (i := 0) dX4_readLine_54 rfl rfl ?_
        refine g_get dX4_readLine_55 fl_X4_31 (by repeat' (first | assumption | exact rF_eq | (apply rF_nj; focus decide) | (apply rF_nk; focus omega) | refine rF_a ?_ | exact rA_eq | refine rA_ne (by omega) ?_ | refine rA_f ?_)) (by repeat' (first | assumption | exact rF_eq | (apply rF_nj; focus decide) | (apply rF_nk; focus omega) | refine rF_a ?_ | exact rA_eq | refine rA_ne (by omega) ?_ | refine rA_f ?_)) ?_
        refine g_aload_n (i := 0) dX4_readLine_58 rfl rfl ?_
        refine g_get dX4_readLine_59 fl_X4_28 (by repeat' (first | assumption | exact rF_eq | (apply rF_nj; focus decide) | (apply rF_nk; focus omega) | refine rF_a ?_ | exact rA_eq | refine rA_ne (by omega) ?_ | refine rA_f ?_)) (by repeat' (first | assumption | exact rF_eq | (apply rF_nj; focus decide) | (apply rF_nk; focus omega) | refine rF_a ?_ | exact rA_eq | refine rA_ne (by omega) ?_ | refine rA_f ?_)) ?_
        refine g_dup2 dX4_readLine_62 rfl rfl ?_
        refine g_iald dX4_readLine_63 (by repeat' (first | assumption | exact rF_eq | (apply rF_nj; focus decide) | (apply rF_nk; focus omega) | refine rF_a ?_ | exact rA_eq | refine rA_ne (by omega) ?_ | refine rA_f ?_)) (nT (by omega)) (by omega) ?_
        refine g_iconst (v := 1) dX4_readLine_64 (by decide) ?_
        refine g_iadd dX4_readLine_65 ?_
        refine g_iast dX4_readLine_66 (by repeat' (first | assumption | exact rF_eq | (apply rF_nj; focus decide) | (apply rF_nk; focus omega) | refine rF_a ?_ | exact rA_eq | refine rA_ne (by omega) ?_ | refine rA_f ?_)) (nT (by omega)) (by omega) ?_
        refine g_aload_n (i := 0) dX4_readLine_67 rfl rfl ?_
        refine g_get dX4_readLine_68 fl_X4_31 (by repeat' (first | assumption | exact rF_eq | (apply rF_nj; focus decide) | (apply rF_nk; focus omega) | refine rF_a ?_ | exact rA_eq | refine rA_ne (by omega) ?_ | refine rA_f ?_)) (by repeat' (first | assumption | exact rF_eq | (apply rF_nj; focus decide) | (apply rF_nk; focus omega) | refine rF_a ?_ | exact rA_eq | refine rA_ne (by omega) ?_ | refine rA_f ?_)) ?_
        refine g_aload_n (i := 0) dX4_readLine_71 rfl rfl ?_
        refine g_get dX4_readLine_72 fl_X4_28 (by repeat' (first | assumption | exact rF_eq | (apply rF_nj; focus decide) | (apply rF_nk; focus omega) | refine rF_a ?_ | exact rA_eq | refine rA_ne (by omega) ?_ | refine rA_f ?_)) (by repeat' (first | assumption | exact rF_eq | (apply rF_nj; focus decide) | (apply rF_nk; focus omega) | refine rF_a ?_ | exact rA_eq | refine rA_ne (by omega) ?_ | refine rA_f ?_)) ?_
        refine g_iald dX4_readLine_75 (by repeat' (first | assumption | exact rF_eq | (apply rF_nj; focus decide) | (apply rF_nk; focus omega) | refine rF_a ?_ | exact rA_eq | refine rA_ne (by omega) ?_ | refine rA_f ?_)) (nT (by omega)) (by omega) ?_
        rw [upd_s, hcd, ni_inc]
        refine g_ldc dX4_readLine_76 kc_X4_78 ?_
        refine g_icmp_le (tgt := 88) dX4_readLine_78 (by decide) (fun hc78 => ?_) (fun hc78 => ?_)
        · (try simp (disch := omega) only [nT, t_m1000100, t_m1000010, t_m1000003, t_m1000002, t_m1000001, t_m1000000, t_m65535, t_m1000, t_m3, t_m1, t_0, t_1, t_2, t_3, t_4, t_5, t_6, t_7, t_8, t_9, t_10, t_11, t_12, t_13, t_15, t_16, t_20, t_21, t_22, t_32, t_40, t_41, t_48, t_49, t_57, t_59, t_60, t_63, t_72, t_76, t_88, t_100, t_144, t_200, t_255, t_288, t_400, t_800, t_999, t_1000, t_1024, t_1200, t_1600, t_3200, t_100000, t_200000, t_252645135, t_858993459, t_1431655765, u_m1000002, u_m1000001, u_m1000, u_m3, u_m1, u_0, u_1, u_2, u_3, u_4, u_5, u_7, u_8, u_10, u_11, u_15, u_60, u_100, u_255, u_999, u_1000, u_100000, u_4294967295] at hc78)
          refine g_aload_n (i := 0) dX4_readLine_88 rfl rfl ?_
          refine g_get dX4_readLine_89 fl_X4_12 (by repeat' (first | assumption | exact rF_eq | (apply rF_nj; focus decide) | (apply rF_nk; focus omega) | refine rF_a ?_ | exact rA_eq | refine rA_ne (by omega) ?_ | refine rA_f ?_)) (by repeat' (first | assumption | exact rF_eq | (apply rF_nj; focus decide) | (apply rF_nk; focus omega) | refine rF_a ?_ | exact rA_eq | refine rA_ne (by omega) ?_ | refine rA_f ?_)) ?_
          refine g_iload_n (i := 1) dX4_readLine_92 rfl rfl ?_
          refine g_iload_n (i := 3) dX4_readLine_93 rfl rfl ?_
          refine g_callV (M' := mX2_addLine) dX4_readLine_94 lc_X2_addLine ml_X4_92 (c_addLine (stx_16 hI hs _) (q := p) (n := e - p) (by omega) (by omega) (by omega)) rfl rfl (by repeat' (first | assumption | exact rF_eq | (apply rF_nj; focus decide) | (apply rF_nk; focus omega) | refine rF_a ?_ | exact rA_eq | refine rA_ne (by omega) ?_ | refine rA_f ?_)) rfl ⟨Nat.le_of_ble_eq_true rfl, Nat.le_of_ble_eq_true rfl, Nat.le_of_ble_eq_true rfl, Nat.le_of_ble_eq_true rfl⟩ (Nat.le_of_ble_eq_true rfl) ?_
          intro r_ h_ q_; obtain ⟨rfl, hs2, hf2⟩ := q_
          refine g_iload_n (i := 2) dX4_readLine_97 rfl rfl ?_
          refine g_iconst (v := 1) dX4_readLine_98 (by decide) ?_
          refine g_iadd dX4_readLine_99 ?_
          rw [ni_inc]
          refine g_iret dX4_readLine_100 rfl (rfl) (hQ _ _ ?_)
          have hnp : ¬ (0 < nl ∧ e - p ≠ pn) := fun q => by first | omega | exact q.2 (by have := hd44; omega)
          have hcc : ¬ 100000 < (M d).length + 1 := by omega
          rw [tok_l he h1 h2 h3 (fun q => by rcases q with q | q; omega; exact q (by assumption)) hnp hcc]
          refine ⟨⟨rfl, tx, _, _, tm, wi, _, _, tu, _, bg, sz + 1, ws, rdx_st (rdx_16 hr _) (hf2.1 6 (by omega)) (fun j => hf2.2 6 j (by omega)) (hf2.1 16 (by omega)) (hf2.1 17 (by omega)), hs2, inv_line hv (by omega) rfl (by omega) h3.1 hnp hcc⟩, fi_tr (fi_sA (by omega) fi_rf) (fj_fi hf2)⟩
        · (try simp (disch := omega) only [nT, t_m1000100, t_m1000010, t_m1000003, t_m1000002, t_m1000001, t_m1000000, t_m65535, t_m1000, t_m3, t_m1, t_0, t_1, t_2, t_3, t_4, t_5, t_6, t_7, t_8, t_9, t_10, t_11, t_12, t_13, t_15, t_16, t_20, t_21, t_22, t_32, t_40, t_41, t_48, t_49, t_57, t_59, t_60, t_63, t_72, t_76, t_88, t_100, t_144, t_200, t_255, t_288, t_400, t_800, t_999, t_1000, t_1024, t_1200, t_1600, t_3200, t_100000, t_200000, t_252645135, t_858993459, t_1431655765, u_m1000002, u_m1000001, u_m1000, u_m3, u_m1, u_0, u_1, u_2, u_3, u_4, u_5, u_7, u_8, u_10, u_11, u_15, u_60, u_100, u_255, u_999, u_1000, u_100000, u_4294967295] at hc78)
          refine g_aload_n (i := 0) dX4_readLine_81 rfl rfl ?_
          refine g_iconst (v := 4) dX4_readLine_82 (by decide) ?_
          refine g_iload_n (i := 1) dX4_readLine_83 rfl rfl ?_
          refine g_callV (M' := mX4_stopAt) dX4_readLine_84 lc_X4_stopAt ml_X4_49 (c_stopAt (L := L) (by repeat' (first | assumption | refine rA_ne (by decide) ?_)) (by repeat' (first | assumption | refine rF_a ?_)) 4 (nI p)) rfl rfl (by repeat' (first | assumption | exact rF_eq | (apply rF_nj; focus decide) | (apply rF_nk; focus omega) | refine rF_a ?_ | exact rA_eq | refine rA_ne (by omega) ?_ | refine rA_f ?_)) rfl ⟨Nat.le_of_ble_eq_true rfl, Nat.le_of_ble_eq_true rfl, Nat.le_of_ble_eq_true rfl, Nat.le_of_ble_eq_true rfl⟩ (Nat.le_of_ble_eq_true rfl) ?_
          intro r_ h_ q_; obtain ⟨q1_, q2_⟩ := q_; have q2_ := q2_.symm; subst q1_; subst q2_
          refine g_iret dX4_readLine_87 rfl (rfl) (hQ _ _ ?_)
          rw [tok_l4 he h1 h2 h3 (fun q => by rcases q with q | q; omega; exact q (by assumption)) (fun q => by first | omega | exact q.2 (by have := hd44; omega)) (by omega)]
          exact ⟨⟨rfl, pf_stop (rdx_16 hr _) (stx_16 hI hs _) v2 w1 4 p (by omega) (by omega) (by omega)⟩, fi_tr (fi_sA (by omega) fi_rf) fi_stop⟩
      · (try simp (disch := omega) only [nT, t_m1000100, t_m1000010, t_m1000003, t_m1000002, t_m1000001, t_m1000000, t_m65535, t_m1000, t_m3, t_m1, t_0, t_1, t_2, t_3, t_4, t_5, t_6, t_7, t_8, t_9, t_10, t_11, t_12, t_13, t_15, t_16, t_20, t_21, t_22, t_32, t_40, t_41, t_48, t_49, t_57, t_59, t_60, t_63, t_72, t_76, t_88, t_100, t_144, t_200, t_255, t_288, t_400, t_800, t_999, t_1000, t_1024, t_1200, t_1600, t_3200, t_100000, t_200000, t_252645135, t_858993459, t_1431655765, u_m1000002, u_m1000001, u_m1000, u_m3, u_m1, u_0, u_1, u_2, u_3, u_4, u_5, u_7, u_8, u_10, u_11, u_15, u_60, u_100, u_255, u_999, u_1000, u_100000, u_4294967295] at hc33)
        refine g_iload_n (i := 3) dX4_readLine_36 rfl rfl ?_
        refine g_aload_n (i := 0) dX4_readLine_37 rfl rfl ?_
        refine g_get dX4_readLine_38 fl_X4_12 (by repeat' (first | assumption | exact rF_eq | (apply rF_nj; focus decide) | (apply rF_nk; focus omega) | refine rF_a ?_ | exact rA_eq | refine rA_ne (by omega) ?_ | refine rA_f ?_)) (by repeat' (first | assumption | exact rF_eq | (apply rF_nj; focus decide) | (apply rF_nk; focus omega) | refine rF_a ?_ | exact rA_eq | refine rA_ne (by omega) ?_ | refine rA_f ?_)) ?_
        refine g_get dX4_readLine_41 fl_X4_89 (by repeat' (first | assumption | exact rF_eq | (apply rF_nj; focus decide) | (apply rF_nk; focus omega) | refine rF_a ?_ | exact rA_eq | refine rA_ne (by omega) ?_ | refine rA_f ?_)) (by repeat' (first | assumption | exact rF_eq | (apply rF_nj; focus decide) | (apply rF_nk; focus omega) | refine rF_a ?_ | exact rA_eq | refine rA_ne (by omega) ?_ | refine rA_f ?_)) ?_
        refine g_icmp_eq (tgt := 54) dX4_readLine_44 (by decide) (fun hc44 => ?_) (fun hc44 => ?_)
        · have hd44 := i_eq.mp hc44; (try simp (disch := omega) only [nT, t_m1000100, t_m1000010, t_m1000003, t_m1000002, t_m1000001, t_m1000000, t_m65535, t_m1000, t_m3, t_m1, t_0, t_1, t_2, t_3, t_4, t_5, t_6, t_7, t_8, t_9, t_10, t_11, t_12, t_13, t_15, t_16, t_20, t_21, t_22, t_32, t_40, t_41, t_48, t_49, t_57, t_59, t_60, t_63, t_72, t_76, t_88, t_100, t_144, t_200, t_255, t_288, t_400, t_800, t_999, t_1000, t_1024, t_1200, t_1600, t_3200, t_100000, t_200000, t_252645135, t_858993459, t_1431655765, u_m1000002, u_m1000001, u_m1000, u_m3, u_m1, u_0, u_1, u_2, u_3, u_4, u_5, u_7, u_8, u_10, u_11, u_15, u_60, u_100, u_255, u_999, u_1000, u_100000, u_4294967295] at hd44)
          refine g_aload_n (i := 0) dX4_readLine_54 rfl rfl ?_
          refine g_get dX4_readLine_55 fl_X4_31 (by repeat' (first | assumption | exact rF_eq | (apply rF_nj; focus decide) | (apply rF_nk; focus omega) | refine rF_a ?_ | exact rA_eq | refine rA_ne (by omega) ?_ | refine rA_f ?_)) (by repeat' (first | assumption | exact rF_eq | (apply rF_nj; focus decide) | (apply rF_nk; focus omega) | refine rF_a ?_ | exact rA_eq | refine rA_ne (by omega) ?_ | refine rA_f ?_)) ?_
          refine g_aload_n (i := 0) dX4_readLine_58 rfl rfl ?_
          refine g_get dX4_readLine_59 fl_X4_28 (by repeat' (first | assumption | exact rF_eq | (apply rF_nj; focus decide) | (apply rF_nk; focus omega) | refine rF_a ?_ | exact rA_eq | refine rA_ne (by omega) ?_ | refine rA_f ?_)) (by repeat' (first | assumption | exact rF_eq | (apply rF_nj; focus decide) | (apply rF_nk; focus omega) | refine rF_a ?_ | exact rA_eq | refine rA_ne (by omega) ?_ | refine rA_f ?_)) ?_
          refine g_dup2 dX4_readLine_62 rfl rfl ?_
          refine g_iald dX4_readLine_63 (by repeat' (first | assumption | exact rF_eq | (apply rF_nj; focus decide) | (apply rF_nk; focus omega) | refine rF_a ?_ | exact rA_eq | refine rA_ne (by omega) ?_ | refine rA_f ?_)) (nT (by omega)) (by omega) ?_
          refine g_iconst (v := 1) dX4_readLine_64 (by decide) ?_
          refine g_iadd dX4_readLine_65 ?_
          refine g_iast dX4_readLine_66 (by repeat' (first | assumption | exact rF_eq | (apply rF_nj; focus decide) | (apply rF_nk; focus omega) | refine rF_a ?_ | exact rA_eq | refine rA_ne (by omega) ?_ | refine rA_f ?_)) (nT (by omega)) (by omega) ?_
          refine g_aload_n (i := 0) dX4_readLine_67 rfl rfl ?_
          refine g_get dX4_readLine_68 fl_X4_31 (by repeat' (first | assumption | exact rF_eq | (apply rF_nj; focus decide) | (apply rF_nk; focus omega) | refine rF_a ?_ | exact rA_eq | refine rA_ne (by omega) ?_ | refine rA_f ?_)) (by repeat' (first | assumption | exact rF_eq | (apply rF_nj; focus decide) | (apply rF_nk; focus omega) | refine rF_a ?_ | exact rA_eq | refine rA_ne (by omega) ?_ | refine rA_f ?_)) ?_
          refine g_aload_n (i := 0) dX4_readLine_71 rfl rfl ?_
          refine g_get dX4_readLine_72 fl_X4_28 (by repeat' (first | assumption | exact rF_eq | (apply rF_nj; focus decide) | (apply rF_nk; focus omega) | refine rF_a ?_ | exact rA_eq | refine rA_ne (by omega) ?_ | refine rA_f ?_)) (by repeat' (first | assumption | exact rF_eq | (apply rF_nj; focus decide) | (apply rF_nk; focus omega) | refine rF_a ?_ | exact rA_eq | refine rA_ne (by omega) ?_ | refine rA_f ?_)) ?_
          refine g_iald dX4_readLine_75 (by repeat' (first | assumption | exact rF_eq | (apply rF_nj; focus decide) | (apply rF_nk; focus omega) | refine rF_a ?_ | exact rA_eq | refine rA_ne (by omega) ?_ | refine rA_f ?_)) (nT (by omega)) (by omega) ?_
          rw [upd_s, hcd, ni_inc]
          refine g_ldc dX4_readLine_76 kc_X4_78 ?_
          refine g_icmp_le (tgt := 88) dX4_readLine_78 (by decide) (fun hc78 => ?_) (fun hc78 => ?_)
          · (try simp (disch := omega) only [nT, t_m1000100, t_m1000010, t_m1000003, t_m1000002, t_m1000001, t_m1000000, t_m65535, t_m1000, t_m3, t_m1, t_0, t_1, t_2, t_3, t_4, t_5, t_6, t_7, t_8, t_9, t_10, t_11, t_12, t_13, t_15, t_16, t_20, t_21, t_22, t_32, t_40, t_41, t_48, t_49, t_57, t_59, t_60, t_63, t_72, t_76, t_88, t_100, t_144, t_200, t_255, t_288, t_400, t_800, t_999, t_1000, t_1024, t_1200, t_1600, t_3200, t_100000, t_200000, t_252645135, t_858993459, t_1431655765, u_m1000002, u_m1000001, u_m1000, u_m3, u_m1, u_0, u_1, u_2, u_3, u_4, u_5, u_7, u_8, u_10, u_11, u_15, u_60, u_100, u_255, u_999, u_1000, u_100000, u_4294967295] at hc78)
            refine g_aload_n (i := 0) dX4_readLine_88 rfl rfl ?_
            refine g_get dX4_readLine_89 fl_X4_12 (by repeat' (first | assumption | exact rF_eq | (apply rF_nj; focus decide) | (apply rF_nk; focus omega) | refine rF_a ?_ | exact rA_eq | refine rA_ne (by omega) ?_ | refine rA_f ?_)) (by repeat' (first | assumption | exact rF_eq | (apply rF_nj; focus decide) | (apply rF_nk; focus omega) | refine rF_a ?_ | exact rA_eq | refine rA_ne (by omega) ?_ | refine rA_f ?_)) ?_
            refine g_iload_n (i := 1) dX4_readLine_92 rfl rfl ?_
            refine g_iload_n (i := 3) dX4_readLine_93 rfl rfl ?_
            refine g_callV (M' := mX2_addLine) dX4_readLine_94 lc_X2_addLine ml_X4_92 (c_addLine (stx_16 hI hs _) (q := p) (n := e - p) (by omega) (by omega) (by omega)) rfl rfl (by repeat' (first | assumption | exact rF_eq | (apply rF_nj; focus decide) | (apply rF_nk; focus omega) | refine rF_a ?_ | exact rA_eq | refine rA_ne (by omega) ?_ | refine rA_f ?_)) rfl ⟨Nat.le_of_ble_eq_true rfl, Nat.le_of_ble_eq_true rfl, Nat.le_of_ble_eq_true rfl, Nat.le_of_ble_eq_true rfl⟩ (Nat.le_of_ble_eq_true rfl) ?_
            intro r_ h_ q_; obtain ⟨rfl, hs2, hf2⟩ := q_
            refine g_iload_n (i := 2) dX4_readLine_97 rfl rfl ?_
            refine g_iconst (v := 1) dX4_readLine_98 (by decide) ?_
            refine g_iadd dX4_readLine_99 ?_
            rw [ni_inc]
            refine g_iret dX4_readLine_100 rfl (rfl) (hQ _ _ ?_)
            have hnp : ¬ (0 < nl ∧ e - p ≠ pn) := fun q => by first | omega | exact q.2 (by have := hd44; omega)
            have hcc : ¬ 100000 < (M d).length + 1 := by omega
            rw [tok_l he h1 h2 h3 (fun q => by rcases q with q | q; omega; exact q (by assumption)) hnp hcc]
            refine ⟨⟨rfl, tx, _, _, tm, wi, _, _, tu, _, bg, sz + 1, ws, rdx_st (rdx_16 hr _) (hf2.1 6 (by omega)) (fun j => hf2.2 6 j (by omega)) (hf2.1 16 (by omega)) (hf2.1 17 (by omega)), hs2, inv_line hv (by omega) rfl (by omega) h3.1 hnp hcc⟩, fi_tr (fi_sA (by omega) fi_rf) (fj_fi hf2)⟩
          · (try simp (disch := omega) only [nT, t_m1000100, t_m1000010, t_m1000003, t_m1000002, t_m1000001, t_m1000000, t_m65535, t_m1000, t_m3, t_m1, t_0, t_1, t_2, t_3, t_4, t_5, t_6, t_7, t_8, t_9, t_10, t_11, t_12, t_13, t_15, t_16, t_20, t_21, t_22, t_32, t_40, t_41, t_48, t_49, t_57, t_59, t_60, t_63, t_72, t_76, t_88, t_100, t_144, t_200, t_255, t_288, t_400, t_800, t_999, t_1000, t_1024, t_1200, t_1600, t_3200, t_100000, t_200000, t_252645135, t_858993459, t_1431655765, u_m1000002, u_m1000001, u_m1000, u_m3, u_m1, u_0, u_1, u_2, u_3, u_4, u_5, u_7, u_8, u_10, u_11, u_15, u_60, u_100, u_255, u_999, u_1000, u_100000, u_4294967295] at hc78)
            refine g_aload_n (i := 0) dX4_readLine_81 rfl rfl ?_
            refine g_iconst (v := 4) dX4_readLine_82 (by decide) ?_
            refine g_iload_n (i := 1) dX4_readLine_83 rfl rfl ?_
            refine g_callV (M' := mX4_stopAt) dX4_readLine_84 lc_X4_stopAt ml_X4_49 (c_stopAt (L := L) (by repeat' (first | assumption | refine rA_ne (by decide) ?_)) (by repeat' (first | assumption | refine rF_a ?_)) 4 (nI p)) rfl rfl (by repeat' (first | assumption | exact rF_eq | (apply rF_nj; focus decide) | (apply rF_nk; focus omega) | refine rF_a ?_ | exact rA_eq | refine rA_ne (by omega) ?_ | refine rA_f ?_)) rfl ⟨Nat.le_of_ble_eq_true rfl, Nat.le_of_ble_eq_true rfl, Nat.le_of_ble_eq_true rfl, Nat.le_of_ble_eq_true rfl⟩ (Nat.le_of_ble_eq_true rfl) ?_
            intro r_ h_ q_; obtain ⟨q1_, q2_⟩ := q_; have q2_ := q2_.symm; subst q1_; subst q2_
            refine g_iret dX4_readLine_87 rfl (rfl) (hQ _ _ ?_)
            rw [tok_l4 he h1 h2 h3 (fun q => by rcases q with q | q; omega; exact q (by assumption)) (fun q => by first | omega | exact q.2 (by have := hd44; omega)) (by omega)]
            exact ⟨⟨rfl, pf_stop (rdx_16 hr _) (stx_16 hI hs _) v2 w1 4 p (by omega) (by omega) (by omega)⟩, fi_tr (fi_sA (by omega) fi_rf) fi_stop⟩
        · have hd44 := mt i_eq.mpr hc44; (try simp (disch := omega) only [nT, t_m1000100, t_m1000010, t_m1000003, t_m1000002, t_m1000001, t_m1000000, t_m65535, t_m1000, t_m3, t_m1, t_0, t_1, t_2, t_3, t_4, t_5, t_6, t_7, t_8, t_9, t_10, t_11, t_12, t_13, t_15, t_16, t_20, t_21, t_22, t_32, t_40, t_41, t_48, t_49, t_57, t_59, t_60, t_63, t_72, t_76, t_88, t_100, t_144, t_200, t_255, t_288, t_400, t_800, t_999, t_1000, t_1024, t_1200, t_1600, t_3200, t_100000, t_200000, t_252645135, t_858993459, t_1431655765, u_m1000002, u_m1000001, u_m1000, u_m3, u_m1, u_0, u_1, u_2, u_3, u_4, u_5, u_7, u_8, u_10, u_11, u_15, u_60, u_100, u_255, u_999, u_1000, u_100000, u_4294967295] at hd44)
          refine g_aload_n (i := 0) dX4_readLine_47 rfl rfl ?_
          refine g_iconst (v := 2) dX4_readLine_48 (by decide) ?_
          refine g_iload_n (i := 1) dX4_readLine_49 rfl rfl ?_
          refine g_callV (M' := mX4_stopAt) dX4_readLine_50 lc_X4_stopAt ml_X4_49 (c_stopAt (L := L) (by assumption) (by assumption) 2 (nI p)) rfl rfl (by repeat' (first | assumption | exact rF_eq | (apply rF_nj; focus decide) | (apply rF_nk; focus omega) | refine rF_a ?_ | exact rA_eq | refine rA_ne (by omega) ?_ | refine rA_f ?_)) rfl ⟨Nat.le_of_ble_eq_true rfl, Nat.le_of_ble_eq_true rfl, Nat.le_of_ble_eq_true rfl, Nat.le_of_ble_eq_true rfl⟩ (Nat.le_of_ble_eq_true rfl) ?_
          intro r_ h_ q_; obtain ⟨q1_, q2_⟩ := q_; have q2_ := q2_.symm; subst q1_; subst q2_
          refine g_iret dX4_readLine_53 rfl (rfl) (hQ _ _ ?_)
          rw [tok_l2 he h1 h2 h3 (fun q => by rcases q with q | q; omega; exact q (by assumption)) ⟨by omega, fun q => hc44 (by rw [q])⟩]
          exact ⟨⟨rfl, pf_stop hr hs v2 w1 2 p (by omega) (by omega) (by omega)⟩, fi_stop⟩
    · replace hc16 := bI_0.mp hc16
      (try simp (disch := omega) only [nT, t_m1000100, t_m1000010, t_m1000003, t_m1000002, t_m1000001, t_m1000000, t_m65535, t_m1000, t_m3, t_m1, t_0, t_1, t_2, t_3, t_4, t_5, t_6, t_7, t_8, t_9, t_10, t_11, t_12, t_13, t_15, t_16, t_20, t_21, t_22, t_32, t_40, t_41, t_48, t_49, t_57, t_59, t_60, t_63, t_72, t_76, t_88, t_100, t_144, t_200, t_255, t_288, t_400, t_800, t_999, t_1000, t_1024, t_1200, t_1600, t_3200, t_100000, t_200000, t_252645135, t_858993459, t_1431655765, u_m1000002, u_m1000001, u_m1000, u_m3, u_m1, u_0, u_1, u_2, u_3, u_4, u_5, u_7, u_8, u_10, u_11, u_15, u_60, u_100, u_255, u_999, u_1000, u_100000, u_4294967295] at hc16)
      refine g_aload_n (i := 0) dX4_readLine_19 rfl rfl ?_
      refine g_iconst (v := 1) dX4_readLine_20 (by decide) ?_
      refine g_iload_n (i := 1) dX4_readLine_21 rfl rfl ?_
      refine g_callV (M' := mX4_stopAt) dX4_readLine_22 lc_X4_stopAt ml_X4_49 (c_stopAt (L := L) (by assumption) (by assumption) 1 (nI p)) rfl rfl (by repeat' (first | assumption | exact rF_eq | (apply rF_nj; focus decide) | (apply rF_nk; focus omega) | refine rF_a ?_ | exact rA_eq | refine rA_ne (by omega) ?_ | refine rA_f ?_)) rfl ⟨Nat.le_of_ble_eq_true rfl, Nat.le_of_ble_eq_true rfl, Nat.le_of_ble_eq_true rfl, Nat.le_of_ble_eq_true rfl⟩ (Nat.le_of_ble_eq_true rfl) ?_
      intro r_ h_ q_; obtain ⟨q1_, q2_⟩ := q_; have q2_ := q2_.symm; subst q1_; subst q2_
      refine g_iret dX4_readLine_25 rfl (rfl) (hQ _ _ ?_)
      rw [tok_l1 he h1 h2 h3 (by first | exact Or.inl (by omega) | exact Or.inr (by assumption))]
      exact ⟨⟨rfl, pf_stop hr hs v2 w1 1 p (by omega) (by omega) (by omega)⟩, fi_stop⟩
theorem num3 {m : Nat} (h : alB isFg tp m p = true) (hm : m ≤ 3) : ∃ t, numB tp m p 0 = nI t ∧ t ≤ 999 := by
  have hp : 10 ^ m ≤ 10 ^ 3 := Nat.pow_le_pow_right (by omega) hm
  have h3 : (10 : Nat) ^ 3 = 1000 := by decide
  obtain ⟨b, b1, b2⟩ := numB_b m p 0 h (by omega)
  exact ⟨b, b1, by omega⟩
theorem c_readNumber (hr : RdX h I L 0 d cn bg) (hs : StX h I tx rl lk tm wi lo hi tu sz ws (nI pn) (nI nl)) (hv : InvP L tp tx rl lk tm wi lo hi cn bg sz d M T nl pn p) (hpL : p < L) (he : fwd isRw L tp p = e) (h1 : ¬ (tp p).toInt = 41) (h2 : ¬ e = p) (h3 : ¬ (e < L ∧ (tp e).toInt = 59)) : CT mX4_readNumber 2 0 0 [.ref 6, .int (nI p), .int (nI e)] h (fun r h' => OutX I L tp r h' (tokB L tp (d, M, T, nl, pn) p) ∧ FrI I h h') := by
  have hpe := fwd_le (q := isRw) (tp := tp) (show p ≤ L by omega)
  rw [he] at hpe
  obtain ⟨hpe, heL⟩ := hpe
  have hb2 := fwd_le (q := isBl) (tp := tp) heL
  generalize hb : fwd isBl L tp e = b at hb2
  obtain ⟨heb, hbL⟩ := hb2
  obtain ⟨⟨v1, v2, v3, v4, v5⟩, w1, -⟩ := id hv
  have hI := hr.1
  have htx := txx_of hr hs v2 w1
  obtain ⟨-, r1, r2, r3, r4, r5, r6, r7, r8, r9⟩ := id hr
  obtain ⟨s0, s1, s2, s3, s4, s5, s6, s7, s8, b1, b2, b3, b4, b5, b6, b7, b8, g8, g9, g10, g11⟩ := id hs
  refine CT.go [.ref 6, .int (nI p), .int (nI e), hU, hU] (by decide +kernel) rfl rfl (fun Q' hQ => ?_)
  refine g_aload_n (i := 0) dX4_readNumber_0 rfl rfl ?_
  refine g_iload_n (i := 2) dX4_readNumber_1 rfl rfl ?_
  refine g_callV (M' := mX4_behindBlanks) dX4_readNumber_2 lc_X4_behindBlanks ml_X4_42 (c_bblanks htx heL) rfl rfl (by repeat' (first | assumption | exact rF_eq | (apply rF_nj; focus decide) | (apply rF_nk; focus omega) | refine rF_a ?_ | exact rA_eq | refine rA_ne (by omega) ?_ | refine rA_f ?_)) rfl ⟨Nat.le_of_ble_eq_true rfl, Nat.le_of_ble_eq_true rfl, Nat.le_of_ble_eq_true rfl, Nat.le_of_ble_eq_true rfl⟩ (Nat.le_of_ble_eq_true rfl) ?_
  intro r_ h_ q_; obtain ⟨q1_, q2_⟩ := q_; have q2_ := q2_.symm; subst q1_; subst q2_
  rw [hb]
  refine g_istore_n (i := 3) dX4_readNumber_5 rfl (Nat.le_of_ble_eq_true rfl) rfl ?_
  refine g_iload_n (i := 2) dX4_readNumber_6 rfl rfl ?_
  refine g_iload_n (i := 1) dX4_readNumber_7 rfl rfl ?_
  refine g_isub dX4_readNumber_8 ?_
  rw [n_sub hpe]
  refine g_iconst (v := 3) dX4_readNumber_9 (by decide) ?_
  refine g_icmp_gt (tgt := 32) dX4_readNumber_10 (by decide) (fun hc10 => ?_) (fun hc10 => ?_)
  · (try simp (disch := omega) only [nT, t_m1000100, t_m1000010, t_m1000003, t_m1000002, t_m1000001, t_m1000000, t_m65535, t_m1000, t_m3, t_m1, t_0, t_1, t_2, t_3, t_4, t_5, t_6, t_7, t_8, t_9, t_10, t_11, t_12, t_13, t_15, t_16, t_20, t_21, t_22, t_32, t_40, t_41, t_48, t_49, t_57, t_59, t_60, t_63, t_72, t_76, t_88, t_100, t_144, t_200, t_255, t_288, t_400, t_800, t_999, t_1000, t_1024, t_1200, t_1600, t_3200, t_100000, t_200000, t_252645135, t_858993459, t_1431655765, u_m1000002, u_m1000001, u_m1000, u_m3, u_m1, u_0, u_1, u_2, u_3, u_4, u_5, u_7, u_8, u_10, u_11, u_15, u_60, u_100, u_255, u_999, u_1000, u_100000, u_4294967295] at hc10)
    refine g_aload_n (i := 0) dX4_readNumber_32 rfl rfl ?_
    refine g_iconst (v := 1) dX4_readNumber_33 (by decide) ?_
    refine g_iload_n (i := 1) dX4_readNumber_34 rfl rfl ?_
    refine g_callV (M' := mX4_stopAt) dX4_readNumber_35 lc_X4_stopAt ml_X4_49 (c_stopAt (L := L) (by assumption) (by assumption) 1 (nI p)) rfl rfl (by repeat' (first | assumption | exact rF_eq | (apply rF_nj; focus decide) | (apply rF_nk; focus omega) | refine rF_a ?_ | exact rA_eq | refine rA_ne (by omega) ?_ | refine rA_f ?_)) rfl ⟨Nat.le_of_ble_eq_true rfl, Nat.le_of_ble_eq_true rfl, Nat.le_of_ble_eq_true rfl, Nat.le_of_ble_eq_true rfl⟩ (Nat.le_of_ble_eq_true rfl) ?_
    intro r_ h_ q_; obtain ⟨q1_, q2_⟩ := q_; have q2_ := q2_.symm; subst q1_; subst q2_
    refine g_iret dX4_readNumber_38 rfl (rfl) (hQ _ _ ?_)
    rw [tok_n1 he hb h1 h2 h3 (by first | exact Or.inl (by omega) | exact Or.inr (Or.inl (by assumption)) | exact Or.inr (Or.inr (by assumption)))]
    exact ⟨⟨rfl, pf_stop hr hs v2 w1 1 p (by omega) (by omega) (by omega)⟩, fi_stop⟩
  · (try simp (disch := omega) only [nT, t_m1000100, t_m1000010, t_m1000003, t_m1000002, t_m1000001, t_m1000000, t_m65535, t_m1000, t_m3, t_m1, t_0, t_1, t_2, t_3, t_4, t_5, t_6, t_7, t_8, t_9, t_10, t_11, t_12, t_13, t_15, t_16, t_20, t_21, t_22, t_32, t_40, t_41, t_48, t_49, t_57, t_59, t_60, t_63, t_72, t_76, t_88, t_100, t_144, t_200, t_255, t_288, t_400, t_800, t_999, t_1000, t_1024, t_1200, t_1600, t_3200, t_100000, t_200000, t_252645135, t_858993459, t_1431655765, u_m1000002, u_m1000001, u_m1000, u_m3, u_m1, u_0, u_1, u_2, u_3, u_4, u_5, u_7, u_8, u_10, u_11, u_15, u_60, u_100, u_255, u_999, u_1000, u_100000, u_4294967295] at hc10)
    refine g_aload_n (i := 0) dX4_readNumber_13 rfl rfl ?_
    refine g_iload_n (i := 1) dX4_readNumber_14 rfl rfl ?_
    refine g_iload_n (i := 2) dX4_readNumber_15 rfl rfl ?_
    refine g_callV (M' := mX4_areFigures) dX4_readNumber_16 lc_X4_areFigures ml_X4_95 (c_areFigures htx hpe heL) rfl rfl (by repeat' (first | assumption | exact rF_eq | (apply rF_nj; focus decide) | (apply rF_nk; focus omega) | refine rF_a ?_ | exact rA_eq | refine rA_ne (by omega) ?_ | refine rA_f ?_)) rfl ⟨Nat.le_of_ble_eq_true rfl, Nat.le_of_ble_eq_true rfl, Nat.le_of_ble_eq_true rfl, Nat.le_of_ble_eq_true rfl⟩ (Nat.le_of_ble_eq_true rfl) ?_
    intro r_ h_ q_; obtain ⟨q1_, q2_⟩ := q_; have q2_ := q2_.symm; subst q1_; subst q2_
    refine g_if_eq (tgt := 32) dX4_readNumber_19 (by decide) (fun hc19 => ?_) (fun hc19 => ?_)
    · replace hc19 := bI_0.mp hc19
      (try simp (disch := omega) only [nT, t_m1000100, t_m1000010, t_m1000003, t_m1000002, t_m1000001, t_m1000000, t_m65535, t_m1000, t_m3, t_m1, t_0, t_1, t_2, t_3, t_4, t_5, t_6, t_7, t_8, t_9, t_10, t_11, t_12, t_13, t_15, t_16, t_20, t_21, t_22, t_32, t_40, t_41, t_48, t_49, t_57, t_59, t_60, t_63, t_72, t_76, t_88, t_100, t_144, t_200, t_255, t_288, t_400, t_800, t_999, t_1000, t_1024, t_1200, t_1600, t_3200, t_100000, t_200000, t_252645135, t_858993459, t_1431655765, u_m1000002, u_m1000001, u_m1000, u_m3, u_m1, u_0, u_1, u_2, u_3, u_4, u_5, u_7, u_8, u_10, u_11, u_15, u_60, u_100, u_255, u_999, u_1000, u_100000, u_4294967295] at hc19)
      refine g_aload_n (i := 0) dX4_readNumber_32 rfl rfl ?_
      refine g_iconst (v := 1) dX4_readNumber_33 (by decide) ?_
      refine g_iload_n (i := 1) dX4_readNumber_34 rfl rfl ?_
      refine g_callV (M' := mX4_stopAt) dX4_readNumber_35 lc_X4_stopAt ml_X4_49 (c_stopAt (L := L) (by assumption) (by assumption) 1 (nI p)) rfl rfl (by repeat' (first | assumption | exact rF_eq | (apply rF_nj; focus decide) | (apply rF_nk; focus omega) | refine rF_a ?_ | exact rA_eq | refine rA_ne (by omega) ?_ | refine rA_f ?_)) rfl ⟨Nat.le_of_ble_eq_true rfl, Nat.le_of_ble_eq_true rfl, Nat.le_of_ble_eq_true rfl, Nat.le_of_ble_eq_true rfl⟩ (Nat.le_of_ble_eq_true rfl) ?_
      intro r_ h_ q_; obtain ⟨q1_, q2_⟩ := q_; have q2_ := q2_.symm; subst q1_; subst q2_
      refine g_iret dX4_readNumber_38 rfl (rfl) (hQ _ _ ?_)
      rw [tok_n1 he hb h1 h2 h3 (by first | exact Or.inl (by omega) | exact Or.inr (Or.inl (by assumption)) | exact Or.inr (Or.inr (by assumption)))]
      exact ⟨⟨rfl, pf_stop hr hs v2 w1 1 p (by omega) (by omega) (by omega)⟩, fi_stop⟩
    · replace hc19 := bI_n0.mp hc19
      (try simp (disch := omega) only [nT, t_m1000100, t_m1000010, t_m1000003, t_m1000002, t_m1000001, t_m1000000, t_m65535, t_m1000, t_m3, t_m1, t_0, t_1, t_2, t_3, t_4, t_5, t_6, t_7, t_8, t_9, t_10, t_11, t_12, t_13, t_15, t_16, t_20, t_21, t_22, t_32, t_40, t_41, t_48, t_49, t_57, t_59, t_60, t_63, t_72, t_76, t_88, t_100, t_144, t_200, t_255, t_288, t_400, t_800, t_999, t_1000, t_1024, t_1200, t_1600, t_3200, t_100000, t_200000, t_252645135, t_858993459, t_1431655765, u_m1000002, u_m1000001, u_m1000, u_m3, u_m1, u_0, u_1, u_2, u_3, u_4, u_5, u_7, u_8, u_10, u_11, u_15, u_60, u_100, u_255, u_999, u_1000, u_100000, u_4294967295] at hc19)
      refine g_aload_n (i := 0) dX4_readNumber_22 rfl rfl ?_
      refine g_iload_n (i := 3) dX4_readNumber_23 rfl rfl ?_
      refine g_bipush (v := 40) dX4_readNumber_24 (by decide) ?_
      refine g_callV (M' := mX4_isAt) dX4_readNumber_26 lc_X4_isAt ml_X4_65 (c_isAt htx hbL (k := 40) rfl) rfl rfl (by repeat' (first | assumption | exact rF_eq | (apply rF_nj; focus decide) | (apply rF_nk; focus omega) | refine rF_a ?_ | exact rA_eq | refine rA_ne (by omega) ?_ | refine rA_f ?_)) rfl ⟨Nat.le_of_ble_eq_true rfl, Nat.le_of_ble_eq_true rfl, Nat.le_of_ble_eq_true rfl, Nat.le_of_ble_eq_true rfl⟩ (Nat.le_of_ble_eq_true rfl) ?_
      intro r_ h_ q_; obtain ⟨q1_, q2_⟩ := q_; have q2_ := q2_.symm; subst q1_; subst q2_
      refine g_if_ne (tgt := 39) dX4_readNumber_29 (by decide) (fun hc29 => ?_) (fun hc29 => ?_)
      · replace hc29 := bI_n0.mp hc29
        (try simp (disch := omega) only [nT, t_m1000100, t_m1000010, t_m1000003, t_m1000002, t_m1000001, t_m1000000, t_m65535, t_m1000, t_m3, t_m1, t_0, t_1, t_2, t_3, t_4, t_5, t_6, t_7, t_8, t_9, t_10, t_11, t_12, t_13, t_15, t_16, t_20, t_21, t_22, t_32, t_40, t_41, t_48, t_49, t_57, t_59, t_60, t_63, t_72, t_76, t_88, t_100, t_144, t_200, t_255, t_288, t_400, t_800, t_999, t_1000, t_1024, t_1200, t_1600, t_3200, t_100000, t_200000, t_252645135, t_858993459, t_1431655765, u_m1000002, u_m1000001, u_m1000, u_m3, u_m1, u_0, u_1, u_2, u_3, u_4, u_5, u_7, u_8, u_10, u_11, u_15, u_60, u_100, u_255, u_999, u_1000, u_100000, u_4294967295] at hc29)
        refine g_aload_n (i := 0) dX4_readNumber_39 rfl rfl ?_
        refine g_iload_n (i := 1) dX4_readNumber_40 rfl rfl ?_
        refine g_iload_n (i := 2) dX4_readNumber_41 rfl rfl ?_
        refine g_callV (M' := mX4_numberAt) dX4_readNumber_42 lc_X4_numberAt ml_X4_98 (c_numberAt htx hpe heL) rfl rfl (by repeat' (first | assumption | exact rF_eq | (apply rF_nj; focus decide) | (apply rF_nk; focus omega) | refine rF_a ?_ | exact rA_eq | refine rA_ne (by omega) ?_ | refine rA_f ?_)) rfl ⟨Nat.le_of_ble_eq_true rfl, Nat.le_of_ble_eq_true rfl, Nat.le_of_ble_eq_true rfl, Nat.le_of_ble_eq_true rfl⟩ (Nat.le_of_ble_eq_true rfl) ?_
        intro r_ h_ q_; obtain ⟨q1_, q2_⟩ := q_; have q2_ := q2_.symm; subst q1_; subst q2_
        obtain ⟨t, ht, ht9⟩ := num3 (m := e - p) (p := p) (tp := tp) (by assumption) (by omega)
        have hq4 : ¬ (3 < e - p ∨ ¬ alB isFg tp (e - p) p = true ∨ ¬ (b < L ∧ (tp b).toInt = 40)) := fun q => by rcases q with q | q | q; omega; exact q (by assumption); exact q (by assumption)
        rw [ht]
        refine g_istore dX4_readNumber_45 (Nat.le_of_ble_eq_true rfl) rfl ?_
        refine g_iload dX4_readNumber_47 rfl ?_
        refine g_if_ne (tgt := 59) dX4_readNumber_49 (by decide) (fun hc49 => ?_) (fun hc49 => ?_)
        · have hd49 := mt i_eq.mpr hc49; (try simp (disch := omega) only [nT, t_m1000100, t_m1000010, t_m1000003, t_m1000002, t_m1000001, t_m1000000, t_m65535, t_m1000, t_m3, t_m1, t_0, t_1, t_2, t_3, t_4, t_5, t_6, t_7, t_8, t_9, t_10, t_11, t_12, t_13, t_15, t_16, t_20, t_21, t_22, t_32, t_40, t_41, t_48, t_49, t_57, t_59, t_60, t_63, t_72, t_76, t_88, t_100, t_144, t_200, t_255, t_288, t_400, t_800, t_999, t_1000, t_1024, t_1200, t_1600, t_3200, t_100000, t_200000, t_252645135, t_858993459, t_1431655765, u_m1000002, u_m1000001, u_m1000, u_m3, u_m1, u_0, u_1, u_2, u_3, u_4, u_5, u_7, u_8, u_10, u_11, u_15, u_60, u_100, u_255, u_999, u_1000, u_100000, u_4294967295] at hd49)
          refine g_aload_n (i := 0) dX4_readNumber_59 rfl rfl ?_
          refine g_get dX4_readNumber_60 fl_X4_28 (by repeat' (first | assumption | exact rF_eq | (apply rF_nj; focus decide) | (apply rF_nk; focus omega) | refine rF_a ?_ | exact rA_eq | refine rA_ne (by omega) ?_ | refine rA_f ?_)) (by repeat' (first | assumption | exact rF_eq | (apply rF_nj; focus decide) | (apply rF_nk; focus omega) | refine rF_a ?_ | exact rA_eq | refine rA_ne (by omega) ?_ | refine rA_f ?_)) ?_
          refine g_bipush (v := 6) dX4_readNumber_63 (by decide) ?_
          refine g_icmp_ne (tgt := 75) dX4_readNumber_65 (by decide) (fun hc65 => ?_) (fun hc65 => ?_)
          · have hd65 := mt i_eq.mpr hc65; (try simp (disch := omega) only [nT, t_m1000100, t_m1000010, t_m1000003, t_m1000002, t_m1000001, t_m1000000, t_m65535, t_m1000, t_m3, t_m1, t_0, t_1, t_2, t_3, t_4, t_5, t_6, t_7, t_8, t_9, t_10, t_11, t_12, t_13, t_15, t_16, t_20, t_21, t_22, t_32, t_40, t_41, t_48, t_49, t_57, t_59, t_60, t_63, t_72, t_76, t_88, t_100, t_144, t_200, t_255, t_288, t_400, t_800, t_999, t_1000, t_1024, t_1200, t_1600, t_3200, t_100000, t_200000, t_252645135, t_858993459, t_1431655765, u_m1000002, u_m1000001, u_m1000, u_m3, u_m1, u_0, u_1, u_2, u_3, u_4, u_5, u_7, u_8, u_10, u_11, u_15, u_60, u_100, u_255, u_999, u_1000, u_100000, u_4294967295] at hd65)
            refine g_aload_n (i := 0) dX4_readNumber_75 rfl rfl ?_
            refine g_dup dX4_readNumber_76 rfl ?_
            refine g_get dX4_readNumber_77 fl_X4_28 (by repeat' (first | assumption | exact rF_eq | (apply rF_nj; focus decide) | (apply rF_nk; focus omega) | refine rF_a ?_ | exact rA_eq | refine rA_ne (by omega) ?_ | refine rA_f ?_)) (by repeat' (first | assumption | exact rF_eq | (apply rF_nj; focus decide) | (apply rF_nk; focus omega) | refine rF_a ?_ | exact rA_eq | refine rA_ne (by omega) ?_ | refine rA_f ?_)) ?_
            refine g_iconst (v := 1) dX4_readNumber_80 (by decide) ?_
            refine g_iadd dX4_readNumber_81 ?_
            rw [ni_inc]
            refine g_put dX4_readNumber_82 pl_X4_28 (by repeat' (first | assumption | exact rF_eq | (apply rF_nj; focus decide) | (apply rF_nk; focus omega) | refine rF_a ?_ | exact rA_eq | refine rA_ne (by omega) ?_ | refine rA_f ?_)) (fun _ => ⟨rfl, rfl⟩) ?_
            refine g_aload_n (i := 0) dX4_readNumber_85 rfl rfl ?_
            refine g_get dX4_readNumber_86 fl_X4_31 (by repeat' (first | assumption | exact rF_eq | (apply rF_nj; focus decide) | (apply rF_nk; focus omega) | refine rF_a ?_ | exact rA_eq | refine rA_ne (by omega) ?_ | refine rA_f ?_)) (by repeat' (first | assumption | exact rF_eq | (apply rF_nj; focus decide) | (apply rF_nk; focus omega) | refine rF_a ?_ | exact rA_eq | refine rA_ne (by omega) ?_ | refine rA_f ?_)) ?_
            refine g_aload_n (i := 0) dX4_readNumber_89 rfl rfl ?_
            refine g_get dX4_readNumber_90 fl_X4_28 (by repeat' (first | assumption | exact rF_eq | (apply rF_nj; focus decide) | (apply rF_nk; focus omega) | refine rF_a ?_ | exact rA_eq | refine rA_ne (by omega) ?_ | refine rA_f ?_)) (by repeat' (first | assumption | exact rF_eq | (apply rF_nj; focus decide) | (apply rF_nk; focus omega) | refine rF_a ?_ | exact rA_eq | refine rA_ne (by omega) ?_ | refine rA_f ?_)) ?_
            refine g_iconst (v := 0) dX4_readNumber_93 (by decide) ?_
            refine g_iast dX4_readNumber_94 (by repeat' (first | assumption | exact rF_eq | (apply rF_nj; focus decide) | (apply rF_nk; focus omega) | refine rF_a ?_ | exact rA_eq | refine rA_ne (by omega) ?_ | refine rA_f ?_)) (nT (by omega)) (by omega) ?_
            refine g_aload_n (i := 0) dX4_readNumber_95 rfl rfl ?_
            refine g_get dX4_readNumber_96 fl_X4_35 (by repeat' (first | assumption | exact rF_eq | (apply rF_nj; focus decide) | (apply rF_nk; focus omega) | refine rF_a ?_ | exact rA_eq | refine rA_ne (by omega) ?_ | refine rA_f ?_)) (by repeat' (first | assumption | exact rF_eq | (apply rF_nj; focus decide) | (apply rF_nk; focus omega) | refine rF_a ?_ | exact rA_eq | refine rA_ne (by omega) ?_ | refine rA_f ?_)) ?_
            refine g_aload_n (i := 0) dX4_readNumber_99 rfl rfl ?_
            refine g_get dX4_readNumber_100 fl_X4_28 (by repeat' (first | assumption | exact rF_eq | (apply rF_nj; focus decide) | (apply rF_nk; focus omega) | refine rF_a ?_ | exact rA_eq | refine rA_ne (by omega) ?_ | refine rA_f ?_)) (by repeat' (first | assumption | exact rF_eq | (apply rF_nj; focus decide) | (apply rF_nk; focus omega) | refine rF_a ?_ | exact rA_eq | refine rA_ne (by omega) ?_ | refine rA_f ?_)) ?_
            refine g_aload_n (i := 0) dX4_readNumber_103 rfl rfl ?_
            refine g_get dX4_readNumber_104 fl_X4_12 (by repeat' (first | assumption | exact rF_eq | (apply rF_nj; focus decide) | (apply rF_nk; focus omega) | refine rF_a ?_ | exact rA_eq | refine rA_ne (by omega) ?_ | refine rA_f ?_)) (by repeat' (first | assumption | exact rF_eq | (apply rF_nj; focus decide) | (apply rF_nk; focus omega) | refine rF_a ?_ | exact rA_eq | refine rA_ne (by omega) ?_ | refine rA_f ?_)) ?_
            refine g_iload dX4_readNumber_107 rfl ?_
            refine g_callV (M' := mX2_beginLoop) dX4_readNumber_109 lc_X2_beginLoop ml_X4_101 (c_beginLoop (stx_16 hI (stx_6 hI hs 4 _) _) (nI t) (by omega)) rfl rfl (by repeat' (first | assumption | exact rF_eq | (apply rF_nj; focus decide) | (apply rF_nk; focus omega) | refine rF_a ?_ | exact rA_eq | refine rA_ne (by omega) ?_ | refine rA_f ?_)) rfl ⟨Nat.le_of_ble_eq_true rfl, Nat.le_of_ble_eq_true rfl, Nat.le_of_ble_eq_true rfl, Nat.le_of_ble_eq_true rfl⟩ (Nat.le_of_ble_eq_true rfl) ?_
            intro r_ h_ q_; obtain ⟨rfl, hs2, hf2⟩ := q_
            refine g_iast dX4_readNumber_112 (by exact (hf2.1 17 (by omega)).trans (rA_ne (by decide) r9)) (nT (by omega)) (by omega) ?_
            refine g_iload_n (i := 3) dX4_readNumber_113 rfl rfl ?_
            refine g_iconst (v := 1) dX4_readNumber_114 (by decide) ?_
            refine g_iadd dX4_readNumber_115 ?_
            rw [ni_inc]
            refine g_iret dX4_readNumber_116 rfl (rfl) (hQ _ _ ?_)
            have hk := tok_n he hb h1 h2 h3 hq4 (by rw [ht, nT (by omega)]; omega) (by omega) (d := d) (M := M) (T := T) (nl := nl) (pn := pn)
            rw [ht, nTN (by omega)] at hk
            rw [hk]
            exact ⟨⟨rfl, tx, _, lk, _, wi, lo, hi, tu, _, _, sz + 1, ws, rdx_17 (rdx_st (rdx_16 (rdx_d hr (d + 1)) _) (hf2.1 6 (by omega)) (fun j => hf2.2 6 j (by omega)) (hf2.1 16 (by omega)) (hf2.1 17 (by omega))) _, stx_17 hI hs2 _, inv_open hv (by omega) (by omega) (by omega) (by omega) ht9⟩, fi_sA (by omega) (fi_tr (fi_sA (by omega) (fi_sF (by omega) fi_rf)) (fj_fi hf2))⟩
          · have hd65 := i_eq.mp hc65; (try simp (disch := omega) only [nT, t_m1000100, t_m1000010, t_m1000003, t_m1000002, t_m1000001, t_m1000000, t_m65535, t_m1000, t_m3, t_m1, t_0, t_1, t_2, t_3, t_4, t_5, t_6, t_7, t_8, t_9, t_10, t_11, t_12, t_13, t_15, t_16, t_20, t_21, t_22, t_32, t_40, t_41, t_48, t_49, t_57, t_59, t_60, t_63, t_72, t_76, t_88, t_100, t_144, t_200, t_255, t_288, t_400, t_800, t_999, t_1000, t_1024, t_1200, t_1600, t_3200, t_100000, t_200000, t_252645135, t_858993459, t_1431655765, u_m1000002, u_m1000001, u_m1000, u_m3, u_m1, u_0, u_1, u_2, u_3, u_4, u_5, u_7, u_8, u_10, u_11, u_15, u_60, u_100, u_255, u_999, u_1000, u_100000, u_4294967295] at hd65)
            refine g_aload_n (i := 0) dX4_readNumber_68 rfl rfl ?_
            refine g_iconst (v := 4) dX4_readNumber_69 (by decide) ?_
            refine g_iload_n (i := 1) dX4_readNumber_70 rfl rfl ?_
            refine g_callV (M' := mX4_stopAt) dX4_readNumber_71 lc_X4_stopAt ml_X4_49 (c_stopAt (L := L) (by assumption) (by assumption) 4 (nI p)) rfl rfl (by repeat' (first | assumption | exact rF_eq | (apply rF_nj; focus decide) | (apply rF_nk; focus omega) | refine rF_a ?_ | exact rA_eq | refine rA_ne (by omega) ?_ | refine rA_f ?_)) rfl ⟨Nat.le_of_ble_eq_true rfl, Nat.le_of_ble_eq_true rfl, Nat.le_of_ble_eq_true rfl, Nat.le_of_ble_eq_true rfl⟩ (Nat.le_of_ble_eq_true rfl) ?_
            intro r_ h_ q_; obtain ⟨q1_, q2_⟩ := q_; have q2_ := q2_.symm; subst q1_; subst q2_
            refine g_iret dX4_readNumber_74 rfl (rfl) (hQ _ _ ?_)
            rw [tok_n4 he hb h1 h2 h3 hq4 (by rw [ht, nT (by omega)]; omega) (by omega)]
            exact ⟨⟨rfl, pf_stop hr hs v2 w1 4 p (by omega) (by omega) (by omega)⟩, fi_stop⟩
        · have hd49 := i_eq.mp hc49; (try simp (disch := omega) only [nT, t_m1000100, t_m1000010, t_m1000003, t_m1000002, t_m1000001, t_m1000000, t_m65535, t_m1000, t_m3, t_m1, t_0, t_1, t_2, t_3, t_4, t_5, t_6, t_7, t_8, t_9, t_10, t_11, t_12, t_13, t_15, t_16, t_20, t_21, t_22, t_32, t_40, t_41, t_48, t_49, t_57, t_59, t_60, t_63, t_72, t_76, t_88, t_100, t_144, t_200, t_255, t_288, t_400, t_800, t_999, t_1000, t_1024, t_1200, t_1600, t_3200, t_100000, t_200000, t_252645135, t_858993459, t_1431655765, u_m1000002, u_m1000001, u_m1000, u_m3, u_m1, u_0, u_1, u_2, u_3, u_4, u_5, u_7, u_8, u_10, u_11, u_15, u_60, u_100, u_255, u_999, u_1000, u_100000, u_4294967295] at hd49)
          refine g_aload_n (i := 0) dX4_readNumber_52 rfl rfl ?_
          refine g_iconst (v := 3) dX4_readNumber_53 (by decide) ?_
          refine g_iload_n (i := 1) dX4_readNumber_54 rfl rfl ?_
          refine g_callV (M' := mX4_stopAt) dX4_readNumber_55 lc_X4_stopAt ml_X4_49 (c_stopAt (L := L) (by assumption) (by assumption) 3 (nI p)) rfl rfl (by repeat' (first | assumption | exact rF_eq | (apply rF_nj; focus decide) | (apply rF_nk; focus omega) | refine rF_a ?_ | exact rA_eq | refine rA_ne (by omega) ?_ | refine rA_f ?_)) rfl ⟨Nat.le_of_ble_eq_true rfl, Nat.le_of_ble_eq_true rfl, Nat.le_of_ble_eq_true rfl, Nat.le_of_ble_eq_true rfl⟩ (Nat.le_of_ble_eq_true rfl) ?_
          intro r_ h_ q_; obtain ⟨q1_, q2_⟩ := q_; have q2_ := q2_.symm; subst q1_; subst q2_
          refine g_iret dX4_readNumber_58 rfl (rfl) (hQ _ _ ?_)
          rw [tok_n3 he hb h1 h2 h3 hq4 (by rw [ht, nT (by omega)]; omega)]
          exact ⟨⟨rfl, pf_stop hr hs v2 w1 3 p (by omega) (by omega) (by omega)⟩, fi_stop⟩
      · replace hc29 := bI_0.mp hc29
        (try simp (disch := omega) only [nT, t_m1000100, t_m1000010, t_m1000003, t_m1000002, t_m1000001, t_m1000000, t_m65535, t_m1000, t_m3, t_m1, t_0, t_1, t_2, t_3, t_4, t_5, t_6, t_7, t_8, t_9, t_10, t_11, t_12, t_13, t_15, t_16, t_20, t_21, t_22, t_32, t_40, t_41, t_48, t_49, t_57, t_59, t_60, t_63, t_72, t_76, t_88, t_100, t_144, t_200, t_255, t_288, t_400, t_800, t_999, t_1000, t_1024, t_1200, t_1600, t_3200, t_100000, t_200000, t_252645135, t_858993459, t_1431655765, u_m1000002, u_m1000001, u_m1000, u_m3, u_m1, u_0, u_1, u_2, u_3, u_4, u_5, u_7, u_8, u_10, u_11, u_15, u_60, u_100, u_255, u_999, u_1000, u_100000, u_4294967295] at hc29)
        refine g_aload_n (i := 0) dX4_readNumber_32 rfl rfl ?_
        refine g_iconst (v := 1) dX4_readNumber_33 (by decide) ?_
        refine g_iload_n (i := 1) dX4_readNumber_34 rfl rfl ?_
        refine g_callV (M' := mX4_stopAt) dX4_readNumber_35 lc_X4_stopAt ml_X4_49 (c_stopAt (L := L) (by assumption) (by assumption) 1 (nI p)) rfl rfl (by repeat' (first | assumption | exact rF_eq | (apply rF_nj; focus decide) | (apply rF_nk; focus omega) | refine rF_a ?_ | exact rA_eq | refine rA_ne (by omega) ?_ | refine rA_f ?_)) rfl ⟨Nat.le_of_ble_eq_true rfl, Nat.le_of_ble_eq_true rfl, Nat.le_of_ble_eq_true rfl, Nat.le_of_ble_eq_true rfl⟩ (Nat.le_of_ble_eq_true rfl) ?_
        intro r_ h_ q_; obtain ⟨q1_, q2_⟩ := q_; have q2_ := q2_.symm; subst q1_; subst q2_
        refine g_iret dX4_readNumber_38 rfl (rfl) (hQ _ _ ?_)
        rw [tok_n1 he hb h1 h2 h3 (by first | exact Or.inl (by omega) | exact Or.inr (Or.inl (by assumption)) | exact Or.inr (Or.inr (by assumption)))]
        exact ⟨⟨rfl, pf_stop hr hs v2 w1 1 p (by omega) (by omega) (by omega)⟩, fi_stop⟩
theorem c_readEnd (hr : RdX h I L 0 d cn bg) (hs : StX h I tx rl lk tm wi lo hi tu sz ws (nI pn) (nI nl)) (hv : InvP L tp tx rl lk tm wi lo hi cn bg sz d M T nl pn p) (hpL : p < L) (h1 : (tp p).toInt = 41) : CT mX4_readEnd 1 0 0 [.ref 6, .int (nI p)] h (fun r h' => OutX I L tp r h' (tokB L tp (d, M, T, nl, pn) p) ∧ FrI I h h') := by
  obtain ⟨⟨v1, v2, v3, v4, v5⟩, w1, -⟩ := id hv
  have hI := hr.1
  refine CT.go [.ref 6, .int (nI p), hU, hU] (by decide +kernel) rfl rfl (fun Q' hQ => ?_)
  rcases d with _ | d
  · obtain ⟨-, r1, r2, r3, r4, r5, r6, r7, r8, r9⟩ := id hr
    refine g_aload_n (i := 0) dX4_readEnd_0 rfl rfl ?_
    refine g_get dX4_readEnd_1 fl_X4_28 (by repeat' (first | assumption | exact rF_eq | (apply rF_nj; focus decide) | (apply rF_nk; focus omega) | refine rF_a ?_ | exact rA_eq | refine rA_ne (by omega) ?_ | refine rA_f ?_)) (by repeat' (first | assumption | exact rF_eq | (apply rF_nj; focus decide) | (apply rF_nk; focus omega) | refine rF_a ?_ | exact rA_eq | refine rA_ne (by omega) ?_ | refine rA_f ?_)) ?_
    refine g_if_ne (tgt := 14) dX4_readEnd_4 (by decide) (fun hc4 => ?_) (fun hc4 => ?_)
    · have hd4 := mt i_eq.mpr hc4; (try simp (disch := omega) only [nT, t_m1000100, t_m1000010, t_m1000003, t_m1000002, t_m1000001, t_m1000000, t_m65535, t_m1000, t_m3, t_m1, t_0, t_1, t_2, t_3, t_4, t_5, t_6, t_7, t_8, t_9, t_10, t_11, t_12, t_13, t_15, t_16, t_20, t_21, t_22, t_32, t_40, t_41, t_48, t_49, t_57, t_59, t_60, t_63, t_72, t_76, t_88, t_100, t_144, t_200, t_255, t_288, t_400, t_800, t_999, t_1000, t_1024, t_1200, t_1600, t_3200, t_100000, t_200000, t_252645135, t_858993459, t_1431655765, u_m1000002, u_m1000001, u_m1000, u_m3, u_m1, u_0, u_1, u_2, u_3, u_4, u_5, u_7, u_8, u_10, u_11, u_15, u_60, u_100, u_255, u_999, u_1000, u_100000, u_4294967295] at hd4); exact absurd rfl hc4
    · have hd4 := i_eq.mp hc4; (try simp (disch := omega) only [nT, t_m1000100, t_m1000010, t_m1000003, t_m1000002, t_m1000001, t_m1000000, t_m65535, t_m1000, t_m3, t_m1, t_0, t_1, t_2, t_3, t_4, t_5, t_6, t_7, t_8, t_9, t_10, t_11, t_12, t_13, t_15, t_16, t_20, t_21, t_22, t_32, t_40, t_41, t_48, t_49, t_57, t_59, t_60, t_63, t_72, t_76, t_88, t_100, t_144, t_200, t_255, t_288, t_400, t_800, t_999, t_1000, t_1024, t_1200, t_1600, t_3200, t_100000, t_200000, t_252645135, t_858993459, t_1431655765, u_m1000002, u_m1000001, u_m1000, u_m3, u_m1, u_0, u_1, u_2, u_3, u_4, u_5, u_7, u_8, u_10, u_11, u_15, u_60, u_100, u_255, u_999, u_1000, u_100000, u_4294967295] at hd4)
      refine g_aload_n (i := 0) dX4_readEnd_7 rfl rfl ?_
      refine g_iconst (v := 1) dX4_readEnd_8 (by decide) ?_
      refine g_iload_n (i := 1) dX4_readEnd_9 rfl rfl ?_
      refine g_callV (M' := mX4_stopAt) dX4_readEnd_10 lc_X4_stopAt ml_X4_49 (c_stopAt (L := L) (by assumption) (by assumption) 1 (nI p)) rfl rfl (by repeat' (first | assumption | exact rF_eq | (apply rF_nj; focus decide) | (apply rF_nk; focus omega) | refine rF_a ?_ | exact rA_eq | refine rA_ne (by omega) ?_ | refine rA_f ?_)) rfl ⟨Nat.le_of_ble_eq_true rfl, Nat.le_of_ble_eq_true rfl, Nat.le_of_ble_eq_true rfl, Nat.le_of_ble_eq_true rfl⟩ (Nat.le_of_ble_eq_true rfl) ?_
      intro r_ h_ q_; obtain ⟨q1_, q2_⟩ := q_; have q2_ := q2_.symm; subst q1_; subst q2_
      refine g_iret dX4_readEnd_13 rfl (rfl) (hQ _ _ ?_)
      rw [tok_c1 h1 rfl]
      exact ⟨⟨rfl, pf_stop hr hs v2 w1 1 p (by omega) (by omega) (by omega)⟩, fi_stop⟩
  · obtain ⟨b, q1, q2, q3, q4, q5⟩ := inv_b hv
    obtain ⟨m1, m2⟩ := inv_n hv (j := d + 1) (by omega)
    obtain ⟨n1, n2⟩ := inv_n hv (j := d) (by omega)
    have hmul : T (d + 1) * (M (d + 1)).length ≤ 999 * 100000 := Nat.mul_le_mul q5 m2
    obtain ⟨-, r1, r2, r3, r4, r5, r6, r7, r8, r9⟩ := id hr
    obtain ⟨s0, s1, s2, s3, s4, s5, s6, s7, s8, b1, b2, b3, b4, b5, b6, b7, b8, g8, g9, g10, g11⟩ := id hs
    refine g_aload_n (i := 0) dX4_readEnd_0 rfl rfl ?_
    refine g_get dX4_readEnd_1 fl_X4_28 (by repeat' (first | assumption | exact rF_eq | (apply rF_nj; focus decide) | (apply rF_nk; focus omega) | refine rF_a ?_ | exact rA_eq | refine rA_ne (by omega) ?_ | refine rA_f ?_)) (by repeat' (first | assumption | exact rF_eq | (apply rF_nj; focus decide) | (apply rF_nk; focus omega) | refine rF_a ?_ | exact rA_eq | refine rA_ne (by omega) ?_ | refine rA_f ?_)) ?_
    refine g_if_ne (tgt := 14) dX4_readEnd_4 (by decide) (fun hc4 => ?_) (fun hc4 => ?_)
    · have hd4 := mt i_eq.mpr hc4; (try simp (disch := omega) only [nT, t_m1000100, t_m1000010, t_m1000003, t_m1000002, t_m1000001, t_m1000000, t_m65535, t_m1000, t_m3, t_m1, t_0, t_1, t_2, t_3, t_4, t_5, t_6, t_7, t_8, t_9, t_10, t_11, t_12, t_13, t_15, t_16, t_20, t_21, t_22, t_32, t_40, t_41, t_48, t_49, t_57, t_59, t_60, t_63, t_72, t_76, t_88, t_100, t_144, t_200, t_255, t_288, t_400, t_800, t_999, t_1000, t_1024, t_1200, t_1600, t_3200, t_100000, t_200000, t_252645135, t_858993459, t_1431655765, u_m1000002, u_m1000001, u_m1000, u_m3, u_m1, u_0, u_1, u_2, u_3, u_4, u_5, u_7, u_8, u_10, u_11, u_15, u_60, u_100, u_255, u_999, u_1000, u_100000, u_4294967295] at hd4)
      refine g_aload_n (i := 0) dX4_readEnd_14 rfl rfl ?_
      refine g_get dX4_readEnd_15 fl_X4_35 (by repeat' (first | assumption | exact rF_eq | (apply rF_nj; focus decide) | (apply rF_nk; focus omega) | refine rF_a ?_ | exact rA_eq | refine rA_ne (by omega) ?_ | refine rA_f ?_)) (by repeat' (first | assumption | exact rF_eq | (apply rF_nj; focus decide) | (apply rF_nk; focus omega) | refine rF_a ?_ | exact rA_eq | refine rA_ne (by omega) ?_ | refine rA_f ?_)) ?_
      refine g_aload_n (i := 0) dX4_readEnd_18 rfl rfl ?_
      refine g_get dX4_readEnd_19 fl_X4_28 (by repeat' (first | assumption | exact rF_eq | (apply rF_nj; focus decide) | (apply rF_nk; focus omega) | refine rF_a ?_ | exact rA_eq | refine rA_ne (by omega) ?_ | refine rA_f ?_)) (by repeat' (first | assumption | exact rF_eq | (apply rF_nj; focus decide) | (apply rF_nk; focus omega) | refine rF_a ?_ | exact rA_eq | refine rA_ne (by omega) ?_ | refine rA_f ?_)) ?_
      refine g_iald dX4_readEnd_22 (by repeat' (first | assumption | exact rF_eq | (apply rF_nj; focus decide) | (apply rF_nk; focus omega) | refine rF_a ?_ | exact rA_eq | refine rA_ne (by omega) ?_ | refine rA_f ?_)) (nT (by omega)) (by omega) ?_
      rw [q1]
      refine g_istore_n (i := 2) dX4_readEnd_23 rfl (Nat.le_of_ble_eq_true rfl) rfl ?_
      refine g_aload_n (i := 0) dX4_readEnd_24 rfl rfl ?_
      refine g_get dX4_readEnd_25 fl_X4_31 (by repeat' (first | assumption | exact rF_eq | (apply rF_nj; focus decide) | (apply rF_nk; focus omega) | refine rF_a ?_ | exact rA_eq | refine rA_ne (by omega) ?_ | refine rA_f ?_)) (by repeat' (first | assumption | exact rF_eq | (apply rF_nj; focus decide) | (apply rF_nk; focus omega) | refine rF_a ?_ | exact rA_eq | refine rA_ne (by omega) ?_ | refine rA_f ?_)) ?_
      refine g_aload_n (i := 0) dX4_readEnd_28 rfl rfl ?_
      refine g_get dX4_readEnd_29 fl_X4_28 (by repeat' (first | assumption | exact rF_eq | (apply rF_nj; focus decide) | (apply rF_nk; focus omega) | refine rF_a ?_ | exact rA_eq | refine rA_ne (by omega) ?_ | refine rA_f ?_)) (by repeat' (first | assumption | exact rF_eq | (apply rF_nj; focus decide) | (apply rF_nk; focus omega) | refine rF_a ?_ | exact rA_eq | refine rA_ne (by omega) ?_ | refine rA_f ?_)) ?_
      refine g_iald dX4_readEnd_32 (by repeat' (first | assumption | exact rF_eq | (apply rF_nj; focus decide) | (apply rF_nk; focus omega) | refine rF_a ?_ | exact rA_eq | refine rA_ne (by omega) ?_ | refine rA_f ?_)) (nT (by omega)) (by omega) ?_
      rw [m1]
      refine g_istore_n (i := 3) dX4_readEnd_33 rfl (Nat.le_of_ble_eq_true rfl) rfl ?_
      refine g_aload_n (i := 0) dX4_readEnd_34 rfl rfl ?_
      refine g_dup dX4_readEnd_35 rfl ?_
      refine g_get dX4_readEnd_36 fl_X4_28 (by repeat' (first | assumption | exact rF_eq | (apply rF_nj; focus decide) | (apply rF_nk; focus omega) | refine rF_a ?_ | exact rA_eq | refine rA_ne (by omega) ?_ | refine rA_f ?_)) (by repeat' (first | assumption | exact rF_eq | (apply rF_nj; focus decide) | (apply rF_nk; focus omega) | refine rF_a ?_ | exact rA_eq | refine rA_ne (by omega) ?_ | refine rA_f ?_)) ?_
      refine g_iconst (v := 1) dX4_readEnd_39 (by decide) ?_
      refine g_isub dX4_readEnd_40 ?_
      rw [n_m1]
      refine g_put dX4_readEnd_41 pl_X4_28 (by repeat' (first | assumption | exact rF_eq | (apply rF_nj; focus decide) | (apply rF_nk; focus omega) | refine rF_a ?_ | exact rA_eq | refine rA_ne (by omega) ?_ | refine rA_f ?_)) (fun _ => ⟨rfl, rfl⟩) ?_
      refine g_aload_n (i := 0) dX4_readEnd_44 rfl rfl ?_
      refine g_get dX4_readEnd_45 fl_X4_31 (by repeat' (first | assumption | exact rF_eq | (apply rF_nj; focus decide) | (apply rF_nk; focus omega) | refine rF_a ?_ | exact rA_eq | refine rA_ne (by omega) ?_ | refine rA_f ?_)) (by repeat' (first | assumption | exact rF_eq | (apply rF_nj; focus decide) | (apply rF_nk; focus omega) | refine rF_a ?_ | exact rA_eq | refine rA_ne (by omega) ?_ | refine rA_f ?_)) ?_
      refine g_aload_n (i := 0) dX4_readEnd_48 rfl rfl ?_
      refine g_get dX4_readEnd_49 fl_X4_28 (by repeat' (first | assumption | exact rF_eq | (apply rF_nj; focus decide) | (apply rF_nk; focus omega) | refine rF_a ?_ | exact rA_eq | refine rA_ne (by omega) ?_ | refine rA_f ?_)) (by repeat' (first | assumption | exact rF_eq | (apply rF_nj; focus decide) | (apply rF_nk; focus omega) | refine rF_a ?_ | exact rA_eq | refine rA_ne (by omega) ?_ | refine rA_f ?_)) ?_
      refine g_dup2 dX4_readEnd_52 rfl rfl ?_
      refine g_iald dX4_readEnd_53 (by repeat' (first | assumption | exact rF_eq | (apply rF_nj; focus decide) | (apply rF_nk; focus omega) | refine rF_a ?_ | exact rA_eq | refine rA_ne (by omega) ?_ | refine rA_f ?_)) (nT (by omega)) (by omega) ?_
      rw [n1]
      refine g_aload_n (i := 0) dX4_readEnd_54 rfl rfl ?_
      refine g_get dX4_readEnd_55 fl_X4_12 (by repeat' (first | assumption | exact rF_eq | (apply rF_nj; focus decide) | (apply rF_nk; focus omega) | refine rF_a ?_ | exact rA_eq | refine rA_ne (by omega) ?_ | refine rA_f ?_)) (by repeat' (first | assumption | exact rF_eq | (apply rF_nj; focus decide) | (apply rF_nk; focus omega) | refine rF_a ?_ | exact rA_eq | refine rA_ne (by omega) ?_ | refine rA_f ?_)) ?_
      refine g_get dX4_readEnd_58 fl_X4_75 (by repeat' (first | assumption | exact rF_eq | (apply rF_nj; focus decide) | (apply rF_nk; focus omega) | refine rF_a ?_ | exact rA_eq | refine rA_ne (by omega) ?_ | refine rA_f ?_)) (by repeat' (first | assumption | exact rF_eq | (apply rF_nj; focus decide) | (apply rF_nk; focus omega) | refine rF_a ?_ | exact rA_eq | refine rA_ne (by omega) ?_ | refine rA_f ?_)) ?_
      refine g_iload_n (i := 2) dX4_readEnd_61 rfl rfl ?_
      refine g_iald dX4_readEnd_62 (by repeat' (first | assumption | exact rF_eq | (apply rF_nj; focus decide) | (apply rF_nk; focus omega) | refine rF_a ?_ | exact rA_eq | refine rA_ne (by omega) ?_ | refine rA_f ?_)) (nT (by omega)) (by omega) ?_
      rw [q3]
      refine g_iload_n (i := 3) dX4_readEnd_63 rfl rfl ?_
      refine g_imul dX4_readEnd_64 ?_
      refine g_iadd dX4_readEnd_65 ?_
      rw [pk_mul, ni_add]
      refine g_iast dX4_readEnd_66 (by repeat' (first | assumption | exact rF_eq | (apply rF_nj; focus decide) | (apply rF_nk; focus omega) | refine rF_a ?_ | exact rA_eq | refine rA_ne (by omega) ?_ | refine rA_f ?_)) (nT (by omega)) (by omega) ?_
      refine g_aload_n (i := 0) dX4_readEnd_67 rfl rfl ?_
      refine g_get dX4_readEnd_68 fl_X4_31 (by repeat' (first | assumption | exact rF_eq | (apply rF_nj; focus decide) | (apply rF_nk; focus omega) | refine rF_a ?_ | exact rA_eq | refine rA_ne (by omega) ?_ | refine rA_f ?_)) (by repeat' (first | assumption | exact rF_eq | (apply rF_nj; focus decide) | (apply rF_nk; focus omega) | refine rF_a ?_ | exact rA_eq | refine rA_ne (by omega) ?_ | refine rA_f ?_)) ?_
      refine g_aload_n (i := 0) dX4_readEnd_71 rfl rfl ?_
      refine g_get dX4_readEnd_72 fl_X4_28 (by repeat' (first | assumption | exact rF_eq | (apply rF_nj; focus decide) | (apply rF_nk; focus omega) | refine rF_a ?_ | exact rA_eq | refine rA_ne (by omega) ?_ | refine rA_f ?_)) (by repeat' (first | assumption | exact rF_eq | (apply rF_nj; focus decide) | (apply rF_nk; focus omega) | refine rF_a ?_ | exact rA_eq | refine rA_ne (by omega) ?_ | refine rA_f ?_)) ?_
      refine g_iald dX4_readEnd_75 (by repeat' (first | assumption | exact rF_eq | (apply rF_nj; focus decide) | (apply rF_nk; focus omega) | refine rF_a ?_ | exact rA_eq | refine rA_ne (by omega) ?_ | refine rA_f ?_)) (nT (by omega)) (by omega) ?_
      rw [upd_s]
      refine g_ldc dX4_readEnd_76 kc_X4_78 ?_
      refine g_icmp_le (tgt := 88) dX4_readEnd_78 (by decide) (fun hc78 => ?_) (fun hc78 => ?_)
      · (try simp (disch := omega) only [nT, t_m1000100, t_m1000010, t_m1000003, t_m1000002, t_m1000001, t_m1000000, t_m65535, t_m1000, t_m3, t_m1, t_0, t_1, t_2, t_3, t_4, t_5, t_6, t_7, t_8, t_9, t_10, t_11, t_12, t_13, t_15, t_16, t_20, t_21, t_22, t_32, t_40, t_41, t_48, t_49, t_57, t_59, t_60, t_63, t_72, t_76, t_88, t_100, t_144, t_200, t_255, t_288, t_400, t_800, t_999, t_1000, t_1024, t_1200, t_1600, t_3200, t_100000, t_200000, t_252645135, t_858993459, t_1431655765, u_m1000002, u_m1000001, u_m1000, u_m3, u_m1, u_0, u_1, u_2, u_3, u_4, u_5, u_7, u_8, u_10, u_11, u_15, u_60, u_100, u_255, u_999, u_1000, u_100000, u_4294967295] at hc78)
        have hov : ¬ 100000 < (M d).length + T (d + 1) * (M (d + 1)).length := by omega
        by_cases hz : (M (d + 1)).length = 0
        · rw [hz] at hc78 ⊢
          refine g_aload_n (i := 0) dX4_readEnd_88 rfl rfl ?_
          refine g_get dX4_readEnd_89 fl_X4_12 (by repeat' (first | assumption | exact rF_eq | (apply rF_nj; focus decide) | (apply rF_nk; focus omega) | refine rF_a ?_ | exact rA_eq | refine rA_ne (by omega) ?_ | refine rA_f ?_)) (by repeat' (first | assumption | exact rF_eq | (apply rF_nj; focus decide) | (apply rF_nk; focus omega) | refine rF_a ?_ | exact rA_eq | refine rA_ne (by omega) ?_ | refine rA_f ?_)) ?_
          refine g_iload_n (i := 2) dX4_readEnd_92 rfl rfl ?_
          refine g_iload_n (i := 3) dX4_readEnd_93 rfl rfl ?_
          refine g_callV (M' := mX2_endLoop) dX4_readEnd_94 lc_X2_endLoop ml_X4_79 (c_endLoop0 (stx_16 hI (stx_6 hI hs 4 _) _) (b := b)) rfl rfl (by repeat' (first | assumption | exact rF_eq | (apply rF_nj; focus decide) | (apply rF_nk; focus omega) | refine rF_a ?_ | exact rA_eq | refine rA_ne (by omega) ?_ | refine rA_f ?_)) rfl ⟨Nat.le_of_ble_eq_true rfl, Nat.le_of_ble_eq_true rfl, Nat.le_of_ble_eq_true rfl, Nat.le_of_ble_eq_true rfl⟩ (Nat.le_of_ble_eq_true rfl) ?_
          intro r_ h_ q_; obtain ⟨rfl, hs2, hf2⟩ := q_
          refine g_iload_n (i := 1) dX4_readEnd_97 rfl rfl ?_
          refine g_iconst (v := 1) dX4_readEnd_98 (by decide) ?_
          refine g_iadd dX4_readEnd_99 ?_
          rw [ni_inc]
          refine g_iret dX4_readEnd_100 rfl (rfl) (hQ _ _ ?_)
          rw [tok_c h1 (by omega) hov]
          exact ⟨⟨rfl, tx, rl, lk, tm, wi, lo, hi, tu, _, bg, b, ws, rdx_st (rdx_16 (rdx_d hr d) _) (hf2.1 6 (by omega)) (fun j => hf2.2 6 j (by omega)) (hf2.1 16 (by omega)) (hf2.1 17 (by omega)), hs2, inv_end0 hv q1 q2 hpL hz _ (by rw [n1, Nat.mul_zero, Nat.add_zero])⟩, fi_tr (fi_sA (by omega) (fi_sF (by omega) fi_rf)) (fj_fi hf2)⟩
        · refine g_aload_n (i := 0) dX4_readEnd_88 rfl rfl ?_
          refine g_get dX4_readEnd_89 fl_X4_12 (by repeat' (first | assumption | exact rF_eq | (apply rF_nj; focus decide) | (apply rF_nk; focus omega) | refine rF_a ?_ | exact rA_eq | refine rA_ne (by omega) ?_ | refine rA_f ?_)) (by repeat' (first | assumption | exact rF_eq | (apply rF_nj; focus decide) | (apply rF_nk; focus omega) | refine rF_a ?_ | exact rA_eq | refine rA_ne (by omega) ?_ | refine rA_f ?_)) ?_
          refine g_iload_n (i := 2) dX4_readEnd_92 rfl rfl ?_
          refine g_iload_n (i := 3) dX4_readEnd_93 rfl rfl ?_
          refine g_callV (M' := mX2_endLoop) dX4_readEnd_94 lc_X2_endLoop ml_X4_79 (c_endLoop (stx_16 hI (stx_6 hI hs 4 _) _) (b := b) q2 (by omega) (by omega) (by omega)) rfl rfl (by repeat' (first | assumption | exact rF_eq | (apply rF_nj; focus decide) | (apply rF_nk; focus omega) | refine rF_a ?_ | exact rA_eq | refine rA_ne (by omega) ?_ | refine rA_f ?_)) rfl ⟨Nat.le_of_ble_eq_true rfl, Nat.le_of_ble_eq_true rfl, Nat.le_of_ble_eq_true rfl, Nat.le_of_ble_eq_true rfl⟩ (Nat.le_of_ble_eq_true rfl) ?_
          intro r_ h_ q_; obtain ⟨rfl, hs2, hf2⟩ := q_
          refine g_iload_n (i := 1) dX4_readEnd_97 rfl rfl ?_
          refine g_iconst (v := 1) dX4_readEnd_98 (by decide) ?_
          refine g_iadd dX4_readEnd_99 ?_
          rw [ni_inc]
          refine g_iret dX4_readEnd_100 rfl (rfl) (hQ _ _ ?_)
          rw [tok_c h1 (by omega) hov]
          exact ⟨⟨rfl, tx, _, _, tm, _, lo, hi, tu, _, bg, sz + 1, ws, rdx_st (rdx_16 (rdx_d hr d) _) (hf2.1 6 (by omega)) (fun j => hf2.2 6 j (by omega)) (hf2.1 16 (by omega)) (hf2.1 17 (by omega)), hs2, inv_end hv q1 q2 hpL (by omega) hov⟩, fi_tr (fi_sA (by omega) (fi_sF (by omega) fi_rf)) (fj_fi hf2)⟩
      · (try simp (disch := omega) only [nT, t_m1000100, t_m1000010, t_m1000003, t_m1000002, t_m1000001, t_m1000000, t_m65535, t_m1000, t_m3, t_m1, t_0, t_1, t_2, t_3, t_4, t_5, t_6, t_7, t_8, t_9, t_10, t_11, t_12, t_13, t_15, t_16, t_20, t_21, t_22, t_32, t_40, t_41, t_48, t_49, t_57, t_59, t_60, t_63, t_72, t_76, t_88, t_100, t_144, t_200, t_255, t_288, t_400, t_800, t_999, t_1000, t_1024, t_1200, t_1600, t_3200, t_100000, t_200000, t_252645135, t_858993459, t_1431655765, u_m1000002, u_m1000001, u_m1000, u_m3, u_m1, u_0, u_1, u_2, u_3, u_4, u_5, u_7, u_8, u_10, u_11, u_15, u_60, u_100, u_255, u_999, u_1000, u_100000, u_4294967295] at hc78)
        refine g_aload_n (i := 0) dX4_readEnd_81 rfl rfl ?_
        refine g_iconst (v := 4) dX4_readEnd_82 (by decide) ?_
        refine g_iload_n (i := 1) dX4_readEnd_83 rfl rfl ?_
        refine g_callV (M' := mX4_stopAt) dX4_readEnd_84 lc_X4_stopAt ml_X4_49 (c_stopAt (L := L) (by repeat' (first | assumption | refine rA_ne (by decide) ?_ | refine rA_f ?_)) (by repeat' (first | assumption | refine rF_a ?_ | refine rF_ne (by decide) ?_)) 4 (nI p)) rfl rfl (by repeat' (first | assumption | exact rF_eq | (apply rF_nj; focus decide) | (apply rF_nk; focus omega) | refine rF_a ?_ | exact rA_eq | refine rA_ne (by omega) ?_ | refine rA_f ?_)) rfl ⟨Nat.le_of_ble_eq_true rfl, Nat.le_of_ble_eq_true rfl, Nat.le_of_ble_eq_true rfl, Nat.le_of_ble_eq_true rfl⟩ (Nat.le_of_ble_eq_true rfl) ?_
        intro r_ h_ q_; obtain ⟨q1_, q2_⟩ := q_; have q2_ := q2_.symm; subst q1_; subst q2_
        refine g_iret dX4_readEnd_87 rfl (rfl) (hQ _ _ ?_)
        rw [tok_c4 h1 (by omega) (by rw [Nat.add_sub_cancel]; omega)]
        exact ⟨⟨rfl, pf_stop (rdx_16 (rdx_d hr d) _) (stx_16 hI (stx_6 hI hs 4 _) _) v2 w1 4 p (by omega) (by omega) (by omega)⟩, fi_tr (fi_sA (by omega) (fi_sF (by omega) fi_rf)) fi_stop⟩
    · have hd4 := i_eq.mp hc4; (try simp (disch := omega) only [nT, t_m1000100, t_m1000010, t_m1000003, t_m1000002, t_m1000001, t_m1000000, t_m65535, t_m1000, t_m3, t_m1, t_0, t_1, t_2, t_3, t_4, t_5, t_6, t_7, t_8, t_9, t_10, t_11, t_12, t_13, t_15, t_16, t_20, t_21, t_22, t_32, t_40, t_41, t_48, t_49, t_57, t_59, t_60, t_63, t_72, t_76, t_88, t_100, t_144, t_200, t_255, t_288, t_400, t_800, t_999, t_1000, t_1024, t_1200, t_1600, t_3200, t_100000, t_200000, t_252645135, t_858993459, t_1431655765, u_m1000002, u_m1000001, u_m1000, u_m3, u_m1, u_0, u_1, u_2, u_3, u_4, u_5, u_7, u_8, u_10, u_11, u_15, u_60, u_100, u_255, u_999, u_1000, u_100000, u_4294967295] at hd4); omega
theorem c_readToken {s : PS} (hp : PrX I L tp s p h) (hpL : p < L) (hnl : s.2.2.2.1 ≤ 400) : CT mX4_readToken 3 0 0 [.ref 6, .int (nI p)] h (fun r h' => OutX I L tp r h' (tokB L tp s p) ∧ FrI I h h') := by
  obtain ⟨d, M, T, nl, pn⟩ := s
  obtain ⟨tx, rl, lk, tm, wi, lo, hi, tu, cn, bg, sz, ws, hr, hs, hv⟩ := hp
  dsimp only at hr hs hv hnl
  obtain ⟨⟨v1, v2, v3, v4, v5⟩, w1, -⟩ := id hv
  have hI := hr.1
  have htx := txx_of hr hs v2 w1
  obtain ⟨-, r1, r2, r3, r4, r5, r6, r7, r8, r9⟩ := id hr
  obtain ⟨s0, s1, s2, s3, s4, s5, s6, s7, s8, b1, b2, b3, b4, b5, b6, b7, b8, g8, g9, g10, g11⟩ := id hs
  have hpe := fwd_le (q := isRw) (tp := tp) (show p ≤ L by omega)
  generalize he : fwd isRw L tp p = e at hpe
  obtain ⟨hpe, heL⟩ := hpe
  refine CT.go [.ref 6, .int (nI p), hU] (by decide +kernel) rfl rfl (fun Q' hQ => ?_)
  refine g_aload_n (i := 0) dX4_readToken_0 rfl rfl ?_
  refine g_get dX4_readToken_1 fl_X4_12 (by repeat' (first | assumption | exact rF_eq | (apply rF_nj; focus decide) | (apply rF_nk; focus omega) | refine rF_a ?_ | exact rA_eq | refine rA_ne (by omega) ?_ | refine rA_f ?_)) (by repeat' (first | assumption | exact rF_eq | (apply rF_nj; focus decide) | (apply rF_nk; focus omega) | refine rF_a ?_ | exact rA_eq | refine rA_ne (by omega) ?_ | refine rA_f ?_)) ?_
  refine g_get dX4_readToken_4 fl_X4_56 (by repeat' (first | assumption | exact rF_eq | (apply rF_nj; focus decide) | (apply rF_nk; focus omega) | refine rF_a ?_ | exact rA_eq | refine rA_ne (by omega) ?_ | refine rA_f ?_)) (by repeat' (first | assumption | exact rF_eq | (apply rF_nj; focus decide) | (apply rF_nk; focus omega) | refine rF_a ?_ | exact rA_eq | refine rA_ne (by omega) ?_ | refine rA_f ?_)) ?_
  refine g_iload_n (i := 1) dX4_readToken_7 rfl rfl ?_
  refine g_iald dX4_readToken_8 (by repeat' (first | assumption | exact rF_eq | (apply rF_nj; focus decide) | (apply rF_nk; focus omega) | refine rF_a ?_ | exact rA_eq | refine rA_ne (by omega) ?_ | refine rA_f ?_)) (nT (by omega)) (by omega) ?_
  rw [w1 p hpL]
  refine g_bipush (v := 41) dX4_readToken_9 (by decide) ?_
  refine g_icmp_ne (tgt := 20) dX4_readToken_11 (by decide) (fun hc11 => ?_) (fun hc11 => ?_)
  · have hd11 := mt i_eq.mpr hc11; (try simp (disch := omega) only [nT, t_m1000100, t_m1000010, t_m1000003, t_m1000002, t_m1000001, t_m1000000, t_m65535, t_m1000, t_m3, t_m1, t_0, t_1, t_2, t_3, t_4, t_5, t_6, t_7, t_8, t_9, t_10, t_11, t_12, t_13, t_15, t_16, t_20, t_21, t_22, t_32, t_40, t_41, t_48, t_49, t_57, t_59, t_60, t_63, t_72, t_76, t_88, t_100, t_144, t_200, t_255, t_288, t_400, t_800, t_999, t_1000, t_1024, t_1200, t_1600, t_3200, t_100000, t_200000, t_252645135, t_858993459, t_1431655765, u_m1000002, u_m1000001, u_m1000, u_m3, u_m1, u_0, u_1, u_2, u_3, u_4, u_5, u_7, u_8, u_10, u_11, u_15, u_60, u_100, u_255, u_999, u_1000, u_100000, u_4294967295] at hd11)
    refine g_aload_n (i := 0) dX4_readToken_20 rfl rfl ?_
    refine g_iload_n (i := 1) dX4_readToken_21 rfl rfl ?_
    refine g_callV (M' := mX4_behindRow) dX4_readToken_22 lc_X4_behindRow ml_X4_62 (c_brow htx (by omega)) rfl rfl (by repeat' (first | assumption | exact rF_eq | (apply rF_nj; focus decide) | (apply rF_nk; focus omega) | refine rF_a ?_ | exact rA_eq | refine rA_ne (by omega) ?_ | refine rA_f ?_)) rfl ⟨Nat.le_of_ble_eq_true rfl, Nat.le_of_ble_eq_true rfl, Nat.le_of_ble_eq_true rfl, Nat.le_of_ble_eq_true rfl⟩ (Nat.le_of_ble_eq_true rfl) ?_
    intro r_ h_ q_; obtain ⟨q1_, q2_⟩ := q_; have q2_ := q2_.symm; subst q1_; subst q2_
    rw [he]
    refine g_istore_n (i := 2) dX4_readToken_25 rfl (Nat.le_of_ble_eq_true rfl) rfl ?_
    refine g_iload_n (i := 2) dX4_readToken_26 rfl rfl ?_
    refine g_iload_n (i := 1) dX4_readToken_27 rfl rfl ?_
    refine g_icmp_ne (tgt := 38) dX4_readToken_28 (by decide) (fun hc28 => ?_) (fun hc28 => ?_)
    · have hd28 := mt i_eq.mpr hc28; (try simp (disch := omega) only [nT, t_m1000100, t_m1000010, t_m1000003, t_m1000002, t_m1000001, t_m1000000, t_m65535, t_m1000, t_m3, t_m1, t_0, t_1, t_2, t_3, t_4, t_5, t_6, t_7, t_8, t_9, t_10, t_11, t_12, t_13, t_15, t_16, t_20, t_21, t_22, t_32, t_40, t_41, t_48, t_49, t_57, t_59, t_60, t_63, t_72, t_76, t_88, t_100, t_144, t_200, t_255, t_288, t_400, t_800, t_999, t_1000, t_1024, t_1200, t_1600, t_3200, t_100000, t_200000, t_252645135, t_858993459, t_1431655765, u_m1000002, u_m1000001, u_m1000, u_m3, u_m1, u_0, u_1, u_2, u_3, u_4, u_5, u_7, u_8, u_10, u_11, u_15, u_60, u_100, u_255, u_999, u_1000, u_100000, u_4294967295] at hd28)
      refine g_aload_n (i := 0) dX4_readToken_38 rfl rfl ?_
      refine g_iload_n (i := 2) dX4_readToken_39 rfl rfl ?_
      refine g_bipush (v := 59) dX4_readToken_40 (by decide) ?_
      refine g_callV (M' := mX4_isAt) dX4_readToken_42 lc_X4_isAt ml_X4_65 (c_isAt htx heL (k := 59) rfl) rfl rfl (by repeat' (first | assumption | exact rF_eq | (apply rF_nj; focus decide) | (apply rF_nk; focus omega) | refine rF_a ?_ | exact rA_eq | refine rA_ne (by omega) ?_ | refine rA_f ?_)) rfl ⟨Nat.le_of_ble_eq_true rfl, Nat.le_of_ble_eq_true rfl, Nat.le_of_ble_eq_true rfl, Nat.le_of_ble_eq_true rfl⟩ (Nat.le_of_ble_eq_true rfl) ?_
      intro r_ h_ q_; obtain ⟨q1_, q2_⟩ := q_; have q2_ := q2_.symm; subst q1_; subst q2_
      refine g_if_eq (tgt := 57) dX4_readToken_45 (by decide) (fun hc45 => ?_) (fun hc45 => ?_)
      · replace hc45 := bI_0.mp hc45
        (try simp (disch := omega) only [nT, t_m1000100, t_m1000010, t_m1000003, t_m1000002, t_m1000001, t_m1000000, t_m65535, t_m1000, t_m3, t_m1, t_0, t_1, t_2, t_3, t_4, t_5, t_6, t_7, t_8, t_9, t_10, t_11, t_12, t_13, t_15, t_16, t_20, t_21, t_22, t_32, t_40, t_41, t_48, t_49, t_57, t_59, t_60, t_63, t_72, t_76, t_88, t_100, t_144, t_200, t_255, t_288, t_400, t_800, t_999, t_1000, t_1024, t_1200, t_1600, t_3200, t_100000, t_200000, t_252645135, t_858993459, t_1431655765, u_m1000002, u_m1000001, u_m1000, u_m3, u_m1, u_0, u_1, u_2, u_3, u_4, u_5, u_7, u_8, u_10, u_11, u_15, u_60, u_100, u_255, u_999, u_1000, u_100000, u_4294967295] at hc45)
        refine g_aload_n (i := 0) dX4_readToken_57 rfl rfl ?_
        refine g_iload_n (i := 1) dX4_readToken_58 rfl rfl ?_
        refine g_iload_n (i := 2) dX4_readToken_59 rfl rfl ?_
        refine g_callV (M' := mX4_readNumber) dX4_readToken_60 lc_X4_readNumber ml_X4_72 (c_readNumber hr hs hv hpL he (by omega) (by omega) (by assumption)) rfl rfl (by repeat' (first | assumption | exact rF_eq | (apply rF_nj; focus decide) | (apply rF_nk; focus omega) | refine rF_a ?_ | exact rA_eq | refine rA_ne (by omega) ?_ | refine rA_f ?_)) rfl ⟨Nat.le_of_ble_eq_true rfl, Nat.le_of_ble_eq_true rfl, Nat.le_of_ble_eq_true rfl, Nat.le_of_ble_eq_true rfl⟩ (Nat.le_of_ble_eq_true rfl) ?_
        intro r_ h_ q_; obtain ⟨o1, o2⟩ := q_
        generalize tokB L tp (d, M, T, nl, pn) p = o at hQ o1; rcases o with o | o <;> (obtain ⟨rfl, o1⟩ := o1; exact g_iret dX4_readToken_63 rfl rfl (hQ _ _ ⟨⟨rfl, o1⟩, o2⟩))
        skip
      · replace hc45 := bI_n0.mp hc45
        (try simp (disch := omega) only [nT, t_m1000100, t_m1000010, t_m1000003, t_m1000002, t_m1000001, t_m1000000, t_m65535, t_m1000, t_m3, t_m1, t_0, t_1, t_2, t_3, t_4, t_5, t_6, t_7, t_8, t_9, t_10, t_11, t_12, t_13, t_15, t_16, t_20, t_21, t_22, t_32, t_40, t_41, t_48, t_49, t_57, t_59, t_60, t_63, t_72, t_76, t_88, t_100, t_144, t_200, t_255, t_288, t_400, t_800, t_999, t_1000, t_1024, t_1200, t_1600, t_3200, t_100000, t_200000, t_252645135, t_858993459, t_1431655765, u_m1000002, u_m1000001, u_m1000, u_m3, u_m1, u_0, u_1, u_2, u_3, u_4, u_5, u_7, u_8, u_10, u_11, u_15, u_60, u_100, u_255, u_999, u_1000, u_100000, u_4294967295] at hc45)
        refine g_aload_n (i := 0) dX4_readToken_48 rfl rfl ?_
        refine g_iload_n (i := 1) dX4_readToken_49 rfl rfl ?_
        refine g_iload_n (i := 2) dX4_readToken_50 rfl rfl ?_
        refine g_callV (M' := mX4_readLine) dX4_readToken_51 lc_X4_readLine ml_X4_69 (c_readLine hr hs hv hnl hpL he (by omega) (by omega) (by assumption)) rfl rfl (by repeat' (first | assumption | exact rF_eq | (apply rF_nj; focus decide) | (apply rF_nk; focus omega) | refine rF_a ?_ | exact rA_eq | refine rA_ne (by omega) ?_ | refine rA_f ?_)) rfl ⟨Nat.le_of_ble_eq_true rfl, Nat.le_of_ble_eq_true rfl, Nat.le_of_ble_eq_true rfl, Nat.le_of_ble_eq_true rfl⟩ (Nat.le_of_ble_eq_true rfl) ?_
        intro r_ h_ q_; obtain ⟨o1, o2⟩ := q_
        generalize tokB L tp (d, M, T, nl, pn) p = o at hQ o1; rcases o with o | o <;> (obtain ⟨rfl, o1⟩ := o1; exact g_goto (tgt := 63) dX4_readToken_54 (by decide) (g_iret dX4_readToken_63 rfl rfl (hQ _ _ ⟨⟨rfl, o1⟩, o2⟩)))
        skip
    · have hd28 := i_eq.mp hc28; (try simp (disch := omega) only [nT, t_m1000100, t_m1000010, t_m1000003, t_m1000002, t_m1000001, t_m1000000, t_m65535, t_m1000, t_m3, t_m1, t_0, t_1, t_2, t_3, t_4, t_5, t_6, t_7, t_8, t_9, t_10, t_11, t_12, t_13, t_15, t_16, t_20, t_21, t_22, t_32, t_40, t_41, t_48, t_49, t_57, t_59, t_60, t_63, t_72, t_76, t_88, t_100, t_144, t_200, t_255, t_288, t_400, t_800, t_999, t_1000, t_1024, t_1200, t_1600, t_3200, t_100000, t_200000, t_252645135, t_858993459, t_1431655765, u_m1000002, u_m1000001, u_m1000, u_m3, u_m1, u_0, u_1, u_2, u_3, u_4, u_5, u_7, u_8, u_10, u_11, u_15, u_60, u_100, u_255, u_999, u_1000, u_100000, u_4294967295] at hd28)
      refine g_aload_n (i := 0) dX4_readToken_31 rfl rfl ?_
      refine g_iconst (v := 1) dX4_readToken_32 (by decide) ?_
      refine g_iload_n (i := 1) dX4_readToken_33 rfl rfl ?_
      refine g_callV (M' := mX4_stopAt) dX4_readToken_34 lc_X4_stopAt ml_X4_49 (c_stopAt (L := L) (by assumption) (by assumption) 1 (nI p)) rfl rfl (by repeat' (first | assumption | exact rF_eq | (apply rF_nj; focus decide) | (apply rF_nk; focus omega) | refine rF_a ?_ | exact rA_eq | refine rA_ne (by omega) ?_ | refine rA_f ?_)) rfl ⟨Nat.le_of_ble_eq_true rfl, Nat.le_of_ble_eq_true rfl, Nat.le_of_ble_eq_true rfl, Nat.le_of_ble_eq_true rfl⟩ (Nat.le_of_ble_eq_true rfl) ?_
      intro r_ h_ q_; obtain ⟨q1_, q2_⟩ := q_; have q2_ := q2_.symm; subst q1_; subst q2_
      refine g_iret dX4_readToken_37 rfl (rfl) (hQ _ _ ?_)
      rw [tok_0 he (by omega) (by omega)]
      exact ⟨⟨rfl, pf_stop hr hs v2 w1 1 p (by omega) (by omega) (by omega)⟩, fi_stop⟩
  · have hd11 := i_eq.mp hc11; (try simp (disch := omega) only [nT, t_m1000100, t_m1000010, t_m1000003, t_m1000002, t_m1000001, t_m1000000, t_m65535, t_m1000, t_m3, t_m1, t_0, t_1, t_2, t_3, t_4, t_5, t_6, t_7, t_8, t_9, t_10, t_11, t_12, t_13, t_15, t_16, t_20, t_21, t_22, t_32, t_40, t_41, t_48, t_49, t_57, t_59, t_60, t_63, t_72, t_76, t_88, t_100, t_144, t_200, t_255, t_288, t_400, t_800, t_999, t_1000, t_1024, t_1200, t_1600, t_3200, t_100000, t_200000, t_252645135, t_858993459, t_1431655765, u_m1000002, u_m1000001, u_m1000, u_m3, u_m1, u_0, u_1, u_2, u_3, u_4, u_5, u_7, u_8, u_10, u_11, u_15, u_60, u_100, u_255, u_999, u_1000, u_100000, u_4294967295] at hd11)
    refine g_aload_n (i := 0) dX4_readToken_14 rfl rfl ?_
    refine g_iload_n (i := 1) dX4_readToken_15 rfl rfl ?_
    refine g_callV (M' := mX4_readEnd) dX4_readToken_16 lc_X4_readEnd ml_X4_59 (c_readEnd hr hs hv hpL (by omega)) rfl rfl (by repeat' (first | assumption | exact rF_eq | (apply rF_nj; focus decide) | (apply rF_nk; focus omega) | refine rF_a ?_ | exact rA_eq | refine rA_ne (by omega) ?_ | refine rA_f ?_)) rfl ⟨Nat.le_of_ble_eq_true rfl, Nat.le_of_ble_eq_true rfl, Nat.le_of_ble_eq_true rfl, Nat.le_of_ble_eq_true rfl⟩ (Nat.le_of_ble_eq_true rfl) ?_
    intro r_ h_ q_; obtain ⟨o1, o2⟩ := q_
    generalize tokB L tp (d, M, T, nl, pn) p = o at hQ o1; rcases o with o | o <;> (obtain ⟨rfl, o1⟩ := o1; exact g_iret dX4_readToken_19 rfl rfl (hQ _ _ ⟨⟨rfl, o1⟩, o2⟩))
    skip
end Tok
