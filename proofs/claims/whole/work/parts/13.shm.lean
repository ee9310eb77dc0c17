/-! the SHEETS' calls: the reference's side -/
theorem c_in (h : HH) (v x y : Int64) (k m : Int) (hx : x.toInt = k) (hy : y.toInt = m) : CT mX8_in 0 0 0 [.long v, .long x, .long y] h (fun r h' => r = some (.int (bI (k ≤ v.toInt ∧ v.toInt ≤ m))) ∧ h' = h) := by
  subst hx; subst hy
  refine CT.go [.long v, hU, .long x, hU, .long y, hU] (by decide +kernel) rfl rfl (fun Q' hQ => ?_)
  refine g_lload_n (i := 0) dX8_in_0 rfl rfl ?_
  refine g_lload_n (i := 2) dX8_in_1 rfl rfl ?_
  refine g_lcmp dX8_in_2 ?_
  refine g_if_lt (tgt := 17) dX8_in_3 (by decide) (fun hc3 => ?_) (fun hc3 => ?_)
  · replace hc3 := lc_lt.mp hc3; (try simp only [l_add32, l_i] at hc3)
    (try simp (disch := omega) only [nT, t_m1000100, t_m1000010, t_m1000003, t_m1000002, t_m1000001, t_m1000000, t_m65535, t_m1000, t_m3, t_m1, t_0, t_1, t_2, t_3, t_4, t_5, t_6, t_7, t_8, t_9, t_10, t_11, t_12, t_13, t_15, t_16, t_20, t_21, t_22, t_32, t_40, t_41, t_48, t_49, t_57, t_59, t_60, t_63, t_72, t_76, t_88, t_100, t_144, t_200, t_255, t_288, t_400, t_800, t_999, t_1000, t_1024, t_1200, t_1600, t_3200, t_100000, t_200000, t_252645135, t_858993459, t_1431655765, u_m1000002, u_m1000001, u_m1000, u_m3, u_m1, u_0, u_1, u_2, u_3, u_4, u_5, u_7, u_8, u_10, u_11, u_15, u_60, u_100, u_255, u_999, u_1000, u_100000, u_4294967295] at hc3)
    refine g_iconst (v := 0) dX8_in_17 (by decide) ?_
    refine g_iret dX8_in_18 rfl (rfl) (hQ _ _ ?_)
    refine ⟨?_, rfl⟩
    first | rw [bI_t ⟨by omega, by omega⟩] | rw [bI_f (fun q => by omega)]
  · replace hc3 := lc_ge.mp hc3; (try simp only [l_add32, l_i] at hc3)
    (try simp (disch := omega) only [nT, t_m1000100, t_m1000010, t_m1000003, t_m1000002, t_m1000001, t_m1000000, t_m65535, t_m1000, t_m3, t_m1, t_0, t_1, t_2, t_3, t_4, t_5, t_6, t_7, t_8, t_9, t_10, t_11, t_12, t_13, t_15, t_16, t_20, t_21, t_22, t_32, t_40, t_41, t_48, t_49, t_57, t_59, t_60, t_63, t_72, t_76, t_88, t_100, t_144, t_200, t_255, t_288, t_400, t_800, t_999, t_1000, t_1024, t_1200, t_1600, t_3200, t_100000, t_200000, t_252645135, t_858993459, t_1431655765, u_m1000002, u_m1000001, u_m1000, u_m3, u_m1, u_0, u_1, u_2, u_3, u_4, u_5, u_7, u_8, u_10, u_11, u_15, u_60, u_100, u_255, u_999, u_1000, u_100000, u_4294967295] at hc3)
    refine g_lload_n (i := 0) dX8_in_6 rfl rfl ?_
    refine g_lload dX8_in_7 rfl ?_
    refine g_lcmp dX8_in_9 ?_
    refine g_if_gt (tgt := 17) dX8_in_10 (by decide) (fun hc10 => ?_) (fun hc10 => ?_)
    · replace hc10 := lc_gt.mp hc10; (try simp only [l_add32, l_i] at hc10)
      (try simp (disch := omega) only [nT, t_m1000100, t_m1000010, t_m1000003, t_m1000002, t_m1000001, t_m1000000, t_m65535, t_m1000, t_m3, t_m1, t_0, t_1, t_2, t_3, t_4, t_5, t_6, t_7, t_8, t_9, t_10, t_11, t_12, t_13, t_15, t_16, t_20, t_21, t_22, t_32, t_40, t_41, t_48, t_49, t_57, t_59, t_60, t_63, t_72, t_76, t_88, t_100, t_144, t_200, t_255, t_288, t_400, t_800, t_999, t_1000, t_1024, t_1200, t_1600, t_3200, t_100000, t_200000, t_252645135, t_858993459, t_1431655765, u_m1000002, u_m1000001, u_m1000, u_m3, u_m1, u_0, u_1, u_2, u_3, u_4, u_5, u_7, u_8, u_10, u_11, u_15, u_60, u_100, u_255, u_999, u_1000, u_100000, u_4294967295] at hc10)
      refine g_iconst (v := 0) dX8_in_17 (by decide) ?_
      refine g_iret dX8_in_18 rfl (rfl) (hQ _ _ ?_)
      refine ⟨?_, rfl⟩
      first | rw [bI_t ⟨by omega, by omega⟩] | rw [bI_f (fun q => by omega)]
    · replace hc10 := lc_le.mp hc10; (try simp only [l_add32, l_i] at hc10)
      (try simp (disch := omega) only [nT, t_m1000100, t_m1000010, t_m1000003, t_m1000002, t_m1000001, t_m1000000, t_m65535, t_m1000, t_m3, t_m1, t_0, t_1, t_2, t_3, t_4, t_5, t_6, t_7, t_8, t_9, t_10, t_11, t_12, t_13, t_15, t_16, t_20, t_21, t_22, t_32, t_40, t_41, t_48, t_49, t_57, t_59, t_60, t_63, t_72, t_76, t_88, t_100, t_144, t_200, t_255, t_288, t_400, t_800, t_999, t_1000, t_1024, t_1200, t_1600, t_3200, t_100000, t_200000, t_252645135, t_858993459, t_1431655765, u_m1000002, u_m1000001, u_m1000, u_m3, u_m1, u_0, u_1, u_2, u_3, u_4, u_5, u_7, u_8, u_10, u_11, u_15, u_60, u_100, u_255, u_999, u_1000, u_100000, u_4294967295] at hc10)
      refine g_iconst (v := 1) dX8_in_13 (by decide) ?_
      refine g_goto (tgt := 18) dX8_in_14 (by decide) ?_
      refine g_iret dX8_in_18 rfl (rfl) (hQ _ _ ?_)
      refine ⟨?_, rfl⟩
      first | rw [bI_t ⟨by omega, by omega⟩] | rw [bI_f (fun q => by omega)]
theorem c_isSheet (h : HH) (s : Int32) : CT mX8_isSheet 1 0 0 [.int s] h (fun r h' => r = some (.int (bI (0 ≤ s.toInt ∧ s.toInt ≤ 7))) ∧ h' = h) := by
  refine CT.go [.int s] (by decide +kernel) rfl rfl (fun Q' hQ => ?_)
  refine g_iload_n (i := 0) dX8_isSheet_0 rfl rfl ?_
  refine g_i2l dX8_isSheet_1 ?_
  refine g_lconst (v := 0) dX8_isSheet_2 (by decide) ?_
  refine g_ldc2 dX8_isSheet_3 kc_X8_114 ?_
  refine g_callS (M' := mX8_in) dX8_isSheet_6 lc_X8_in ml_X8_116 (c_in h s.toInt64 0 7 0 7 rfl rfl) rfl rfl ⟨Nat.le_of_ble_eq_true rfl, Nat.le_of_ble_eq_true rfl, Nat.le_of_ble_eq_true rfl, Nat.le_of_ble_eq_true rfl⟩ (Nat.le_of_ble_eq_true rfl) ?_
  intro r_ h_ q_; obtain ⟨q1_, q2_⟩ := q_; have q2_ := q2_.symm; subst q1_; subst q2_
  refine g_iret dX8_isSheet_9 rfl (bI_nar _) (hQ _ _ ?_)
  rw [l_i]; exact ⟨rfl, rfl⟩
theorem c_mfound {h : HH} (h0 : gA h 44 = aO 8) (x : Int32) : CT mX8_found 0 0 0 [.ref 44, .int x] h (fun r h' => r = some (.int (-1000010 - x)) ∧ h' = sF h 44 1 (.int x)) := by
  refine CT.go [.ref 44, .int x] (by decide +kernel) rfl rfl (fun Q' hQ => ?_)
  refine g_aload_n (i := 0) dX8_found_0 rfl rfl ?_
  refine g_iload_n (i := 1) dX8_found_1 rfl rfl ?_
  refine g_put dX8_found_2 pl_X8_110 (by repeat' (first | assumption | exact rF_eq | refine rF_ne (by decide) ?_ | refine rF_a ?_ | exact rA_eq | refine rA_ne (by decide) ?_ | refine rA_f ?_)) (fun _ => ⟨rfl, rfl⟩) ?_
  refine g_ldc dX8_found_5 kc_X8_113 ?_
  refine g_iload_n (i := 1) dX8_found_7 rfl rfl ?_
  refine g_isub dX8_found_8 ?_
  refine g_iret dX8_found_9 rfl (rfl) (hQ _ _ ?_)
  exact ⟨rfl, rfl⟩
def ShM (h : HH) (ln sz it : Nat → Int32) : Prop := gA h 44 = aO 8 ∧ gF h 44 2 = .ref 45 ∧ gF h 44 3 = .ref 46 ∧ gF h 44 4 = .ref 47 ∧ gA h 45 = aI 8 ln ∧ gA h 46 = aI 8 sz ∧ gA h 47 = aI 800 it
/-- the reference's rows hold what the class's do, as far as it is asked for -/
def ShE (w : SH) (ln sz it : Nat → Int32) : Prop := (∀ a, a < 8 → ln a = w.2.1 a ∧ sz a = w.2.2.1 a) ∧ ∀ a i : Nat, a < 8 → (i : Int) < (w.2.2.1 a).toInt → it (100 * a + i) = w.2.2.2 (100 * a + i)
def GSM (w : SH) (h : HH) : Prop := ∃ ln sz it, gF h 44 1 = .int w.1 ∧ ShM h ln sz it ∧ ShE w ln sz it
theorem l_msheet {h : HH} {ln sz it : Nat → Int32} (hs : ShM h ln sz it) {a : Nat} (ha : a < 8) (l n : Int32) {Q' : Option Value → HH → Prop} (hQ : Q' (some (.int n)) (sA h 47 (aI 800 (zer it (100 * a) 100)))) : ∀ m k : Nat, k + m = 100 → GG (EM mX8_sheet 2 0 0 Q') 0 0 65 [.ref 44, .int (nI a), .int l, .int n, .int (nI k)] [] (sA h 47 (aI 800 (zer it (100 * a) k))) := by
  obtain ⟨e1, e2, e3, e4, e5, e6, e7⟩ := hs
  intro m
  induction m with
  | zero =>
    intro k hk
    obtain rfl : k = 100 := by omega
    refine g_iload dX8_sheet_65 rfl ?_
    refine g_bipush (v := 100) dX8_sheet_67 (by decide) ?_
    refine g_icmp_ge (tgt := 91) dX8_sheet_69 (by decide) (fun hc69 => ?_) (fun hc69 => ?_)
    · (try simp (disch := omega) only [nT, t_m1000100, t_m1000010, t_m1000003, t_m1000002, t_m1000001, t_m1000000, t_m65535, t_m1000, t_m3, t_m1, t_0, t_1, t_2, t_3, t_4, t_5, t_6, t_7, t_8, t_9, t_10, t_11, t_12, t_13, t_15, t_16, t_20, t_21, t_22, t_32, t_40, t_41, t_48, t_49, t_57, t_59, t_60, t_63, t_72, t_76, t_88, t_100, t_144, t_200, t_255, t_288, t_400, t_800, t_999, t_1000, t_1024, t_1200, t_1600, t_3200, t_100000, t_200000, t_252645135, t_858993459, t_1431655765, u_m1000002, u_m1000001, u_m1000, u_m3, u_m1, u_0, u_1, u_2, u_3, u_4, u_5, u_7, u_8, u_10, u_11, u_15, u_60, u_100, u_255, u_999, u_1000, u_100000, u_4294967295] at hc69)
      refine g_iload_n (i := 3) dX8_sheet_91 rfl rfl ?_
      exact g_iret dX8_sheet_92 rfl rfl hQ
    · (try simp (disch := omega) only [nT, t_m1000100, t_m1000010, t_m1000003, t_m1000002, t_m1000001, t_m1000000, t_m65535, t_m1000, t_m3, t_m1, t_0, t_1, t_2, t_3, t_4, t_5, t_6, t_7, t_8, t_9, t_10, t_11, t_12, t_13, t_15, t_16, t_20, t_21, t_22, t_32, t_40, t_41, t_48, t_49, t_57, t_59, t_60, t_63, t_72, t_76, t_88, t_100, t_144, t_200, t_255, t_288, t_400, t_800, t_999, t_1000, t_1024, t_1200, t_1600, t_3200, t_100000, t_200000, t_252645135, t_858993459, t_1431655765, u_m1000002, u_m1000001, u_m1000, u_m3, u_m1, u_0, u_1, u_2, u_3, u_4, u_5, u_7, u_8, u_10, u_11, u_15, u_60, u_100, u_255, u_999, u_1000, u_100000, u_4294967295] at hc69); omega
  | succ m ih =>
    intro k hk
    refine g_iload dX8_sheet_65 rfl ?_
    refine g_bipush (v := 100) dX8_sheet_67 (by decide) ?_
    refine g_icmp_ge (tgt := 91) dX8_sheet_69 (by decide) (fun hc69 => ?_) (fun hc69 => ?_)
    · (try simp (disch := omega) only [nT, t_m1000100, t_m1000010, t_m1000003, t_m1000002, t_m1000001, t_m1000000, t_m65535, t_m1000, t_m3, t_m1, t_0, t_1, t_2, t_3, t_4, t_5, t_6, t_7, t_8, t_9, t_10, t_11, t_12, t_13, t_15, t_16, t_20, t_21, t_22, t_32, t_40, t_41, t_48, t_49, t_57, t_59, t_60, t_63, t_72, t_76, t_88, t_100, t_144, t_200, t_255, t_288, t_400, t_800, t_999, t_1000, t_1024, t_1200, t_1600, t_3200, t_100000, t_200000, t_252645135, t_858993459, t_1431655765, u_m1000002, u_m1000001, u_m1000, u_m3, u_m1, u_0, u_1, u_2, u_3, u_4, u_5, u_7, u_8, u_10, u_11, u_15, u_60, u_100, u_255, u_999, u_1000, u_100000, u_4294967295] at hc69); omega
    · (try simp (disch := omega) only [nT, t_m1000100, t_m1000010, t_m1000003, t_m1000002, t_m1000001, t_m1000000, t_m65535, t_m1000, t_m3, t_m1, t_0, t_1, t_2, t_3, t_4, t_5, t_6, t_7, t_8, t_9, t_10, t_11, t_12, t_13, t_15, t_16, t_20, t_21, t_22, t_32, t_40, t_41, t_48, t_49, t_57, t_59, t_60, t_63, t_72, t_76, t_88, t_100, t_144, t_200, t_255, t_288, t_400, t_800, t_999, t_1000, t_1024, t_1200, t_1600, t_3200, t_100000, t_200000, t_252645135, t_858993459, t_1431655765, u_m1000002, u_m1000001, u_m1000, u_m3, u_m1, u_0, u_1, u_2, u_3, u_4, u_5, u_7, u_8, u_10, u_11, u_15, u_60, u_100, u_255, u_999, u_1000, u_100000, u_4294967295] at hc69)
      refine g_aload_n (i := 0) dX8_sheet_72 rfl rfl ?_
      refine g_get dX8_sheet_73 fl_X8_16 (by repeat' (first | assumption | exact rF_eq | refine rF_ne (by decide) ?_ | refine rF_a ?_ | exact rA_eq | refine rA_ne (by decide) ?_ | refine rA_f ?_)) (by repeat' (first | assumption | exact rF_eq | refine rF_ne (by decide) ?_ | refine rF_a ?_ | exact rA_eq | refine rA_ne (by decide) ?_ | refine rA_f ?_)) ?_
      refine g_bipush (v := 100) dX8_sheet_76 (by decide) ?_
      refine g_iload_n (i := 1) dX8_sheet_78 rfl rfl ?_
      refine g_imul dX8_sheet_79 ?_
      refine g_iload dX8_sheet_80 rfl ?_
      refine g_iadd dX8_sheet_82 ?_
      refine g_iconst (v := 0) dX8_sheet_83 (by decide) ?_
      refine g_iast dX8_sheet_84 (by repeat' (first | assumption | exact rF_eq | refine rF_ne (by decide) ?_ | refine rF_a ?_ | exact rA_eq | refine rA_ne (by decide) ?_ | refine rA_f ?_)) ((by rw [show (100 : Int32) = nI 100 from rfl, pk_mul, nI_add]; exact nT (by omega))) (by omega) ?_
      refine g_iinc dX8_sheet_85 rfl (Nat.le_of_ble_eq_true rfl) rfl ?_
      refine g_goto (tgt := 65) dX8_sheet_88 (by decide) ?_
      rw [sA_sA, zer_s, ni_incO]
      exact ih (k + 1) (by omega)
theorem m_sheet {w : SH} (hw : WfS w) {h : HH} (hg : GSM w h) (s l n : Int32) : CT mX8_sheet 2 0 0 [.ref 44, .int s, .int l, .int n] h (fun r h' => r = some (.int (opSheet w s l n).1) ∧ GSM (opSheet w s l n).2 h' ∧ Fr [45, 46, 47] [(44, 0), (44, 1)] h h') := by
  obtain ⟨st, lo, so, io⟩ := w
  obtain ⟨ln, sz, it, h2, hs, hE⟩ := hg
  have hs0 := hs
  obtain ⟨e1, e2, e3, e4, e5, e6, e7⟩ := hs
  dsimp only at h2
  refine CT.go [.ref 44, .int s, .int l, .int n, hU] (by decide +kernel) rfl rfl (fun Q' hQ => ?_)
  refine g_aload_n (i := 0) dX8_sheet_0 rfl rfl ?_
  refine g_iconst (v := 0) dX8_sheet_1 (by decide) ?_
  refine g_put dX8_sheet_2 pl_X8_107 (by repeat' (first | assumption | exact rF_eq | refine rF_ne (by decide) ?_ | refine rF_a ?_ | exact rA_eq | refine rA_ne (by decide) ?_ | refine rA_f ?_)) (fun _ => ⟨rfl, rfl⟩) ?_
  refine g_iload_n (i := 1) dX8_sheet_5 rfl rfl ?_
  refine g_callS (M' := mX8_isSheet) dX8_sheet_6 lc_X8_isSheet ml_X8_120 (c_isSheet _ s) rfl rfl ⟨Nat.le_of_ble_eq_true rfl, Nat.le_of_ble_eq_true rfl, Nat.le_of_ble_eq_true rfl, Nat.le_of_ble_eq_true rfl⟩ (Nat.le_of_ble_eq_true rfl) ?_
  intro r_ h_ q_; obtain ⟨q1_, q2_⟩ := q_; have q2_ := q2_.symm; subst q1_; subst q2_
  refine g_if_eq (tgt := 30) dX8_sheet_9 (by decide) (fun hc9 => ?_) (fun hc9 => ?_)
  · replace hc9 := bI_0.mp hc9
    (try simp (disch := omega) only [nT, t_m1000100, t_m1000010, t_m1000003, t_m1000002, t_m1000001, t_m1000000, t_m65535, t_m1000, t_m3, t_m1, t_0, t_1, t_2, t_3, t_4, t_5, t_6, t_7, t_8, t_9, t_10, t_11, t_12, t_13, t_15, t_16, t_20, t_21, t_22, t_32, t_40, t_41, t_48, t_49, t_57, t_59, t_60, t_63, t_72, t_76, t_88, t_100, t_144, t_200, t_255, t_288, t_400, t_800, t_999, t_1000, t_1024, t_1200, t_1600, t_3200, t_100000, t_200000, t_252645135, t_858993459, t_1431655765, u_m1000002, u_m1000001, u_m1000, u_m3, u_m1, u_0, u_1, u_2, u_3, u_4, u_5, u_7, u_8, u_10, u_11, u_15, u_60, u_100, u_255, u_999, u_1000, u_100000, u_4294967295] at hc9)
    refine g_ldc dX8_sheet_30 kc_X8_126 ?_
    refine g_iret dX8_sheet_32 rfl (rfl) (hQ _ _ ?_)
    have e : opSheet (st, lo, so, io) s l n = _ := if_pos (by simp only [l_i] at *; omega)
    rw [e]; exact ⟨rfl, ⟨ln, sz, it, h2, ⟨e1, e2, e3, e4, e5, e6, e7⟩, hE⟩, fr_sF (by decide) fr_rf⟩
  · replace hc9 := bI_n0.mp hc9
    (try simp (disch := omega) only [nT, t_m1000100, t_m1000010, t_m1000003, t_m1000002, t_m1000001, t_m1000000, t_m65535, t_m1000, t_m3, t_m1, t_0, t_1, t_2, t_3, t_4, t_5, t_6, t_7, t_8, t_9, t_10, t_11, t_12, t_13, t_15, t_16, t_20, t_21, t_22, t_32, t_40, t_41, t_48, t_49, t_57, t_59, t_60, t_63, t_72, t_76, t_88, t_100, t_144, t_200, t_255, t_288, t_400, t_800, t_999, t_1000, t_1024, t_1200, t_1600, t_3200, t_100000, t_200000, t_252645135, t_858993459, t_1431655765, u_m1000002, u_m1000001, u_m1000, u_m3, u_m1, u_0, u_1, u_2, u_3, u_4, u_5, u_7, u_8, u_10, u_11, u_15, u_60, u_100, u_255, u_999, u_1000, u_100000, u_4294967295] at hc9)
    refine g_iload_n (i := 2) dX8_sheet_12 rfl rfl ?_
    refine g_i2l dX8_sheet_13 ?_
    refine g_lconst (v := 0) dX8_sheet_14 (by decide) ?_
    refine g_ldc2 dX8_sheet_15 kc_X8_124 ?_
    refine g_callS (M' := mX8_in) dX8_sheet_18 lc_X8_in ml_X8_116 (c_in _ l.toInt64 0 2 0 2 rfl rfl) rfl rfl ⟨Nat.le_of_ble_eq_true rfl, Nat.le_of_ble_eq_true rfl, Nat.le_of_ble_eq_true rfl, Nat.le_of_ble_eq_true rfl⟩ (Nat.le_of_ble_eq_true rfl) ?_
    intro r_ h_ q_; obtain ⟨q1_, q2_⟩ := q_; have q2_ := q2_.symm; subst q1_; subst q2_
    refine g_if_eq (tgt := 30) dX8_sheet_21 (by decide) (fun hc21 => ?_) (fun hc21 => ?_)
    · replace hc21 := bI_0.mp hc21
      (try simp (disch := omega) only [nT, t_m1000100, t_m1000010, t_m1000003, t_m1000002, t_m1000001, t_m1000000, t_m65535, t_m1000, t_m3, t_m1, t_0, t_1, t_2, t_3, t_4, t_5, t_6, t_7, t_8, t_9, t_10, t_11, t_12, t_13, t_15, t_16, t_20, t_21, t_22, t_32, t_40, t_41, t_48, t_49, t_57, t_59, t_60, t_63, t_72, t_76, t_88, t_100, t_144, t_200, t_255, t_288, t_400, t_800, t_999, t_1000, t_1024, t_1200, t_1600, t_3200, t_100000, t_200000, t_252645135, t_858993459, t_1431655765, u_m1000002, u_m1000001, u_m1000, u_m3, u_m1, u_0, u_1, u_2, u_3, u_4, u_5, u_7, u_8, u_10, u_11, u_15, u_60, u_100, u_255, u_999, u_1000, u_100000, u_4294967295] at hc21)
      refine g_ldc dX8_sheet_30 kc_X8_126 ?_
      refine g_iret dX8_sheet_32 rfl (rfl) (hQ _ _ ?_)
      have e : opSheet (st, lo, so, io) s l n = _ := if_pos (by simp only [l_i] at *; omega)
      rw [e]; exact ⟨rfl, ⟨ln, sz, it, h2, ⟨e1, e2, e3, e4, e5, e6, e7⟩, hE⟩, fr_sF (by decide) fr_rf⟩
    · replace hc21 := bI_n0.mp hc21
      (try simp (disch := omega) only [nT, t_m1000100, t_m1000010, t_m1000003, t_m1000002, t_m1000001, t_m1000000, t_m65535, t_m1000, t_m3, t_m1, t_0, t_1, t_2, t_3, t_4, t_5, t_6, t_7, t_8, t_9, t_10, t_11, t_12, t_13, t_15, t_16, t_20, t_21, t_22, t_32, t_40, t_41, t_48, t_49, t_57, t_59, t_60, t_63, t_72, t_76, t_88, t_100, t_144, t_200, t_255, t_288, t_400, t_800, t_999, t_1000, t_1024, t_1200, t_1600, t_3200, t_100000, t_200000, t_252645135, t_858993459, t_1431655765, u_m1000002, u_m1000001, u_m1000, u_m3, u_m1, u_0, u_1, u_2, u_3, u_4, u_5, u_7, u_8, u_10, u_11, u_15, u_60, u_100, u_255, u_999, u_1000, u_100000, u_4294967295] at hc21)
      refine g_iload_n (i := 3) dX8_sheet_24 rfl rfl ?_
      refine g_bipush (v := 100) dX8_sheet_25 (by decide) ?_
      refine g_icmp_le (tgt := 33) dX8_sheet_27 (by decide) (fun hc27 => ?_) (fun hc27 => ?_)
      · (try simp (disch := omega) only [nT, t_m1000100, t_m1000010, t_m1000003, t_m1000002, t_m1000001, t_m1000000, t_m65535, t_m1000, t_m3, t_m1, t_0, t_1, t_2, t_3, t_4, t_5, t_6, t_7, t_8, t_9, t_10, t_11, t_12, t_13, t_15, t_16, t_20, t_21, t_22, t_32, t_40, t_41, t_48, t_49, t_57, t_59, t_60, t_63, t_72, t_76, t_88, t_100, t_144, t_200, t_255, t_288, t_400, t_800, t_999, t_1000, t_1024, t_1200, t_1600, t_3200, t_100000, t_200000, t_252645135, t_858993459, t_1431655765, u_m1000002, u_m1000001, u_m1000, u_m3, u_m1, u_0, u_1, u_2, u_3, u_4, u_5, u_7, u_8, u_10, u_11, u_15, u_60, u_100, u_255, u_999, u_1000, u_100000, u_4294967295] at hc27)
        simp only [l_i] at hc21
        refine g_aload_n (i := 0) dX8_sheet_33 rfl rfl ?_
        refine g_iconst (v := 0) dX8_sheet_34 (by decide) ?_
        refine g_put dX8_sheet_35 pl_X8_110 (by repeat' (first | assumption | exact rF_eq | refine rF_ne (by decide) ?_ | refine rF_a ?_ | exact rA_eq | refine rA_ne (by decide) ?_ | refine rA_f ?_)) (fun _ => ⟨rfl, rfl⟩) ?_
        refine g_iload_n (i := 3) dX8_sheet_38 rfl rfl ?_
        refine g_if_ge (tgt := 48) dX8_sheet_39 (by decide) (fun hc39 => ?_) (fun hc39 => ?_)
        · (try simp (disch := omega) only [nT, t_m1000100, t_m1000010, t_m1000003, t_m1000002, t_m1000001, t_m1000000, t_m65535, t_m1000, t_m3, t_m1, t_0, t_1, t_2, t_3, t_4, t_5, t_6, t_7, t_8, t_9, t_10, t_11, t_12, t_13, t_15, t_16, t_20, t_21, t_22, t_32, t_40, t_41, t_48, t_49, t_57, t_59, t_60, t_63, t_72, t_76, t_88, t_100, t_144, t_200, t_255, t_288, t_400, t_800, t_999, t_1000, t_1024, t_1200, t_1600, t_3200, t_100000, t_200000, t_252645135, t_858993459, t_1431655765, u_m1000002, u_m1000001, u_m1000, u_m3, u_m1, u_0, u_1, u_2, u_3, u_4, u_5, u_7, u_8, u_10, u_11, u_15, u_60, u_100, u_255, u_999, u_1000, u_100000, u_4294967295] at hc39)
          have e : opSheet (st, lo, so, io) s l n = _ := (if_neg (by omega)).trans (if_neg (by omega))
          obtain ⟨a, ha, rfl, hta⟩ := n_of (n := 8) (x := s) (by omega) (by omega)
          obtain ⟨N, hN, rfl, htN⟩ := n_of (n := 101) (x := n) (by omega) (by omega)
          dsimp only at e
          rw [nTN (by omega), nTN (by omega)] at e
          refine g_aload_n (i := 0) dX8_sheet_48 rfl rfl ?_
          refine g_get dX8_sheet_49 fl_X8_7 (by repeat' (first | assumption | exact rF_eq | refine rF_ne (by decide) ?_ | refine rF_a ?_ | exact rA_eq | refine rA_ne (by decide) ?_ | refine rA_f ?_)) (by repeat' (first | assumption | exact rF_eq | refine rF_ne (by decide) ?_ | refine rF_a ?_ | exact rA_eq | refine rA_ne (by decide) ?_ | refine rA_f ?_)) ?_
          refine g_iload_n (i := 1) dX8_sheet_52 rfl rfl ?_
          refine g_iload_n (i := 2) dX8_sheet_53 rfl rfl ?_
          refine g_iast dX8_sheet_54 (by repeat' (first | assumption | exact rF_eq | refine rF_ne (by decide) ?_ | refine rF_a ?_ | exact rA_eq | refine rA_ne (by decide) ?_ | refine rA_f ?_)) (hta) (ha) ?_
          refine g_aload_n (i := 0) dX8_sheet_55 rfl rfl ?_
          refine g_get dX8_sheet_56 fl_X8_13 (by repeat' (first | assumption | exact rF_eq | refine rF_ne (by decide) ?_ | refine rF_a ?_ | exact rA_eq | refine rA_ne (by decide) ?_ | refine rA_f ?_)) (by repeat' (first | assumption | exact rF_eq | refine rF_ne (by decide) ?_ | refine rF_a ?_ | exact rA_eq | refine rA_ne (by decide) ?_ | refine rA_f ?_)) ?_
          refine g_iload_n (i := 1) dX8_sheet_59 rfl rfl ?_
          refine g_iload_n (i := 3) dX8_sheet_60 rfl rfl ?_
          refine g_iast dX8_sheet_61 (by repeat' (first | assumption | exact rF_eq | refine rF_ne (by decide) ?_ | refine rF_a ?_ | exact rA_eq | refine rA_ne (by decide) ?_ | refine rA_f ?_)) (hta) (ha) ?_
          refine g_iconst (v := 0) dX8_sheet_62 (by decide) ?_
          refine g_istore dX8_sheet_63 (Nat.le_of_ble_eq_true rfl) rfl ?_
          have key := l_msheet (h := sA (sA (sF (sF h 44 0 (.int 0)) 44 1 (.int 0)) 45 (aI 8 (upd ln a l))) 46 (aI 8 (upd sz a (nI N)))) (ln := upd ln a l) (sz := upd sz a (nI N)) (it := it) ⟨e1, e2, e3, e4, rfl, rfl, e7⟩ ha l (nI N) (Q' := Q') (hQ _ _ (by
            rw [e]
            refine ⟨rfl, ⟨upd ln a l, upd sz a (nI N), zer it (100 * a) 100, rfl, ⟨e1, e2, e3, e4, rfl, rfl, rfl⟩, ?_, ?_⟩, fr_sA (by decide) (fr_sA (by decide) (fr_sA (by decide) (fr_sF (by decide) (fr_sF (by decide) fr_rf))))⟩
            · intro b hb
              have hE1 := hE.1 b hb
              dsimp only at hE1 ⊢
              by_cases q : b = a
              · subst q; rw [upd_s, upd_s, upd_s, upd_s]; exact ⟨rfl, rfl⟩
              · rw [upd_n q, upd_n q, upd_n q, upd_n q]; exact hE1
            · intro b i hb hi
              dsimp only at hi ⊢
              unfold zer
              by_cases q : b = a
              · subst q
                rw [upd_s, nT (by omega)] at hi
                rw [if_pos ⟨by omega, by omega⟩, if_pos ⟨by omega, by omega⟩]
              · rw [upd_n q] at hi
                have h8 := hw b hb
                dsimp only at h8
                have hE2 := hE.2 b i hb hi
                rw [if_neg (by omega), if_neg (by omega)]
                exact hE2)) 100 0 (by omega)
          rw [zer_0, sA_self (show gA (sA (sA (sF (sF h 44 0 (.int 0)) 44 1 (.int 0)) 45 (aI 8 (upd ln a l))) 46 (aI 8 (upd sz a (nI N)))) 47 = aI 800 it from e7)] at key
          exact key
        · (try simp (disch := omega) only [nT, t_m1000100, t_m1000010, t_m1000003, t_m1000002, t_m1000001, t_m1000000, t_m65535, t_m1000, t_m3, t_m1, t_0, t_1, t_2, t_3, t_4, t_5, t_6, t_7, t_8, t_9, t_10, t_11, t_12, t_13, t_15, t_16, t_20, t_21, t_22, t_32, t_40, t_41, t_48, t_49, t_57, t_59, t_60, t_63, t_72, t_76, t_88, t_100, t_144, t_200, t_255, t_288, t_400, t_800, t_999, t_1000, t_1024, t_1200, t_1600, t_3200, t_100000, t_200000, t_252645135, t_858993459, t_1431655765, u_m1000002, u_m1000001, u_m1000, u_m3, u_m1, u_0, u_1, u_2, u_3, u_4, u_5, u_7, u_8, u_10, u_11, u_15, u_60, u_100, u_255, u_999, u_1000, u_100000, u_4294967295] at hc39)
          refine g_aload_n (i := 0) dX8_sheet_42 rfl rfl ?_
          refine g_iconst (v := 4) dX8_sheet_43 (by decide) ?_
          refine g_callV (M' := mX8_found) dX8_sheet_44 lc_X8_found ml_X8_127 (c_mfound (h := sF (sF h 44 0 (.int 0)) 44 1 (.int 0)) e1 4) rfl rfl (by repeat' (first | assumption | exact rF_eq | refine rF_ne (by decide) ?_ | refine rF_a ?_ | exact rA_eq | refine rA_ne (by decide) ?_ | refine rA_f ?_)) rfl ⟨Nat.le_of_ble_eq_true rfl, Nat.le_of_ble_eq_true rfl, Nat.le_of_ble_eq_true rfl, Nat.le_of_ble_eq_true rfl⟩ (Nat.le_of_ble_eq_true rfl) ?_
          intro r_ h_ q_; obtain ⟨q1_, q2_⟩ := q_; have q2_ := q2_.symm; subst q1_; subst q2_
          refine g_iret dX8_sheet_47 rfl (rfl) (hQ _ _ ?_)
          have e : opSheet (st, lo, so, io) s l n = _ := (if_neg (by omega)).trans (if_pos (by omega))
          rw [e]; exact ⟨rfl, ⟨ln, sz, it, rfl, ⟨e1, e2, e3, e4, e5, e6, e7⟩, hE⟩, fr_sF (by decide) (fr_sF (by decide) (fr_sF (by decide) fr_rf))⟩
      · (try simp (disch := omega) only [nT, t_m1000100, t_m1000010, t_m1000003, t_m1000002, t_m1000001, t_m1000000, t_m65535, t_m1000, t_m3, t_m1, t_0, t_1, t_2, t_3, t_4, t_5, t_6, t_7, t_8, t_9, t_10, t_11, t_12, t_13, t_15, t_16, t_20, t_21, t_22, t_32, t_40, t_41, t_48, t_49, t_57, t_59, t_60, t_63, t_72, t_76, t_88, t_100, t_144, t_200, t_255, t_288, t_400, t_800, t_999, t_1000, t_1024, t_1200, t_1600, t_3200, t_100000, t_200000, t_252645135, t_858993459, t_1431655765, u_m1000002, u_m1000001, u_m1000, u_m3, u_m1, u_0, u_1, u_2, u_3, u_4, u_5, u_7, u_8, u_10, u_11, u_15, u_60, u_100, u_255, u_999, u_1000, u_100000, u_4294967295] at hc27)
        refine g_ldc dX8_sheet_30 kc_X8_126 ?_
        refine g_iret dX8_sheet_32 rfl (rfl) (hQ _ _ ?_)
        have e : opSheet (st, lo, so, io) s l n = _ := if_pos (by simp only [l_i] at *; omega)
        rw [e]; exact ⟨rfl, ⟨ln, sz, it, h2, ⟨e1, e2, e3, e4, e5, e6, e7⟩, hE⟩, fr_sF (by decide) fr_rf⟩
theorem m_set {w : SH} (hw : WfS w) {h : HH} (hg : GSM w h) (s i v : Int32) : CT mX8_set 2 0 0 [.ref 44, .int s, .int i, .int v] h (fun r h' => r = some (.int (opSet w s i v).1) ∧ GSM (opSet w s i v).2 h' ∧ Fr [45, 46, 47] [(44, 0), (44, 1)] h h') := by
  obtain ⟨st, lo, so, io⟩ := w
  obtain ⟨ln, sz, it, h2, hs, hE⟩ := hg
  have hs0 := hs
  obtain ⟨e1, e2, e3, e4, e5, e6, e7⟩ := hs
  dsimp only at h2
  refine CT.go [.ref 44, .int s, .int i, .int v] (by decide +kernel) rfl rfl (fun Q' hQ => ?_)
  refine g_aload_n (i := 0) dX8_set_0 rfl rfl ?_
  refine g_iconst (v := 0) dX8_set_1 (by decide) ?_
  refine g_put dX8_set_2 pl_X8_107 (by repeat' (first | assumption | exact rF_eq | refine rF_ne (by decide) ?_ | refine rF_a ?_ | exact rA_eq | refine rA_ne (by decide) ?_ | refine rA_f ?_)) (fun _ => ⟨rfl, rfl⟩) ?_
  refine g_iload_n (i := 1) dX8_set_5 rfl rfl ?_
  refine g_callS (M' := mX8_isSheet) dX8_set_6 lc_X8_isSheet ml_X8_120 (c_isSheet _ s) rfl rfl ⟨Nat.le_of_ble_eq_true rfl, Nat.le_of_ble_eq_true rfl, Nat.le_of_ble_eq_true rfl, Nat.le_of_ble_eq_true rfl⟩ (Nat.le_of_ble_eq_true rfl) ?_
  intro r_ h_ q_; obtain ⟨q1_, q2_⟩ := q_; have q2_ := q2_.symm; subst q1_; subst q2_
  refine g_if_ne (tgt := 15) dX8_set_9 (by decide) (fun hc9 => ?_) (fun hc9 => ?_)
  · replace hc9 := bI_n0.mp hc9
    (try simp (disch := omega) only [nT, t_m1000100, t_m1000010, t_m1000003, t_m1000002, t_m1000001, t_m1000000, t_m65535, t_m1000, t_m3, t_m1, t_0, t_1, t_2, t_3, t_4, t_5, t_6, t_7, t_8, t_9, t_10, t_11, t_12, t_13, t_15, t_16, t_20, t_21, t_22, t_32, t_40, t_41, t_48, t_49, t_57, t_59, t_60, t_63, t_72, t_76, t_88, t_100, t_144, t_200, t_255, t_288, t_400, t_800, t_999, t_1000, t_1024, t_1200, t_1600, t_3200, t_100000, t_200000, t_252645135, t_858993459, t_1431655765, u_m1000002, u_m1000001, u_m1000, u_m3, u_m1, u_0, u_1, u_2, u_3, u_4, u_5, u_7, u_8, u_10, u_11, u_15, u_60, u_100, u_255, u_999, u_1000, u_100000, u_4294967295] at hc9)
    obtain ⟨a, ha, rfl, hta⟩ := n_of (n := 8) (x := s) (by omega) (by omega)
    have hwa := hw a ha
    have q0 := hE.1 a ha
    have q1 := congrArg Int32.toInt q0.1
    have q2 := congrArg Int32.toInt q0.2
    dsimp only at hwa q0 q1 q2
    refine g_aload_n (i := 0) dX8_set_15 rfl rfl ?_
    refine g_iconst (v := 0) dX8_set_16 (by decide) ?_
    refine g_put dX8_set_17 pl_X8_110 (by repeat' (first | assumption | exact rF_eq | refine rF_ne (by decide) ?_ | refine rF_a ?_ | exact rA_eq | refine rA_ne (by decide) ?_ | refine rA_f ?_)) (fun _ => ⟨rfl, rfl⟩) ?_
    refine g_aload_n (i := 0) dX8_set_20 rfl rfl ?_
    refine g_get dX8_set_21 fl_X8_7 (by repeat' (first | assumption | exact rF_eq | refine rF_ne (by decide) ?_ | refine rF_a ?_ | exact rA_eq | refine rA_ne (by decide) ?_ | refine rA_f ?_)) (by repeat' (first | assumption | exact rF_eq | refine rF_ne (by decide) ?_ | refine rF_a ?_ | exact rA_eq | refine rA_ne (by decide) ?_ | refine rA_f ?_)) ?_
    refine g_iload_n (i := 1) dX8_set_24 rfl rfl ?_
    refine g_iald dX8_set_25 (by repeat' (first | assumption | exact rF_eq | refine rF_ne (by decide) ?_ | refine rF_a ?_ | exact rA_eq | refine rA_ne (by decide) ?_ | refine rA_f ?_)) (hta) (ha) ?_
    refine g_if_ge (tgt := 35) dX8_set_26 (by decide) (fun hc26 => ?_) (fun hc26 => ?_)
    · (try simp (disch := omega) only [nT, t_m1000100, t_m1000010, t_m1000003, t_m1000002, t_m1000001, t_m1000000, t_m65535, t_m1000, t_m3, t_m1, t_0, t_1, t_2, t_3, t_4, t_5, t_6, t_7, t_8, t_9, t_10, t_11, t_12, t_13, t_15, t_16, t_20, t_21, t_22, t_32, t_40, t_41, t_48, t_49, t_57, t_59, t_60, t_63, t_72, t_76, t_88, t_100, t_144, t_200, t_255, t_288, t_400, t_800, t_999, t_1000, t_1024, t_1200, t_1600, t_3200, t_100000, t_200000, t_252645135, t_858993459, t_1431655765, u_m1000002, u_m1000001, u_m1000, u_m3, u_m1, u_0, u_1, u_2, u_3, u_4, u_5, u_7, u_8, u_10, u_11, u_15, u_60, u_100, u_255, u_999, u_1000, u_100000, u_4294967295] at hc26)
      refine g_iload_n (i := 2) dX8_set_35 rfl rfl ?_
      refine g_i2l dX8_set_36 ?_
      refine g_lconst (v := 0) dX8_set_37 (by decide) ?_
      refine g_aload_n (i := 0) dX8_set_38 rfl rfl ?_
      refine g_get dX8_set_39 fl_X8_13 (by repeat' (first | assumption | exact rF_eq | refine rF_ne (by decide) ?_ | refine rF_a ?_ | exact rA_eq | refine rA_ne (by decide) ?_ | refine rA_f ?_)) (by repeat' (first | assumption | exact rF_eq | refine rF_ne (by decide) ?_ | refine rF_a ?_ | exact rA_eq | refine rA_ne (by decide) ?_ | refine rA_f ?_)) ?_
      refine g_iload_n (i := 1) dX8_set_42 rfl rfl ?_
      refine g_iald dX8_set_43 (by repeat' (first | assumption | exact rF_eq | refine rF_ne (by decide) ?_ | refine rF_a ?_ | exact rA_eq | refine rA_ne (by decide) ?_ | refine rA_f ?_)) (hta) (ha) ?_
      refine g_iconst (v := 1) dX8_set_44 (by decide) ?_
      refine g_isub dX8_set_45 ?_
      refine g_i2l dX8_set_46 ?_
      refine g_callS (M' := mX8_in) dX8_set_47 lc_X8_in ml_X8_116 (c_in _ i.toInt64 0 (sz a - 1).toInt64 0 ((so a).toInt - 1) rfl (by rw [l_i, i_sub1 (by omega), q2])) rfl rfl ⟨Nat.le_of_ble_eq_true rfl, Nat.le_of_ble_eq_true rfl, Nat.le_of_ble_eq_true rfl, Nat.le_of_ble_eq_true rfl⟩ (Nat.le_of_ble_eq_true rfl) ?_
      intro r_ h_ q_; obtain ⟨q1_, q2_⟩ := q_; have q2_ := q2_.symm; subst q1_; subst q2_
      rw [l_i]
      refine g_if_ne (tgt := 59) dX8_set_50 (by decide) (fun hc50 => ?_) (fun hc50 => ?_)
      · replace hc50 := bI_n0.mp hc50
        (try simp (disch := omega) only [nT, t_m1000100, t_m1000010, t_m1000003, t_m1000002, t_m1000001, t_m1000000, t_m65535, t_m1000, t_m3, t_m1, t_0, t_1, t_2, t_3, t_4, t_5, t_6, t_7, t_8, t_9, t_10, t_11, t_12, t_13, t_15, t_16, t_20, t_21, t_22, t_32, t_40, t_41, t_48, t_49, t_57, t_59, t_60, t_63, t_72, t_76, t_88, t_100, t_144, t_200, t_255, t_288, t_400, t_800, t_999, t_1000, t_1024, t_1200, t_1600, t_3200, t_100000, t_200000, t_252645135, t_858993459, t_1431655765, u_m1000002, u_m1000001, u_m1000, u_m3, u_m1, u_0, u_1, u_2, u_3, u_4, u_5, u_7, u_8, u_10, u_11, u_15, u_60, u_100, u_255, u_999, u_1000, u_100000, u_4294967295] at hc50)
        have e : opSet (st, lo, so, io) (nI a) i v = _ := (if_neg (by omega)).trans ((if_neg (by rw [nTN (by omega)]; dsimp only; omega)).trans (if_neg (by rw [nTN (by omega)]; dsimp only; omega)))
        obtain ⟨b, hb, rfl, htb⟩ := n_of (n := 100) (x := i) (by omega) (by omega)
        dsimp only at e
        rw [nTN (by omega), nTN (by omega)] at e
        have key : ∀ W : Int32, kept (lo a) v = W → GG (EM mX8_set 2 0 0 Q') 0 0 99 [.ref 44, .int (nI a), .int (nI b), .int v] [.int W, .int (100 * nI a + nI b), .ref 47] (sF (sF h 44 0 (.int 0)) 44 1 (.int 0)) := by
          intro W hW
          subst hW
          refine g_iast dX8_set_99 (by repeat' (first | assumption | exact rF_eq | refine rF_ne (by decide) ?_ | refine rF_a ?_ | exact rA_eq | refine rA_ne (by decide) ?_ | refine rA_f ?_)) ((by rw [ixm]; exact nT (by omega))) (by omega) ?_
          refine g_aload_n (i := 0) dX8_set_100 rfl rfl ?_
          refine g_get dX8_set_101 fl_X8_16 (by repeat' (first | assumption | exact rF_eq | refine rF_ne (by decide) ?_ | refine rF_a ?_ | exact rA_eq | refine rA_ne (by decide) ?_ | refine rA_f ?_)) (by repeat' (first | assumption | exact rF_eq | refine rF_ne (by decide) ?_ | refine rF_a ?_ | exact rA_eq | refine rA_ne (by decide) ?_ | refine rA_f ?_)) ?_
          refine g_bipush (v := 100) dX8_set_104 (by decide) ?_
          refine g_iload_n (i := 1) dX8_set_106 rfl rfl ?_
          refine g_imul dX8_set_107 ?_
          refine g_iload_n (i := 2) dX8_set_108 rfl rfl ?_
          refine g_iadd dX8_set_109 ?_
          refine g_iald dX8_set_110 (by repeat' (first | assumption | exact rF_eq | refine rF_ne (by decide) ?_ | refine rF_a ?_ | exact rA_eq | refine rA_ne (by decide) ?_ | refine rA_f ?_)) ((by rw [ixm]; exact nT (by omega))) (by omega) ?_
          refine g_iret dX8_set_111 rfl (rfl) (hQ _ _ ?_)
          rw [e, upd_s]
          refine ⟨rfl, ⟨ln, sz, upd it (100 * a + b) (kept (lo a) v), rfl, ⟨e1, e2, e3, e4, e5, e6, rfl⟩, hE.1, ?_⟩, fr_sA (by decide) (fr_sF (by decide) (fr_sF (by decide) fr_rf))⟩
          intro c i hc hi
          have h9 := hE.2 c i hc hi
          have h8 := hw c hc
          dsimp only at h8 h9 hi ⊢
          by_cases q : 100 * c + i = 100 * a + b
          · rw [q, upd_s, upd_s]
          · rw [upd_n q, upd_n q]; exact h9
        refine g_aload_n (i := 0) dX8_set_59 rfl rfl ?_
        refine g_get dX8_set_60 fl_X8_16 (by repeat' (first | assumption | exact rF_eq | refine rF_ne (by decide) ?_ | refine rF_a ?_ | exact rA_eq | refine rA_ne (by decide) ?_ | refine rA_f ?_)) (by repeat' (first | assumption | exact rF_eq | refine rF_ne (by decide) ?_ | refine rF_a ?_ | exact rA_eq | refine rA_ne (by decide) ?_ | refine rA_f ?_)) ?_
        refine g_bipush (v := 100) dX8_set_63 (by decide) ?_
        refine g_iload_n (i := 1) dX8_set_65 rfl rfl ?_
        refine g_imul dX8_set_66 ?_
        refine g_iload_n (i := 2) dX8_set_67 rfl rfl ?_
        refine g_iadd dX8_set_68 ?_
        refine g_aload_n (i := 0) dX8_set_69 rfl rfl ?_
        refine g_get dX8_set_70 fl_X8_7 (by repeat' (first | assumption | exact rF_eq | refine rF_ne (by decide) ?_ | refine rF_a ?_ | exact rA_eq | refine rA_ne (by decide) ?_ | refine rA_f ?_)) (by repeat' (first | assumption | exact rF_eq | refine rF_ne (by decide) ?_ | refine rF_a ?_ | exact rA_eq | refine rA_ne (by decide) ?_ | refine rA_f ?_)) ?_
        refine g_iload_n (i := 1) dX8_set_73 rfl rfl ?_
        refine g_iald dX8_set_74 (by repeat' (first | assumption | exact rF_eq | refine rF_ne (by decide) ?_ | refine rF_a ?_ | exact rA_eq | refine rA_ne (by decide) ?_ | refine rA_f ?_)) (hta) (ha) ?_
        refine g_if_ne (tgt := 83) dX8_set_75 (by decide) (fun hc75 => ?_) (fun hc75 => ?_)
        · have hd75 := mt i_eq.mpr hc75; (try simp (disch := omega) only [nT, t_m1000100, t_m1000010, t_m1000003, t_m1000002, t_m1000001, t_m1000000, t_m65535, t_m1000, t_m3, t_m1, t_0, t_1, t_2, t_3, t_4, t_5, t_6, t_7, t_8, t_9, t_10, t_11, t_12, t_13, t_15, t_16, t_20, t_21, t_22, t_32, t_40, t_41, t_48, t_49, t_57, t_59, t_60, t_63, t_72, t_76, t_88, t_100, t_144, t_200, t_255, t_288, t_400, t_800, t_999, t_1000, t_1024, t_1200, t_1600, t_3200, t_100000, t_200000, t_252645135, t_858993459, t_1431655765, u_m1000002, u_m1000001, u_m1000, u_m3, u_m1, u_0, u_1, u_2, u_3, u_4, u_5, u_7, u_8, u_10, u_11, u_15, u_60, u_100, u_255, u_999, u_1000, u_100000, u_4294967295] at hd75)
          refine g_aload_n (i := 0) dX8_set_83 rfl rfl ?_
          refine g_get dX8_set_84 fl_X8_7 (by repeat' (first | assumption | exact rF_eq | refine rF_ne (by decide) ?_ | refine rF_a ?_ | exact rA_eq | refine rA_ne (by decide) ?_ | refine rA_f ?_)) (by repeat' (first | assumption | exact rF_eq | refine rF_ne (by decide) ?_ | refine rF_a ?_ | exact rA_eq | refine rA_ne (by decide) ?_ | refine rA_f ?_)) ?_
          refine g_iload_n (i := 1) dX8_set_87 rfl rfl ?_
          refine g_iald dX8_set_88 (by repeat' (first | assumption | exact rF_eq | refine rF_ne (by decide) ?_ | refine rF_a ?_ | exact rA_eq | refine rA_ne (by decide) ?_ | refine rA_f ?_)) (hta) (ha) ?_
          refine g_iconst (v := 1) dX8_set_89 (by decide) ?_
          refine g_icmp_ne (tgt := 98) dX8_set_90 (by decide) (fun hc90 => ?_) (fun hc90 => ?_)
          · have hd90 := mt i_eq.mpr hc90; (try simp (disch := omega) only [nT, t_m1000100, t_m1000010, t_m1000003, t_m1000002, t_m1000001, t_m1000000, t_m65535, t_m1000, t_m3, t_m1, t_0, t_1, t_2, t_3, t_4, t_5, t_6, t_7, t_8, t_9, t_10, t_11, t_12, t_13, t_15, t_16, t_20, t_21, t_22, t_32, t_40, t_41, t_48, t_49, t_57, t_59, t_60, t_63, t_72, t_76, t_88, t_100, t_144, t_200, t_255, t_288, t_400, t_800, t_999, t_1000, t_1024, t_1200, t_1600, t_3200, t_100000, t_200000, t_252645135, t_858993459, t_1431655765, u_m1000002, u_m1000001, u_m1000, u_m3, u_m1, u_0, u_1, u_2, u_3, u_4, u_5, u_7, u_8, u_10, u_11, u_15, u_60, u_100, u_255, u_999, u_1000, u_100000, u_4294967295] at hd90)
            refine g_iload_n (i := 3) dX8_set_98 rfl rfl ?_
            exact key _ (by rw [← q0.1]; unfold kept; first | rw [if_pos hc75] | (rw [if_neg hc75]; first | rw [if_pos hc90] | rw [if_neg hc90]))
          · have hd90 := i_eq.mp hc90; (try simp (disch := omega) only [nT, t_m1000100, t_m1000010, t_m1000003, t_m1000002, t_m1000001, t_m1000000, t_m65535, t_m1000, t_m3, t_m1, t_0, t_1, t_2, t_3, t_4, t_5, t_6, t_7, t_8, t_9, t_10, t_11, t_12, t_13, t_15, t_16, t_20, t_21, t_22, t_32, t_40, t_41, t_48, t_49, t_57, t_59, t_60, t_63, t_72, t_76, t_88, t_100, t_144, t_200, t_255, t_288, t_400, t_800, t_999, t_1000, t_1024, t_1200, t_1600, t_3200, t_100000, t_200000, t_252645135, t_858993459, t_1431655765, u_m1000002, u_m1000001, u_m1000, u_m3, u_m1, u_0, u_1, u_2, u_3, u_4, u_5, u_7, u_8, u_10, u_11, u_15, u_60, u_100, u_255, u_999, u_1000, u_100000, u_4294967295] at hd90)
            refine g_iload_n (i := 3) dX8_set_93 rfl rfl ?_
            refine g_i2s dX8_set_94 ?_
            refine g_goto (tgt := 99) dX8_set_95 (by decide) ?_
            exact key _ (by rw [← q0.1]; unfold kept; first | rw [if_pos hc75] | (rw [if_neg hc75]; first | rw [if_pos hc90] | rw [if_neg hc90]))
        · have hd75 := i_eq.mp hc75; (try simp (disch := omega) only [nT, t_m1000100, t_m1000010, t_m1000003, t_m1000002, t_m1000001, t_m1000000, t_m65535, t_m1000, t_m3, t_m1, t_0, t_1, t_2, t_3, t_4, t_5, t_6, t_7, t_8, t_9, t_10, t_11, t_12, t_13, t_15, t_16, t_20, t_21, t_22, t_32, t_40, t_41, t_48, t_49, t_57, t_59, t_60, t_63, t_72, t_76, t_88, t_100, t_144, t_200, t_255, t_288, t_400, t_800, t_999, t_1000, t_1024, t_1200, t_1600, t_3200, t_100000, t_200000, t_252645135, t_858993459, t_1431655765, u_m1000002, u_m1000001, u_m1000, u_m3, u_m1, u_0, u_1, u_2, u_3, u_4, u_5, u_7, u_8, u_10, u_11, u_15, u_60, u_100, u_255, u_999, u_1000, u_100000, u_4294967295] at hd75)
          refine g_iload_n (i := 3) dX8_set_78 rfl rfl ?_
          refine g_i2b dX8_set_79 ?_
          refine g_goto (tgt := 99) dX8_set_80 (by decide) ?_
          exact key _ (by rw [← q0.1]; unfold kept; first | rw [if_pos hc75] | (rw [if_neg hc75]; first | rw [if_pos hc90] | rw [if_neg hc90]))
      · replace hc50 := bI_0.mp hc50
        (try simp (disch := omega) only [nT, t_m1000100, t_m1000010, t_m1000003, t_m1000002, t_m1000001, t_m1000000, t_m65535, t_m1000, t_m3, t_m1, t_0, t_1, t_2, t_3, t_4, t_5, t_6, t_7, t_8, t_9, t_10, t_11, t_12, t_13, t_15, t_16, t_20, t_21, t_22, t_32, t_40, t_41, t_48, t_49, t_57, t_59, t_60, t_63, t_72, t_76, t_88, t_100, t_144, t_200, t_255, t_288, t_400, t_800, t_999, t_1000, t_1024, t_1200, t_1600, t_3200, t_100000, t_200000, t_252645135, t_858993459, t_1431655765, u_m1000002, u_m1000001, u_m1000, u_m3, u_m1, u_0, u_1, u_2, u_3, u_4, u_5, u_7, u_8, u_10, u_11, u_15, u_60, u_100, u_255, u_999, u_1000, u_100000, u_4294967295] at hc50)
        refine g_aload_n (i := 0) dX8_set_53 rfl rfl ?_
        refine g_iconst (v := 2) dX8_set_54 (by decide) ?_
        refine g_callV (M' := mX8_found) dX8_set_55 lc_X8_found ml_X8_127 (c_mfound (h := sF (sF h 44 0 (.int 0)) 44 1 (.int 0)) e1 2) rfl rfl (by repeat' (first | assumption | exact rF_eq | refine rF_ne (by decide) ?_ | refine rF_a ?_ | exact rA_eq | refine rA_ne (by decide) ?_ | refine rA_f ?_)) rfl ⟨Nat.le_of_ble_eq_true rfl, Nat.le_of_ble_eq_true rfl, Nat.le_of_ble_eq_true rfl, Nat.le_of_ble_eq_true rfl⟩ (Nat.le_of_ble_eq_true rfl) ?_
        intro r_ h_ q_; obtain ⟨q1_, q2_⟩ := q_; have q2_ := q2_.symm; subst q1_; subst q2_
        refine g_iret dX8_set_58 rfl (rfl) (hQ _ _ ?_)
        have e : opSet (st, lo, so, io) (nI a) i v = _ := (if_neg (by omega)).trans ((if_neg (by rw [nTN (by omega)]; dsimp only; omega)).trans (if_pos (by rw [nTN (by omega)]; dsimp only; omega)))
        rw [e]; exact ⟨rfl, ⟨ln, sz, it, rfl, ⟨e1, e2, e3, e4, e5, e6, e7⟩, hE⟩, fr_sF (by decide) (fr_sF (by decide) (fr_sF (by decide) fr_rf))⟩
    · (try simp (disch := omega) only [nT, t_m1000100, t_m1000010, t_m1000003, t_m1000002, t_m1000001, t_m1000000, t_m65535, t_m1000, t_m3, t_m1, t_0, t_1, t_2, t_3, t_4, t_5, t_6, t_7, t_8, t_9, t_10, t_11, t_12, t_13, t_15, t_16, t_20, t_21, t_22, t_32, t_40, t_41, t_48, t_49, t_57, t_59, t_60, t_63, t_72, t_76, t_88, t_100, t_144, t_200, t_255, t_288, t_400, t_800, t_999, t_1000, t_1024, t_1200, t_1600, t_3200, t_100000, t_200000, t_252645135, t_858993459, t_1431655765, u_m1000002, u_m1000001, u_m1000, u_m3, u_m1, u_0, u_1, u_2, u_3, u_4, u_5, u_7, u_8, u_10, u_11, u_15, u_60, u_100, u_255, u_999, u_1000, u_100000, u_4294967295] at hc26)
      refine g_aload_n (i := 0) dX8_set_29 rfl rfl ?_
      refine g_iconst (v := 1) dX8_set_30 (by decide) ?_
      refine g_callV (M' := mX8_found) dX8_set_31 lc_X8_found ml_X8_127 (c_mfound (h := sF (sF h 44 0 (.int 0)) 44 1 (.int 0)) e1 1) rfl rfl (by repeat' (first | assumption | exact rF_eq | refine rF_ne (by decide) ?_ | refine rF_a ?_ | exact rA_eq | refine rA_ne (by decide) ?_ | refine rA_f ?_)) rfl ⟨Nat.le_of_ble_eq_true rfl, Nat.le_of_ble_eq_true rfl, Nat.le_of_ble_eq_true rfl, Nat.le_of_ble_eq_true rfl⟩ (Nat.le_of_ble_eq_true rfl) ?_
      intro r_ h_ q_; obtain ⟨q1_, q2_⟩ := q_; have q2_ := q2_.symm; subst q1_; subst q2_
      refine g_iret dX8_set_34 rfl (rfl) (hQ _ _ ?_)
      have e : opSet (st, lo, so, io) (nI a) i v = _ := (if_neg (by omega)).trans (if_pos (by rw [nTN (by omega)]; dsimp only; omega))
      rw [e]; exact ⟨rfl, ⟨ln, sz, it, rfl, ⟨e1, e2, e3, e4, e5, e6, e7⟩, hE⟩, fr_sF (by decide) (fr_sF (by decide) (fr_sF (by decide) fr_rf))⟩
  · replace hc9 := bI_0.mp hc9
    (try simp (disch := omega) only [nT, t_m1000100, t_m1000010, t_m1000003, t_m1000002, t_m1000001, t_m1000000, t_m65535, t_m1000, t_m3, t_m1, t_0, t_1, t_2, t_3, t_4, t_5, t_6, t_7, t_8, t_9, t_10, t_11, t_12, t_13, t_15, t_16, t_20, t_21, t_22, t_32, t_40, t_41, t_48, t_49, t_57, t_59, t_60, t_63, t_72, t_76, t_88, t_100, t_144, t_200, t_255, t_288, t_400, t_800, t_999, t_1000, t_1024, t_1200, t_1600, t_3200, t_100000, t_200000, t_252645135, t_858993459, t_1431655765, u_m1000002, u_m1000001, u_m1000, u_m3, u_m1, u_0, u_1, u_2, u_3, u_4, u_5, u_7, u_8, u_10, u_11, u_15, u_60, u_100, u_255, u_999, u_1000, u_100000, u_4294967295] at hc9)
    refine g_ldc dX8_set_12 kc_X8_126 ?_
    refine g_iret dX8_set_14 rfl (rfl) (hQ _ _ ?_)
    have e : opSet (st, lo, so, io) s i v = _ := if_pos (by omega)
    rw [e]; exact ⟨rfl, ⟨ln, sz, it, h2, ⟨e1, e2, e3, e4, e5, e6, e7⟩, hE⟩, fr_sF (by decide) fr_rf⟩
theorem m_drop {w : SH} (hw : WfS w) {h : HH} (hg : GSM w h) (s : Int32) : CT mX8_drop 2 0 0 [.ref 44, .int s] h (fun r h' => r = some (.int (opDrop w s).1) ∧ GSM (opDrop w s).2 h' ∧ Fr [45, 46, 47] [(44, 0), (44, 1)] h h') := by
  obtain ⟨st, lo, so, io⟩ := w
  obtain ⟨ln, sz, it, h2, hs, hE⟩ := hg
  have hs0 := hs
  obtain ⟨e1, e2, e3, e4, e5, e6, e7⟩ := hs
  dsimp only at h2
  refine CT.go [.ref 44, .int s] (by decide +kernel) rfl rfl (fun Q' hQ => ?_)
  refine g_aload_n (i := 0) dX8_drop_0 rfl rfl ?_
  refine g_iconst (v := 0) dX8_drop_1 (by decide) ?_
  refine g_put dX8_drop_2 pl_X8_107 (by repeat' (first | assumption | exact rF_eq | refine rF_ne (by decide) ?_ | refine rF_a ?_ | exact rA_eq | refine rA_ne (by decide) ?_ | refine rA_f ?_)) (fun _ => ⟨rfl, rfl⟩) ?_
  refine g_iload_n (i := 1) dX8_drop_5 rfl rfl ?_
  refine g_callS (M' := mX8_isSheet) dX8_drop_6 lc_X8_isSheet ml_X8_120 (c_isSheet _ s) rfl rfl ⟨Nat.le_of_ble_eq_true rfl, Nat.le_of_ble_eq_true rfl, Nat.le_of_ble_eq_true rfl, Nat.le_of_ble_eq_true rfl⟩ (Nat.le_of_ble_eq_true rfl) ?_
  intro r_ h_ q_; obtain ⟨q1_, q2_⟩ := q_; have q2_ := q2_.symm; subst q1_; subst q2_
  refine g_if_ne (tgt := 15) dX8_drop_9 (by decide) (fun hc9 => ?_) (fun hc9 => ?_)
  · replace hc9 := bI_n0.mp hc9
    (try simp (disch := omega) only [nT, t_m1000100, t_m1000010, t_m1000003, t_m1000002, t_m1000001, t_m1000000, t_m65535, t_m1000, t_m3, t_m1, t_0, t_1, t_2, t_3, t_4, t_5, t_6, t_7, t_8, t_9, t_10, t_11, t_12, t_13, t_15, t_16, t_20, t_21, t_22, t_32, t_40, t_41, t_48, t_49, t_57, t_59, t_60, t_63, t_72, t_76, t_88, t_100, t_144, t_200, t_255, t_288, t_400, t_800, t_999, t_1000, t_1024, t_1200, t_1600, t_3200, t_100000, t_200000, t_252645135, t_858993459, t_1431655765, u_m1000002, u_m1000001, u_m1000, u_m3, u_m1, u_0, u_1, u_2, u_3, u_4, u_5, u_7, u_8, u_10, u_11, u_15, u_60, u_100, u_255, u_999, u_1000, u_100000, u_4294967295] at hc9)
    obtain ⟨a, ha, rfl, hta⟩ := n_of (n := 8) (x := s) (by omega) (by omega)
    have q0 := hE.1 a ha
    have q1 := congrArg Int32.toInt q0.1
    dsimp only at q0 q1
    refine g_aload_n (i := 0) dX8_drop_15 rfl rfl ?_
    refine g_iconst (v := 0) dX8_drop_16 (by decide) ?_
    refine g_put dX8_drop_17 pl_X8_110 (by repeat' (first | assumption | exact rF_eq | refine rF_ne (by decide) ?_ | refine rF_a ?_ | exact rA_eq | refine rA_ne (by decide) ?_ | refine rA_f ?_)) (fun _ => ⟨rfl, rfl⟩) ?_
    refine g_aload_n (i := 0) dX8_drop_20 rfl rfl ?_
    refine g_get dX8_drop_21 fl_X8_7 (by repeat' (first | assumption | exact rF_eq | refine rF_ne (by decide) ?_ | refine rF_a ?_ | exact rA_eq | refine rA_ne (by decide) ?_ | refine rA_f ?_)) (by repeat' (first | assumption | exact rF_eq | refine rF_ne (by decide) ?_ | refine rF_a ?_ | exact rA_eq | refine rA_ne (by decide) ?_ | refine rA_f ?_)) ?_
    refine g_iload_n (i := 1) dX8_drop_24 rfl rfl ?_
    refine g_iald dX8_drop_25 (by repeat' (first | assumption | exact rF_eq | refine rF_ne (by decide) ?_ | refine rF_a ?_ | exact rA_eq | refine rA_ne (by decide) ?_ | refine rA_f ?_)) (hta) (ha) ?_
    refine g_if_ge (tgt := 35) dX8_drop_26 (by decide) (fun hc26 => ?_) (fun hc26 => ?_)
    · (try simp (disch := omega) only [nT, t_m1000100, t_m1000010, t_m1000003, t_m1000002, t_m1000001, t_m1000000, t_m65535, t_m1000, t_m3, t_m1, t_0, t_1, t_2, t_3, t_4, t_5, t_6, t_7, t_8, t_9, t_10, t_11, t_12, t_13, t_15, t_16, t_20, t_21, t_22, t_32, t_40, t_41, t_48, t_49, t_57, t_59, t_60, t_63, t_72, t_76, t_88, t_100, t_144, t_200, t_255, t_288, t_400, t_800, t_999, t_1000, t_1024, t_1200, t_1600, t_3200, t_100000, t_200000, t_252645135, t_858993459, t_1431655765, u_m1000002, u_m1000001, u_m1000, u_m3, u_m1, u_0, u_1, u_2, u_3, u_4, u_5, u_7, u_8, u_10, u_11, u_15, u_60, u_100, u_255, u_999, u_1000, u_100000, u_4294967295] at hc26)
      refine g_aload_n (i := 0) dX8_drop_35 rfl rfl ?_
      refine g_get dX8_drop_36 fl_X8_7 (by repeat' (first | assumption | exact rF_eq | refine rF_ne (by decide) ?_ | refine rF_a ?_ | exact rA_eq | refine rA_ne (by decide) ?_ | refine rA_f ?_)) (by repeat' (first | assumption | exact rF_eq | refine rF_ne (by decide) ?_ | refine rF_a ?_ | exact rA_eq | refine rA_ne (by decide) ?_ | refine rA_f ?_)) ?_
      refine g_iload_n (i := 1) dX8_drop_39 rfl rfl ?_
      refine g_iconst (v := (-1)) dX8_drop_40 (by decide) ?_
      refine g_iast dX8_drop_41 (by repeat' (first | assumption | exact rF_eq | refine rF_ne (by decide) ?_ | refine rF_a ?_ | exact rA_eq | refine rA_ne (by decide) ?_ | refine rA_f ?_)) (hta) (ha) ?_
      refine g_aload_n (i := 0) dX8_drop_42 rfl rfl ?_
      refine g_get dX8_drop_43 fl_X8_13 (by repeat' (first | assumption | exact rF_eq | refine rF_ne (by decide) ?_ | refine rF_a ?_ | exact rA_eq | refine rA_ne (by decide) ?_ | refine rA_f ?_)) (by repeat' (first | assumption | exact rF_eq | refine rF_ne (by decide) ?_ | refine rF_a ?_ | exact rA_eq | refine rA_ne (by decide) ?_ | refine rA_f ?_)) ?_
      refine g_iload_n (i := 1) dX8_drop_46 rfl rfl ?_
      refine g_iald dX8_drop_47 (by repeat' (first | assumption | exact rF_eq | refine rF_ne (by decide) ?_ | refine rF_a ?_ | exact rA_eq | refine rA_ne (by decide) ?_ | refine rA_f ?_)) (hta) (ha) ?_
      refine g_iret dX8_drop_48 rfl (rfl) (hQ _ _ ?_)
      have e : opDrop (st, lo, so, io) (nI a) = _ := (if_neg (by omega)).trans (if_neg (by rw [nTN (by omega)]; dsimp only; omega))
      dsimp only at e
      rw [nTN (by omega)] at e
      rw [e, q0.2]
      refine ⟨rfl, ⟨upd ln a (-1), sz, it, rfl, ⟨e1, e2, e3, e4, rfl, e6, e7⟩, fun b hb => ?_, hE.2⟩, fr_sA (by decide) (fr_sF (by decide) (fr_sF (by decide) fr_rf))⟩
      have h9 := hE.1 b hb
      dsimp only at h9 ⊢
      by_cases q : b = a
      · subst q; rw [upd_s, upd_s]; exact ⟨rfl, h9.2⟩
      · rw [upd_n q, upd_n q]; exact h9
    · (try simp (disch := omega) only [nT, t_m1000100, t_m1000010, t_m1000003, t_m1000002, t_m1000001, t_m1000000, t_m65535, t_m1000, t_m3, t_m1, t_0, t_1, t_2, t_3, t_4, t_5, t_6, t_7, t_8, t_9, t_10, t_11, t_12, t_13, t_15, t_16, t_20, t_21, t_22, t_32, t_40, t_41, t_48, t_49, t_57, t_59, t_60, t_63, t_72, t_76, t_88, t_100, t_144, t_200, t_255, t_288, t_400, t_800, t_999, t_1000, t_1024, t_1200, t_1600, t_3200, t_100000, t_200000, t_252645135, t_858993459, t_1431655765, u_m1000002, u_m1000001, u_m1000, u_m3, u_m1, u_0, u_1, u_2, u_3, u_4, u_5, u_7, u_8, u_10, u_11, u_15, u_60, u_100, u_255, u_999, u_1000, u_100000, u_4294967295] at hc26)
      refine g_aload_n (i := 0) dX8_drop_29 rfl rfl ?_
      refine g_iconst (v := 1) dX8_drop_30 (by decide) ?_
      refine g_callV (M' := mX8_found) dX8_drop_31 lc_X8_found ml_X8_127 (c_mfound (h := sF (sF h 44 0 (.int 0)) 44 1 (.int 0)) e1 1) rfl rfl (by repeat' (first | assumption | exact rF_eq | refine rF_ne (by decide) ?_ | refine rF_a ?_ | exact rA_eq | refine rA_ne (by decide) ?_ | refine rA_f ?_)) rfl ⟨Nat.le_of_ble_eq_true rfl, Nat.le_of_ble_eq_true rfl, Nat.le_of_ble_eq_true rfl, Nat.le_of_ble_eq_true rfl⟩ (Nat.le_of_ble_eq_true rfl) ?_
      intro r_ h_ q_; obtain ⟨q1_, q2_⟩ := q_; have q2_ := q2_.symm; subst q1_; subst q2_
      refine g_iret dX8_drop_34 rfl (rfl) (hQ _ _ ?_)
      have e : opDrop (st, lo, so, io) (nI a) = _ := (if_neg (by omega)).trans (if_pos (by rw [nTN (by omega)]; dsimp only; omega))
      rw [e]; exact ⟨rfl, ⟨ln, sz, it, rfl, ⟨e1, e2, e3, e4, e5, e6, e7⟩, hE⟩, fr_sF (by decide) (fr_sF (by decide) (fr_sF (by decide) fr_rf))⟩
  · replace hc9 := bI_0.mp hc9
    (try simp (disch := omega) only [nT, t_m1000100, t_m1000010, t_m1000003, t_m1000002, t_m1000001, t_m1000000, t_m65535, t_m1000, t_m3, t_m1, t_0, t_1, t_2, t_3, t_4, t_5, t_6, t_7, t_8, t_9, t_10, t_11, t_12, t_13, t_15, t_16, t_20, t_21, t_22, t_32, t_40, t_41, t_48, t_49, t_57, t_59, t_60, t_63, t_72, t_76, t_88, t_100, t_144, t_200, t_255, t_288, t_400, t_800, t_999, t_1000, t_1024, t_1200, t_1600, t_3200, t_100000, t_200000, t_252645135, t_858993459, t_1431655765, u_m1000002, u_m1000001, u_m1000, u_m3, u_m1, u_0, u_1, u_2, u_3, u_4, u_5, u_7, u_8, u_10, u_11, u_15, u_60, u_100, u_255, u_999, u_1000, u_100000, u_4294967295] at hc9)
    refine g_ldc dX8_drop_12 kc_X8_126 ?_
    refine g_iret dX8_drop_14 rfl (rfl) (hQ _ _ ?_)
    have e : opDrop (st, lo, so, io) s = _ := if_pos (by omega)
    rw [e]; exact ⟨rfl, ⟨ln, sz, it, h2, ⟨e1, e2, e3, e4, e5, e6, e7⟩, hE⟩, fr_sF (by decide) fr_rf⟩
theorem cpy_f {it : Nat → Int32} {sp dp k : Nat} (hk : ¬ (dp ≤ sp + k ∧ sp + k < dp + k)) : upd (va_cpy it it sp dp k) (dp + k) (va_cpy it it sp dp k (sp + k)) = va_cpy it it sp dp (k + 1) := by
  funext q
  unfold upd va_cpy
  rw [if_neg hk]
  by_cases h1 : q = dp + k
  · rw [if_pos h1, if_pos ⟨by omega, by omega⟩]; congr 1; omega
  · rw [if_neg h1]
    by_cases h2 : dp ≤ q ∧ q < dp + k
    · rw [if_pos h2, if_pos ⟨by omega, by omega⟩]
    · rw [if_neg h2, if_neg (by omega)]
theorem cpy_b {it : Nat → Int32} {sp dp k : Nat} (hk : ¬ (dp + 1 ≤ sp ∧ sp < dp + 1 + k)) : upd (va_cpy it it (sp + 1) (dp + 1) k) dp (va_cpy it it (sp + 1) (dp + 1) k sp) = va_cpy it it sp dp (k + 1) := by
  funext q
  unfold upd va_cpy
  rw [if_neg hk]
  by_cases h1 : q = dp
  · rw [if_pos h1, if_pos ⟨by omega, by omega⟩]; congr 1; omega
  · rw [if_neg h1]
    by_cases h2 : dp + 1 ≤ q ∧ q < dp + 1 + k
    · rw [if_pos h2, if_pos ⟨by omega, by omega⟩]; congr 1; omega
    · rw [if_neg h2, if_neg (by omega)]
theorem cpy_0 (it : Nat → Int32) (sp dp : Nat) : va_cpy it it sp dp 0 = it := by
  funext q; unfold va_cpy; rw [if_neg (by omega)]
theorem l_mcopyF {h : HH} {ln sz it : Nat → Int32} (hs : ShM h ln sz it) {a b i j n : Nat} (ha : a < 8) (hb : b < 8) (hi : i + n ≤ 100) (hj : j + n ≤ 100) (hij : j ≤ i) {Q' : Option Value → HH → Prop} (hQ : Q' (some (.int (nI n))) (sA h 47 (aI 800 (va_cpy it it (100 * a + i) (100 * b + j) n)))) : ∀ m k : Nat, k + m = n → ∀ x8 : Value, GG (EM mX8_copy 2 0 0 Q') 0 0 143 [.ref 44, .int (nI a), .int (nI i), .int (nI b), .int (nI j), .int (nI n), .int 1, .int (nI k), x8] [] (sA h 47 (aI 800 (va_cpy it it (100 * a + i) (100 * b + j) k))) := by
  obtain ⟨e1, e2, e3, e4, e5, e6, e7⟩ := hs
  intro m
  induction m with
  | zero =>
    intro k hk x8
    obtain rfl : k = n := by omega
    refine g_iload dX8_copy_143 rfl ?_
    refine g_iload dX8_copy_145 rfl ?_
    refine g_icmp_ge (tgt := 204) dX8_copy_147 (by decide) (fun hc147 => ?_) (fun hc147 => ?_)
    · (try simp (disch := omega) only [nT, t_m1000100, t_m1000010, t_m1000003, t_m1000002, t_m1000001, t_m1000000, t_m65535, t_m1000, t_m3, t_m1, t_0, t_1, t_2, t_3, t_4, t_5, t_6, t_7, t_8, t_9, t_10, t_11, t_12, t_13, t_15, t_16, t_20, t_21, t_22, t_32, t_40, t_41, t_48, t_49, t_57, t_59, t_60, t_63, t_72, t_76, t_88, t_100, t_144, t_200, t_255, t_288, t_400, t_800, t_999, t_1000, t_1024, t_1200, t_1600, t_3200, t_100000, t_200000, t_252645135, t_858993459, t_1431655765, u_m1000002, u_m1000001, u_m1000, u_m3, u_m1, u_0, u_1, u_2, u_3, u_4, u_5, u_7, u_8, u_10, u_11, u_15, u_60, u_100, u_255, u_999, u_1000, u_100000, u_4294967295] at hc147)
      refine g_iload dX8_copy_204 rfl ?_
      exact g_iret dX8_copy_206 rfl rfl hQ
    · (try simp (disch := omega) only [nT, t_m1000100, t_m1000010, t_m1000003, t_m1000002, t_m1000001, t_m1000000, t_m65535, t_m1000, t_m3, t_m1, t_0, t_1, t_2, t_3, t_4, t_5, t_6, t_7, t_8, t_9, t_10, t_11, t_12, t_13, t_15, t_16, t_20, t_21, t_22, t_32, t_40, t_41, t_48, t_49, t_57, t_59, t_60, t_63, t_72, t_76, t_88, t_100, t_144, t_200, t_255, t_288, t_400, t_800, t_999, t_1000, t_1024, t_1200, t_1600, t_3200, t_100000, t_200000, t_252645135, t_858993459, t_1431655765, u_m1000002, u_m1000001, u_m1000, u_m3, u_m1, u_0, u_1, u_2, u_3, u_4, u_5, u_7, u_8, u_10, u_11, u_15, u_60, u_100, u_255, u_999, u_1000, u_100000, u_4294967295] at hc147); omega
  | succ m ih =>
    intro k hk x8
    refine g_iload dX8_copy_143 rfl ?_
    refine g_iload dX8_copy_145 rfl ?_
    refine g_icmp_ge (tgt := 204) dX8_copy_147 (by decide) (fun hc147 => ?_) (fun hc147 => ?_)
    · (try simp (disch := omega) only [nT, t_m1000100, t_m1000010, t_m1000003, t_m1000002, t_m1000001, t_m1000000, t_m65535, t_m1000, t_m3, t_m1, t_0, t_1, t_2, t_3, t_4, t_5, t_6, t_7, t_8, t_9, t_10, t_11, t_12, t_13, t_15, t_16, t_20, t_21, t_22, t_32, t_40, t_41, t_48, t_49, t_57, t_59, t_60, t_63, t_72, t_76, t_88, t_100, t_144, t_200, t_255, t_288, t_400, t_800, t_999, t_1000, t_1024, t_1200, t_1600, t_3200, t_100000, t_200000, t_252645135, t_858993459, t_1431655765, u_m1000002, u_m1000001, u_m1000, u_m3, u_m1, u_0, u_1, u_2, u_3, u_4, u_5, u_7, u_8, u_10, u_11, u_15, u_60, u_100, u_255, u_999, u_1000, u_100000, u_4294967295] at hc147); omega
    · (try simp (disch := omega) only [nT, t_m1000100, t_m1000010, t_m1000003, t_m1000002, t_m1000001, t_m1000000, t_m65535, t_m1000, t_m3, t_m1, t_0, t_1, t_2, t_3, t_4, t_5, t_6, t_7, t_8, t_9, t_10, t_11, t_12, t_13, t_15, t_16, t_20, t_21, t_22, t_32, t_40, t_41, t_48, t_49, t_57, t_59, t_60, t_63, t_72, t_76, t_88, t_100, t_144, t_200, t_255, t_288, t_400, t_800, t_999, t_1000, t_1024, t_1200, t_1600, t_3200, t_100000, t_200000, t_252645135, t_858993459, t_1431655765, u_m1000002, u_m1000001, u_m1000, u_m3, u_m1, u_0, u_1, u_2, u_3, u_4, u_5, u_7, u_8, u_10, u_11, u_15, u_60, u_100, u_255, u_999, u_1000, u_100000, u_4294967295] at hc147)
      refine g_iload dX8_copy_150 rfl ?_
      refine g_if_eq (tgt := 160) dX8_copy_152 (by decide) (fun hc152 => ?_) (fun hc152 => ?_)
      · have hd152 := i_eq.mp hc152; (try simp (disch := omega) only [nT, t_m1000100, t_m1000010, t_m1000003, t_m1000002, t_m1000001, t_m1000000, t_m65535, t_m1000, t_m3, t_m1, t_0, t_1, t_2, t_3, t_4, t_5, t_6, t_7, t_8, t_9, t_10, t_11, t_12, t_13, t_15, t_16, t_20, t_21, t_22, t_32, t_40, t_41, t_48, t_49, t_57, t_59, t_60, t_63, t_72, t_76, t_88, t_100, t_144, t_200, t_255, t_288, t_400, t_800, t_999, t_1000, t_1024, t_1200, t_1600, t_3200, t_100000, t_200000, t_252645135, t_858993459, t_1431655765, u_m1000002, u_m1000001, u_m1000, u_m3, u_m1, u_0, u_1, u_2, u_3, u_4, u_5, u_7, u_8, u_10, u_11, u_15, u_60, u_100, u_255, u_999, u_1000, u_100000, u_4294967295] at hd152); exact absurd hc152 (by decide)
      · have hd152 := mt i_eq.mpr hc152; (try simp (disch := omega) only [nT, t_m1000100, t_m1000010, t_m1000003, t_m1000002, t_m1000001, t_m1000000, t_m65535, t_m1000, t_m3, t_m1, t_0, t_1, t_2, t_3, t_4, t_5, t_6, t_7, t_8, t_9, t_10, t_11, t_12, t_13, t_15, t_16, t_20, t_21, t_22, t_32, t_40, t_41, t_48, t_49, t_57, t_59, t_60, t_63, t_72, t_76, t_88, t_100, t_144, t_200, t_255, t_288, t_400, t_800, t_999, t_1000, t_1024, t_1200, t_1600, t_3200, t_100000, t_200000, t_252645135, t_858993459, t_1431655765, u_m1000002, u_m1000001, u_m1000, u_m3, u_m1, u_0, u_1, u_2, u_3, u_4, u_5, u_7, u_8, u_10, u_11, u_15, u_60, u_100, u_255, u_999, u_1000, u_100000, u_4294967295] at hd152)
        refine g_iload dX8_copy_155 rfl ?_
        refine g_goto (tgt := 167) dX8_copy_157 (by decide) ?_
        refine g_istore dX8_copy_167 (Nat.le_of_ble_eq_true rfl) rfl ?_
        refine g_aload_n (i := 0) dX8_copy_169 rfl rfl ?_
        refine g_get dX8_copy_170 fl_X8_16 (by repeat' (first | assumption | exact rF_eq | refine rF_ne (by decide) ?_ | refine rF_a ?_ | exact rA_eq | refine rA_ne (by decide) ?_ | refine rA_f ?_)) (by repeat' (first | assumption | exact rF_eq | refine rF_ne (by decide) ?_ | refine rF_a ?_ | exact rA_eq | refine rA_ne (by decide) ?_ | refine rA_f ?_)) ?_
        refine g_bipush (v := 100) dX8_copy_173 (by decide) ?_
        refine g_iload_n (i := 3) dX8_copy_175 rfl rfl ?_
        refine g_imul dX8_copy_176 ?_
        refine g_iload dX8_copy_177 rfl ?_
        refine g_iadd dX8_copy_179 ?_
        refine g_iload dX8_copy_180 rfl ?_
        refine g_iadd dX8_copy_182 ?_
        refine g_aload_n (i := 0) dX8_copy_183 rfl rfl ?_
        refine g_get dX8_copy_184 fl_X8_16 (by repeat' (first | assumption | exact rF_eq | refine rF_ne (by decide) ?_ | refine rF_a ?_ | exact rA_eq | refine rA_ne (by decide) ?_ | refine rA_f ?_)) (by repeat' (first | assumption | exact rF_eq | refine rF_ne (by decide) ?_ | refine rF_a ?_ | exact rA_eq | refine rA_ne (by decide) ?_ | refine rA_f ?_)) ?_
        refine g_bipush (v := 100) dX8_copy_187 (by decide) ?_
        refine g_iload_n (i := 1) dX8_copy_189 rfl rfl ?_
        refine g_imul dX8_copy_190 ?_
        refine g_iload_n (i := 2) dX8_copy_191 rfl rfl ?_
        refine g_iadd dX8_copy_192 ?_
        refine g_iload dX8_copy_193 rfl ?_
        refine g_iadd dX8_copy_195 ?_
        refine g_iald dX8_copy_196 (by repeat' (first | assumption | exact rF_eq | refine rF_ne (by decide) ?_ | refine rF_a ?_ | exact rA_eq | refine rA_ne (by decide) ?_ | refine rA_f ?_)) ((by rw [ixm, nI_add]; exact nT (by omega))) (by omega) ?_
        refine g_iast dX8_copy_197 (by repeat' (first | assumption | exact rF_eq | refine rF_ne (by decide) ?_ | refine rF_a ?_ | exact rA_eq | refine rA_ne (by decide) ?_ | refine rA_f ?_)) ((by rw [ixm, nI_add]; exact nT (by omega))) (by omega) ?_
        refine g_iinc dX8_copy_198 rfl (Nat.le_of_ble_eq_true rfl) rfl ?_
        refine g_goto (tgt := 143) dX8_copy_201 (by decide) ?_
        rw [sA_sA, cpy_f (by omega), ni_incO]
        exact ih (k + 1) (by omega) _
theorem l_mcopyB {h : HH} {ln sz it : Nat → Int32} (hs : ShM h ln sz it) {a b i j n : Nat} (ha : a < 8) (hb : b < 8) (hi : i + n ≤ 100) (hj : j + n ≤ 100) (hij : i < j) {Q' : Option Value → HH → Prop} (hQ : Q' (some (.int (nI n))) (sA h 47 (aI 800 (va_cpy it it (100 * a + i) (100 * b + j) n)))) : ∀ m k : Nat, k + m = n → ∀ x8 : Value, GG (EM mX8_copy 2 0 0 Q') 0 0 143 [.ref 44, .int (nI a), .int (nI i), .int (nI b), .int (nI j), .int (nI n), .int 0, .int (nI k), x8] [] (sA h 47 (aI 800 (va_cpy it it (100 * a + i + m) (100 * b + j + m) k))) := by
  obtain ⟨e1, e2, e3, e4, e5, e6, e7⟩ := hs
  intro m
  induction m with
  | zero =>
    intro k hk x8
    obtain rfl : k = n := by omega
    refine g_iload dX8_copy_143 rfl ?_
    refine g_iload dX8_copy_145 rfl ?_
    refine g_icmp_ge (tgt := 204) dX8_copy_147 (by decide) (fun hc147 => ?_) (fun hc147 => ?_)
    · (try simp (disch := omega) only [nT, t_m1000100, t_m1000010, t_m1000003, t_m1000002, t_m1000001, t_m1000000, t_m65535, t_m1000, t_m3, t_m1, t_0, t_1, t_2, t_3, t_4, t_5, t_6, t_7, t_8, t_9, t_10, t_11, t_12, t_13, t_15, t_16, t_20, t_21, t_22, t_32, t_40, t_41, t_48, t_49, t_57, t_59, t_60, t_63, t_72, t_76, t_88, t_100, t_144, t_200, t_255, t_288, t_400, t_800, t_999, t_1000, t_1024, t_1200, t_1600, t_3200, t_100000, t_200000, t_252645135, t_858993459, t_1431655765, u_m1000002, u_m1000001, u_m1000, u_m3, u_m1, u_0, u_1, u_2, u_3, u_4, u_5, u_7, u_8, u_10, u_11, u_15, u_60, u_100, u_255, u_999, u_1000, u_100000, u_4294967295] at hc147)
      refine g_iload dX8_copy_204 rfl ?_
      exact g_iret dX8_copy_206 rfl rfl hQ
    · (try simp (disch := omega) only [nT, t_m1000100, t_m1000010, t_m1000003, t_m1000002, t_m1000001, t_m1000000, t_m65535, t_m1000, t_m3, t_m1, t_0, t_1, t_2, t_3, t_4, t_5, t_6, t_7, t_8, t_9, t_10, t_11, t_12, t_13, t_15, t_16, t_20, t_21, t_22, t_32, t_40, t_41, t_48, t_49, t_57, t_59, t_60, t_63, t_72, t_76, t_88, t_100, t_144, t_200, t_255, t_288, t_400, t_800, t_999, t_1000, t_1024, t_1200, t_1600, t_3200, t_100000, t_200000, t_252645135, t_858993459, t_1431655765, u_m1000002, u_m1000001, u_m1000, u_m3, u_m1, u_0, u_1, u_2, u_3, u_4, u_5, u_7, u_8, u_10, u_11, u_15, u_60, u_100, u_255, u_999, u_1000, u_100000, u_4294967295] at hc147); omega
  | succ m ih =>
    intro k hk x8
    have e9 : nI n - 1 - nI k = nI m := by
      rw [show (1 : Int32) = nI 1 from rfl, n_sub (by omega), n_sub (by omega)]
      congr 1; omega
    refine g_iload dX8_copy_143 rfl ?_
    refine g_iload dX8_copy_145 rfl ?_
    refine g_icmp_ge (tgt := 204) dX8_copy_147 (by decide) (fun hc147 => ?_) (fun hc147 => ?_)
    · (try simp (disch := omega) only [nT, t_m1000100, t_m1000010, t_m1000003, t_m1000002, t_m1000001, t_m1000000, t_m65535, t_m1000, t_m3, t_m1, t_0, t_1, t_2, t_3, t_4, t_5, t_6, t_7, t_8, t_9, t_10, t_11, t_12, t_13, t_15, t_16, t_20, t_21, t_22, t_32, t_40, t_41, t_48, t_49, t_57, t_59, t_60, t_63, t_72, t_76, t_88, t_100, t_144, t_200, t_255, t_288, t_400, t_800, t_999, t_1000, t_1024, t_1200, t_1600, t_3200, t_100000, t_200000, t_252645135, t_858993459, t_1431655765, u_m1000002, u_m1000001, u_m1000, u_m3, u_m1, u_0, u_1, u_2, u_3, u_4, u_5, u_7, u_8, u_10, u_11, u_15, u_60, u_100, u_255, u_999, u_1000, u_100000, u_4294967295] at hc147); omega
    · (try simp (disch := omega) only [nT, t_m1000100, t_m1000010, t_m1000003, t_m1000002, t_m1000001, t_m1000000, t_m65535, t_m1000, t_m3, t_m1, t_0, t_1, t_2, t_3, t_4, t_5, t_6, t_7, t_8, t_9, t_10, t_11, t_12, t_13, t_15, t_16, t_20, t_21, t_22, t_32, t_40, t_41, t_48, t_49, t_57, t_59, t_60, t_63, t_72, t_76, t_88, t_100, t_144, t_200, t_255, t_288, t_400, t_800, t_999, t_1000, t_1024, t_1200, t_1600, t_3200, t_100000, t_200000, t_252645135, t_858993459, t_1431655765, u_m1000002, u_m1000001, u_m1000, u_m3, u_m1, u_0, u_1, u_2, u_3, u_4, u_5, u_7, u_8, u_10, u_11, u_15, u_60, u_100, u_255, u_999, u_1000, u_100000, u_4294967295] at hc147)
      refine g_iload dX8_copy_150 rfl ?_
      refine g_if_eq (tgt := 160) dX8_copy_152 (by decide) (fun hc152 => ?_) (fun hc152 => ?_)
      · have hd152 := i_eq.mp hc152; (try simp (disch := omega) only [nT, t_m1000100, t_m1000010, t_m1000003, t_m1000002, t_m1000001, t_m1000000, t_m65535, t_m1000, t_m3, t_m1, t_0, t_1, t_2, t_3, t_4, t_5, t_6, t_7, t_8, t_9, t_10, t_11, t_12, t_13, t_15, t_16, t_20, t_21, t_22, t_32, t_40, t_41, t_48, t_49, t_57, t_59, t_60, t_63, t_72, t_76, t_88, t_100, t_144, t_200, t_255, t_288, t_400, t_800, t_999, t_1000, t_1024, t_1200, t_1600, t_3200, t_100000, t_200000, t_252645135, t_858993459, t_1431655765, u_m1000002, u_m1000001, u_m1000, u_m3, u_m1, u_0, u_1, u_2, u_3, u_4, u_5, u_7, u_8, u_10, u_11, u_15, u_60, u_100, u_255, u_999, u_1000, u_100000, u_4294967295] at hd152)
        refine g_iload dX8_copy_160 rfl ?_
        refine g_iconst (v := 1) dX8_copy_162 (by decide) ?_
        refine g_isub dX8_copy_163 ?_
        refine g_iload dX8_copy_164 rfl ?_
        refine g_isub dX8_copy_166 ?_
        refine g_istore dX8_copy_167 (Nat.le_of_ble_eq_true rfl) rfl ?_
        refine g_aload_n (i := 0) dX8_copy_169 rfl rfl ?_
        refine g_get dX8_copy_170 fl_X8_16 (by repeat' (first | assumption | exact rF_eq | refine rF_ne (by decide) ?_ | refine rF_a ?_ | exact rA_eq | refine rA_ne (by decide) ?_ | refine rA_f ?_)) (by repeat' (first | assumption | exact rF_eq | refine rF_ne (by decide) ?_ | refine rF_a ?_ | exact rA_eq | refine rA_ne (by decide) ?_ | refine rA_f ?_)) ?_
        refine g_bipush (v := 100) dX8_copy_173 (by decide) ?_
        refine g_iload_n (i := 3) dX8_copy_175 rfl rfl ?_
        refine g_imul dX8_copy_176 ?_
        refine g_iload dX8_copy_177 rfl ?_
        refine g_iadd dX8_copy_179 ?_
        refine g_iload dX8_copy_180 rfl ?_
        refine g_iadd dX8_copy_182 ?_
        refine g_aload_n (i := 0) dX8_copy_183 rfl rfl ?_
        refine g_get dX8_copy_184 fl_X8_16 (by repeat' (first | assumption | exact rF_eq | refine rF_ne (by decide) ?_ | refine rF_a ?_ | exact rA_eq | refine rA_ne (by decide) ?_ | refine rA_f ?_)) (by repeat' (first | assumption | exact rF_eq | refine rF_ne (by decide) ?_ | refine rF_a ?_ | exact rA_eq | refine rA_ne (by decide) ?_ | refine rA_f ?_)) ?_
        refine g_bipush (v := 100) dX8_copy_187 (by decide) ?_
        refine g_iload_n (i := 1) dX8_copy_189 rfl rfl ?_
        refine g_imul dX8_copy_190 ?_
        refine g_iload_n (i := 2) dX8_copy_191 rfl rfl ?_
        refine g_iadd dX8_copy_192 ?_
        refine g_iload dX8_copy_193 rfl ?_
        refine g_iadd dX8_copy_195 ?_
        refine g_iald dX8_copy_196 (by repeat' (first | assumption | exact rF_eq | refine rF_ne (by decide) ?_ | refine rF_a ?_ | exact rA_eq | refine rA_ne (by decide) ?_ | refine rA_f ?_)) ((by rw [ixm, e9, nI_add]; exact nT (by omega))) (by omega) ?_
        refine g_iast dX8_copy_197 (by repeat' (first | assumption | exact rF_eq | refine rF_ne (by decide) ?_ | refine rF_a ?_ | exact rA_eq | refine rA_ne (by decide) ?_ | refine rA_f ?_)) ((by rw [ixm, e9, nI_add]; exact nT (by omega))) (by omega) ?_
        refine g_iinc dX8_copy_198 rfl (Nat.le_of_ble_eq_true rfl) rfl ?_
        refine g_goto (tgt := 143) dX8_copy_201 (by decide) ?_
        rw [sA_sA, show 100 * a + i + (m + 1) = 100 * a + i + m + 1 from rfl, show 100 * b + j + (m + 1) = 100 * b + j + m + 1 from rfl, cpy_b (by omega), ni_incO]
        exact ih (k + 1) (by omega) _
      · have hd152 := mt i_eq.mpr hc152; (try simp (disch := omega) only [nT, t_m1000100, t_m1000010, t_m1000003, t_m1000002, t_m1000001, t_m1000000, t_m65535, t_m1000, t_m3, t_m1, t_0, t_1, t_2, t_3, t_4, t_5, t_6, t_7, t_8, t_9, t_10, t_11, t_12, t_13, t_15, t_16, t_20, t_21, t_22, t_32, t_40, t_41, t_48, t_49, t_57, t_59, t_60, t_63, t_72, t_76, t_88, t_100, t_144, t_200, t_255, t_288, t_400, t_800, t_999, t_1000, t_1024, t_1200, t_1600, t_3200, t_100000, t_200000, t_252645135, t_858993459, t_1431655765, u_m1000002, u_m1000001, u_m1000, u_m3, u_m1, u_0, u_1, u_2, u_3, u_4, u_5, u_7, u_8, u_10, u_11, u_15, u_60, u_100, u_255, u_999, u_1000, u_100000, u_4294967295] at hd152); exact absurd rfl hc152
theorem m_copy {w : SH} (hw : WfS w) {h : HH} (hg : GSM w h) (a i b j n : Int32) : CT mX8_copy 2 0 0 [.ref 44, .int a, .int i, .int b, .int j, .int n] h (fun r h' => r = some (.int (opCopy w a i b j n).1) ∧ GSM (opCopy w a i b j n).2 h' ∧ Fr [45, 46, 47] [(44, 0), (44, 1)] h h') := by
  obtain ⟨st, lo, so, io⟩ := w
  obtain ⟨ln, sz, it, h2, hs, hE⟩ := hg
  have hs0 := hs
  obtain ⟨e1, e2, e3, e4, e5, e6, e7⟩ := hs
  dsimp only at h2
  refine CT.go [.ref 44, .int a, .int i, .int b, .int j, .int n, hU, hU, hU] (by decide +kernel) rfl rfl (fun Q' hQ => ?_)
  refine g_aload_n (i := 0) dX8_copy_0 rfl rfl ?_
  refine g_iconst (v := 0) dX8_copy_1 (by decide) ?_
  refine g_put dX8_copy_2 pl_X8_107 (by repeat' (first | assumption | exact rF_eq | refine rF_ne (by decide) ?_ | refine rF_a ?_ | exact rA_eq | refine rA_ne (by decide) ?_ | refine rA_f ?_)) (fun _ => ⟨rfl, rfl⟩) ?_
  refine g_iload_n (i := 1) dX8_copy_5 rfl rfl ?_
  refine g_callS (M' := mX8_isSheet) dX8_copy_6 lc_X8_isSheet ml_X8_120 (c_isSheet _ a) rfl rfl ⟨Nat.le_of_ble_eq_true rfl, Nat.le_of_ble_eq_true rfl, Nat.le_of_ble_eq_true rfl, Nat.le_of_ble_eq_true rfl⟩ (Nat.le_of_ble_eq_true rfl) ?_
  intro r_ h_ q_; obtain ⟨q1_, q2_⟩ := q_; have q2_ := q2_.symm; subst q1_; subst q2_
  refine g_if_eq (tgt := 19) dX8_copy_9 (by decide) (fun hc9 => ?_) (fun hc9 => ?_)
  · replace hc9 := bI_0.mp hc9
    (try simp (disch := omega) only [nT, t_m1000100, t_m1000010, t_m1000003, t_m1000002, t_m1000001, t_m1000000, t_m65535, t_m1000, t_m3, t_m1, t_0, t_1, t_2, t_3, t_4, t_5, t_6, t_7, t_8, t_9, t_10, t_11, t_12, t_13, t_15, t_16, t_20, t_21, t_22, t_32, t_40, t_41, t_48, t_49, t_57, t_59, t_60, t_63, t_72, t_76, t_88, t_100, t_144, t_200, t_255, t_288, t_400, t_800, t_999, t_1000, t_1024, t_1200, t_1600, t_3200, t_100000, t_200000, t_252645135, t_858993459, t_1431655765, u_m1000002, u_m1000001, u_m1000, u_m3, u_m1, u_0, u_1, u_2, u_3, u_4, u_5, u_7, u_8, u_10, u_11, u_15, u_60, u_100, u_255, u_999, u_1000, u_100000, u_4294967295] at hc9)
    refine g_ldc dX8_copy_19 kc_X8_126 ?_
    refine g_iret dX8_copy_21 rfl (rfl) (hQ _ _ ?_)
    have e : opCopy (st, lo, so, io) a i b j n = _ := if_pos (by omega)
    rw [e]; exact ⟨rfl, ⟨ln, sz, it, h2, ⟨e1, e2, e3, e4, e5, e6, e7⟩, hE⟩, fr_sF (by decide) fr_rf⟩
  · replace hc9 := bI_n0.mp hc9
    (try simp (disch := omega) only [nT, t_m1000100, t_m1000010, t_m1000003, t_m1000002, t_m1000001, t_m1000000, t_m65535, t_m1000, t_m3, t_m1, t_0, t_1, t_2, t_3, t_4, t_5, t_6, t_7, t_8, t_9, t_10, t_11, t_12, t_13, t_15, t_16, t_20, t_21, t_22, t_32, t_40, t_41, t_48, t_49, t_57, t_59, t_60, t_63, t_72, t_76, t_88, t_100, t_144, t_200, t_255, t_288, t_400, t_800, t_999, t_1000, t_1024, t_1200, t_1600, t_3200, t_100000, t_200000, t_252645135, t_858993459, t_1431655765, u_m1000002, u_m1000001, u_m1000, u_m3, u_m1, u_0, u_1, u_2, u_3, u_4, u_5, u_7, u_8, u_10, u_11, u_15, u_60, u_100, u_255, u_999, u_1000, u_100000, u_4294967295] at hc9)
    refine g_iload_n (i := 3) dX8_copy_12 rfl rfl ?_
    refine g_callS (M' := mX8_isSheet) dX8_copy_13 lc_X8_isSheet ml_X8_120 (c_isSheet _ b) rfl rfl ⟨Nat.le_of_ble_eq_true rfl, Nat.le_of_ble_eq_true rfl, Nat.le_of_ble_eq_true rfl, Nat.le_of_ble_eq_true rfl⟩ (Nat.le_of_ble_eq_true rfl) ?_
    intro r_ h_ q_; obtain ⟨q1_, q2_⟩ := q_; have q2_ := q2_.symm; subst q1_; subst q2_
    refine g_if_ne (tgt := 22) dX8_copy_16 (by decide) (fun hc16 => ?_) (fun hc16 => ?_)
    · replace hc16 := bI_n0.mp hc16
      (try simp (disch := omega) only [nT, t_m1000100, t_m1000010, t_m1000003, t_m1000002, t_m1000001, t_m1000000, t_m65535, t_m1000, t_m3, t_m1, t_0, t_1, t_2, t_3, t_4, t_5, t_6, t_7, t_8, t_9, t_10, t_11, t_12, t_13, t_15, t_16, t_20, t_21, t_22, t_32, t_40, t_41, t_48, t_49, t_57, t_59, t_60, t_63, t_72, t_76, t_88, t_100, t_144, t_200, t_255, t_288, t_400, t_800, t_999, t_1000, t_1024, t_1200, t_1600, t_3200, t_100000, t_200000, t_252645135, t_858993459, t_1431655765, u_m1000002, u_m1000001, u_m1000, u_m3, u_m1, u_0, u_1, u_2, u_3, u_4, u_5, u_7, u_8, u_10, u_11, u_15, u_60, u_100, u_255, u_999, u_1000, u_100000, u_4294967295] at hc16)
      obtain ⟨a, ha, rfl, hta⟩ := n_of (n := 8) (x := a) (by omega) (by omega)
      obtain ⟨b, hb, rfl, htb⟩ := n_of (n := 8) (x := b) (by omega) (by omega)
      have hwa := hw a ha
      have hwb := hw b hb
      have q0 := hE.1 a ha
      have r0 := hE.1 b hb
      have q1 := congrArg Int32.toInt q0.1
      have q2 := congrArg Int32.toInt q0.2
      have r1 := congrArg Int32.toInt r0.1
      have r2 := congrArg Int32.toInt r0.2
      dsimp only at hwa hwb q1 q2 r1 r2
      have en : ∀ x, opCopy (st, lo, so, io) (nI a) i (nI b) j n = x ↔ _ = x := fun x => by rw [show opCopy (st, lo, so, io) (nI a) i (nI b) j n = _ from if_neg (by omega), nTN (by omega), nTN (by omega)]
      dsimp only at en
      refine g_aload_n (i := 0) dX8_copy_22 rfl rfl ?_
      refine g_iconst (v := 0) dX8_copy_23 (by decide) ?_
      refine g_put dX8_copy_24 pl_X8_110 (by repeat' (first | assumption | exact rF_eq | refine rF_ne (by decide) ?_ | refine rF_a ?_ | exact rA_eq | refine rA_ne (by decide) ?_ | refine rA_f ?_)) (fun _ => ⟨rfl, rfl⟩) ?_
      refine g_aload_n (i := 0) dX8_copy_27 rfl rfl ?_
      refine g_get dX8_copy_28 fl_X8_7 (by repeat' (first | assumption | exact rF_eq | refine rF_ne (by decide) ?_ | refine rF_a ?_ | exact rA_eq | refine rA_ne (by decide) ?_ | refine rA_f ?_)) (by repeat' (first | assumption | exact rF_eq | refine rF_ne (by decide) ?_ | refine rF_a ?_ | exact rA_eq | refine rA_ne (by decide) ?_ | refine rA_f ?_)) ?_
      refine g_iload_n (i := 1) dX8_copy_31 rfl rfl ?_
      refine g_iald dX8_copy_32 (by repeat' (first | assumption | exact rF_eq | refine rF_ne (by decide) ?_ | refine rF_a ?_ | exact rA_eq | refine rA_ne (by decide) ?_ | refine rA_f ?_)) (hta) (ha) ?_
      refine g_if_lt (tgt := 45) dX8_copy_33 (by decide) (fun hc33 => ?_) (fun hc33 => ?_)
      · (try simp (disch := omega) only [nT, t_m1000100, t_m1000010, t_m1000003, t_m1000002, t_m1000001, t_m1000000, t_m65535, t_m1000, t_m3, t_m1, t_0, t_1, t_2, t_3, t_4, t_5, t_6, t_7, t_8, t_9, t_10, t_11, t_12, t_13, t_15, t_16, t_20, t_21, t_22, t_32, t_40, t_41, t_48, t_49, t_57, t_59, t_60, t_63, t_72, t_76, t_88, t_100, t_144, t_200, t_255, t_288, t_400, t_800, t_999, t_1000, t_1024, t_1200, t_1600, t_3200, t_100000, t_200000, t_252645135, t_858993459, t_1431655765, u_m1000002, u_m1000001, u_m1000, u_m3, u_m1, u_0, u_1, u_2, u_3, u_4, u_5, u_7, u_8, u_10, u_11, u_15, u_60, u_100, u_255, u_999, u_1000, u_100000, u_4294967295] at hc33)
        refine g_aload_n (i := 0) dX8_copy_45 rfl rfl ?_
        refine g_iconst (v := 1) dX8_copy_46 (by decide) ?_
        refine g_callV (M' := mX8_found) dX8_copy_47 lc_X8_found ml_X8_127 (c_mfound (h := sF (sF h 44 0 (.int 0)) 44 1 (.int 0)) e1 1) rfl rfl (by repeat' (first | assumption | exact rF_eq | refine rF_ne (by decide) ?_ | refine rF_a ?_ | exact rA_eq | refine rA_ne (by decide) ?_ | refine rA_f ?_)) rfl ⟨Nat.le_of_ble_eq_true rfl, Nat.le_of_ble_eq_true rfl, Nat.le_of_ble_eq_true rfl, Nat.le_of_ble_eq_true rfl⟩ (Nat.le_of_ble_eq_true rfl) ?_
        intro r_ h_ q_; obtain ⟨q1_, q2_⟩ := q_; have q2_ := q2_.symm; subst q1_; subst q2_
        refine g_iret dX8_copy_50 rfl (rfl) (hQ _ _ ?_)
        have e := (en _).mpr (if_pos (by omega))
        rw [e]; exact ⟨rfl, ⟨ln, sz, it, rfl, ⟨e1, e2, e3, e4, e5, e6, e7⟩, hE⟩, fr_sF (by decide) (fr_sF (by decide) (fr_sF (by decide) fr_rf))⟩
      · (try simp (disch := omega) only [nT, t_m1000100, t_m1000010, t_m1000003, t_m1000002, t_m1000001, t_m1000000, t_m65535, t_m1000, t_m3, t_m1, t_0, t_1, t_2, t_3, t_4, t_5, t_6, t_7, t_8, t_9, t_10, t_11, t_12, t_13, t_15, t_16, t_20, t_21, t_22, t_32, t_40, t_41, t_48, t_49, t_57, t_59, t_60, t_63, t_72, t_76, t_88, t_100, t_144, t_200, t_255, t_288, t_400, t_800, t_999, t_1000, t_1024, t_1200, t_1600, t_3200, t_100000, t_200000, t_252645135, t_858993459, t_1431655765, u_m1000002, u_m1000001, u_m1000, u_m3, u_m1, u_0, u_1, u_2, u_3, u_4, u_5, u_7, u_8, u_10, u_11, u_15, u_60, u_100, u_255, u_999, u_1000, u_100000, u_4294967295] at hc33)
        refine g_aload_n (i := 0) dX8_copy_36 rfl rfl ?_
        refine g_get dX8_copy_37 fl_X8_7 (by repeat' (first | assumption | exact rF_eq | refine rF_ne (by decide) ?_ | refine rF_a ?_ | exact rA_eq | refine rA_ne (by decide) ?_ | refine rA_f ?_)) (by repeat' (first | assumption | exact rF_eq | refine rF_ne (by decide) ?_ | refine rF_a ?_ | exact rA_eq | refine rA_ne (by decide) ?_ | refine rA_f ?_)) ?_
        refine g_iload_n (i := 3) dX8_copy_40 rfl rfl ?_
        refine g_iald dX8_copy_41 (by repeat' (first | assumption | exact rF_eq | refine rF_ne (by decide) ?_ | refine rF_a ?_ | exact rA_eq | refine rA_ne (by decide) ?_ | refine rA_f ?_)) (htb) (hb) ?_
        refine g_if_ge (tgt := 51) dX8_copy_42 (by decide) (fun hc42 => ?_) (fun hc42 => ?_)
        · (try simp (disch := omega) only [nT, t_m1000100, t_m1000010, t_m1000003, t_m1000002, t_m1000001, t_m1000000, t_m65535, t_m1000, t_m3, t_m1, t_0, t_1, t_2, t_3, t_4, t_5, t_6, t_7, t_8, t_9, t_10, t_11, t_12, t_13, t_15, t_16, t_20, t_21, t_22, t_32, t_40, t_41, t_48, t_49, t_57, t_59, t_60, t_63, t_72, t_76, t_88, t_100, t_144, t_200, t_255, t_288, t_400, t_800, t_999, t_1000, t_1024, t_1200, t_1600, t_3200, t_100000, t_200000, t_252645135, t_858993459, t_1431655765, u_m1000002, u_m1000001, u_m1000, u_m3, u_m1, u_0, u_1, u_2, u_3, u_4, u_5, u_7, u_8, u_10, u_11, u_15, u_60, u_100, u_255, u_999, u_1000, u_100000, u_4294967295] at hc42)
          refine g_aload_n (i := 0) dX8_copy_51 rfl rfl ?_
          refine g_get dX8_copy_52 fl_X8_7 (by repeat' (first | assumption | exact rF_eq | refine rF_ne (by decide) ?_ | refine rF_a ?_ | exact rA_eq | refine rA_ne (by decide) ?_ | refine rA_f ?_)) (by repeat' (first | assumption | exact rF_eq | refine rF_ne (by decide) ?_ | refine rF_a ?_ | exact rA_eq | refine rA_ne (by decide) ?_ | refine rA_f ?_)) ?_
          refine g_iload_n (i := 1) dX8_copy_55 rfl rfl ?_
          refine g_iald dX8_copy_56 (by repeat' (first | assumption | exact rF_eq | refine rF_ne (by decide) ?_ | refine rF_a ?_ | exact rA_eq | refine rA_ne (by decide) ?_ | refine rA_f ?_)) (hta) (ha) ?_
          refine g_aload_n (i := 0) dX8_copy_57 rfl rfl ?_
          refine g_get dX8_copy_58 fl_X8_7 (by repeat' (first | assumption | exact rF_eq | refine rF_ne (by decide) ?_ | refine rF_a ?_ | exact rA_eq | refine rA_ne (by decide) ?_ | refine rA_f ?_)) (by repeat' (first | assumption | exact rF_eq | refine rF_ne (by decide) ?_ | refine rF_a ?_ | exact rA_eq | refine rA_ne (by decide) ?_ | refine rA_f ?_)) ?_
          refine g_iload_n (i := 3) dX8_copy_61 rfl rfl ?_
          refine g_iald dX8_copy_62 (by repeat' (first | assumption | exact rF_eq | refine rF_ne (by decide) ?_ | refine rF_a ?_ | exact rA_eq | refine rA_ne (by decide) ?_ | refine rA_f ?_)) (htb) (hb) ?_
          refine g_icmp_eq (tgt := 72) dX8_copy_63 (by decide) (fun hc63 => ?_) (fun hc63 => ?_)
          · have hd63 := i_eq.mp hc63; (try simp (disch := omega) only [nT, t_m1000100, t_m1000010, t_m1000003, t_m1000002, t_m1000001, t_m1000000, t_m65535, t_m1000, t_m3, t_m1, t_0, t_1, t_2, t_3, t_4, t_5, t_6, t_7, t_8, t_9, t_10, t_11, t_12, t_13, t_15, t_16, t_20, t_21, t_22, t_32, t_40, t_41, t_48, t_49, t_57, t_59, t_60, t_63, t_72, t_76, t_88, t_100, t_144, t_200, t_255, t_288, t_400, t_800, t_999, t_1000, t_1024, t_1200, t_1600, t_3200, t_100000, t_200000, t_252645135, t_858993459, t_1431655765, u_m1000002, u_m1000001, u_m1000, u_m3, u_m1, u_0, u_1, u_2, u_3, u_4, u_5, u_7, u_8, u_10, u_11, u_15, u_60, u_100, u_255, u_999, u_1000, u_100000, u_4294967295] at hd63)
            refine g_iload_n (i := 2) dX8_copy_72 rfl rfl ?_
            refine g_if_lt (tgt := 121) dX8_copy_73 (by decide) (fun hc73 => ?_) (fun hc73 => ?_)
            · (try simp (disch := omega) only [nT, t_m1000100, t_m1000010, t_m1000003, t_m1000002, t_m1000001, t_m1000000, t_m65535, t_m1000, t_m3, t_m1, t_0, t_1, t_2, t_3, t_4, t_5, t_6, t_7, t_8, t_9, t_10, t_11, t_12, t_13, t_15, t_16, t_20, t_21, t_22, t_32, t_40, t_41, t_48, t_49, t_57, t_59, t_60, t_63, t_72, t_76, t_88, t_100, t_144, t_200, t_255, t_288, t_400, t_800, t_999, t_1000, t_1024, t_1200, t_1600, t_3200, t_100000, t_200000, t_252645135, t_858993459, t_1431655765, u_m1000002, u_m1000001, u_m1000, u_m3, u_m1, u_0, u_1, u_2, u_3, u_4, u_5, u_7, u_8, u_10, u_11, u_15, u_60, u_100, u_255, u_999, u_1000, u_100000, u_4294967295] at hc73)
              refine g_aload_n (i := 0) dX8_copy_121 rfl rfl ?_
              refine g_iconst (v := 2) dX8_copy_122 (by decide) ?_
              refine g_callV (M' := mX8_found) dX8_copy_123 lc_X8_found ml_X8_127 (c_mfound (h := sF (sF h 44 0 (.int 0)) 44 1 (.int 0)) e1 2) rfl rfl (by repeat' (first | assumption | exact rF_eq | refine rF_ne (by decide) ?_ | refine rF_a ?_ | exact rA_eq | refine rA_ne (by decide) ?_ | refine rA_f ?_)) rfl ⟨Nat.le_of_ble_eq_true rfl, Nat.le_of_ble_eq_true rfl, Nat.le_of_ble_eq_true rfl, Nat.le_of_ble_eq_true rfl⟩ (Nat.le_of_ble_eq_true rfl) ?_
              intro r_ h_ q_; obtain ⟨q1_, q2_⟩ := q_; have q2_ := q2_.symm; subst q1_; subst q2_
              refine g_iret dX8_copy_126 rfl (rfl) (hQ _ _ ?_)
              have e := (en _).mpr ((if_neg (by omega)).trans ((if_neg (by omega)).trans (if_pos (by omega))))
              rw [e]; exact ⟨rfl, ⟨ln, sz, it, rfl, ⟨e1, e2, e3, e4, e5, e6, e7⟩, hE⟩, fr_sF (by decide) (fr_sF (by decide) (fr_sF (by decide) fr_rf))⟩
            · (try simp (disch := omega) only [nT, t_m1000100, t_m1000010, t_m1000003, t_m1000002, t_m1000001, t_m1000000, t_m65535, t_m1000, t_m3, t_m1, t_0, t_1, t_2, t_3, t_4, t_5, t_6, t_7, t_8, t_9, t_10, t_11, t_12, t_13, t_15, t_16, t_20, t_21, t_22, t_32, t_40, t_41, t_48, t_49, t_57, t_59, t_60, t_63, t_72, t_76, t_88, t_100, t_144, t_200, t_255, t_288, t_400, t_800, t_999, t_1000, t_1024, t_1200, t_1600, t_3200, t_100000, t_200000, t_252645135, t_858993459, t_1431655765, u_m1000002, u_m1000001, u_m1000, u_m3, u_m1, u_0, u_1, u_2, u_3, u_4, u_5, u_7, u_8, u_10, u_11, u_15, u_60, u_100, u_255, u_999, u_1000, u_100000, u_4294967295] at hc73)
              refine g_iload dX8_copy_76 rfl ?_
              refine g_if_lt (tgt := 121) dX8_copy_78 (by decide) (fun hc78 => ?_) (fun hc78 => ?_)
              · (try simp (disch := omega) only [nT, t_m1000100, t_m1000010, t_m1000003, t_m1000002, t_m1000001, t_m1000000, t_m65535, t_m1000, t_m3, t_m1, t_0, t_1, t_2, t_3, t_4, t_5, t_6, t_7, t_8, t_9, t_10, t_11, t_12, t_13, t_15, t_16, t_20, t_21, t_22, t_32, t_40, t_41, t_48, t_49, t_57, t_59, t_60, t_63, t_72, t_76, t_88, t_100, t_144, t_200, t_255, t_288, t_400, t_800, t_999, t_1000, t_1024, t_1200, t_1600, t_3200, t_100000, t_200000, t_252645135, t_858993459, t_1431655765, u_m1000002, u_m1000001, u_m1000, u_m3, u_m1, u_0, u_1, u_2, u_3, u_4, u_5, u_7, u_8, u_10, u_11, u_15, u_60, u_100, u_255, u_999, u_1000, u_100000, u_4294967295] at hc78)
                refine g_aload_n (i := 0) dX8_copy_121 rfl rfl ?_
                refine g_iconst (v := 2) dX8_copy_122 (by decide) ?_
                refine g_callV (M' := mX8_found) dX8_copy_123 lc_X8_found ml_X8_127 (c_mfound (h := sF (sF h 44 0 (.int 0)) 44 1 (.int 0)) e1 2) rfl rfl (by repeat' (first | assumption | exact rF_eq | refine rF_ne (by decide) ?_ | refine rF_a ?_ | exact rA_eq | refine rA_ne (by decide) ?_ | refine rA_f ?_)) rfl ⟨Nat.le_of_ble_eq_true rfl, Nat.le_of_ble_eq_true rfl, Nat.le_of_ble_eq_true rfl, Nat.le_of_ble_eq_true rfl⟩ (Nat.le_of_ble_eq_true rfl) ?_
                intro r_ h_ q_; obtain ⟨q1_, q2_⟩ := q_; have q2_ := q2_.symm; subst q1_; subst q2_
                refine g_iret dX8_copy_126 rfl (rfl) (hQ _ _ ?_)
                have e := (en _).mpr ((if_neg (by omega)).trans ((if_neg (by omega)).trans (if_pos (by omega))))
                rw [e]; exact ⟨rfl, ⟨ln, sz, it, rfl, ⟨e1, e2, e3, e4, e5, e6, e7⟩, hE⟩, fr_sF (by decide) (fr_sF (by decide) (fr_sF (by decide) fr_rf))⟩
              · (try simp (disch := omega) only [nT, t_m1000100, t_m1000010, t_m1000003, t_m1000002, t_m1000001, t_m1000000, t_m65535, t_m1000, t_m3, t_m1, t_0, t_1, t_2, t_3, t_4, t_5, t_6, t_7, t_8, t_9, t_10, t_11, t_12, t_13, t_15, t_16, t_20, t_21, t_22, t_32, t_40, t_41, t_48, t_49, t_57, t_59, t_60, t_63, t_72, t_76, t_88, t_100, t_144, t_200, t_255, t_288, t_400, t_800, t_999, t_1000, t_1024, t_1200, t_1600, t_3200, t_100000, t_200000, t_252645135, t_858993459, t_1431655765, u_m1000002, u_m1000001, u_m1000, u_m3, u_m1, u_0, u_1, u_2, u_3, u_4, u_5, u_7, u_8, u_10, u_11, u_15, u_60, u_100, u_255, u_999, u_1000, u_100000, u_4294967295] at hc78)
                refine g_iload dX8_copy_81 rfl ?_
                refine g_if_lt (tgt := 121) dX8_copy_83 (by decide) (fun hc83 => ?_) (fun hc83 => ?_)
                · (try simp (disch := omega) only [nT, t_m1000100, t_m1000010, t_m1000003, t_m1000002, t_m1000001, t_m1000000, t_m65535, t_m1000, t_m3, t_m1, t_0, t_1, t_2, t_3, t_4, t_5, t_6, t_7, t_8, t_9, t_10, t_11, t_12, t_13, t_15, t_16, t_20, t_21, t_22, t_32, t_40, t_41, t_48, t_49, t_57, t_59, t_60, t_63, t_72, t_76, t_88, t_100, t_144, t_200, t_255, t_288, t_400, t_800, t_999, t_1000, t_1024, t_1200, t_1600, t_3200, t_100000, t_200000, t_252645135, t_858993459, t_1431655765, u_m1000002, u_m1000001, u_m1000, u_m3, u_m1, u_0, u_1, u_2, u_3, u_4, u_5, u_7, u_8, u_10, u_11, u_15, u_60, u_100, u_255, u_999, u_1000, u_100000, u_4294967295] at hc83)
                  refine g_aload_n (i := 0) dX8_copy_121 rfl rfl ?_
                  refine g_iconst (v := 2) dX8_copy_122 (by decide) ?_
                  refine g_callV (M' := mX8_found) dX8_copy_123 lc_X8_found ml_X8_127 (c_mfound (h := sF (sF h 44 0 (.int 0)) 44 1 (.int 0)) e1 2) rfl rfl (by repeat' (first | assumption | exact rF_eq | refine rF_ne (by decide) ?_ | refine rF_a ?_ | exact rA_eq | refine rA_ne (by decide) ?_ | refine rA_f ?_)) rfl ⟨Nat.le_of_ble_eq_true rfl, Nat.le_of_ble_eq_true rfl, Nat.le_of_ble_eq_true rfl, Nat.le_of_ble_eq_true rfl⟩ (Nat.le_of_ble_eq_true rfl) ?_
                  intro r_ h_ q_; obtain ⟨q1_, q2_⟩ := q_; have q2_ := q2_.symm; subst q1_; subst q2_
                  refine g_iret dX8_copy_126 rfl (rfl) (hQ _ _ ?_)
                  have e := (en _).mpr ((if_neg (by omega)).trans ((if_neg (by omega)).trans (if_pos (by omega))))
                  rw [e]; exact ⟨rfl, ⟨ln, sz, it, rfl, ⟨e1, e2, e3, e4, e5, e6, e7⟩, hE⟩, fr_sF (by decide) (fr_sF (by decide) (fr_sF (by decide) fr_rf))⟩
                · (try simp (disch := omega) only [nT, t_m1000100, t_m1000010, t_m1000003, t_m1000002, t_m1000001, t_m1000000, t_m65535, t_m1000, t_m3, t_m1, t_0, t_1, t_2, t_3, t_4, t_5, t_6, t_7, t_8, t_9, t_10, t_11, t_12, t_13, t_15, t_16, t_20, t_21, t_22, t_32, t_40, t_41, t_48, t_49, t_57, t_59, t_60, t_63, t_72, t_76, t_88, t_100, t_144, t_200, t_255, t_288, t_400, t_800, t_999, t_1000, t_1024, t_1200, t_1600, t_3200, t_100000, t_200000, t_252645135, t_858993459, t_1431655765, u_m1000002, u_m1000001, u_m1000, u_m3, u_m1, u_0, u_1, u_2, u_3, u_4, u_5, u_7, u_8, u_10, u_11, u_15, u_60, u_100, u_255, u_999, u_1000, u_100000, u_4294967295] at hc83)
                  refine g_iload_n (i := 2) dX8_copy_86 rfl rfl ?_
                  refine g_i2l dX8_copy_87 ?_
                  refine g_iload dX8_copy_88 rfl ?_
                  refine g_i2l dX8_copy_90 ?_
                  refine g_ladd dX8_copy_91 ?_
                  refine g_aload_n (i := 0) dX8_copy_92 rfl rfl ?_
                  refine g_get dX8_copy_93 fl_X8_13 (by repeat' (first | assumption | exact rF_eq | refine rF_ne (by decide) ?_ | refine rF_a ?_ | exact rA_eq | refine rA_ne (by decide) ?_ | refine rA_f ?_)) (by repeat' (first | assumption | exact rF_eq | refine rF_ne (by decide) ?_ | refine rF_a ?_ | exact rA_eq | refine rA_ne (by decide) ?_ | refine rA_f ?_)) ?_
                  refine g_iload_n (i := 1) dX8_copy_96 rfl rfl ?_
                  refine g_iald dX8_copy_97 (by repeat' (first | assumption | exact rF_eq | refine rF_ne (by decide) ?_ | refine rF_a ?_ | exact rA_eq | refine rA_ne (by decide) ?_ | refine rA_f ?_)) (hta) (ha) ?_
                  refine g_i2l dX8_copy_98 ?_
                  refine g_lcmp dX8_copy_99 ?_
                  refine g_if_gt (tgt := 121) dX8_copy_100 (by decide) (fun hc100 => ?_) (fun hc100 => ?_)
                  · replace hc100 := lc_gt.mp hc100; (try simp only [l_add32, l_i] at hc100)
                    (try simp (disch := omega) only [nT, t_m1000100, t_m1000010, t_m1000003, t_m1000002, t_m1000001, t_m1000000, t_m65535, t_m1000, t_m3, t_m1, t_0, t_1, t_2, t_3, t_4, t_5, t_6, t_7, t_8, t_9, t_10, t_11, t_12, t_13, t_15, t_16, t_20, t_21, t_22, t_32, t_40, t_41, t_48, t_49, t_57, t_59, t_60, t_63, t_72, t_76, t_88, t_100, t_144, t_200, t_255, t_288, t_400, t_800, t_999, t_1000, t_1024, t_1200, t_1600, t_3200, t_100000, t_200000, t_252645135, t_858993459, t_1431655765, u_m1000002, u_m1000001, u_m1000, u_m3, u_m1, u_0, u_1, u_2, u_3, u_4, u_5, u_7, u_8, u_10, u_11, u_15, u_60, u_100, u_255, u_999, u_1000, u_100000, u_4294967295] at hc100)
                    refine g_aload_n (i := 0) dX8_copy_121 rfl rfl ?_
                    refine g_iconst (v := 2) dX8_copy_122 (by decide) ?_
                    refine g_callV (M' := mX8_found) dX8_copy_123 lc_X8_found ml_X8_127 (c_mfound (h := sF (sF h 44 0 (.int 0)) 44 1 (.int 0)) e1 2) rfl rfl (by repeat' (first | assumption | exact rF_eq | refine rF_ne (by decide) ?_ | refine rF_a ?_ | exact rA_eq | refine rA_ne (by decide) ?_ | refine rA_f ?_)) rfl ⟨Nat.le_of_ble_eq_true rfl, Nat.le_of_ble_eq_true rfl, Nat.le_of_ble_eq_true rfl, Nat.le_of_ble_eq_true rfl⟩ (Nat.le_of_ble_eq_true rfl) ?_
                    intro r_ h_ q_; obtain ⟨q1_, q2_⟩ := q_; have q2_ := q2_.symm; subst q1_; subst q2_
                    refine g_iret dX8_copy_126 rfl (rfl) (hQ _ _ ?_)
                    have e := (en _).mpr ((if_neg (by omega)).trans ((if_neg (by omega)).trans (if_pos (by omega))))
                    rw [e]; exact ⟨rfl, ⟨ln, sz, it, rfl, ⟨e1, e2, e3, e4, e5, e6, e7⟩, hE⟩, fr_sF (by decide) (fr_sF (by decide) (fr_sF (by decide) fr_rf))⟩
                  · replace hc100 := lc_le.mp hc100; (try simp only [l_add32, l_i] at hc100)
                    (try simp (disch := omega) only [nT, t_m1000100, t_m1000010, t_m1000003, t_m1000002, t_m1000001, t_m1000000, t_m65535, t_m1000, t_m3, t_m1, t_0, t_1, t_2, t_3, t_4, t_5, t_6, t_7, t_8, t_9, t_10, t_11, t_12, t_13, t_15, t_16, t_20, t_21, t_22, t_32, t_40, t_41, t_48, t_49, t_57, t_59, t_60, t_63, t_72, t_76, t_88, t_100, t_144, t_200, t_255, t_288, t_400, t_800, t_999, t_1000, t_1024, t_1200, t_1600, t_3200, t_100000, t_200000, t_252645135, t_858993459, t_1431655765, u_m1000002, u_m1000001, u_m1000, u_m3, u_m1, u_0, u_1, u_2, u_3, u_4, u_5, u_7, u_8, u_10, u_11, u_15, u_60, u_100, u_255, u_999, u_1000, u_100000, u_4294967295] at hc100)
                    refine g_iload dX8_copy_103 rfl ?_
                    refine g_i2l dX8_copy_105 ?_
                    refine g_iload dX8_copy_106 rfl ?_
                    refine g_i2l dX8_copy_108 ?_
                    refine g_ladd dX8_copy_109 ?_
                    refine g_aload_n (i := 0) dX8_copy_110 rfl rfl ?_
                    refine g_get dX8_copy_111 fl_X8_13 (by repeat' (first | assumption | exact rF_eq | refine rF_ne (by decide) ?_ | refine rF_a ?_ | exact rA_eq | refine rA_ne (by decide) ?_ | refine rA_f ?_)) (by repeat' (first | assumption | exact rF_eq | refine rF_ne (by decide) ?_ | refine rF_a ?_ | exact rA_eq | refine rA_ne (by decide) ?_ | refine rA_f ?_)) ?_
                    refine g_iload_n (i := 3) dX8_copy_114 rfl rfl ?_
                    refine g_iald dX8_copy_115 (by repeat' (first | assumption | exact rF_eq | refine rF_ne (by decide) ?_ | refine rF_a ?_ | exact rA_eq | refine rA_ne (by decide) ?_ | refine rA_f ?_)) (htb) (hb) ?_
                    refine g_i2l dX8_copy_116 ?_
                    refine g_lcmp dX8_copy_117 ?_
                    refine g_if_le (tgt := 127) dX8_copy_118 (by decide) (fun hc118 => ?_) (fun hc118 => ?_)
                    · replace hc118 := lc_le.mp hc118; (try simp only [l_add32, l_i] at hc118)
                      (try simp (disch := omega) only [nT, t_m1000100, t_m1000010, t_m1000003, t_m1000002, t_m1000001, t_m1000000, t_m65535, t_m1000, t_m3, t_m1, t_0, t_1, t_2, t_3, t_4, t_5, t_6, t_7, t_8, t_9, t_10, t_11, t_12, t_13, t_15, t_16, t_20, t_21, t_22, t_32, t_40, t_41, t_48, t_49, t_57, t_59, t_60, t_63, t_72, t_76, t_88, t_100, t_144, t_200, t_255, t_288, t_400, t_800, t_999, t_1000, t_1024, t_1200, t_1600, t_3200, t_100000, t_200000, t_252645135, t_858993459, t_1431655765, u_m1000002, u_m1000001, u_m1000, u_m3, u_m1, u_0, u_1, u_2, u_3, u_4, u_5, u_7, u_8, u_10, u_11, u_15, u_60, u_100, u_255, u_999, u_1000, u_100000, u_4294967295] at hc118)
                      have e := (en _).mpr ((if_neg (by omega)).trans ((if_neg (by omega)).trans (if_neg (by omega))))
                      obtain ⟨i, hi, rfl, hti⟩ := n_of (n := 101) (x := i) (by omega) (by omega)
                      obtain ⟨j, hj, rfl, htj⟩ := n_of (n := 101) (x := j) (by omega) (by omega)
                      obtain ⟨n, hn, rfl, htn⟩ := n_of (n := 101) (x := n) (by omega) (by omega)
                      rw [nTN (by omega), nTN (by omega), nTN (by omega)] at e
                      have hend : Q' (some (.int (nI n))) (sA (sF (sF h 44 0 (.int 0)) 44 1 (.int 0)) 47 (aI 800 (va_cpy it it (100 * a + i) (100 * b + j) n))) := by
                        refine hQ _ _ ?_
                        rw [e]
                        refine ⟨rfl, ⟨ln, sz, _, rfl, ⟨e1, e2, e3, e4, e5, e6, rfl⟩, hE.1, fun c q hc hq => ?_⟩, fr_sA (by decide) (fr_sF (by decide) (fr_sF (by decide) fr_rf))⟩
                        have h8 := hw c hc
                        have h9 := hE.2 c q hc hq
                        dsimp only at h8 h9 hq ⊢
                        unfold va_cpy
                        by_cases z : 100 * b + j ≤ 100 * c + q ∧ 100 * c + q < 100 * b + j + n
                        · rw [if_pos z, if_pos z]
                          have h7 := hE.2 a (i + (100 * c + q - (100 * b + j))) ha (by dsimp only; omega)
                          rw [← Nat.add_assoc] at h7
                          exact h7
                        · rw [if_neg z, if_neg z]; exact h9
                      refine g_iload_n (i := 2) dX8_copy_127 rfl rfl ?_
                      refine g_iload dX8_copy_128 rfl ?_
                      refine g_icmp_lt (tgt := 137) dX8_copy_130 (by decide) (fun hc130 => ?_) (fun hc130 => ?_)
                      · (try simp (disch := omega) only [nT, t_m1000100, t_m1000010, t_m1000003, t_m1000002, t_m1000001, t_m1000000, t_m65535, t_m1000, t_m3, t_m1, t_0, t_1, t_2, t_3, t_4, t_5, t_6, t_7, t_8, t_9, t_10, t_11, t_12, t_13, t_15, t_16, t_20, t_21, t_22, t_32, t_40, t_41, t_48, t_49, t_57, t_59, t_60, t_63, t_72, t_76, t_88, t_100, t_144, t_200, t_255, t_288, t_400, t_800, t_999, t_1000, t_1024, t_1200, t_1600, t_3200, t_100000, t_200000, t_252645135, t_858993459, t_1431655765, u_m1000002, u_m1000001, u_m1000, u_m3, u_m1, u_0, u_1, u_2, u_3, u_4, u_5, u_7, u_8, u_10, u_11, u_15, u_60, u_100, u_255, u_999, u_1000, u_100000, u_4294967295] at hc130)
                        refine g_iconst (v := 0) dX8_copy_137 (by decide) ?_
                        refine g_istore dX8_copy_138 (Nat.le_of_ble_eq_true rfl) rfl ?_
                        refine g_iconst (v := 0) dX8_copy_140 (by decide) ?_
                        refine g_istore dX8_copy_141 (Nat.le_of_ble_eq_true rfl) rfl ?_
                        first
                        | (have key := l_mcopyF (h := sF (sF h 44 0 (.int 0)) 44 1 (.int 0)) (ln := ln) (sz := sz) (it := it) ⟨e1, e2, e3, e4, e5, e6, e7⟩ (a := a) (b := b) (i := i) (j := j) (n := n) ha hb (by omega) (by omega) (by omega) hend n 0 (by omega) hU
                           rw [cpy_0, sA_self (show gA (sF (sF h 44 0 (.int 0)) 44 1 (.int 0)) 47 = aI 800 it from e7)] at key
                           exact key)
                        | (have key := l_mcopyB (h := sF (sF h 44 0 (.int 0)) 44 1 (.int 0)) (ln := ln) (sz := sz) (it := it) ⟨e1, e2, e3, e4, e5, e6, e7⟩ (a := a) (b := b) (i := i) (j := j) (n := n) ha hb (by omega) (by omega) (by omega) hend n 0 (by omega) hU
                           rw [cpy_0, sA_self (show gA (sF (sF h 44 0 (.int 0)) 44 1 (.int 0)) 47 = aI 800 it from e7)] at key
                           exact key)
                      · (try simp (disch := omega) only [nT, t_m1000100, t_m1000010, t_m1000003, t_m1000002, t_m1000001, t_m1000000, t_m65535, t_m1000, t_m3, t_m1, t_0, t_1, t_2, t_3, t_4, t_5, t_6, t_7, t_8, t_9, t_10, t_11, t_12, t_13, t_15, t_16, t_20, t_21, t_22, t_32, t_40, t_41, t_48, t_49, t_57, t_59, t_60, t_63, t_72, t_76, t_88, t_100, t_144, t_200, t_255, t_288, t_400, t_800, t_999, t_1000, t_1024, t_1200, t_1600, t_3200, t_100000, t_200000, t_252645135, t_858993459, t_1431655765, u_m1000002, u_m1000001, u_m1000, u_m3, u_m1, u_0, u_1, u_2, u_3, u_4, u_5, u_7, u_8, u_10, u_11, u_15, u_60, u_100, u_255, u_999, u_1000, u_100000, u_4294967295] at hc130)
                        refine g_iconst (v := 1) dX8_copy_133 (by decide) ?_
                        refine g_goto (tgt := 138) dX8_copy_134 (by decide) ?_
                        refine g_istore dX8_copy_138 (Nat.le_of_ble_eq_true rfl) rfl ?_
                        refine g_iconst (v := 0) dX8_copy_140 (by decide) ?_
                        refine g_istore dX8_copy_141 (Nat.le_of_ble_eq_true rfl) rfl ?_
                        first
                        | (have key := l_mcopyF (h := sF (sF h 44 0 (.int 0)) 44 1 (.int 0)) (ln := ln) (sz := sz) (it := it) ⟨e1, e2, e3, e4, e5, e6, e7⟩ (a := a) (b := b) (i := i) (j := j) (n := n) ha hb (by omega) (by omega) (by omega) hend n 0 (by omega) hU
                           rw [cpy_0, sA_self (show gA (sF (sF h 44 0 (.int 0)) 44 1 (.int 0)) 47 = aI 800 it from e7)] at key
                           exact key)
                        | (have key := l_mcopyB (h := sF (sF h 44 0 (.int 0)) 44 1 (.int 0)) (ln := ln) (sz := sz) (it := it) ⟨e1, e2, e3, e4, e5, e6, e7⟩ (a := a) (b := b) (i := i) (j := j) (n := n) ha hb (by omega) (by omega) (by omega) hend n 0 (by omega) hU
                           rw [cpy_0, sA_self (show gA (sF (sF h 44 0 (.int 0)) 44 1 (.int 0)) 47 = aI 800 it from e7)] at key
                           exact key)
                    · replace hc118 := lc_gt.mp hc118; (try simp only [l_add32, l_i] at hc118)
                      (try simp (disch := omega) only [nT, t_m1000100, t_m1000010, t_m1000003, t_m1000002, t_m1000001, t_m1000000, t_m65535, t_m1000, t_m3, t_m1, t_0, t_1, t_2, t_3, t_4, t_5, t_6, t_7, t_8, t_9, t_10, t_11, t_12, t_13, t_15, t_16, t_20, t_21, t_22, t_32, t_40, t_41, t_48, t_49, t_57, t_59, t_60, t_63, t_72, t_76, t_88, t_100, t_144, t_200, t_255, t_288, t_400, t_800, t_999, t_1000, t_1024, t_1200, t_1600, t_3200, t_100000, t_200000, t_252645135, t_858993459, t_1431655765, u_m1000002, u_m1000001, u_m1000, u_m3, u_m1, u_0, u_1, u_2, u_3, u_4, u_5, u_7, u_8, u_10, u_11, u_15, u_60, u_100, u_255, u_999, u_1000, u_100000, u_4294967295] at hc118)
                      refine g_aload_n (i := 0) dX8_copy_121 rfl rfl ?_
                      refine g_iconst (v := 2) dX8_copy_122 (by decide) ?_
                      refine g_callV (M' := mX8_found) dX8_copy_123 lc_X8_found ml_X8_127 (c_mfound (h := sF (sF h 44 0 (.int 0)) 44 1 (.int 0)) e1 2) rfl rfl (by repeat' (first | assumption | exact rF_eq | refine rF_ne (by decide) ?_ | refine rF_a ?_ | exact rA_eq | refine rA_ne (by decide) ?_ | refine rA_f ?_)) rfl ⟨Nat.le_of_ble_eq_true rfl, Nat.le_of_ble_eq_true rfl, Nat.le_of_ble_eq_true rfl, Nat.le_of_ble_eq_true rfl⟩ (Nat.le_of_ble_eq_true rfl) ?_
                      intro r_ h_ q_; obtain ⟨q1_, q2_⟩ := q_; have q2_ := q2_.symm; subst q1_; subst q2_
                      refine g_iret dX8_copy_126 rfl (rfl) (hQ _ _ ?_)
                      have e := (en _).mpr ((if_neg (by omega)).trans ((if_neg (by omega)).trans (if_pos (by omega))))
                      rw [e]; exact ⟨rfl, ⟨ln, sz, it, rfl, ⟨e1, e2, e3, e4, e5, e6, e7⟩, hE⟩, fr_sF (by decide) (fr_sF (by decide) (fr_sF (by decide) fr_rf))⟩
          · have hd63 := mt i_eq.mpr hc63; (try simp (disch := omega) only [nT, t_m1000100, t_m1000010, t_m1000003, t_m1000002, t_m1000001, t_m1000000, t_m65535, t_m1000, t_m3, t_m1, t_0, t_1, t_2, t_3, t_4, t_5, t_6, t_7, t_8, t_9, t_10, t_11, t_12, t_13, t_15, t_16, t_20, t_21, t_22, t_32, t_40, t_41, t_48, t_49, t_57, t_59, t_60, t_63, t_72, t_76, t_88, t_100, t_144, t_200, t_255, t_288, t_400, t_800, t_999, t_1000, t_1024, t_1200, t_1600, t_3200, t_100000, t_200000, t_252645135, t_858993459, t_1431655765, u_m1000002, u_m1000001, u_m1000, u_m3, u_m1, u_0, u_1, u_2, u_3, u_4, u_5, u_7, u_8, u_10, u_11, u_15, u_60, u_100, u_255, u_999, u_1000, u_100000, u_4294967295] at hd63)
            refine g_aload_n (i := 0) dX8_copy_66 rfl rfl ?_
            refine g_iconst (v := 5) dX8_copy_67 (by decide) ?_
            refine g_callV (M' := mX8_found) dX8_copy_68 lc_X8_found ml_X8_127 (c_mfound (h := sF (sF h 44 0 (.int 0)) 44 1 (.int 0)) e1 5) rfl rfl (by repeat' (first | assumption | exact rF_eq | refine rF_ne (by decide) ?_ | refine rF_a ?_ | exact rA_eq | refine rA_ne (by decide) ?_ | refine rA_f ?_)) rfl ⟨Nat.le_of_ble_eq_true rfl, Nat.le_of_ble_eq_true rfl, Nat.le_of_ble_eq_true rfl, Nat.le_of_ble_eq_true rfl⟩ (Nat.le_of_ble_eq_true rfl) ?_
            intro r_ h_ q_; obtain ⟨q1_, q2_⟩ := q_; have q2_ := q2_.symm; subst q1_; subst q2_
            refine g_iret dX8_copy_71 rfl (rfl) (hQ _ _ ?_)
            have e := (en _).mpr ((if_neg (by omega)).trans (if_pos (by omega)))
            rw [e]; exact ⟨rfl, ⟨ln, sz, it, rfl, ⟨e1, e2, e3, e4, e5, e6, e7⟩, hE⟩, fr_sF (by decide) (fr_sF (by decide) (fr_sF (by decide) fr_rf))⟩
        · (try simp (disch := omega) only [nT, t_m1000100, t_m1000010, t_m1000003, t_m1000002, t_m1000001, t_m1000000, t_m65535, t_m1000, t_m3, t_m1, t_0, t_1, t_2, t_3, t_4, t_5, t_6, t_7, t_8, t_9, t_10, t_11, t_12, t_13, t_15, t_16, t_20, t_21, t_22, t_32, t_40, t_41, t_48, t_49, t_57, t_59, t_60, t_63, t_72, t_76, t_88, t_100, t_144, t_200, t_255, t_288, t_400, t_800, t_999, t_1000, t_1024, t_1200, t_1600, t_3200, t_100000, t_200000, t_252645135, t_858993459, t_1431655765, u_m1000002, u_m1000001, u_m1000, u_m3, u_m1, u_0, u_1, u_2, u_3, u_4, u_5, u_7, u_8, u_10, u_11, u_15, u_60, u_100, u_255, u_999, u_1000, u_100000, u_4294967295] at hc42)
          refine g_aload_n (i := 0) dX8_copy_45 rfl rfl ?_
          refine g_iconst (v := 1) dX8_copy_46 (by decide) ?_
          refine g_callV (M' := mX8_found) dX8_copy_47 lc_X8_found ml_X8_127 (c_mfound (h := sF (sF h 44 0 (.int 0)) 44 1 (.int 0)) e1 1) rfl rfl (by repeat' (first | assumption | exact rF_eq | refine rF_ne (by decide) ?_ | refine rF_a ?_ | exact rA_eq | refine rA_ne (by decide) ?_ | refine rA_f ?_)) rfl ⟨Nat.le_of_ble_eq_true rfl, Nat.le_of_ble_eq_true rfl, Nat.le_of_ble_eq_true rfl, Nat.le_of_ble_eq_true rfl⟩ (Nat.le_of_ble_eq_true rfl) ?_
          intro r_ h_ q_; obtain ⟨q1_, q2_⟩ := q_; have q2_ := q2_.symm; subst q1_; subst q2_
          refine g_iret dX8_copy_50 rfl (rfl) (hQ _ _ ?_)
          have e := (en _).mpr (if_pos (by omega))
          rw [e]; exact ⟨rfl, ⟨ln, sz, it, rfl, ⟨e1, e2, e3, e4, e5, e6, e7⟩, hE⟩, fr_sF (by decide) (fr_sF (by decide) (fr_sF (by decide) fr_rf))⟩
    · replace hc16 := bI_0.mp hc16
      (try simp (disch := omega) only [nT, t_m1000100, t_m1000010, t_m1000003, t_m1000002, t_m1000001, t_m1000000, t_m65535, t_m1000, t_m3, t_m1, t_0, t_1, t_2, t_3, t_4, t_5, t_6, t_7, t_8, t_9, t_10, t_11, t_12, t_13, t_15, t_16, t_20, t_21, t_22, t_32, t_40, t_41, t_48, t_49, t_57, t_59, t_60, t_63, t_72, t_76, t_88, t_100, t_144, t_200, t_255, t_288, t_400, t_800, t_999, t_1000, t_1024, t_1200, t_1600, t_3200, t_100000, t_200000, t_252645135, t_858993459, t_1431655765, u_m1000002, u_m1000001, u_m1000, u_m3, u_m1, u_0, u_1, u_2, u_3, u_4, u_5, u_7, u_8, u_10, u_11, u_15, u_60, u_100, u_255, u_999, u_1000, u_100000, u_4294967295] at hc16)
      refine g_ldc dX8_copy_19 kc_X8_126 ?_
      refine g_iret dX8_copy_21 rfl (rfl) (hQ _ _ ?_)
      have e : opCopy (st, lo, so, io) a i b j n = _ := if_pos (by omega)
      rw [e]; exact ⟨rfl, ⟨ln, sz, it, h2, ⟨e1, e2, e3, e4, e5, e6, e7⟩, hE⟩, fr_sF (by decide) fr_rf⟩
