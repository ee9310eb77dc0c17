/-! the TESTS and THE FLOW -/
abbrev TS : Type := Nat × (Nat → Int32) × (Nat → Int32) × (Nat → Int32) × (Nat → Int32) × (Nat → Int32) × (Nat → Int32)
def WfT (w : TS) : Prop := w.1 ≤ 10 ∧ (∀ k, k < w.1 → ∃ j, j < w.1 ∧ w.2.2.2.2.2.2 k = nI j) ∧ (∀ j, j < w.1 → ∃ k, k < w.1 ∧ w.2.2.2.2.2.2 k = nI j) ∧ (∀ k, w.1 ≤ k → w.2.2.2.2.2.1 k = 0) ∧ ∀ k, k < w.1 → (1 ≤ (w.2.2.2.1 k).toInt ∧ (w.2.2.2.1 k).toInt ≤ 999) ∧ (0 ≤ (w.2.2.2.2.2.1 k).toInt ∧ (w.2.2.2.2.2.1 k).toInt ≤ 10) ∧ (1 ≤ (w.2.2.2.2.1 k).toInt ∧ (w.2.2.2.2.1 k).toInt ≤ 15)
def TsX (h : HH) (cn : Nat) (lo hi ti bi sh fl : Nat → Int32) : Prop := gA h 27 = aO 5 ∧ gF h 27 0 = .int (nI cn) ∧ gF h 27 1 = .ref 28 ∧ gF h 27 2 = .ref 29 ∧ gF h 27 3 = .ref 30 ∧ gF h 27 4 = .ref 31 ∧ gF h 27 5 = .ref 32 ∧ gF h 27 6 = .ref 33 ∧ gA h 28 = aI 10 lo ∧ gA h 29 = aI 10 hi ∧ gA h 30 = aI 10 ti ∧ gA h 31 = aI 10 bi ∧ gA h 32 = aI 10 sh ∧ gA h 33 = aI 10 fl
def GTX (w : TS) (h : HH) : Prop := (gA h 0 = aO 7 ∧ gF h 0 7 = .ref 27) ∧ TsX h w.1 w.2.1 w.2.2.1 w.2.2.2.1 w.2.2.2.2.1 w.2.2.2.2.2.1 w.2.2.2.2.2.2
def TsM (h : HH) (cn : Nat) (lo hi ti bi sh fl : Nat → Int32) : Prop := gA h 44 = aO 8 ∧ gF h 44 23 = .int (nI cn) ∧ gF h 44 24 = .ref 57 ∧ gF h 44 25 = .ref 58 ∧ gF h 44 26 = .ref 59 ∧ gF h 44 27 = .ref 60 ∧ gF h 44 28 = .ref 61 ∧ gF h 44 29 = .ref 62 ∧ gA h 57 = aI 10 lo ∧ gA h 58 = aI 10 hi ∧ gA h 59 = aI 10 ti ∧ gA h 60 = aI 10 bi ∧ gA h 61 = aI 10 sh ∧ gA h 62 = aI 10 fl
def GTM (w : TS) (h : HH) : Prop := TsM h w.1 w.2.1 w.2.2.1 w.2.2.2.1 w.2.2.2.2.1 w.2.2.2.2.2.1 w.2.2.2.2.2.2
def opTest (w : TS) (l u t b : Int32) : Int32 × TS :=
  if ¬ (1 ≤ t.toInt ∧ t.toInt ≤ 999) ∨ ¬ (1 ≤ b.toInt ∧ b.toInt ≤ 15) then (-1000001, w)
  else if w.1 = 10 then (-1000003, w)
  else (nI w.1, w.1 + 1, upd w.2.1 w.1 l, upd w.2.2.1 w.1 u, upd w.2.2.2.1 w.1 t, upd w.2.2.2.2.1 w.1 b, w.2.2.2.2.2.1, upd w.2.2.2.2.2.2 w.1 (nI w.1))
theorem c_add {h : HH} {cn : Nat} {lo hi ti bi sh fl : Nat → Int32} (hs : TsX h cn lo hi ti bi sh fl) (hc : cn < 10) (l u t b : Int32) : CT mX5_add 0 0 0 [.ref 27, .int l, .int u, .int t, .int b] h (fun r h' => r = some (.int (nI cn)) ∧ h' = sF (sA (sA (sA (sA (sA h 28 (aI 10 (upd lo cn l))) 29 (aI 10 (upd hi cn u))) 30 (aI 10 (upd ti cn t))) 31 (aI 10 (upd bi cn b))) 33 (aI 10 (upd fl cn (nI cn)))) 27 0 (.int (nI (cn + 1)))) := by
  obtain ⟨e1, e2, e3, e4, e5, e6, e7, e8, e9, e10, e11, e12, e13, e14⟩ := hs
  refine CT.go [.ref 27, .int l, .int u, .int t, .int b, hU] (by decide +kernel) rfl rfl (fun Q' hQ => ?_)
  refine g_aload_n (i := 0) dX5_add_0 rfl rfl ?_
  refine g_get dX5_add_1 fl_X5_9 (by repeat' (first | assumption | exact rF_eq | refine rF_ne (by decide) ?_ | refine rF_a ?_ | exact rA_eq | refine rA_ne (by decide) ?_ | refine rA_f ?_)) (by repeat' (first | assumption | exact rF_eq | refine rF_ne (by decide) ?_ | refine rF_a ?_ | exact rA_eq | refine rA_ne (by decide) ?_ | refine rA_f ?_)) ?_
  refine g_istore dX5_add_4 (Nat.le_of_ble_eq_true rfl) rfl ?_
  refine g_aload_n (i := 0) dX5_add_6 rfl rfl ?_
  refine g_get dX5_add_7 fl_X5_15 (by repeat' (first | assumption | exact rF_eq | refine rF_ne (by decide) ?_ | refine rF_a ?_ | exact rA_eq | refine rA_ne (by decide) ?_ | refine rA_f ?_)) (by repeat' (first | assumption | exact rF_eq | refine rF_ne (by decide) ?_ | refine rF_a ?_ | exact rA_eq | refine rA_ne (by decide) ?_ | refine rA_f ?_)) ?_
  refine g_iload dX5_add_10 rfl ?_
  refine g_iload_n (i := 1) dX5_add_12 rfl rfl ?_
  refine g_iast dX5_add_13 (by repeat' (first | assumption | exact rF_eq | refine rF_ne (by decide) ?_ | refine rF_a ?_ | exact rA_eq | refine rA_ne (by decide) ?_ | refine rA_f ?_)) (nT (by omega)) (hc) ?_
  refine g_aload_n (i := 0) dX5_add_14 rfl rfl ?_
  refine g_get dX5_add_15 fl_X5_19 (by repeat' (first | assumption | exact rF_eq | refine rF_ne (by decide) ?_ | refine rF_a ?_ | exact rA_eq | refine rA_ne (by decide) ?_ | refine rA_f ?_)) (by repeat' (first | assumption | exact rF_eq | refine rF_ne (by decide) ?_ | refine rF_a ?_ | exact rA_eq | refine rA_ne (by decide) ?_ | refine rA_f ?_)) ?_
  refine g_iload dX5_add_18 rfl ?_
  refine g_iload_n (i := 2) dX5_add_20 rfl rfl ?_
  refine g_iast dX5_add_21 (by repeat' (first | assumption | exact rF_eq | refine rF_ne (by decide) ?_ | refine rF_a ?_ | exact rA_eq | refine rA_ne (by decide) ?_ | refine rA_f ?_)) (nT (by omega)) (hc) ?_
  refine g_aload_n (i := 0) dX5_add_22 rfl rfl ?_
  refine g_get dX5_add_23 fl_X5_22 (by repeat' (first | assumption | exact rF_eq | refine rF_ne (by decide) ?_ | refine rF_a ?_ | exact rA_eq | refine rA_ne (by decide) ?_ | refine rA_f ?_)) (by repeat' (first | assumption | exact rF_eq | refine rF_ne (by decide) ?_ | refine rF_a ?_ | exact rA_eq | refine rA_ne (by decide) ?_ | refine rA_f ?_)) ?_
  refine g_iload dX5_add_26 rfl ?_
  refine g_iload_n (i := 3) dX5_add_28 rfl rfl ?_
  refine g_iast dX5_add_29 (by repeat' (first | assumption | exact rF_eq | refine rF_ne (by decide) ?_ | refine rF_a ?_ | exact rA_eq | refine rA_ne (by decide) ?_ | refine rA_f ?_)) (nT (by omega)) (hc) ?_
  refine g_aload_n (i := 0) dX5_add_30 rfl rfl ?_
  refine g_get dX5_add_31 fl_X5_25 (by repeat' (first | assumption | exact rF_eq | refine rF_ne (by decide) ?_ | refine rF_a ?_ | exact rA_eq | refine rA_ne (by decide) ?_ | refine rA_f ?_)) (by repeat' (first | assumption | exact rF_eq | refine rF_ne (by decide) ?_ | refine rF_a ?_ | exact rA_eq | refine rA_ne (by decide) ?_ | refine rA_f ?_)) ?_
  refine g_iload dX5_add_34 rfl ?_
  refine g_iload dX5_add_36 rfl ?_
  refine g_iast dX5_add_38 (by repeat' (first | assumption | exact rF_eq | refine rF_ne (by decide) ?_ | refine rF_a ?_ | exact rA_eq | refine rA_ne (by decide) ?_ | refine rA_f ?_)) (nT (by omega)) (hc) ?_
  refine g_aload_n (i := 0) dX5_add_39 rfl rfl ?_
  refine g_get dX5_add_40 fl_X5_31 (by repeat' (first | assumption | exact rF_eq | refine rF_ne (by decide) ?_ | refine rF_a ?_ | exact rA_eq | refine rA_ne (by decide) ?_ | refine rA_f ?_)) (by repeat' (first | assumption | exact rF_eq | refine rF_ne (by decide) ?_ | refine rF_a ?_ | exact rA_eq | refine rA_ne (by decide) ?_ | refine rA_f ?_)) ?_
  refine g_iload dX5_add_43 rfl ?_
  refine g_iload dX5_add_45 rfl ?_
  refine g_iast dX5_add_47 (by repeat' (first | assumption | exact rF_eq | refine rF_ne (by decide) ?_ | refine rF_a ?_ | exact rA_eq | refine rA_ne (by decide) ?_ | refine rA_f ?_)) (nT (by omega)) (hc) ?_
  refine g_aload_n (i := 0) dX5_add_48 rfl rfl ?_
  refine g_dup dX5_add_49 rfl ?_
  refine g_get dX5_add_50 fl_X5_9 (by repeat' (first | assumption | exact rF_eq | refine rF_ne (by decide) ?_ | refine rF_a ?_ | exact rA_eq | refine rA_ne (by decide) ?_ | refine rA_f ?_)) (by repeat' (first | assumption | exact rF_eq | refine rF_ne (by decide) ?_ | refine rF_a ?_ | exact rA_eq | refine rA_ne (by decide) ?_ | refine rA_f ?_)) ?_
  refine g_iconst (v := 1) dX5_add_53 (by decide) ?_
  refine g_iadd dX5_add_54 ?_
  refine g_put dX5_add_55 pl_X5_9 (by repeat' (first | assumption | exact rF_eq | refine rF_ne (by decide) ?_ | refine rF_a ?_ | exact rA_eq | refine rA_ne (by decide) ?_ | refine rA_f ?_)) (fun _ => ⟨rfl, rfl⟩) ?_
  refine g_iload dX5_add_58 rfl ?_
  refine g_iret dX5_add_60 rfl (rfl) (hQ _ _ ?_)
  rw [ni_inc]; exact ⟨rfl, rfl⟩
theorem x_test {w : TS} (hw : WfT w) {h : HH} (hg : GTX w h) (l u t b : Int32) : CT mX7_test 1 0 0 [.ref 0, .int l, .int u, .int t, .int b] h (fun r h' => r = some (.int (opTest w l u t b).1) ∧ GTX (opTest w l u t b).2 h' ∧ Fr [28, 29, 30, 31, 33] [(27, 0)] h h') := by
  obtain ⟨cn, lo, hi, ti, bi, sh, fl⟩ := w
  have hw1 := hw.1
  have hg0 := hg
  obtain ⟨⟨h0, h1⟩, hs⟩ := hg
  have hs0 := hs
  obtain ⟨e1, e2, e3, e4, e5, e6, e7, e8, e9, e10, e11, e12, e13, e14⟩ := hs
  dsimp only at hw1 e2 hs0
  refine CT.go [.ref 0, .int l, .int u, .int t, .int b] (by decide +kernel) rfl rfl (fun Q' hQ => ?_)
  refine g_iload_n (i := 3) dX7_test_0 rfl rfl ?_
  refine g_iconst (v := 1) dX7_test_1 (by decide) ?_
  refine g_icmp_lt (tgt := 25) dX7_test_2 (by decide) (fun hc2 => ?_) (fun hc2 => ?_)
  · (try simp (disch := omega) only [nT, t_m1000100, t_m1000010, t_m1000003, t_m1000002, t_m1000001, t_m1000000, t_m65535, t_m1000, t_m3, t_m1, t_0, t_1, t_2, t_3, t_4, t_5, t_6, t_7, t_8, t_9, t_10, t_11, t_12, t_13, t_15, t_16, t_20, t_21, t_22, t_32, t_40, t_41, t_48, t_49, t_57, t_59, t_60, t_63, t_72, t_76, t_88, t_100, t_144, t_200, t_255, t_288, t_400, t_800, t_999, t_1000, t_1024, t_1200, t_1600, t_3200, t_100000, t_200000, t_252645135, t_858993459, t_1431655765, u_m1000002, u_m1000001, u_m1000, u_m3, u_m1, u_0, u_1, u_2, u_3, u_4, u_5, u_7, u_8, u_10, u_11, u_15, u_60, u_100, u_255, u_999, u_1000, u_100000, u_4294967295] at hc2)
    refine g_ldc dX7_test_25 kc_X7_94 ?_
    refine g_iret dX7_test_27 rfl (rfl) (hQ _ _ ?_)
    have e : opTest (cn, lo, hi, ti, bi, sh, fl) l u t b = _ := if_pos (by omega)
    rw [e]; exact ⟨rfl, hg0, fr_rf⟩
  · (try simp (disch := omega) only [nT, t_m1000100, t_m1000010, t_m1000003, t_m1000002, t_m1000001, t_m1000000, t_m65535, t_m1000, t_m3, t_m1, t_0, t_1, t_2, t_3, t_4, t_5, t_6, t_7, t_8, t_9, t_10, t_11, t_12, t_13, t_15, t_16, t_20, t_21, t_22, t_32, t_40, t_41, t_48, t_49, t_57, t_59, t_60, t_63, t_72, t_76, t_88, t_100, t_144, t_200, t_255, t_288, t_400, t_800, t_999, t_1000, t_1024, t_1200, t_1600, t_3200, t_100000, t_200000, t_252645135, t_858993459, t_1431655765, u_m1000002, u_m1000001, u_m1000, u_m3, u_m1, u_0, u_1, u_2, u_3, u_4, u_5, u_7, u_8, u_10, u_11, u_15, u_60, u_100, u_255, u_999, u_1000, u_100000, u_4294967295] at hc2)
    refine g_iload_n (i := 3) dX7_test_5 rfl rfl ?_
    refine g_sipush (v := 999) dX7_test_6 (by decide) ?_
    refine g_icmp_gt (tgt := 25) dX7_test_9 (by decide) (fun hc9 => ?_) (fun hc9 => ?_)
    · (try simp (disch := omega) only [nT, t_m1000100, t_m1000010, t_m1000003, t_m1000002, t_m1000001, t_m1000000, t_m65535, t_m1000, t_m3, t_m1, t_0, t_1, t_2, t_3, t_4, t_5, t_6, t_7, t_8, t_9, t_10, t_11, t_12, t_13, t_15, t_16, t_20, t_21, t_22, t_32, t_40, t_41, t_48, t_49, t_57, t_59, t_60, t_63, t_72, t_76, t_88, t_100, t_144, t_200, t_255, t_288, t_400, t_800, t_999, t_1000, t_1024, t_1200, t_1600, t_3200, t_100000, t_200000, t_252645135, t_858993459, t_1431655765, u_m1000002, u_m1000001, u_m1000, u_m3, u_m1, u_0, u_1, u_2, u_3, u_4, u_5, u_7, u_8, u_10, u_11, u_15, u_60, u_100, u_255, u_999, u_1000, u_100000, u_4294967295] at hc9)
      refine g_ldc dX7_test_25 kc_X7_94 ?_
      refine g_iret dX7_test_27 rfl (rfl) (hQ _ _ ?_)
      have e : opTest (cn, lo, hi, ti, bi, sh, fl) l u t b = _ := if_pos (by omega)
      rw [e]; exact ⟨rfl, hg0, fr_rf⟩
    · (try simp (disch := omega) only [nT, t_m1000100, t_m1000010, t_m1000003, t_m1000002, t_m1000001, t_m1000000, t_m65535, t_m1000, t_m3, t_m1, t_0, t_1, t_2, t_3, t_4, t_5, t_6, t_7, t_8, t_9, t_10, t_11, t_12, t_13, t_15, t_16, t_20, t_21, t_22, t_32, t_40, t_41, t_48, t_49, t_57, t_59, t_60, t_63, t_72, t_76, t_88, t_100, t_144, t_200, t_255, t_288, t_400, t_800, t_999, t_1000, t_1024, t_1200, t_1600, t_3200, t_100000, t_200000, t_252645135, t_858993459, t_1431655765, u_m1000002, u_m1000001, u_m1000, u_m3, u_m1, u_0, u_1, u_2, u_3, u_4, u_5, u_7, u_8, u_10, u_11, u_15, u_60, u_100, u_255, u_999, u_1000, u_100000, u_4294967295] at hc9)
      refine g_iload dX7_test_12 rfl ?_
      refine g_iconst (v := 1) dX7_test_14 (by decide) ?_
      refine g_icmp_lt (tgt := 25) dX7_test_15 (by decide) (fun hc15 => ?_) (fun hc15 => ?_)
      · (try simp (disch := omega) only [nT, t_m1000100, t_m1000010, t_m1000003, t_m1000002, t_m1000001, t_m1000000, t_m65535, t_m1000, t_m3, t_m1, t_0, t_1, t_2, t_3, t_4, t_5, t_6, t_7, t_8, t_9, t_10, t_11, t_12, t_13, t_15, t_16, t_20, t_21, t_22, t_32, t_40, t_41, t_48, t_49, t_57, t_59, t_60, t_63, t_72, t_76, t_88, t_100, t_144, t_200, t_255, t_288, t_400, t_800, t_999, t_1000, t_1024, t_1200, t_1600, t_3200, t_100000, t_200000, t_252645135, t_858993459, t_1431655765, u_m1000002, u_m1000001, u_m1000, u_m3, u_m1, u_0, u_1, u_2, u_3, u_4, u_5, u_7, u_8, u_10, u_11, u_15, u_60, u_100, u_255, u_999, u_1000, u_100000, u_4294967295] at hc15)
        refine g_ldc dX7_test_25 kc_X7_94 ?_
        refine g_iret dX7_test_27 rfl (rfl) (hQ _ _ ?_)
        have e : opTest (cn, lo, hi, ti, bi, sh, fl) l u t b = _ := if_pos (by omega)
        rw [e]; exact ⟨rfl, hg0, fr_rf⟩
      · (try simp (disch := omega) only [nT, t_m1000100, t_m1000010, t_m1000003, t_m1000002, t_m1000001, t_m1000000, t_m65535, t_m1000, t_m3, t_m1, t_0, t_1, t_2, t_3, t_4, t_5, t_6, t_7, t_8, t_9, t_10, t_11, t_12, t_13, t_15, t_16, t_20, t_21, t_22, t_32, t_40, t_41, t_48, t_49, t_57, t_59, t_60, t_63, t_72, t_76, t_88, t_100, t_144, t_200, t_255, t_288, t_400, t_800, t_999, t_1000, t_1024, t_1200, t_1600, t_3200, t_100000, t_200000, t_252645135, t_858993459, t_1431655765, u_m1000002, u_m1000001, u_m1000, u_m3, u_m1, u_0, u_1, u_2, u_3, u_4, u_5, u_7, u_8, u_10, u_11, u_15, u_60, u_100, u_255, u_999, u_1000, u_100000, u_4294967295] at hc15)
        refine g_iload dX7_test_18 rfl ?_
        refine g_bipush (v := 16) dX7_test_20 (by decide) ?_
        refine g_icmp_lt (tgt := 28) dX7_test_22 (by decide) (fun hc22 => ?_) (fun hc22 => ?_)
        · (try simp (disch := omega) only [nT, t_m1000100, t_m1000010, t_m1000003, t_m1000002, t_m1000001, t_m1000000, t_m65535, t_m1000, t_m3, t_m1, t_0, t_1, t_2, t_3, t_4, t_5, t_6, t_7, t_8, t_9, t_10, t_11, t_12, t_13, t_15, t_16, t_20, t_21, t_22, t_32, t_40, t_41, t_48, t_49, t_57, t_59, t_60, t_63, t_72, t_76, t_88, t_100, t_144, t_200, t_255, t_288, t_400, t_800, t_999, t_1000, t_1024, t_1200, t_1600, t_3200, t_100000, t_200000, t_252645135, t_858993459, t_1431655765, u_m1000002, u_m1000001, u_m1000, u_m3, u_m1, u_0, u_1, u_2, u_3, u_4, u_5, u_7, u_8, u_10, u_11, u_15, u_60, u_100, u_255, u_999, u_1000, u_100000, u_4294967295] at hc22)
          refine g_aload_n (i := 0) dX7_test_28 rfl rfl ?_
          refine g_get dX7_test_29 fl_X7_47 (by repeat' (first | assumption | exact rF_eq | refine rF_ne (by decide) ?_ | refine rF_a ?_ | exact rA_eq | refine rA_ne (by decide) ?_ | refine rA_f ?_)) (by repeat' (first | assumption | exact rF_eq | refine rF_ne (by decide) ?_ | refine rF_a ?_ | exact rA_eq | refine rA_ne (by decide) ?_ | refine rA_f ?_)) ?_
          refine g_get dX7_test_32 fl_X7_194 (by repeat' (first | assumption | exact rF_eq | refine rF_ne (by decide) ?_ | refine rF_a ?_ | exact rA_eq | refine rA_ne (by decide) ?_ | refine rA_f ?_)) (by repeat' (first | assumption | exact rF_eq | refine rF_ne (by decide) ?_ | refine rF_a ?_ | exact rA_eq | refine rA_ne (by decide) ?_ | refine rA_f ?_)) ?_
          refine g_bipush (v := 10) dX7_test_35 (by decide) ?_
          refine g_icmp_ne (tgt := 43) dX7_test_37 (by decide) (fun hc37 => ?_) (fun hc37 => ?_)
          · have hd37 := mt i_eq.mpr hc37; (try simp (disch := omega) only [nT, t_m1000100, t_m1000010, t_m1000003, t_m1000002, t_m1000001, t_m1000000, t_m65535, t_m1000, t_m3, t_m1, t_0, t_1, t_2, t_3, t_4, t_5, t_6, t_7, t_8, t_9, t_10, t_11, t_12, t_13, t_15, t_16, t_20, t_21, t_22, t_32, t_40, t_41, t_48, t_49, t_57, t_59, t_60, t_63, t_72, t_76, t_88, t_100, t_144, t_200, t_255, t_288, t_400, t_800, t_999, t_1000, t_1024, t_1200, t_1600, t_3200, t_100000, t_200000, t_252645135, t_858993459, t_1431655765, u_m1000002, u_m1000001, u_m1000, u_m3, u_m1, u_0, u_1, u_2, u_3, u_4, u_5, u_7, u_8, u_10, u_11, u_15, u_60, u_100, u_255, u_999, u_1000, u_100000, u_4294967295] at hd37)
            have e : opTest (cn, lo, hi, ti, bi, sh, fl) l u t b = _ := (if_neg (by omega)).trans (if_neg (by dsimp only; omega))
            refine g_aload_n (i := 0) dX7_test_43 rfl rfl ?_
            refine g_get dX7_test_44 fl_X7_47 (by repeat' (first | assumption | exact rF_eq | refine rF_ne (by decide) ?_ | refine rF_a ?_ | exact rA_eq | refine rA_ne (by decide) ?_ | refine rA_f ?_)) (by repeat' (first | assumption | exact rF_eq | refine rF_ne (by decide) ?_ | refine rF_a ?_ | exact rA_eq | refine rA_ne (by decide) ?_ | refine rA_f ?_)) ?_
            refine g_iload_n (i := 1) dX7_test_47 rfl rfl ?_
            refine g_iload_n (i := 2) dX7_test_48 rfl rfl ?_
            refine g_iload_n (i := 3) dX7_test_49 rfl rfl ?_
            refine g_iload dX7_test_50 rfl ?_
            refine g_callV (M' := mX5_add) dX7_test_52 lc_X5_add ml_X7_197 (c_add hs0 (by omega) l u t b) rfl rfl (by repeat' (first | assumption | exact rF_eq | refine rF_ne (by decide) ?_ | refine rF_a ?_ | exact rA_eq | refine rA_ne (by decide) ?_ | refine rA_f ?_)) rfl ⟨Nat.le_of_ble_eq_true rfl, Nat.le_of_ble_eq_true rfl, Nat.le_of_ble_eq_true rfl, Nat.le_of_ble_eq_true rfl⟩ (Nat.le_of_ble_eq_true rfl) ?_
            intro r_ h_ q_; obtain ⟨q1_, q2_⟩ := q_; have q2_ := q2_.symm; subst q1_; subst q2_
            refine g_iret dX7_test_55 rfl (rfl) (hQ _ _ ?_)
            rw [e]; exact ⟨rfl, ⟨⟨h0, h1⟩, e1, rfl, e3, e4, e5, e6, e7, e8, rfl, rfl, rfl, rfl, e13, rfl⟩, fr_sF (by decide) (fr_sA (by decide) (fr_sA (by decide) (fr_sA (by decide) (fr_sA (by decide) (fr_sA (by decide) fr_rf)))))⟩
          · have hd37 := i_eq.mp hc37; (try simp (disch := omega) only [nT, t_m1000100, t_m1000010, t_m1000003, t_m1000002, t_m1000001, t_m1000000, t_m65535, t_m1000, t_m3, t_m1, t_0, t_1, t_2, t_3, t_4, t_5, t_6, t_7, t_8, t_9, t_10, t_11, t_12, t_13, t_15, t_16, t_20, t_21, t_22, t_32, t_40, t_41, t_48, t_49, t_57, t_59, t_60, t_63, t_72, t_76, t_88, t_100, t_144, t_200, t_255, t_288, t_400, t_800, t_999, t_1000, t_1024, t_1200, t_1600, t_3200, t_100000, t_200000, t_252645135, t_858993459, t_1431655765, u_m1000002, u_m1000001, u_m1000, u_m3, u_m1, u_0, u_1, u_2, u_3, u_4, u_5, u_7, u_8, u_10, u_11, u_15, u_60, u_100, u_255, u_999, u_1000, u_100000, u_4294967295] at hd37)
            refine g_ldc dX7_test_40 kc_X7_137 ?_
            refine g_iret dX7_test_42 rfl (rfl) (hQ _ _ ?_)
            have e : opTest (cn, lo, hi, ti, bi, sh, fl) l u t b = _ := (if_neg (by omega)).trans (if_pos (by dsimp only; omega))
            rw [e]; exact ⟨rfl, hg0, fr_rf⟩
        · (try simp (disch := omega) only [nT, t_m1000100, t_m1000010, t_m1000003, t_m1000002, t_m1000001, t_m1000000, t_m65535, t_m1000, t_m3, t_m1, t_0, t_1, t_2, t_3, t_4, t_5, t_6, t_7, t_8, t_9, t_10, t_11, t_12, t_13, t_15, t_16, t_20, t_21, t_22, t_32, t_40, t_41, t_48, t_49, t_57, t_59, t_60, t_63, t_72, t_76, t_88, t_100, t_144, t_200, t_255, t_288, t_400, t_800, t_999, t_1000, t_1024, t_1200, t_1600, t_3200, t_100000, t_200000, t_252645135, t_858993459, t_1431655765, u_m1000002, u_m1000001, u_m1000, u_m3, u_m1, u_0, u_1, u_2, u_3, u_4, u_5, u_7, u_8, u_10, u_11, u_15, u_60, u_100, u_255, u_999, u_1000, u_100000, u_4294967295] at hc22)
          refine g_ldc dX7_test_25 kc_X7_94 ?_
          refine g_iret dX7_test_27 rfl (rfl) (hQ _ _ ?_)
          have e : opTest (cn, lo, hi, ti, bi, sh, fl) l u t b = _ := if_pos (by omega)
          rw [e]; exact ⟨rfl, hg0, fr_rf⟩
theorem m_test {w : TS} (hw : WfT w) {h : HH} (hg : GTM w h) (l u t b : Int32) : CT mX8_test 1 0 0 [.ref 44, .int l, .int u, .int t, .int b] h (fun r h' => r = some (.int (opTest w l u t b).1) ∧ GTM (opTest w l u t b).2 h' ∧ Fr [57, 58, 59, 60, 61, 62] [(44, 0), (44, 23)] h h') := by
  obtain ⟨cn, lo, hi, ti, bi, sh, fl⟩ := w
  have hw1 := hw.1
  have hw4 := hw.2.2.2.1
  obtain ⟨e1, e2, e3, e4, e5, e6, e7, e8, e9, e10, e11, e12, e13, e14⟩ := hg
  dsimp only at hw1 hw4 e2 e9 e10 e11 e12 e13 e14
  refine CT.go [.ref 44, .int l, .int u, .int t, .int b] (by decide +kernel) rfl rfl (fun Q' hQ => ?_)
  refine g_aload_n (i := 0) dX8_test_0 rfl rfl ?_
  refine g_iconst (v := 0) dX8_test_1 (by decide) ?_
  refine g_put dX8_test_2 pl_X8_107 (by repeat' (first | assumption | exact rF_eq | refine rF_ne (by decide) ?_ | refine rF_a ?_ | exact rA_eq | refine rA_ne (by decide) ?_ | refine rA_f ?_)) (fun _ => ⟨rfl, rfl⟩) ?_
  refine g_iload_n (i := 3) dX8_test_5 rfl rfl ?_
  refine g_i2l dX8_test_6 ?_
  refine g_lconst (v := 1) dX8_test_7 (by decide) ?_
  refine g_ldc2 dX8_test_8 kc_X8_200 ?_
  refine g_callS (M' := mX8_in) dX8_test_11 lc_X8_in ml_X8_116 (c_in _ t.toInt64 1 999 1 999 rfl rfl) rfl rfl ⟨Nat.le_of_ble_eq_true rfl, Nat.le_of_ble_eq_true rfl, Nat.le_of_ble_eq_true rfl, Nat.le_of_ble_eq_true rfl⟩ (Nat.le_of_ble_eq_true rfl) ?_
  intro r_ h_ q_; obtain ⟨q1_, q2_⟩ := q_; have q2_ := q2_.symm; subst q1_; subst q2_
  rw [l_i]
  refine g_if_eq (tgt := 30) dX8_test_14 (by decide) (fun hc14 => ?_) (fun hc14 => ?_)
  · replace hc14 := bI_0.mp hc14
    (try simp (disch := omega) only [nT, t_m1000100, t_m1000010, t_m1000003, t_m1000002, t_m1000001, t_m1000000, t_m65535, t_m1000, t_m3, t_m1, t_0, t_1, t_2, t_3, t_4, t_5, t_6, t_7, t_8, t_9, t_10, t_11, t_12, t_13, t_15, t_16, t_20, t_21, t_22, t_32, t_40, t_41, t_48, t_49, t_57, t_59, t_60, t_63, t_72, t_76, t_88, t_100, t_144, t_200, t_255, t_288, t_400, t_800, t_999, t_1000, t_1024, t_1200, t_1600, t_3200, t_100000, t_200000, t_252645135, t_858993459, t_1431655765, u_m1000002, u_m1000001, u_m1000, u_m3, u_m1, u_0, u_1, u_2, u_3, u_4, u_5, u_7, u_8, u_10, u_11, u_15, u_60, u_100, u_255, u_999, u_1000, u_100000, u_4294967295] at hc14)
    refine g_ldc dX8_test_30 kc_X8_126 ?_
    refine g_iret dX8_test_32 rfl (rfl) (hQ _ _ ?_)
    have e : opTest (cn, lo, hi, ti, bi, sh, fl) l u t b = _ := if_pos (by omega)
    rw [e]; exact ⟨rfl, ⟨e1, e2, e3, e4, e5, e6, e7, e8, e9, e10, e11, e12, e13, e14⟩, fr_sF (by decide) fr_rf⟩
  · replace hc14 := bI_n0.mp hc14
    (try simp (disch := omega) only [nT, t_m1000100, t_m1000010, t_m1000003, t_m1000002, t_m1000001, t_m1000000, t_m65535, t_m1000, t_m3, t_m1, t_0, t_1, t_2, t_3, t_4, t_5, t_6, t_7, t_8, t_9, t_10, t_11, t_12, t_13, t_15, t_16, t_20, t_21, t_22, t_32, t_40, t_41, t_48, t_49, t_57, t_59, t_60, t_63, t_72, t_76, t_88, t_100, t_144, t_200, t_255, t_288, t_400, t_800, t_999, t_1000, t_1024, t_1200, t_1600, t_3200, t_100000, t_200000, t_252645135, t_858993459, t_1431655765, u_m1000002, u_m1000001, u_m1000, u_m3, u_m1, u_0, u_1, u_2, u_3, u_4, u_5, u_7, u_8, u_10, u_11, u_15, u_60, u_100, u_255, u_999, u_1000, u_100000, u_4294967295] at hc14)
    refine g_iload dX8_test_17 rfl ?_
    refine g_i2l dX8_test_19 ?_
    refine g_lconst (v := 1) dX8_test_20 (by decide) ?_
    refine g_ldc2 dX8_test_21 kc_X8_202 ?_
    refine g_callS (M' := mX8_in) dX8_test_24 lc_X8_in ml_X8_116 (c_in _ b.toInt64 1 15 1 15 rfl rfl) rfl rfl ⟨Nat.le_of_ble_eq_true rfl, Nat.le_of_ble_eq_true rfl, Nat.le_of_ble_eq_true rfl, Nat.le_of_ble_eq_true rfl⟩ (Nat.le_of_ble_eq_true rfl) ?_
    intro r_ h_ q_; obtain ⟨q1_, q2_⟩ := q_; have q2_ := q2_.symm; subst q1_; subst q2_
    rw [l_i]
    refine g_if_ne (tgt := 33) dX8_test_27 (by decide) (fun hc27 => ?_) (fun hc27 => ?_)
    · replace hc27 := bI_n0.mp hc27
      (try simp (disch := omega) only [nT, t_m1000100, t_m1000010, t_m1000003, t_m1000002, t_m1000001, t_m1000000, t_m65535, t_m1000, t_m3, t_m1, t_0, t_1, t_2, t_3, t_4, t_5, t_6, t_7, t_8, t_9, t_10, t_11, t_12, t_13, t_15, t_16, t_20, t_21, t_22, t_32, t_40, t_41, t_48, t_49, t_57, t_59, t_60, t_63, t_72, t_76, t_88, t_100, t_144, t_200, t_255, t_288, t_400, t_800, t_999, t_1000, t_1024, t_1200, t_1600, t_3200, t_100000, t_200000, t_252645135, t_858993459, t_1431655765, u_m1000002, u_m1000001, u_m1000, u_m3, u_m1, u_0, u_1, u_2, u_3, u_4, u_5, u_7, u_8, u_10, u_11, u_15, u_60, u_100, u_255, u_999, u_1000, u_100000, u_4294967295] at hc27)
      refine g_aload_n (i := 0) dX8_test_33 rfl rfl ?_
      refine g_get dX8_test_34 fl_X8_197 (by repeat' (first | assumption | exact rF_eq | refine rF_ne (by decide) ?_ | refine rF_a ?_ | exact rA_eq | refine rA_ne (by decide) ?_ | refine rA_f ?_)) (by repeat' (first | assumption | exact rF_eq | refine rF_ne (by decide) ?_ | refine rF_a ?_ | exact rA_eq | refine rA_ne (by decide) ?_ | refine rA_f ?_)) ?_
      refine g_bipush (v := 10) dX8_test_37 (by decide) ?_
      refine g_icmp_ne (tgt := 45) dX8_test_39 (by decide) (fun hc39 => ?_) (fun hc39 => ?_)
      · have hd39 := mt i_eq.mpr hc39; (try simp (disch := omega) only [nT, t_m1000100, t_m1000010, t_m1000003, t_m1000002, t_m1000001, t_m1000000, t_m65535, t_m1000, t_m3, t_m1, t_0, t_1, t_2, t_3, t_4, t_5, t_6, t_7, t_8, t_9, t_10, t_11, t_12, t_13, t_15, t_16, t_20, t_21, t_22, t_32, t_40, t_41, t_48, t_49, t_57, t_59, t_60, t_63, t_72, t_76, t_88, t_100, t_144, t_200, t_255, t_288, t_400, t_800, t_999, t_1000, t_1024, t_1200, t_1600, t_3200, t_100000, t_200000, t_252645135, t_858993459, t_1431655765, u_m1000002, u_m1000001, u_m1000, u_m3, u_m1, u_0, u_1, u_2, u_3, u_4, u_5, u_7, u_8, u_10, u_11, u_15, u_60, u_100, u_255, u_999, u_1000, u_100000, u_4294967295] at hd39)
        have e : opTest (cn, lo, hi, ti, bi, sh, fl) l u t b = _ := (if_neg (by omega)).trans (if_neg (by dsimp only; omega))
        have hlt : cn < 10 := by omega
        refine g_aload_n (i := 0) dX8_test_45 rfl rfl ?_
        refine g_get dX8_test_46 fl_X8_47 (by repeat' (first | assumption | exact rF_eq | refine rF_ne (by decide) ?_ | refine rF_a ?_ | exact rA_eq | refine rA_ne (by decide) ?_ | refine rA_f ?_)) (by repeat' (first | assumption | exact rF_eq | refine rF_ne (by decide) ?_ | refine rF_a ?_ | exact rA_eq | refine rA_ne (by decide) ?_ | refine rA_f ?_)) ?_
        refine g_aload_n (i := 0) dX8_test_49 rfl rfl ?_
        refine g_get dX8_test_50 fl_X8_197 (by repeat' (first | assumption | exact rF_eq | refine rF_ne (by decide) ?_ | refine rF_a ?_ | exact rA_eq | refine rA_ne (by decide) ?_ | refine rA_f ?_)) (by repeat' (first | assumption | exact rF_eq | refine rF_ne (by decide) ?_ | refine rF_a ?_ | exact rA_eq | refine rA_ne (by decide) ?_ | refine rA_f ?_)) ?_
        refine g_iload_n (i := 1) dX8_test_53 rfl rfl ?_
        refine g_iast dX8_test_54 (by repeat' (first | assumption | exact rF_eq | refine rF_ne (by decide) ?_ | refine rF_a ?_ | exact rA_eq | refine rA_ne (by decide) ?_ | refine rA_f ?_)) (nT (by omega)) (hlt) ?_
        refine g_aload_n (i := 0) dX8_test_55 rfl rfl ?_
        refine g_get dX8_test_56 fl_X8_50 (by repeat' (first | assumption | exact rF_eq | refine rF_ne (by decide) ?_ | refine rF_a ?_ | exact rA_eq | refine rA_ne (by decide) ?_ | refine rA_f ?_)) (by repeat' (first | assumption | exact rF_eq | refine rF_ne (by decide) ?_ | refine rF_a ?_ | exact rA_eq | refine rA_ne (by decide) ?_ | refine rA_f ?_)) ?_
        refine g_aload_n (i := 0) dX8_test_59 rfl rfl ?_
        refine g_get dX8_test_60 fl_X8_197 (by repeat' (first | assumption | exact rF_eq | refine rF_ne (by decide) ?_ | refine rF_a ?_ | exact rA_eq | refine rA_ne (by decide) ?_ | refine rA_f ?_)) (by repeat' (first | assumption | exact rF_eq | refine rF_ne (by decide) ?_ | refine rF_a ?_ | exact rA_eq | refine rA_ne (by decide) ?_ | refine rA_f ?_)) ?_
        refine g_iload_n (i := 2) dX8_test_63 rfl rfl ?_
        refine g_iast dX8_test_64 (by repeat' (first | assumption | exact rF_eq | refine rF_ne (by decide) ?_ | refine rF_a ?_ | exact rA_eq | refine rA_ne (by decide) ?_ | refine rA_f ?_)) (nT (by omega)) (hlt) ?_
        refine g_aload_n (i := 0) dX8_test_65 rfl rfl ?_
        refine g_get dX8_test_66 fl_X8_53 (by repeat' (first | assumption | exact rF_eq | refine rF_ne (by decide) ?_ | refine rF_a ?_ | exact rA_eq | refine rA_ne (by decide) ?_ | refine rA_f ?_)) (by repeat' (first | assumption | exact rF_eq | refine rF_ne (by decide) ?_ | refine rF_a ?_ | exact rA_eq | refine rA_ne (by decide) ?_ | refine rA_f ?_)) ?_
        refine g_aload_n (i := 0) dX8_test_69 rfl rfl ?_
        refine g_get dX8_test_70 fl_X8_197 (by repeat' (first | assumption | exact rF_eq | refine rF_ne (by decide) ?_ | refine rF_a ?_ | exact rA_eq | refine rA_ne (by decide) ?_ | refine rA_f ?_)) (by repeat' (first | assumption | exact rF_eq | refine rF_ne (by decide) ?_ | refine rF_a ?_ | exact rA_eq | refine rA_ne (by decide) ?_ | refine rA_f ?_)) ?_
        refine g_iload_n (i := 3) dX8_test_73 rfl rfl ?_
        refine g_iast dX8_test_74 (by repeat' (first | assumption | exact rF_eq | refine rF_ne (by decide) ?_ | refine rF_a ?_ | exact rA_eq | refine rA_ne (by decide) ?_ | refine rA_f ?_)) (nT (by omega)) (hlt) ?_
        refine g_aload_n (i := 0) dX8_test_75 rfl rfl ?_
        refine g_get dX8_test_76 fl_X8_56 (by repeat' (first | assumption | exact rF_eq | refine rF_ne (by decide) ?_ | refine rF_a ?_ | exact rA_eq | refine rA_ne (by decide) ?_ | refine rA_f ?_)) (by repeat' (first | assumption | exact rF_eq | refine rF_ne (by decide) ?_ | refine rF_a ?_ | exact rA_eq | refine rA_ne (by decide) ?_ | refine rA_f ?_)) ?_
        refine g_aload_n (i := 0) dX8_test_79 rfl rfl ?_
        refine g_get dX8_test_80 fl_X8_197 (by repeat' (first | assumption | exact rF_eq | refine rF_ne (by decide) ?_ | refine rF_a ?_ | exact rA_eq | refine rA_ne (by decide) ?_ | refine rA_f ?_)) (by repeat' (first | assumption | exact rF_eq | refine rF_ne (by decide) ?_ | refine rF_a ?_ | exact rA_eq | refine rA_ne (by decide) ?_ | refine rA_f ?_)) ?_
        refine g_iload dX8_test_83 rfl ?_
        refine g_iast dX8_test_85 (by repeat' (first | assumption | exact rF_eq | refine rF_ne (by decide) ?_ | refine rF_a ?_ | exact rA_eq | refine rA_ne (by decide) ?_ | refine rA_f ?_)) (nT (by omega)) (hlt) ?_
        refine g_aload_n (i := 0) dX8_test_86 rfl rfl ?_
        refine g_get dX8_test_87 fl_X8_59 (by repeat' (first | assumption | exact rF_eq | refine rF_ne (by decide) ?_ | refine rF_a ?_ | exact rA_eq | refine rA_ne (by decide) ?_ | refine rA_f ?_)) (by repeat' (first | assumption | exact rF_eq | refine rF_ne (by decide) ?_ | refine rF_a ?_ | exact rA_eq | refine rA_ne (by decide) ?_ | refine rA_f ?_)) ?_
        refine g_aload_n (i := 0) dX8_test_90 rfl rfl ?_
        refine g_get dX8_test_91 fl_X8_197 (by repeat' (first | assumption | exact rF_eq | refine rF_ne (by decide) ?_ | refine rF_a ?_ | exact rA_eq | refine rA_ne (by decide) ?_ | refine rA_f ?_)) (by repeat' (first | assumption | exact rF_eq | refine rF_ne (by decide) ?_ | refine rF_a ?_ | exact rA_eq | refine rA_ne (by decide) ?_ | refine rA_f ?_)) ?_
        refine g_iconst (v := 0) dX8_test_94 (by decide) ?_
        refine g_iast dX8_test_95 (by repeat' (first | assumption | exact rF_eq | refine rF_ne (by decide) ?_ | refine rF_a ?_ | exact rA_eq | refine rA_ne (by decide) ?_ | refine rA_f ?_)) (nT (by omega)) (hlt) ?_
        refine g_aload_n (i := 0) dX8_test_96 rfl rfl ?_
        refine g_get dX8_test_97 fl_X8_62 (by repeat' (first | assumption | exact rF_eq | refine rF_ne (by decide) ?_ | refine rF_a ?_ | exact rA_eq | refine rA_ne (by decide) ?_ | refine rA_f ?_)) (by repeat' (first | assumption | exact rF_eq | refine rF_ne (by decide) ?_ | refine rF_a ?_ | exact rA_eq | refine rA_ne (by decide) ?_ | refine rA_f ?_)) ?_
        refine g_aload_n (i := 0) dX8_test_100 rfl rfl ?_
        refine g_get dX8_test_101 fl_X8_197 (by repeat' (first | assumption | exact rF_eq | refine rF_ne (by decide) ?_ | refine rF_a ?_ | exact rA_eq | refine rA_ne (by decide) ?_ | refine rA_f ?_)) (by repeat' (first | assumption | exact rF_eq | refine rF_ne (by decide) ?_ | refine rF_a ?_ | exact rA_eq | refine rA_ne (by decide) ?_ | refine rA_f ?_)) ?_
        refine g_aload_n (i := 0) dX8_test_104 rfl rfl ?_
        refine g_get dX8_test_105 fl_X8_197 (by repeat' (first | assumption | exact rF_eq | refine rF_ne (by decide) ?_ | refine rF_a ?_ | exact rA_eq | refine rA_ne (by decide) ?_ | refine rA_f ?_)) (by repeat' (first | assumption | exact rF_eq | refine rF_ne (by decide) ?_ | refine rF_a ?_ | exact rA_eq | refine rA_ne (by decide) ?_ | refine rA_f ?_)) ?_
        refine g_iast dX8_test_108 (by repeat' (first | assumption | exact rF_eq | refine rF_ne (by decide) ?_ | refine rF_a ?_ | exact rA_eq | refine rA_ne (by decide) ?_ | refine rA_f ?_)) (nT (by omega)) (hlt) ?_
        refine g_aload_n (i := 0) dX8_test_109 rfl rfl ?_
        refine g_dup dX8_test_110 rfl ?_
        refine g_get dX8_test_111 fl_X8_197 (by repeat' (first | assumption | exact rF_eq | refine rF_ne (by decide) ?_ | refine rF_a ?_ | exact rA_eq | refine rA_ne (by decide) ?_ | refine rA_f ?_)) (by repeat' (first | assumption | exact rF_eq | refine rF_ne (by decide) ?_ | refine rF_a ?_ | exact rA_eq | refine rA_ne (by decide) ?_ | refine rA_f ?_)) ?_
        refine g_iconst (v := 1) dX8_test_114 (by decide) ?_
        refine g_iadd dX8_test_115 ?_
        refine g_put dX8_test_116 pl_X8_197 (by repeat' (first | assumption | exact rF_eq | refine rF_ne (by decide) ?_ | refine rF_a ?_ | exact rA_eq | refine rA_ne (by decide) ?_ | refine rA_f ?_)) (fun _ => ⟨rfl, rfl⟩) ?_
        refine g_aload_n (i := 0) dX8_test_119 rfl rfl ?_
        refine g_get dX8_test_120 fl_X8_197 (by repeat' (first | assumption | exact rF_eq | refine rF_ne (by decide) ?_ | refine rF_a ?_ | exact rA_eq | refine rA_ne (by decide) ?_ | refine rA_f ?_)) (by repeat' (first | assumption | exact rF_eq | refine rF_ne (by decide) ?_ | refine rF_a ?_ | exact rA_eq | refine rA_ne (by decide) ?_ | refine rA_f ?_)) ?_
        refine g_iconst (v := 1) dX8_test_123 (by decide) ?_
        refine g_isub dX8_test_124 ?_
        refine g_iret dX8_test_125 rfl (rfl) (hQ _ _ ?_)
        rw [e, ni_inc, n_m1]
        have e13b : upd sh cn 0 = sh := by
          funext j
          by_cases q : j = cn
          · rw [q, upd_s, hw4 cn (Nat.le_refl _)]
          · rw [upd_n q]
        refine ⟨rfl, ⟨e1, rfl, e3, e4, e5, e6, e7, e8, rfl, rfl, rfl, rfl, ?_, rfl⟩, fr_sF (by decide) (fr_sA (by decide) (fr_sA (by decide) (fr_sA (by decide) (fr_sA (by decide) (fr_sA (by decide) (fr_sA (by decide) (fr_sF (by decide) fr_rf)))))))⟩
        show aI 10 (upd sh cn 0) = aI 10 sh
        rw [e13b]
      · have hd39 := i_eq.mp hc39; (try simp (disch := omega) only [nT, t_m1000100, t_m1000010, t_m1000003, t_m1000002, t_m1000001, t_m1000000, t_m65535, t_m1000, t_m3, t_m1, t_0, t_1, t_2, t_3, t_4, t_5, t_6, t_7, t_8, t_9, t_10, t_11, t_12, t_13, t_15, t_16, t_20, t_21, t_22, t_32, t_40, t_41, t_48, t_49, t_57, t_59, t_60, t_63, t_72, t_76, t_88, t_100, t_144, t_200, t_255, t_288, t_400, t_800, t_999, t_1000, t_1024, t_1200, t_1600, t_3200, t_100000, t_200000, t_252645135, t_858993459, t_1431655765, u_m1000002, u_m1000001, u_m1000, u_m3, u_m1, u_0, u_1, u_2, u_3, u_4, u_5, u_7, u_8, u_10, u_11, u_15, u_60, u_100, u_255, u_999, u_1000, u_100000, u_4294967295] at hd39)
        refine g_ldc dX8_test_42 kc_X8_136 ?_
        refine g_iret dX8_test_44 rfl (rfl) (hQ _ _ ?_)
        have e : opTest (cn, lo, hi, ti, bi, sh, fl) l u t b = _ := (if_neg (by omega)).trans (if_pos (by dsimp only; omega))
        rw [e]; exact ⟨rfl, ⟨e1, e2, e3, e4, e5, e6, e7, e8, e9, e10, e11, e12, e13, e14⟩, fr_sF (by decide) fr_rf⟩
    · replace hc27 := bI_0.mp hc27
      (try simp (disch := omega) only [nT, t_m1000100, t_m1000010, t_m1000003, t_m1000002, t_m1000001, t_m1000000, t_m65535, t_m1000, t_m3, t_m1, t_0, t_1, t_2, t_3, t_4, t_5, t_6, t_7, t_8, t_9, t_10, t_11, t_12, t_13, t_15, t_16, t_20, t_21, t_22, t_32, t_40, t_41, t_48, t_49, t_57, t_59, t_60, t_63, t_72, t_76, t_88, t_100, t_144, t_200, t_255, t_288, t_400, t_800, t_999, t_1000, t_1024, t_1200, t_1600, t_3200, t_100000, t_200000, t_252645135, t_858993459, t_1431655765, u_m1000002, u_m1000001, u_m1000, u_m3, u_m1, u_0, u_1, u_2, u_3, u_4, u_5, u_7, u_8, u_10, u_11, u_15, u_60, u_100, u_255, u_999, u_1000, u_100000, u_4294967295] at hc27)
      refine g_ldc dX8_test_30 kc_X8_126 ?_
      refine g_iret dX8_test_32 rfl (rfl) (hQ _ _ ?_)
      have e : opTest (cn, lo, hi, ti, bi, sh, fl) l u t b = _ := if_pos (by omega)
      rw [e]; exact ⟨rfl, ⟨e1, e2, e3, e4, e5, e6, e7, e8, e9, e10, e11, e12, e13, e14⟩, fr_sF (by decide) fr_rf⟩
theorem c_isTest {h : HH} {cn : Nat} (h0 : gA h 44 = aO 8) (h1 : gF h 44 23 = .int (nI cn)) (hc : cn ≤ 10) (t : Int32) : CT mX8_isTest 1 0 0 [.ref 44, .int t] h (fun r h' => r = some (.int (bI (0 ≤ t.toInt ∧ t.toInt < cn))) ∧ h' = h) := by
  refine CT.go [.ref 44, .int t] (by decide +kernel) rfl rfl (fun Q' hQ => ?_)
  refine g_iload_n (i := 1) dX8_isTest_0 rfl rfl ?_
  refine g_i2l dX8_isTest_1 ?_
  refine g_lconst (v := 0) dX8_isTest_2 (by decide) ?_
  refine g_aload_n (i := 0) dX8_isTest_3 rfl rfl ?_
  refine g_get dX8_isTest_4 fl_X8_197 (by repeat' (first | assumption | exact rF_eq | refine rF_ne (by decide) ?_ | refine rF_a ?_ | exact rA_eq | refine rA_ne (by decide) ?_ | refine rA_f ?_)) (by repeat' (first | assumption | exact rF_eq | refine rF_ne (by decide) ?_ | refine rF_a ?_ | exact rA_eq | refine rA_ne (by decide) ?_ | refine rA_f ?_)) ?_
  refine g_iconst (v := 1) dX8_isTest_7 (by decide) ?_
  refine g_isub dX8_isTest_8 ?_
  refine g_i2l dX8_isTest_9 ?_
  refine g_callS (M' := mX8_in) dX8_isTest_10 lc_X8_in ml_X8_116 (c_in h t.toInt64 0 (nI cn - 1).toInt64 0 ((cn : Int) - 1) rfl (by rw [l_i, nm1T (by omega)])) rfl rfl ⟨Nat.le_of_ble_eq_true rfl, Nat.le_of_ble_eq_true rfl, Nat.le_of_ble_eq_true rfl, Nat.le_of_ble_eq_true rfl⟩ (Nat.le_of_ble_eq_true rfl) ?_
  intro r_ h_ q_; obtain ⟨q1_, q2_⟩ := q_; have q2_ := q2_.symm; subst q1_; subst q2_
  refine g_iret dX8_isTest_13 rfl (bI_nar _) (hQ _ _ ?_)
  rw [l_i]
  refine ⟨?_, rfl⟩
  by_cases q : 0 ≤ t.toInt ∧ t.toInt < cn
  · rw [bI_t q, bI_t ⟨by omega, by omega⟩]
  · rw [bI_f q, bI_f (fun z => by omega)]
/-- a TEST moved: from place a to place p -/
def mvf (fl : Nat → Int32) (a p : Nat) : Nat → Int32 := fun j => if j = p then fl a else if a ≤ j ∧ j < p then fl (j + 1) else if p < j ∧ j ≤ a then fl (j - 1) else fl j
def mv1 (fl : Nat → Int32) (a k : Nat) : Nat → Int32 := fun j => if a ≤ j ∧ j < k then fl (j + 1) else fl j
def mv2 (fl : Nat → Int32) (a k : Nat) : Nat → Int32 := fun j => if k < j ∧ j ≤ a then fl (j - 1) else fl j
theorem mv1_0 (fl : Nat → Int32) (a : Nat) : mv1 fl a a = fl := by funext j; unfold mv1; rw [if_neg (by omega)]
theorem mv2_0 (fl : Nat → Int32) (a : Nat) : mv2 fl a a = fl := by funext j; unfold mv2; rw [if_neg (by omega)]
theorem mv1_s {fl : Nat → Int32} {a k : Nat} (hk : a ≤ k) : upd (mv1 fl a k) k (mv1 fl a k (k + 1)) = mv1 fl a (k + 1) := by
  funext j
  unfold upd mv1
  rw [if_neg (show ¬ (a ≤ k + 1 ∧ k + 1 < k) by omega)]
  by_cases h1 : j = k
  · rw [if_pos h1, if_pos ⟨by omega, by omega⟩, h1]
  · rw [if_neg h1]
    by_cases h2 : a ≤ j ∧ j < k
    · rw [if_pos h2, if_pos ⟨by omega, by omega⟩]
    · rw [if_neg h2, if_neg (by omega)]
theorem mv2_s {fl : Nat → Int32} {a k : Nat} (hk : k < a) : upd (mv2 fl a (k + 1)) (k + 1) (mv2 fl a (k + 1) k) = mv2 fl a k := by
  funext j
  unfold upd mv2
  rw [if_neg (show ¬ (k + 1 < k ∧ k ≤ a) by omega)]
  by_cases h1 : j = k + 1
  · rw [if_pos h1, if_pos ⟨by omega, by omega⟩, h1]; rfl
  · rw [if_neg h1]
    by_cases h2 : k + 1 < j ∧ j ≤ a
    · rw [if_pos h2, if_pos ⟨by omega, by omega⟩]
    · rw [if_neg h2, if_neg (by omega)]
theorem mv1_e {fl : Nat → Int32} {a p : Nat} (h : a ≤ p) : upd (mv1 fl a p) p (fl a) = mvf fl a p := by
  funext j
  unfold upd mv1 mvf
  by_cases h1 : j = p
  · rw [if_pos h1, if_pos h1]
  · rw [if_neg h1, if_neg h1]
    by_cases h2 : a ≤ j ∧ j < p
    · rw [if_pos h2, if_pos h2]
    · rw [if_neg h2, if_neg h2, if_neg (by omega)]
theorem mv2_e {fl : Nat → Int32} {a p : Nat} (h : p ≤ a) : upd (mv2 fl a p) p (fl a) = mvf fl a p := by
  funext j
  unfold upd mv2 mvf
  by_cases h1 : j = p
  · rw [if_pos h1, if_pos h1]
  · rw [if_neg h1, if_neg h1]
    by_cases h2 : p < j ∧ j ≤ a
    · rw [if_pos h2, if_neg (by omega)]
    · rw [if_neg h2, if_neg (by omega)]
/-- the first place that holds t -/
def fpos (fl : Nat → Int32) (t : Int32) : Nat → Nat → Nat
  | _, 0 => 0
  | k, n + 1 => if (fl k).toInt = t.toInt then k else fpos fl t (k + 1) n
theorem fpos_at {fl : Nat → Int32} {t : Int32} : ∀ (n k : Nat), (∃ j, k ≤ j ∧ j < k + n ∧ fl j = t) → k ≤ fpos fl t k n ∧ fpos fl t k n < k + n ∧ fl (fpos fl t k n) = t
  | 0, k, ⟨j, h1, h2, _⟩ => by omega
  | n + 1, k, ⟨j, h1, h2, h3⟩ => by
    unfold fpos
    by_cases q : (fl k).toInt = t.toInt
    · rw [if_pos q]; exact ⟨Nat.le_refl _, by omega, i_eq.mpr q⟩
    · rw [if_neg q]
      have hj : j ≠ k := fun z => q (by rw [← z, h3])
      have ih := fpos_at n (k + 1) ⟨j, by omega, by omega, h3⟩
      exact ⟨by omega, by omega, ih.2.2⟩
def opMove (w : TS) (t p : Int32) : Int32 × TS :=
  if ¬ (0 ≤ t.toInt ∧ t.toInt < w.1) ∨ ¬ (0 ≤ p.toInt ∧ p.toInt < w.1) then (-1000001, w)
  else (nI (fpos w.2.2.2.2.2.2 t 0 w.1), w.1, w.2.1, w.2.2.1, w.2.2.2.1, w.2.2.2.2.1, w.2.2.2.2.2.1, mvf w.2.2.2.2.2.2 (fpos w.2.2.2.2.2.2 t 0 w.1) p.toInt.toNat)
theorem c_placeOf {h : HH} {cn : Nat} {lo hi ti bi sh fl : Nat → Int32} (hs : TsX h cn lo hi ti bi sh fl) (hc : cn ≤ 10) {t : Int32} (ht : ∃ j, 0 ≤ j ∧ j < 0 + cn ∧ fl j = t) : CT mX5_placeOf 0 0 0 [.ref 27, .int t] h (fun r h' => r = some (.int (nI (fpos fl t 0 cn))) ∧ h' = h) := by
  obtain ⟨e1, e2, e3, e4, e5, e6, e7, e8, e9, e10, e11, e12, e13, e14⟩ := hs
  refine CT.go [.ref 27, .int t, hU] (by decide +kernel) rfl rfl (fun Q' hQ => ?_)
  generalize hz : fpos fl t 0 cn = a at hQ
  have key : ∀ n k : Nat, k + n = cn → (∃ j, k ≤ j ∧ j < k + n ∧ fl j = t) → fpos fl t k n = a → GG (EM mX5_placeOf 0 0 0 Q') 0 0 2 [.ref 27, .int t, .int (nI k)] [] h := by
    intro n
    induction n with
    | zero => intro k _ hx _; obtain ⟨j, h1, h2, _⟩ := hx; omega
    | succ n ih =>
      intro k hk hx hf
      unfold fpos at hf
      refine g_iload_n (i := 2) dX5_placeOf_2 rfl rfl ?_
      refine g_aload_n (i := 0) dX5_placeOf_3 rfl rfl ?_
      refine g_get dX5_placeOf_4 fl_X5_9 (by repeat' (first | assumption | exact rF_eq | refine rF_ne (by decide) ?_ | refine rF_a ?_ | exact rA_eq | refine rA_ne (by decide) ?_ | refine rA_f ?_)) (by repeat' (first | assumption | exact rF_eq | refine rF_ne (by decide) ?_ | refine rF_a ?_ | exact rA_eq | refine rA_ne (by decide) ?_ | refine rA_f ?_)) ?_
      refine g_icmp_ge (tgt := 28) dX5_placeOf_7 (by decide) (fun hc7 => ?_) (fun hc7 => ?_)
      · (try simp (disch := omega) only [nT, t_m1000100, t_m1000010, t_m1000003, t_m1000002, t_m1000001, t_m1000000, t_m65535, t_m1000, t_m3, t_m1, t_0, t_1, t_2, t_3, t_4, t_5, t_6, t_7, t_8, t_9, t_10, t_11, t_12, t_13, t_15, t_16, t_20, t_21, t_22, t_32, t_40, t_41, t_48, t_49, t_57, t_59, t_60, t_63, t_72, t_76, t_88, t_100, t_144, t_200, t_255, t_288, t_400, t_800, t_999, t_1000, t_1024, t_1200, t_1600, t_3200, t_100000, t_200000, t_252645135, t_858993459, t_1431655765, u_m1000002, u_m1000001, u_m1000, u_m3, u_m1, u_0, u_1, u_2, u_3, u_4, u_5, u_7, u_8, u_10, u_11, u_15, u_60, u_100, u_255, u_999, u_1000, u_100000, u_4294967295] at hc7); omega
      · (try simp (disch := omega) only [nT, t_m1000100, t_m1000010, t_m1000003, t_m1000002, t_m1000001, t_m1000000, t_m65535, t_m1000, t_m3, t_m1, t_0, t_1, t_2, t_3, t_4, t_5, t_6, t_7, t_8, t_9, t_10, t_11, t_12, t_13, t_15, t_16, t_20, t_21, t_22, t_32, t_40, t_41, t_48, t_49, t_57, t_59, t_60, t_63, t_72, t_76, t_88, t_100, t_144, t_200, t_255, t_288, t_400, t_800, t_999, t_1000, t_1024, t_1200, t_1600, t_3200, t_100000, t_200000, t_252645135, t_858993459, t_1431655765, u_m1000002, u_m1000001, u_m1000, u_m3, u_m1, u_0, u_1, u_2, u_3, u_4, u_5, u_7, u_8, u_10, u_11, u_15, u_60, u_100, u_255, u_999, u_1000, u_100000, u_4294967295] at hc7)
        refine g_aload_n (i := 0) dX5_placeOf_10 rfl rfl ?_
        refine g_get dX5_placeOf_11 fl_X5_31 (by repeat' (first | assumption | exact rF_eq | refine rF_ne (by decide) ?_ | refine rF_a ?_ | exact rA_eq | refine rA_ne (by decide) ?_ | refine rA_f ?_)) (by repeat' (first | assumption | exact rF_eq | refine rF_ne (by decide) ?_ | refine rF_a ?_ | exact rA_eq | refine rA_ne (by decide) ?_ | refine rA_f ?_)) ?_
        refine g_iload_n (i := 2) dX5_placeOf_14 rfl rfl ?_
        refine g_iald dX5_placeOf_15 (by repeat' (first | assumption | exact rF_eq | refine rF_ne (by decide) ?_ | refine rF_a ?_ | exact rA_eq | refine rA_ne (by decide) ?_ | refine rA_f ?_)) (nT (by omega)) (by omega) ?_
        refine g_iload_n (i := 1) dX5_placeOf_16 rfl rfl ?_
        refine g_icmp_ne (tgt := 22) dX5_placeOf_17 (by decide) (fun hc17 => ?_) (fun hc17 => ?_)
        · have hd17 := mt i_eq.mpr hc17; (try simp (disch := omega) only [nT, t_m1000100, t_m1000010, t_m1000003, t_m1000002, t_m1000001, t_m1000000, t_m65535, t_m1000, t_m3, t_m1, t_0, t_1, t_2, t_3, t_4, t_5, t_6, t_7, t_8, t_9, t_10, t_11, t_12, t_13, t_15, t_16, t_20, t_21, t_22, t_32, t_40, t_41, t_48, t_49, t_57, t_59, t_60, t_63, t_72, t_76, t_88, t_100, t_144, t_200, t_255, t_288, t_400, t_800, t_999, t_1000, t_1024, t_1200, t_1600, t_3200, t_100000, t_200000, t_252645135, t_858993459, t_1431655765, u_m1000002, u_m1000001, u_m1000, u_m3, u_m1, u_0, u_1, u_2, u_3, u_4, u_5, u_7, u_8, u_10, u_11, u_15, u_60, u_100, u_255, u_999, u_1000, u_100000, u_4294967295] at hd17)
          refine g_iinc dX5_placeOf_22 rfl (Nat.le_of_ble_eq_true rfl) rfl ?_
          refine g_goto (tgt := 2) dX5_placeOf_25 (by decide) ?_
          rw [if_neg (mt i_eq.mpr hc17)] at hf
          rw [ni_incO]
          obtain ⟨j, h1, h2, h3⟩ := hx
          have hj : j ≠ k := fun z => hc17 (by rw [← z, h3])
          exact ih (k + 1) (by omega) ⟨j, by omega, by omega, h3⟩ hf
        · have hd17 := i_eq.mp hc17; (try simp (disch := omega) only [nT, t_m1000100, t_m1000010, t_m1000003, t_m1000002, t_m1000001, t_m1000000, t_m65535, t_m1000, t_m3, t_m1, t_0, t_1, t_2, t_3, t_4, t_5, t_6, t_7, t_8, t_9, t_10, t_11, t_12, t_13, t_15, t_16, t_20, t_21, t_22, t_32, t_40, t_41, t_48, t_49, t_57, t_59, t_60, t_63, t_72, t_76, t_88, t_100, t_144, t_200, t_255, t_288, t_400, t_800, t_999, t_1000, t_1024, t_1200, t_1600, t_3200, t_100000, t_200000, t_252645135, t_858993459, t_1431655765, u_m1000002, u_m1000001, u_m1000, u_m3, u_m1, u_0, u_1, u_2, u_3, u_4, u_5, u_7, u_8, u_10, u_11, u_15, u_60, u_100, u_255, u_999, u_1000, u_100000, u_4294967295] at hd17)
          refine g_iload_n (i := 2) dX5_placeOf_20 rfl rfl ?_
          refine g_iret dX5_placeOf_21 rfl (rfl) (hQ _ _ ?_)
          rw [if_pos (congrArg Int32.toInt hc17)] at hf; rw [← hf]; exact ⟨rfl, rfl⟩
  refine g_iconst (v := 0) dX5_placeOf_0 (by decide) ?_
  refine g_istore_n (i := 2) dX5_placeOf_1 rfl (Nat.le_of_ble_eq_true rfl) rfl ?_
  exact key cn 0 (by omega) ht hz
theorem c_putAt {h : HH} {cn : Nat} {lo hi ti bi sh fl : Nat → Int32} (hs : TsX h cn lo hi ti bi sh fl) {a p : Nat} (ha : a < 10) (hp : p < 10) {t : Int32} (ht : fl a = t) : CT mX5_putAt 0 0 0 [.ref 27, .int t, .int (nI a), .int (nI p)] h (fun r h' => r = none ∧ h' = sA h 33 (aI 10 (mvf fl a p))) := by
  obtain ⟨e1, e2, e3, e4, e5, e6, e7, e8, e9, e10, e11, e12, e13, e14⟩ := hs
  refine CT.go [.ref 27, .int t, .int (nI a), .int (nI p), hU] (by decide +kernel) rfl rfl (fun Q' hQ => ?_)
  have fin : ∀ (f : Nat → Int32) (x4 : Int32), upd f p (fl a) = mvf fl a p → x4.toInt ≤ (p : Int) → GG (EM mX5_putAt 0 0 0 Q') 0 0 34 [.ref 27, .int t, .int (nI a), .int (nI p), .int x4] [] (sA h 33 (aI 10 f)) := by
    intro f x4 hf hx
    refine g_iload dX5_putAt_34 rfl ?_
    refine g_iload_n (i := 3) dX5_putAt_36 rfl rfl ?_
    refine g_icmp_le (tgt := 62) dX5_putAt_37 (by decide) (fun hc37 => ?_) (fun hc37 => ?_)
    · (try simp (disch := omega) only [nT, t_m1000100, t_m1000010, t_m1000003, t_m1000002, t_m1000001, t_m1000000, t_m65535, t_m1000, t_m3, t_m1, t_0, t_1, t_2, t_3, t_4, t_5, t_6, t_7, t_8, t_9, t_10, t_11, t_12, t_13, t_15, t_16, t_20, t_21, t_22, t_32, t_40, t_41, t_48, t_49, t_57, t_59, t_60, t_63, t_72, t_76, t_88, t_100, t_144, t_200, t_255, t_288, t_400, t_800, t_999, t_1000, t_1024, t_1200, t_1600, t_3200, t_100000, t_200000, t_252645135, t_858993459, t_1431655765, u_m1000002, u_m1000001, u_m1000, u_m3, u_m1, u_0, u_1, u_2, u_3, u_4, u_5, u_7, u_8, u_10, u_11, u_15, u_60, u_100, u_255, u_999, u_1000, u_100000, u_4294967295] at hc37)
      refine g_aload_n (i := 0) dX5_putAt_62 rfl rfl ?_
      refine g_get dX5_putAt_63 fl_X5_31 (by repeat' (first | assumption | exact rF_eq | refine rF_ne (by decide) ?_ | refine rF_a ?_ | exact rA_eq | refine rA_ne (by decide) ?_ | refine rA_f ?_)) (by repeat' (first | assumption | exact rF_eq | refine rF_ne (by decide) ?_ | refine rF_a ?_ | exact rA_eq | refine rA_ne (by decide) ?_ | refine rA_f ?_)) ?_
      refine g_iload_n (i := 3) dX5_putAt_66 rfl rfl ?_
      refine g_iload_n (i := 1) dX5_putAt_67 rfl rfl ?_
      refine g_iast dX5_putAt_68 (by repeat' (first | assumption | exact rF_eq | refine rF_ne (by decide) ?_ | refine rF_a ?_ | exact rA_eq | refine rA_ne (by decide) ?_ | refine rA_f ?_)) (nT (by omega)) (by omega) ?_
      refine g_vret dX5_putAt_69 rfl (hQ _ _ ?_)
      rw [sA_sA, ← hf, ht]; exact ⟨rfl, rfl⟩
    · (try simp (disch := omega) only [nT, t_m1000100, t_m1000010, t_m1000003, t_m1000002, t_m1000001, t_m1000000, t_m65535, t_m1000, t_m3, t_m1, t_0, t_1, t_2, t_3, t_4, t_5, t_6, t_7, t_8, t_9, t_10, t_11, t_12, t_13, t_15, t_16, t_20, t_21, t_22, t_32, t_40, t_41, t_48, t_49, t_57, t_59, t_60, t_63, t_72, t_76, t_88, t_100, t_144, t_200, t_255, t_288, t_400, t_800, t_999, t_1000, t_1024, t_1200, t_1600, t_3200, t_100000, t_200000, t_252645135, t_858993459, t_1431655765, u_m1000002, u_m1000001, u_m1000, u_m3, u_m1, u_0, u_1, u_2, u_3, u_4, u_5, u_7, u_8, u_10, u_11, u_15, u_60, u_100, u_255, u_999, u_1000, u_100000, u_4294967295] at hc37); omega
  have k2 : ∀ n k : Nat, k = p + n → k ≤ a → GG (EM mX5_putAt 0 0 0 Q') 0 0 34 [.ref 27, .int t, .int (nI a), .int (nI p), .int (nI k)] [] (sA h 33 (aI 10 (mv2 fl a k))) := by
    intro n
    induction n with
    | zero =>
      intro k hk hka
      obtain rfl : k = p := by omega
      exact fin _ _ (mv2_e hka) (by rw [nT (by omega)]; omega)
    | succ n ih =>
      intro k hk hka
      obtain ⟨m, rfl⟩ : ∃ m, k = m + 1 := ⟨p + n, by omega⟩
      refine g_iload dX5_putAt_34 rfl ?_
      refine g_iload_n (i := 3) dX5_putAt_36 rfl rfl ?_
      refine g_icmp_le (tgt := 62) dX5_putAt_37 (by decide) (fun hc37 => ?_) (fun hc37 => ?_)
      · (try simp (disch := omega) only [nT, t_m1000100, t_m1000010, t_m1000003, t_m1000002, t_m1000001, t_m1000000, t_m65535, t_m1000, t_m3, t_m1, t_0, t_1, t_2, t_3, t_4, t_5, t_6, t_7, t_8, t_9, t_10, t_11, t_12, t_13, t_15, t_16, t_20, t_21, t_22, t_32, t_40, t_41, t_48, t_49, t_57, t_59, t_60, t_63, t_72, t_76, t_88, t_100, t_144, t_200, t_255, t_288, t_400, t_800, t_999, t_1000, t_1024, t_1200, t_1600, t_3200, t_100000, t_200000, t_252645135, t_858993459, t_1431655765, u_m1000002, u_m1000001, u_m1000, u_m3, u_m1, u_0, u_1, u_2, u_3, u_4, u_5, u_7, u_8, u_10, u_11, u_15, u_60, u_100, u_255, u_999, u_1000, u_100000, u_4294967295] at hc37); omega
      · (try simp (disch := omega) only [nT, t_m1000100, t_m1000010, t_m1000003, t_m1000002, t_m1000001, t_m1000000, t_m65535, t_m1000, t_m3, t_m1, t_0, t_1, t_2, t_3, t_4, t_5, t_6, t_7, t_8, t_9, t_10, t_11, t_12, t_13, t_15, t_16, t_20, t_21, t_22, t_32, t_40, t_41, t_48, t_49, t_57, t_59, t_60, t_63, t_72, t_76, t_88, t_100, t_144, t_200, t_255, t_288, t_400, t_800, t_999, t_1000, t_1024, t_1200, t_1600, t_3200, t_100000, t_200000, t_252645135, t_858993459, t_1431655765, u_m1000002, u_m1000001, u_m1000, u_m3, u_m1, u_0, u_1, u_2, u_3, u_4, u_5, u_7, u_8, u_10, u_11, u_15, u_60, u_100, u_255, u_999, u_1000, u_100000, u_4294967295] at hc37)
        refine g_aload_n (i := 0) dX5_putAt_40 rfl rfl ?_
        refine g_get dX5_putAt_41 fl_X5_31 (by repeat' (first | assumption | exact rF_eq | refine rF_ne (by decide) ?_ | refine rF_a ?_ | exact rA_eq | refine rA_ne (by decide) ?_ | refine rA_f ?_)) (by repeat' (first | assumption | exact rF_eq | refine rF_ne (by decide) ?_ | refine rF_a ?_ | exact rA_eq | refine rA_ne (by decide) ?_ | refine rA_f ?_)) ?_
        refine g_iload dX5_putAt_44 rfl ?_
        refine g_aload_n (i := 0) dX5_putAt_46 rfl rfl ?_
        refine g_get dX5_putAt_47 fl_X5_31 (by repeat' (first | assumption | exact rF_eq | refine rF_ne (by decide) ?_ | refine rF_a ?_ | exact rA_eq | refine rA_ne (by decide) ?_ | refine rA_f ?_)) (by repeat' (first | assumption | exact rF_eq | refine rF_ne (by decide) ?_ | refine rF_a ?_ | exact rA_eq | refine rA_ne (by decide) ?_ | refine rA_f ?_)) ?_
        refine g_iload dX5_putAt_50 rfl ?_
        refine g_iconst (v := 1) dX5_putAt_52 (by decide) ?_
        refine g_isub dX5_putAt_53 ?_
        rw [n_m1]
        refine g_iald dX5_putAt_54 (by repeat' (first | assumption | exact rF_eq | refine rF_ne (by decide) ?_ | refine rF_a ?_ | exact rA_eq | refine rA_ne (by decide) ?_ | refine rA_f ?_)) (nT (by omega)) (by omega) ?_
        refine g_iast dX5_putAt_55 (by repeat' (first | assumption | exact rF_eq | refine rF_ne (by decide) ?_ | refine rF_a ?_ | exact rA_eq | refine rA_ne (by decide) ?_ | refine rA_f ?_)) (nT (by omega)) (by omega) ?_
        refine g_iinc dX5_putAt_56 rfl (Nat.le_of_ble_eq_true rfl) rfl ?_
        refine g_goto (tgt := 34) dX5_putAt_59 (by decide) ?_
        rw [sA_sA, mv2_s (by omega), n_dec, n_m1]
        exact ih m (by omega) (by omega)
  have k1 : ∀ n k : Nat, k + n = p → a ≤ k → GG (EM mX5_putAt 0 0 0 Q') 0 0 3 [.ref 27, .int t, .int (nI a), .int (nI p), .int (nI k)] [] (sA h 33 (aI 10 (mv1 fl a k))) := by
    intro n
    induction n with
    | zero =>
      intro k hk hka
      obtain rfl : k = p := by omega
      refine g_iload dX5_putAt_3 rfl ?_
      refine g_iload_n (i := 3) dX5_putAt_5 rfl rfl ?_
      refine g_icmp_ge (tgt := 31) dX5_putAt_6 (by decide) (fun hc6 => ?_) (fun hc6 => ?_)
      · (try simp (disch := omega) only [nT, t_m1000100, t_m1000010, t_m1000003, t_m1000002, t_m1000001, t_m1000000, t_m65535, t_m1000, t_m3, t_m1, t_0, t_1, t_2, t_3, t_4, t_5, t_6, t_7, t_8, t_9, t_10, t_11, t_12, t_13, t_15, t_16, t_20, t_21, t_22, t_32, t_40, t_41, t_48, t_49, t_57, t_59, t_60, t_63, t_72, t_76, t_88, t_100, t_144, t_200, t_255, t_288, t_400, t_800, t_999, t_1000, t_1024, t_1200, t_1600, t_3200, t_100000, t_200000, t_252645135, t_858993459, t_1431655765, u_m1000002, u_m1000001, u_m1000, u_m3, u_m1, u_0, u_1, u_2, u_3, u_4, u_5, u_7, u_8, u_10, u_11, u_15, u_60, u_100, u_255, u_999, u_1000, u_100000, u_4294967295] at hc6)
        refine g_iload_n (i := 2) dX5_putAt_31 rfl rfl ?_
        refine g_istore dX5_putAt_32 (Nat.le_of_ble_eq_true rfl) rfl ?_
        exact fin _ _ (mv1_e hka) (by rw [nT (by omega)]; omega)
      · (try simp (disch := omega) only [nT, t_m1000100, t_m1000010, t_m1000003, t_m1000002, t_m1000001, t_m1000000, t_m65535, t_m1000, t_m3, t_m1, t_0, t_1, t_2, t_3, t_4, t_5, t_6, t_7, t_8, t_9, t_10, t_11, t_12, t_13, t_15, t_16, t_20, t_21, t_22, t_32, t_40, t_41, t_48, t_49, t_57, t_59, t_60, t_63, t_72, t_76, t_88, t_100, t_144, t_200, t_255, t_288, t_400, t_800, t_999, t_1000, t_1024, t_1200, t_1600, t_3200, t_100000, t_200000, t_252645135, t_858993459, t_1431655765, u_m1000002, u_m1000001, u_m1000, u_m3, u_m1, u_0, u_1, u_2, u_3, u_4, u_5, u_7, u_8, u_10, u_11, u_15, u_60, u_100, u_255, u_999, u_1000, u_100000, u_4294967295] at hc6); omega
    | succ n ih =>
      intro k hk hka
      refine g_iload dX5_putAt_3 rfl ?_
      refine g_iload_n (i := 3) dX5_putAt_5 rfl rfl ?_
      refine g_icmp_ge (tgt := 31) dX5_putAt_6 (by decide) (fun hc6 => ?_) (fun hc6 => ?_)
      · (try simp (disch := omega) only [nT, t_m1000100, t_m1000010, t_m1000003, t_m1000002, t_m1000001, t_m1000000, t_m65535, t_m1000, t_m3, t_m1, t_0, t_1, t_2, t_3, t_4, t_5, t_6, t_7, t_8, t_9, t_10, t_11, t_12, t_13, t_15, t_16, t_20, t_21, t_22, t_32, t_40, t_41, t_48, t_49, t_57, t_59, t_60, t_63, t_72, t_76, t_88, t_100, t_144, t_200, t_255, t_288, t_400, t_800, t_999, t_1000, t_1024, t_1200, t_1600, t_3200, t_100000, t_200000, t_252645135, t_858993459, t_1431655765, u_m1000002, u_m1000001, u_m1000, u_m3, u_m1, u_0, u_1, u_2, u_3, u_4, u_5, u_7, u_8, u_10, u_11, u_15, u_60, u_100, u_255, u_999, u_1000, u_100000, u_4294967295] at hc6); omega
      · (try simp (disch := omega) only [nT, t_m1000100, t_m1000010, t_m1000003, t_m1000002, t_m1000001, t_m1000000, t_m65535, t_m1000, t_m3, t_m1, t_0, t_1, t_2, t_3, t_4, t_5, t_6, t_7, t_8, t_9, t_10, t_11, t_12, t_13, t_15, t_16, t_20, t_21, t_22, t_32, t_40, t_41, t_48, t_49, t_57, t_59, t_60, t_63, t_72, t_76, t_88, t_100, t_144, t_200, t_255, t_288, t_400, t_800, t_999, t_1000, t_1024, t_1200, t_1600, t_3200, t_100000, t_200000, t_252645135, t_858993459, t_1431655765, u_m1000002, u_m1000001, u_m1000, u_m3, u_m1, u_0, u_1, u_2, u_3, u_4, u_5, u_7, u_8, u_10, u_11, u_15, u_60, u_100, u_255, u_999, u_1000, u_100000, u_4294967295] at hc6)
        refine g_aload_n (i := 0) dX5_putAt_9 rfl rfl ?_
        refine g_get dX5_putAt_10 fl_X5_31 (by repeat' (first | assumption | exact rF_eq | refine rF_ne (by decide) ?_ | refine rF_a ?_ | exact rA_eq | refine rA_ne (by decide) ?_ | refine rA_f ?_)) (by repeat' (first | assumption | exact rF_eq | refine rF_ne (by decide) ?_ | refine rF_a ?_ | exact rA_eq | refine rA_ne (by decide) ?_ | refine rA_f ?_)) ?_
        refine g_iload dX5_putAt_13 rfl ?_
        refine g_aload_n (i := 0) dX5_putAt_15 rfl rfl ?_
        refine g_get dX5_putAt_16 fl_X5_31 (by repeat' (first | assumption | exact rF_eq | refine rF_ne (by decide) ?_ | refine rF_a ?_ | exact rA_eq | refine rA_ne (by decide) ?_ | refine rA_f ?_)) (by repeat' (first | assumption | exact rF_eq | refine rF_ne (by decide) ?_ | refine rF_a ?_ | exact rA_eq | refine rA_ne (by decide) ?_ | refine rA_f ?_)) ?_
        refine g_iload dX5_putAt_19 rfl ?_
        refine g_iconst (v := 1) dX5_putAt_21 (by decide) ?_
        refine g_iadd dX5_putAt_22 ?_
        rw [ni_inc]
        refine g_iald dX5_putAt_23 (by repeat' (first | assumption | exact rF_eq | refine rF_ne (by decide) ?_ | refine rF_a ?_ | exact rA_eq | refine rA_ne (by decide) ?_ | refine rA_f ?_)) (nT (by omega)) (by omega) ?_
        refine g_iast dX5_putAt_24 (by repeat' (first | assumption | exact rF_eq | refine rF_ne (by decide) ?_ | refine rF_a ?_ | exact rA_eq | refine rA_ne (by decide) ?_ | refine rA_f ?_)) (nT (by omega)) (by omega) ?_
        refine g_iinc dX5_putAt_25 rfl (Nat.le_of_ble_eq_true rfl) rfl ?_
        refine g_goto (tgt := 3) dX5_putAt_28 (by decide) ?_
        rw [sA_sA, mv1_s (by omega), ni_incO]
        exact ih (k + 1) (by omega) (by omega)
  have z1 : sA h 33 (aI 10 (mv1 fl a a)) = h := by rw [mv1_0]; exact sA_self e14
  have z2 : sA h 33 (aI 10 (mv2 fl a a)) = h := by rw [mv2_0]; exact sA_self e14
  rcases Nat.le_total a p with hap | hap
  · have k := k1 (p - a) a (by omega) (Nat.le_refl _)
    rw [z1] at k
    refine g_iload_n (i := 2) dX5_putAt_0 rfl rfl ?_
    refine g_istore dX5_putAt_1 (Nat.le_of_ble_eq_true rfl) rfl ?_
    exact k
  · have k := k2 (a - p) a (by omega) (Nat.le_refl _)
    rw [z2] at k
    refine g_iload_n (i := 2) dX5_putAt_0 rfl rfl ?_
    refine g_istore dX5_putAt_1 (Nat.le_of_ble_eq_true rfl) rfl ?_
    refine g_iload dX5_putAt_3 rfl ?_
    refine g_iload_n (i := 3) dX5_putAt_5 rfl rfl ?_
    refine g_icmp_ge (tgt := 31) dX5_putAt_6 (by decide) (fun hc6 => ?_) (fun hc6 => ?_)
    · (try simp (disch := omega) only [nT, t_m1000100, t_m1000010, t_m1000003, t_m1000002, t_m1000001, t_m1000000, t_m65535, t_m1000, t_m3, t_m1, t_0, t_1, t_2, t_3, t_4, t_5, t_6, t_7, t_8, t_9, t_10, t_11, t_12, t_13, t_15, t_16, t_20, t_21, t_22, t_32, t_40, t_41, t_48, t_49, t_57, t_59, t_60, t_63, t_72, t_76, t_88, t_100, t_144, t_200, t_255, t_288, t_400, t_800, t_999, t_1000, t_1024, t_1200, t_1600, t_3200, t_100000, t_200000, t_252645135, t_858993459, t_1431655765, u_m1000002, u_m1000001, u_m1000, u_m3, u_m1, u_0, u_1, u_2, u_3, u_4, u_5, u_7, u_8, u_10, u_11, u_15, u_60, u_100, u_255, u_999, u_1000, u_100000, u_4294967295] at hc6)
      refine g_iload_n (i := 2) dX5_putAt_31 rfl rfl ?_
      refine g_istore dX5_putAt_32 (Nat.le_of_ble_eq_true rfl) rfl ?_
      exact k
    · (try simp (disch := omega) only [nT, t_m1000100, t_m1000010, t_m1000003, t_m1000002, t_m1000001, t_m1000000, t_m65535, t_m1000, t_m3, t_m1, t_0, t_1, t_2, t_3, t_4, t_5, t_6, t_7, t_8, t_9, t_10, t_11, t_12, t_13, t_15, t_16, t_20, t_21, t_22, t_32, t_40, t_41, t_48, t_49, t_57, t_59, t_60, t_63, t_72, t_76, t_88, t_100, t_144, t_200, t_255, t_288, t_400, t_800, t_999, t_1000, t_1024, t_1200, t_1600, t_3200, t_100000, t_200000, t_252645135, t_858993459, t_1431655765, u_m1000002, u_m1000001, u_m1000, u_m3, u_m1, u_0, u_1, u_2, u_3, u_4, u_5, u_7, u_8, u_10, u_11, u_15, u_60, u_100, u_255, u_999, u_1000, u_100000, u_4294967295] at hc6); omega
theorem x_move {w : TS} (hw : WfT w) {h : HH} (hg : GTX w h) (t p : Int32) : CT mX7_move 1 0 0 [.ref 0, .int t, .int p] h (fun r h' => r = some (.int (opMove w t p).1) ∧ GTX (opMove w t p).2 h' ∧ Fr [33] [] h h') := by
  obtain ⟨cn, lo, hi, ti, bi, sh, fl⟩ := w
  obtain ⟨hw1, hw2, hw3, hw4, hw5⟩ := hw
  have hg0 := hg
  obtain ⟨⟨h0, h1⟩, hs⟩ := hg
  have hs0 := hs
  obtain ⟨e1, e2, e3, e4, e5, e6, e7, e8, e9, e10, e11, e12, e13, e14⟩ := hs
  dsimp only at hw1 hw3 e2 hs0
  refine CT.go [.ref 0, .int t, .int p, hU] (by decide +kernel) rfl rfl (fun Q' hQ => ?_)
  refine g_iload_n (i := 1) dX7_move_0 rfl rfl ?_
  refine g_aload_n (i := 0) dX7_move_1 rfl rfl ?_
  refine g_get dX7_move_2 fl_X7_47 (by repeat' (first | assumption | exact rF_eq | refine rF_ne (by decide) ?_ | refine rF_a ?_ | exact rA_eq | refine rA_ne (by decide) ?_ | refine rA_f ?_)) (by repeat' (first | assumption | exact rF_eq | refine rF_ne (by decide) ?_ | refine rF_a ?_ | exact rA_eq | refine rA_ne (by decide) ?_ | refine rA_f ?_)) ?_
  refine g_get dX7_move_5 fl_X7_194 (by repeat' (first | assumption | exact rF_eq | refine rF_ne (by decide) ?_ | refine rF_a ?_ | exact rA_eq | refine rA_ne (by decide) ?_ | refine rA_f ?_)) (by repeat' (first | assumption | exact rF_eq | refine rF_ne (by decide) ?_ | refine rF_a ?_ | exact rA_eq | refine rA_ne (by decide) ?_ | refine rA_f ?_)) ?_
  refine g_callS (M' := mX7_isWithin) dX7_move_8 lc_X7_isWithin ml_X7_90 (c_isWithin h t (nI cn) cn (nT (by omega))) rfl rfl ⟨Nat.le_of_ble_eq_true rfl, Nat.le_of_ble_eq_true rfl, Nat.le_of_ble_eq_true rfl, Nat.le_of_ble_eq_true rfl⟩ (Nat.le_of_ble_eq_true rfl) ?_
  intro r_ h_ q_; obtain ⟨q1_, q2_⟩ := q_; have q2_ := q2_.symm; subst q1_; subst q2_
  refine g_if_eq (tgt := 28) dX7_move_11 (by decide) (fun hc11 => ?_) (fun hc11 => ?_)
  · replace hc11 := bI_0.mp hc11
    (try simp (disch := omega) only [nT, t_m1000100, t_m1000010, t_m1000003, t_m1000002, t_m1000001, t_m1000000, t_m65535, t_m1000, t_m3, t_m1, t_0, t_1, t_2, t_3, t_4, t_5, t_6, t_7, t_8, t_9, t_10, t_11, t_12, t_13, t_15, t_16, t_20, t_21, t_22, t_32, t_40, t_41, t_48, t_49, t_57, t_59, t_60, t_63, t_72, t_76, t_88, t_100, t_144, t_200, t_255, t_288, t_400, t_800, t_999, t_1000, t_1024, t_1200, t_1600, t_3200, t_100000, t_200000, t_252645135, t_858993459, t_1431655765, u_m1000002, u_m1000001, u_m1000, u_m3, u_m1, u_0, u_1, u_2, u_3, u_4, u_5, u_7, u_8, u_10, u_11, u_15, u_60, u_100, u_255, u_999, u_1000, u_100000, u_4294967295] at hc11)
    refine g_ldc dX7_move_28 kc_X7_94 ?_
    refine g_iret dX7_move_30 rfl (rfl) (hQ _ _ ?_)
    have e : opMove (cn, lo, hi, ti, bi, sh, fl) t p = _ := if_pos (by dsimp only; omega)
    rw [e]; exact ⟨rfl, hg0, fr_rf⟩
  · replace hc11 := bI_n0.mp hc11
    (try simp (disch := omega) only [nT, t_m1000100, t_m1000010, t_m1000003, t_m1000002, t_m1000001, t_m1000000, t_m65535, t_m1000, t_m3, t_m1, t_0, t_1, t_2, t_3, t_4, t_5, t_6, t_7, t_8, t_9, t_10, t_11, t_12, t_13, t_15, t_16, t_20, t_21, t_22, t_32, t_40, t_41, t_48, t_49, t_57, t_59, t_60, t_63, t_72, t_76, t_88, t_100, t_144, t_200, t_255, t_288, t_400, t_800, t_999, t_1000, t_1024, t_1200, t_1600, t_3200, t_100000, t_200000, t_252645135, t_858993459, t_1431655765, u_m1000002, u_m1000001, u_m1000, u_m3, u_m1, u_0, u_1, u_2, u_3, u_4, u_5, u_7, u_8, u_10, u_11, u_15, u_60, u_100, u_255, u_999, u_1000, u_100000, u_4294967295] at hc11)
    refine g_iload_n (i := 2) dX7_move_14 rfl rfl ?_
    refine g_aload_n (i := 0) dX7_move_15 rfl rfl ?_
    refine g_get dX7_move_16 fl_X7_47 (by repeat' (first | assumption | exact rF_eq | refine rF_ne (by decide) ?_ | refine rF_a ?_ | exact rA_eq | refine rA_ne (by decide) ?_ | refine rA_f ?_)) (by repeat' (first | assumption | exact rF_eq | refine rF_ne (by decide) ?_ | refine rF_a ?_ | exact rA_eq | refine rA_ne (by decide) ?_ | refine rA_f ?_)) ?_
    refine g_get dX7_move_19 fl_X7_194 (by repeat' (first | assumption | exact rF_eq | refine rF_ne (by decide) ?_ | refine rF_a ?_ | exact rA_eq | refine rA_ne (by decide) ?_ | refine rA_f ?_)) (by repeat' (first | assumption | exact rF_eq | refine rF_ne (by decide) ?_ | refine rF_a ?_ | exact rA_eq | refine rA_ne (by decide) ?_ | refine rA_f ?_)) ?_
    refine g_callS (M' := mX7_isWithin) dX7_move_22 lc_X7_isWithin ml_X7_90 (c_isWithin h p (nI cn) cn (nT (by omega))) rfl rfl ⟨Nat.le_of_ble_eq_true rfl, Nat.le_of_ble_eq_true rfl, Nat.le_of_ble_eq_true rfl, Nat.le_of_ble_eq_true rfl⟩ (Nat.le_of_ble_eq_true rfl) ?_
    intro r_ h_ q_; obtain ⟨q1_, q2_⟩ := q_; have q2_ := q2_.symm; subst q1_; subst q2_
    refine g_if_ne (tgt := 31) dX7_move_25 (by decide) (fun hc25 => ?_) (fun hc25 => ?_)
    · replace hc25 := bI_n0.mp hc25
      (try simp (disch := omega) only [nT, t_m1000100, t_m1000010, t_m1000003, t_m1000002, t_m1000001, t_m1000000, t_m65535, t_m1000, t_m3, t_m1, t_0, t_1, t_2, t_3, t_4, t_5, t_6, t_7, t_8, t_9, t_10, t_11, t_12, t_13, t_15, t_16, t_20, t_21, t_22, t_32, t_40, t_41, t_48, t_49, t_57, t_59, t_60, t_63, t_72, t_76, t_88, t_100, t_144, t_200, t_255, t_288, t_400, t_800, t_999, t_1000, t_1024, t_1200, t_1600, t_3200, t_100000, t_200000, t_252645135, t_858993459, t_1431655765, u_m1000002, u_m1000001, u_m1000, u_m3, u_m1, u_0, u_1, u_2, u_3, u_4, u_5, u_7, u_8, u_10, u_11, u_15, u_60, u_100, u_255, u_999, u_1000, u_100000, u_4294967295] at hc25)
      have e : opMove (cn, lo, hi, ti, bi, sh, fl) t p = _ := if_neg (by dsimp only; omega)
      obtain ⟨a, ha, rfl, hta⟩ := n_of (n := cn) (x := t) (by omega) (by omega)
      obtain ⟨b, hb, rfl, htb⟩ := n_of (n := cn) (x := p) (by omega) (by omega)
      dsimp only at e
      rw [nTN (j := b) (by omega)] at e
      obtain ⟨j0, hj0, hj1⟩ := hw3 a ha
      have hf := fpos_at (fl := fl) (t := nI a) cn 0 ⟨j0, by omega, by omega, hj1⟩
      refine g_aload_n (i := 0) dX7_move_31 rfl rfl ?_
      refine g_get dX7_move_32 fl_X7_47 (by repeat' (first | assumption | exact rF_eq | refine rF_ne (by decide) ?_ | refine rF_a ?_ | exact rA_eq | refine rA_ne (by decide) ?_ | refine rA_f ?_)) (by repeat' (first | assumption | exact rF_eq | refine rF_ne (by decide) ?_ | refine rF_a ?_ | exact rA_eq | refine rA_ne (by decide) ?_ | refine rA_f ?_)) ?_
      refine g_iload_n (i := 1) dX7_move_35 rfl rfl ?_
      refine g_callV (M' := mX5_placeOf) dX7_move_36 lc_X5_placeOf ml_X7_201 (c_placeOf hs0 hw1 ⟨j0, by omega, by omega, hj1⟩) rfl rfl (by repeat' (first | assumption | exact rF_eq | refine rF_ne (by decide) ?_ | refine rF_a ?_ | exact rA_eq | refine rA_ne (by decide) ?_ | refine rA_f ?_)) rfl ⟨Nat.le_of_ble_eq_true rfl, Nat.le_of_ble_eq_true rfl, Nat.le_of_ble_eq_true rfl, Nat.le_of_ble_eq_true rfl⟩ (Nat.le_of_ble_eq_true rfl) ?_
      intro r_ h_ q_; obtain ⟨q1_, q2_⟩ := q_; have q2_ := q2_.symm; subst q1_; subst q2_
      refine g_istore_n (i := 3) dX7_move_39 rfl (Nat.le_of_ble_eq_true rfl) rfl ?_
      refine g_iload_n (i := 3) dX7_move_40 rfl rfl ?_
      refine g_ldc dX7_move_41 kc_X7_155 ?_
      refine g_icmp_ne (tgt := 49) dX7_move_43 (by decide) (fun hc43 => ?_) (fun hc43 => ?_)
      · have hd43 := mt i_eq.mpr hc43; (try simp (disch := omega) only [nT, t_m1000100, t_m1000010, t_m1000003, t_m1000002, t_m1000001, t_m1000000, t_m65535, t_m1000, t_m3, t_m1, t_0, t_1, t_2, t_3, t_4, t_5, t_6, t_7, t_8, t_9, t_10, t_11, t_12, t_13, t_15, t_16, t_20, t_21, t_22, t_32, t_40, t_41, t_48, t_49, t_57, t_59, t_60, t_63, t_72, t_76, t_88, t_100, t_144, t_200, t_255, t_288, t_400, t_800, t_999, t_1000, t_1024, t_1200, t_1600, t_3200, t_100000, t_200000, t_252645135, t_858993459, t_1431655765, u_m1000002, u_m1000001, u_m1000, u_m3, u_m1, u_0, u_1, u_2, u_3, u_4, u_5, u_7, u_8, u_10, u_11, u_15, u_60, u_100, u_255, u_999, u_1000, u_100000, u_4294967295] at hd43)
        refine g_aload_n (i := 0) dX7_move_49 rfl rfl ?_
        refine g_get dX7_move_50 fl_X7_47 (by repeat' (first | assumption | exact rF_eq | refine rF_ne (by decide) ?_ | refine rF_a ?_ | exact rA_eq | refine rA_ne (by decide) ?_ | refine rA_f ?_)) (by repeat' (first | assumption | exact rF_eq | refine rF_ne (by decide) ?_ | refine rF_a ?_ | exact rA_eq | refine rA_ne (by decide) ?_ | refine rA_f ?_)) ?_
        refine g_iload_n (i := 1) dX7_move_53 rfl rfl ?_
        refine g_iload_n (i := 3) dX7_move_54 rfl rfl ?_
        refine g_iload_n (i := 2) dX7_move_55 rfl rfl ?_
        refine g_callV (M' := mX5_putAt) dX7_move_56 lc_X5_putAt ml_X7_204 (c_putAt hs0 (a := fpos fl (nI a) 0 cn) (p := b) (by omega) (by omega) hf.2.2) rfl rfl (by repeat' (first | assumption | exact rF_eq | refine rF_ne (by decide) ?_ | refine rF_a ?_ | exact rA_eq | refine rA_ne (by decide) ?_ | refine rA_f ?_)) rfl ⟨Nat.le_of_ble_eq_true rfl, Nat.le_of_ble_eq_true rfl, Nat.le_of_ble_eq_true rfl, Nat.le_of_ble_eq_true rfl⟩ (Nat.le_of_ble_eq_true rfl) ?_
        intro r_ h_ q_; obtain ⟨q1_, q2_⟩ := q_; have q2_ := q2_.symm; subst q1_; subst q2_
        refine g_iload_n (i := 3) dX7_move_59 rfl rfl ?_
        refine g_iret dX7_move_60 rfl (rfl) (hQ _ _ ?_)
        rw [e]; exact ⟨rfl, ⟨⟨h0, h1⟩, e1, e2, e3, e4, e5, e6, e7, e8, e9, e10, e11, e12, e13, rfl⟩, fr_sA (by decide) fr_rf⟩
      · have hd43 := i_eq.mp hc43; (try simp (disch := omega) only [nT, t_m1000100, t_m1000010, t_m1000003, t_m1000002, t_m1000001, t_m1000000, t_m65535, t_m1000, t_m3, t_m1, t_0, t_1, t_2, t_3, t_4, t_5, t_6, t_7, t_8, t_9, t_10, t_11, t_12, t_13, t_15, t_16, t_20, t_21, t_22, t_32, t_40, t_41, t_48, t_49, t_57, t_59, t_60, t_63, t_72, t_76, t_88, t_100, t_144, t_200, t_255, t_288, t_400, t_800, t_999, t_1000, t_1024, t_1200, t_1600, t_3200, t_100000, t_200000, t_252645135, t_858993459, t_1431655765, u_m1000002, u_m1000001, u_m1000, u_m3, u_m1, u_0, u_1, u_2, u_3, u_4, u_5, u_7, u_8, u_10, u_11, u_15, u_60, u_100, u_255, u_999, u_1000, u_100000, u_4294967295] at hd43); have q9 := congrArg Int32.toInt (show nI (fpos fl (nI a) 0 cn) = -1000000 from hc43); rw [nT (by omega), t_m1000000] at q9; omega
    · replace hc25 := bI_0.mp hc25
      (try simp (disch := omega) only [nT, t_m1000100, t_m1000010, t_m1000003, t_m1000002, t_m1000001, t_m1000000, t_m65535, t_m1000, t_m3, t_m1, t_0, t_1, t_2, t_3, t_4, t_5, t_6, t_7, t_8, t_9, t_10, t_11, t_12, t_13, t_15, t_16, t_20, t_21, t_22, t_32, t_40, t_41, t_48, t_49, t_57, t_59, t_60, t_63, t_72, t_76, t_88, t_100, t_144, t_200, t_255, t_288, t_400, t_800, t_999, t_1000, t_1024, t_1200, t_1600, t_3200, t_100000, t_200000, t_252645135, t_858993459, t_1431655765, u_m1000002, u_m1000001, u_m1000, u_m3, u_m1, u_0, u_1, u_2, u_3, u_4, u_5, u_7, u_8, u_10, u_11, u_15, u_60, u_100, u_255, u_999, u_1000, u_100000, u_4294967295] at hc25)
      refine g_ldc dX7_move_28 kc_X7_94 ?_
      refine g_iret dX7_move_30 rfl (rfl) (hQ _ _ ?_)
      have e : opMove (cn, lo, hi, ti, bi, sh, fl) t p = _ := if_pos (by dsimp only; omega)
      rw [e]; exact ⟨rfl, hg0, fr_rf⟩
theorem m_move {w : TS} (hw : WfT w) {h : HH} (hg : GTM w h) (t p : Int32) : CT mX8_move 2 0 0 [.ref 44, .int t, .int p] h (fun r h' => r = some (.int (opMove w t p).1) ∧ GTM (opMove w t p).2 h' ∧ Fr [62] [(44, 0)] h h') := by
  obtain ⟨cn, lo, hi, ti, bi, sh, fl⟩ := w
  obtain ⟨hw1, hw2, hw3, hw4, hw5⟩ := hw
  obtain ⟨e1, e2, e3, e4, e5, e6, e7, e8, e9, e10, e11, e12, e13, e14⟩ := hg
  dsimp only at hw1 hw3 e2 e9 e10 e11 e12 e13 e14
  refine CT.go [.ref 44, .int t, .int p, hU, hU] (by decide +kernel) rfl rfl (fun Q' hQ => ?_)
  refine g_aload_n (i := 0) dX8_move_0 rfl rfl ?_
  refine g_iconst (v := 0) dX8_move_1 (by decide) ?_
  refine g_put dX8_move_2 pl_X8_107 (by repeat' (first | assumption | exact rF_eq | refine rF_ne (by decide) ?_ | refine rF_a ?_ | exact rA_eq | refine rA_ne (by decide) ?_ | refine rA_f ?_)) (fun _ => ⟨rfl, rfl⟩) ?_
  refine g_aload_n (i := 0) dX8_move_5 rfl rfl ?_
  refine g_iload_n (i := 1) dX8_move_6 rfl rfl ?_
  refine g_callV (M' := mX8_isTest) dX8_move_7 lc_X8_isTest ml_X8_204 (c_isTest (h := sF h 44 0 (.int 0)) e1 e2 hw1 t) rfl rfl (by repeat' (first | assumption | exact rF_eq | refine rF_ne (by decide) ?_ | refine rF_a ?_ | exact rA_eq | refine rA_ne (by decide) ?_ | refine rA_f ?_)) rfl ⟨Nat.le_of_ble_eq_true rfl, Nat.le_of_ble_eq_true rfl, Nat.le_of_ble_eq_true rfl, Nat.le_of_ble_eq_true rfl⟩ (Nat.le_of_ble_eq_true rfl) ?_
  intro r_ h_ q_; obtain ⟨q1_, q2_⟩ := q_; have q2_ := q2_.symm; subst q1_; subst q2_
  refine g_if_eq (tgt := 29) dX8_move_10 (by decide) (fun hc10 => ?_) (fun hc10 => ?_)
  · replace hc10 := bI_0.mp hc10
    (try simp (disch := omega) only [nT, t_m1000100, t_m1000010, t_m1000003, t_m1000002, t_m1000001, t_m1000000, t_m65535, t_m1000, t_m3, t_m1, t_0, t_1, t_2, t_3, t_4, t_5, t_6, t_7, t_8, t_9, t_10, t_11, t_12, t_13, t_15, t_16, t_20, t_21, t_22, t_32, t_40, t_41, t_48, t_49, t_57, t_59, t_60, t_63, t_72, t_76, t_88, t_100, t_144, t_200, t_255, t_288, t_400, t_800, t_999, t_1000, t_1024, t_1200, t_1600, t_3200, t_100000, t_200000, t_252645135, t_858993459, t_1431655765, u_m1000002, u_m1000001, u_m1000, u_m3, u_m1, u_0, u_1, u_2, u_3, u_4, u_5, u_7, u_8, u_10, u_11, u_15, u_60, u_100, u_255, u_999, u_1000, u_100000, u_4294967295] at hc10)
    refine g_ldc dX8_move_29 kc_X8_126 ?_
    refine g_iret dX8_move_31 rfl (rfl) (hQ _ _ ?_)
    have e : opMove (cn, lo, hi, ti, bi, sh, fl) t p = _ := if_pos (by dsimp only; omega)
    rw [e]; exact ⟨rfl, ⟨e1, e2, e3, e4, e5, e6, e7, e8, e9, e10, e11, e12, e13, e14⟩, fr_sF (by decide) fr_rf⟩
  · replace hc10 := bI_n0.mp hc10
    (try simp (disch := omega) only [nT, t_m1000100, t_m1000010, t_m1000003, t_m1000002, t_m1000001, t_m1000000, t_m65535, t_m1000, t_m3, t_m1, t_0, t_1, t_2, t_3, t_4, t_5, t_6, t_7, t_8, t_9, t_10, t_11, t_12, t_13, t_15, t_16, t_20, t_21, t_22, t_32, t_40, t_41, t_48, t_49, t_57, t_59, t_60, t_63, t_72, t_76, t_88, t_100, t_144, t_200, t_255, t_288, t_400, t_800, t_999, t_1000, t_1024, t_1200, t_1600, t_3200, t_100000, t_200000, t_252645135, t_858993459, t_1431655765, u_m1000002, u_m1000001, u_m1000, u_m3, u_m1, u_0, u_1, u_2, u_3, u_4, u_5, u_7, u_8, u_10, u_11, u_15, u_60, u_100, u_255, u_999, u_1000, u_100000, u_4294967295] at hc10)
    refine g_iload_n (i := 2) dX8_move_13 rfl rfl ?_
    refine g_i2l dX8_move_14 ?_
    refine g_lconst (v := 0) dX8_move_15 (by decide) ?_
    refine g_aload_n (i := 0) dX8_move_16 rfl rfl ?_
    refine g_get dX8_move_17 fl_X8_197 (by repeat' (first | assumption | exact rF_eq | refine rF_ne (by decide) ?_ | refine rF_a ?_ | exact rA_eq | refine rA_ne (by decide) ?_ | refine rA_f ?_)) (by repeat' (first | assumption | exact rF_eq | refine rF_ne (by decide) ?_ | refine rF_a ?_ | exact rA_eq | refine rA_ne (by decide) ?_ | refine rA_f ?_)) ?_
    refine g_iconst (v := 1) dX8_move_20 (by decide) ?_
    refine g_isub dX8_move_21 ?_
    refine g_i2l dX8_move_22 ?_
    refine g_callS (M' := mX8_in) dX8_move_23 lc_X8_in ml_X8_116 (c_in _ p.toInt64 0 (nI cn - 1).toInt64 0 ((cn : Int) - 1) rfl (by rw [l_i, nm1T (by omega)])) rfl rfl ⟨Nat.le_of_ble_eq_true rfl, Nat.le_of_ble_eq_true rfl, Nat.le_of_ble_eq_true rfl, Nat.le_of_ble_eq_true rfl⟩ (Nat.le_of_ble_eq_true rfl) ?_
    intro r_ h_ q_; obtain ⟨q1_, q2_⟩ := q_; have q2_ := q2_.symm; subst q1_; subst q2_
    rw [l_i]
    refine g_if_ne (tgt := 32) dX8_move_26 (by decide) (fun hc26 => ?_) (fun hc26 => ?_)
    · replace hc26 := bI_n0.mp hc26
      (try simp (disch := omega) only [nT, t_m1000100, t_m1000010, t_m1000003, t_m1000002, t_m1000001, t_m1000000, t_m65535, t_m1000, t_m3, t_m1, t_0, t_1, t_2, t_3, t_4, t_5, t_6, t_7, t_8, t_9, t_10, t_11, t_12, t_13, t_15, t_16, t_20, t_21, t_22, t_32, t_40, t_41, t_48, t_49, t_57, t_59, t_60, t_63, t_72, t_76, t_88, t_100, t_144, t_200, t_255, t_288, t_400, t_800, t_999, t_1000, t_1024, t_1200, t_1600, t_3200, t_100000, t_200000, t_252645135, t_858993459, t_1431655765, u_m1000002, u_m1000001, u_m1000, u_m3, u_m1, u_0, u_1, u_2, u_3, u_4, u_5, u_7, u_8, u_10, u_11, u_15, u_60, u_100, u_255, u_999, u_1000, u_100000, u_4294967295] at hc26)
      have e : opMove (cn, lo, hi, ti, bi, sh, fl) t p = _ := if_neg (by dsimp only; omega)
      obtain ⟨t, ht, rfl, hta⟩ := n_of (n := cn) (x := t) (by omega) (by omega)
      obtain ⟨p, hp, rfl, htb⟩ := n_of (n := cn) (x := p) (by omega) (by omega)
      dsimp only at e
      rw [nTN (j := p) (by omega)] at e
      obtain ⟨j0, hj0, hj1⟩ := hw3 t ht
      obtain ⟨hf1, hf2, hf3⟩ := fpos_at (fl := fl) (t := nI t) cn 0 ⟨j0, by omega, by omega, hj1⟩
      generalize hza : fpos fl (nI t) 0 cn = a at e hf1 hf2 hf3
      have hfs : ∀ n k : Nat, k + n = cn → (∃ j, k ≤ j ∧ j < k + n ∧ fl j = nI t) → fpos fl (nI t) k n = a → ∀ x4 : Value, GG (EM mX8_move 2 0 0 Q') 0 0 34 [.ref 44, .int (nI t), .int (nI p), .int (nI k), x4] [] (sF h 44 0 (.int 0)) := by
        have fin : ∀ (f : Nat → Int32) (x4 : Int32), upd f p (fl a) = mvf fl a p → x4.toInt ≤ (p : Int) → GG (EM mX8_move 2 0 0 Q') 0 0 84 [.ref 44, .int (nI t), .int (nI p), .int (nI a), .int x4] [] (sA (sF h 44 0 (.int 0)) 62 (aI 10 f)) := by
          intro f x4 hf hx
          refine g_iload dX8_move_84 rfl ?_
          refine g_iload_n (i := 2) dX8_move_86 rfl rfl ?_
          refine g_icmp_le (tgt := 112) dX8_move_87 (by decide) (fun hc87 => ?_) (fun hc87 => ?_)
          · (try simp (disch := omega) only [nT, t_m1000100, t_m1000010, t_m1000003, t_m1000002, t_m1000001, t_m1000000, t_m65535, t_m1000, t_m3, t_m1, t_0, t_1, t_2, t_3, t_4, t_5, t_6, t_7, t_8, t_9, t_10, t_11, t_12, t_13, t_15, t_16, t_20, t_21, t_22, t_32, t_40, t_41, t_48, t_49, t_57, t_59, t_60, t_63, t_72, t_76, t_88, t_100, t_144, t_200, t_255, t_288, t_400, t_800, t_999, t_1000, t_1024, t_1200, t_1600, t_3200, t_100000, t_200000, t_252645135, t_858993459, t_1431655765, u_m1000002, u_m1000001, u_m1000, u_m3, u_m1, u_0, u_1, u_2, u_3, u_4, u_5, u_7, u_8, u_10, u_11, u_15, u_60, u_100, u_255, u_999, u_1000, u_100000, u_4294967295] at hc87)
            refine g_aload_n (i := 0) dX8_move_112 rfl rfl ?_
            refine g_get dX8_move_113 fl_X8_62 (by repeat' (first | assumption | exact rF_eq | refine rF_ne (by decide) ?_ | refine rF_a ?_ | exact rA_eq | refine rA_ne (by decide) ?_ | refine rA_f ?_)) (by repeat' (first | assumption | exact rF_eq | refine rF_ne (by decide) ?_ | refine rF_a ?_ | exact rA_eq | refine rA_ne (by decide) ?_ | refine rA_f ?_)) ?_
            refine g_iload_n (i := 2) dX8_move_116 rfl rfl ?_
            refine g_iload_n (i := 1) dX8_move_117 rfl rfl ?_
            refine g_iast dX8_move_118 (by repeat' (first | assumption | exact rF_eq | refine rF_ne (by decide) ?_ | refine rF_a ?_ | exact rA_eq | refine rA_ne (by decide) ?_ | refine rA_f ?_)) (nT (by omega)) (by omega) ?_
            refine g_iload_n (i := 3) dX8_move_119 rfl rfl ?_
            refine g_iret dX8_move_120 rfl (rfl) (hQ _ _ ?_)
            rw [sA_sA, show upd f p (nI t) = mvf fl a p by rw [← hf3]; exact hf, e]
            exact ⟨rfl, ⟨e1, e2, e3, e4, e5, e6, e7, e8, e9, e10, e11, e12, e13, rfl⟩, fr_sA (by decide) (fr_sF (by decide) fr_rf)⟩
          · (try simp (disch := omega) only [nT, t_m1000100, t_m1000010, t_m1000003, t_m1000002, t_m1000001, t_m1000000, t_m65535, t_m1000, t_m3, t_m1, t_0, t_1, t_2, t_3, t_4, t_5, t_6, t_7, t_8, t_9, t_10, t_11, t_12, t_13, t_15, t_16, t_20, t_21, t_22, t_32, t_40, t_41, t_48, t_49, t_57, t_59, t_60, t_63, t_72, t_76, t_88, t_100, t_144, t_200, t_255, t_288, t_400, t_800, t_999, t_1000, t_1024, t_1200, t_1600, t_3200, t_100000, t_200000, t_252645135, t_858993459, t_1431655765, u_m1000002, u_m1000001, u_m1000, u_m3, u_m1, u_0, u_1, u_2, u_3, u_4, u_5, u_7, u_8, u_10, u_11, u_15, u_60, u_100, u_255, u_999, u_1000, u_100000, u_4294967295] at hc87); omega
        have k2 : ∀ n k : Nat, k = p + n → k ≤ a → GG (EM mX8_move 2 0 0 Q') 0 0 84 [.ref 44, .int (nI t), .int (nI p), .int (nI a), .int (nI k)] [] (sA (sF h 44 0 (.int 0)) 62 (aI 10 (mv2 fl a k))) := by
          intro n
          induction n with
          | zero =>
            intro k hk hka
            obtain rfl : k = p := by omega
            exact fin _ _ (mv2_e hka) (by rw [nT (by omega)]; omega)
          | succ n ih =>
            intro k hk hka
            obtain ⟨m, rfl⟩ : ∃ m, k = m + 1 := ⟨p + n, by omega⟩
            refine g_iload dX8_move_84 rfl ?_
            refine g_iload_n (i := 2) dX8_move_86 rfl rfl ?_
            refine g_icmp_le (tgt := 112) dX8_move_87 (by decide) (fun hc87 => ?_) (fun hc87 => ?_)
            · (try simp (disch := omega) only [nT, t_m1000100, t_m1000010, t_m1000003, t_m1000002, t_m1000001, t_m1000000, t_m65535, t_m1000, t_m3, t_m1, t_0, t_1, t_2, t_3, t_4, t_5, t_6, t_7, t_8, t_9, t_10, t_11, t_12, t_13, t_15, t_16, t_20, t_21, t_22, t_32, t_40, t_41, t_48, t_49, t_57, t_59, t_60, t_63, t_72, t_76, t_88, t_100, t_144, t_200, t_255, t_288, t_400, t_800, t_999, t_1000, t_1024, t_1200, t_1600, t_3200, t_100000, t_200000, t_252645135, t_858993459, t_1431655765, u_m1000002, u_m1000001, u_m1000, u_m3, u_m1, u_0, u_1, u_2, u_3, u_4, u_5, u_7, u_8, u_10, u_11, u_15, u_60, u_100, u_255, u_999, u_1000, u_100000, u_4294967295] at hc87); omega
            · (try simp (disch := omega) only [nT, t_m1000100, t_m1000010, t_m1000003, t_m1000002, t_m1000001, t_m1000000, t_m65535, t_m1000, t_m3, t_m1, t_0, t_1, t_2, t_3, t_4, t_5, t_6, t_7, t_8, t_9, t_10, t_11, t_12, t_13, t_15, t_16, t_20, t_21, t_22, t_32, t_40, t_41, t_48, t_49, t_57, t_59, t_60, t_63, t_72, t_76, t_88, t_100, t_144, t_200, t_255, t_288, t_400, t_800, t_999, t_1000, t_1024, t_1200, t_1600, t_3200, t_100000, t_200000, t_252645135, t_858993459, t_1431655765, u_m1000002, u_m1000001, u_m1000, u_m3, u_m1, u_0, u_1, u_2, u_3, u_4, u_5, u_7, u_8, u_10, u_11, u_15, u_60, u_100, u_255, u_999, u_1000, u_100000, u_4294967295] at hc87)
              refine g_aload_n (i := 0) dX8_move_90 rfl rfl ?_
              refine g_get dX8_move_91 fl_X8_62 (by repeat' (first | assumption | exact rF_eq | refine rF_ne (by decide) ?_ | refine rF_a ?_ | exact rA_eq | refine rA_ne (by decide) ?_ | refine rA_f ?_)) (by repeat' (first | assumption | exact rF_eq | refine rF_ne (by decide) ?_ | refine rF_a ?_ | exact rA_eq | refine rA_ne (by decide) ?_ | refine rA_f ?_)) ?_
              refine g_iload dX8_move_94 rfl ?_
              refine g_aload_n (i := 0) dX8_move_96 rfl rfl ?_
              refine g_get dX8_move_97 fl_X8_62 (by repeat' (first | assumption | exact rF_eq | refine rF_ne (by decide) ?_ | refine rF_a ?_ | exact rA_eq | refine rA_ne (by decide) ?_ | refine rA_f ?_)) (by repeat' (first | assumption | exact rF_eq | refine rF_ne (by decide) ?_ | refine rF_a ?_ | exact rA_eq | refine rA_ne (by decide) ?_ | refine rA_f ?_)) ?_
              refine g_iload dX8_move_100 rfl ?_
              refine g_iconst (v := 1) dX8_move_102 (by decide) ?_
              refine g_isub dX8_move_103 ?_
              rw [n_m1]
              refine g_iald dX8_move_104 (by repeat' (first | assumption | exact rF_eq | refine rF_ne (by decide) ?_ | refine rF_a ?_ | exact rA_eq | refine rA_ne (by decide) ?_ | refine rA_f ?_)) (nT (by omega)) (by omega) ?_
              refine g_iast dX8_move_105 (by repeat' (first | assumption | exact rF_eq | refine rF_ne (by decide) ?_ | refine rF_a ?_ | exact rA_eq | refine rA_ne (by decide) ?_ | refine rA_f ?_)) (nT (by omega)) (by omega) ?_
              refine g_iinc dX8_move_106 rfl (Nat.le_of_ble_eq_true rfl) rfl ?_
              refine g_goto (tgt := 84) dX8_move_109 (by decide) ?_
              rw [sA_sA, mv2_s (by omega), n_dec, n_m1]
              exact ih m (by omega) (by omega)
        have k1 : ∀ n k : Nat, k + n = p → a ≤ k → GG (EM mX8_move 2 0 0 Q') 0 0 53 [.ref 44, .int (nI t), .int (nI p), .int (nI a), .int (nI k)] [] (sA (sF h 44 0 (.int 0)) 62 (aI 10 (mv1 fl a k))) := by
          intro n
          induction n with
          | zero =>
            intro k hk hka
            obtain rfl : k = p := by omega
            refine g_iload dX8_move_53 rfl ?_
            refine g_iload_n (i := 2) dX8_move_55 rfl rfl ?_
            refine g_icmp_ge (tgt := 81) dX8_move_56 (by decide) (fun hc56 => ?_) (fun hc56 => ?_)
            · (try simp (disch := omega) only [nT, t_m1000100, t_m1000010, t_m1000003, t_m1000002, t_m1000001, t_m1000000, t_m65535, t_m1000, t_m3, t_m1, t_0, t_1, t_2, t_3, t_4, t_5, t_6, t_7, t_8, t_9, t_10, t_11, t_12, t_13, t_15, t_16, t_20, t_21, t_22, t_32, t_40, t_41, t_48, t_49, t_57, t_59, t_60, t_63, t_72, t_76, t_88, t_100, t_144, t_200, t_255, t_288, t_400, t_800, t_999, t_1000, t_1024, t_1200, t_1600, t_3200, t_100000, t_200000, t_252645135, t_858993459, t_1431655765, u_m1000002, u_m1000001, u_m1000, u_m3, u_m1, u_0, u_1, u_2, u_3, u_4, u_5, u_7, u_8, u_10, u_11, u_15, u_60, u_100, u_255, u_999, u_1000, u_100000, u_4294967295] at hc56)
              refine g_iload_n (i := 3) dX8_move_81 rfl rfl ?_
              refine g_istore dX8_move_82 (Nat.le_of_ble_eq_true rfl) rfl ?_
              exact fin _ _ (mv1_e hka) (by rw [nT (by omega)]; omega)
            · (try simp (disch := omega) only [nT, t_m1000100, t_m1000010, t_m1000003, t_m1000002, t_m1000001, t_m1000000, t_m65535, t_m1000, t_m3, t_m1, t_0, t_1, t_2, t_3, t_4, t_5, t_6, t_7, t_8, t_9, t_10, t_11, t_12, t_13, t_15, t_16, t_20, t_21, t_22, t_32, t_40, t_41, t_48, t_49, t_57, t_59, t_60, t_63, t_72, t_76, t_88, t_100, t_144, t_200, t_255, t_288, t_400, t_800, t_999, t_1000, t_1024, t_1200, t_1600, t_3200, t_100000, t_200000, t_252645135, t_858993459, t_1431655765, u_m1000002, u_m1000001, u_m1000, u_m3, u_m1, u_0, u_1, u_2, u_3, u_4, u_5, u_7, u_8, u_10, u_11, u_15, u_60, u_100, u_255, u_999, u_1000, u_100000, u_4294967295] at hc56); omega
          | succ n ih =>
            intro k hk hka
            refine g_iload dX8_move_53 rfl ?_
            refine g_iload_n (i := 2) dX8_move_55 rfl rfl ?_
            refine g_icmp_ge (tgt := 81) dX8_move_56 (by decide) (fun hc56 => ?_) (fun hc56 => ?_)
            · (try simp (disch := omega) only [nT, t_m1000100, t_m1000010, t_m1000003, t_m1000002, t_m1000001, t_m1000000, t_m65535, t_m1000, t_m3, t_m1, t_0, t_1, t_2, t_3, t_4, t_5, t_6, t_7, t_8, t_9, t_10, t_11, t_12, t_13, t_15, t_16, t_20, t_21, t_22, t_32, t_40, t_41, t_48, t_49, t_57, t_59, t_60, t_63, t_72, t_76, t_88, t_100, t_144, t_200, t_255, t_288, t_400, t_800, t_999, t_1000, t_1024, t_1200, t_1600, t_3200, t_100000, t_200000, t_252645135, t_858993459, t_1431655765, u_m1000002, u_m1000001, u_m1000, u_m3, u_m1, u_0, u_1, u_2, u_3, u_4, u_5, u_7, u_8, u_10, u_11, u_15, u_60, u_100, u_255, u_999, u_1000, u_100000, u_4294967295] at hc56); omega
            · (try simp (disch := omega) only [nT, t_m1000100, t_m1000010, t_m1000003, t_m1000002, t_m1000001, t_m1000000, t_m65535, t_m1000, t_m3, t_m1, t_0, t_1, t_2, t_3, t_4, t_5, t_6, t_7, t_8, t_9, t_10, t_11, t_12, t_13, t_15, t_16, t_20, t_21, t_22, t_32, t_40, t_41, t_48, t_49, t_57, t_59, t_60, t_63, t_72, t_76, t_88, t_100, t_144, t_200, t_255, t_288, t_400, t_800, t_999, t_1000, t_1024, t_1200, t_1600, t_3200, t_100000, t_200000, t_252645135, t_858993459, t_1431655765, u_m1000002, u_m1000001, u_m1000, u_m3, u_m1, u_0, u_1, u_2, u_3, u_4, u_5, u_7, u_8, u_10, u_11, u_15, u_60, u_100, u_255, u_999, u_1000, u_100000, u_4294967295] at hc56)
              refine g_aload_n (i := 0) dX8_move_59 rfl rfl ?_
              refine g_get dX8_move_60 fl_X8_62 (by repeat' (first | assumption | exact rF_eq | refine rF_ne (by decide) ?_ | refine rF_a ?_ | exact rA_eq | refine rA_ne (by decide) ?_ | refine rA_f ?_)) (by repeat' (first | assumption | exact rF_eq | refine rF_ne (by decide) ?_ | refine rF_a ?_ | exact rA_eq | refine rA_ne (by decide) ?_ | refine rA_f ?_)) ?_
              refine g_iload dX8_move_63 rfl ?_
              refine g_aload_n (i := 0) dX8_move_65 rfl rfl ?_
              refine g_get dX8_move_66 fl_X8_62 (by repeat' (first | assumption | exact rF_eq | refine rF_ne (by decide) ?_ | refine rF_a ?_ | exact rA_eq | refine rA_ne (by decide) ?_ | refine rA_f ?_)) (by repeat' (first | assumption | exact rF_eq | refine rF_ne (by decide) ?_ | refine rF_a ?_ | exact rA_eq | refine rA_ne (by decide) ?_ | refine rA_f ?_)) ?_
              refine g_iload dX8_move_69 rfl ?_
              refine g_iconst (v := 1) dX8_move_71 (by decide) ?_
              refine g_iadd dX8_move_72 ?_
              rw [ni_inc]
              refine g_iald dX8_move_73 (by repeat' (first | assumption | exact rF_eq | refine rF_ne (by decide) ?_ | refine rF_a ?_ | exact rA_eq | refine rA_ne (by decide) ?_ | refine rA_f ?_)) (nT (by omega)) (by omega) ?_
              refine g_iast dX8_move_74 (by repeat' (first | assumption | exact rF_eq | refine rF_ne (by decide) ?_ | refine rF_a ?_ | exact rA_eq | refine rA_ne (by decide) ?_ | refine rA_f ?_)) (nT (by omega)) (by omega) ?_
              refine g_iinc dX8_move_75 rfl (Nat.le_of_ble_eq_true rfl) rfl ?_
              refine g_goto (tgt := 53) dX8_move_78 (by decide) ?_
              rw [sA_sA, mv1_s (by omega), ni_incO]
              exact ih (k + 1) (by omega) (by omega)
        have z1 : sA (sF h 44 0 (.int 0)) 62 (aI 10 (mv1 fl a a)) = sF h 44 0 (.int 0) := by rw [mv1_0]; exact sA_self e14
        have z2 : sA (sF h 44 0 (.int 0)) 62 (aI 10 (mv2 fl a a)) = sF h 44 0 (.int 0) := by rw [mv2_0]; exact sA_self e14
        intro n
        induction n with
        | zero => intro k _ hx _; obtain ⟨j, h1, h2, _⟩ := hx; omega
        | succ n ih =>
          intro k hk hx hf x4
          unfold fpos at hf
          refine g_aload_n (i := 0) dX8_move_34 rfl rfl ?_
          refine g_get dX8_move_35 fl_X8_62 (by repeat' (first | assumption | exact rF_eq | refine rF_ne (by decide) ?_ | refine rF_a ?_ | exact rA_eq | refine rA_ne (by decide) ?_ | refine rA_f ?_)) (by repeat' (first | assumption | exact rF_eq | refine rF_ne (by decide) ?_ | refine rF_a ?_ | exact rA_eq | refine rA_ne (by decide) ?_ | refine rA_f ?_)) ?_
          refine g_iload_n (i := 3) dX8_move_38 rfl rfl ?_
          refine g_iald dX8_move_39 (by repeat' (first | assumption | exact rF_eq | refine rF_ne (by decide) ?_ | refine rF_a ?_ | exact rA_eq | refine rA_ne (by decide) ?_ | refine rA_f ?_)) (nT (by omega)) (by omega) ?_
          refine g_iload_n (i := 1) dX8_move_40 rfl rfl ?_
          refine g_icmp_eq (tgt := 50) dX8_move_41 (by decide) (fun hc41 => ?_) (fun hc41 => ?_)
          · have hd41 := i_eq.mp hc41; (try simp (disch := omega) only [nT, t_m1000100, t_m1000010, t_m1000003, t_m1000002, t_m1000001, t_m1000000, t_m65535, t_m1000, t_m3, t_m1, t_0, t_1, t_2, t_3, t_4, t_5, t_6, t_7, t_8, t_9, t_10, t_11, t_12, t_13, t_15, t_16, t_20, t_21, t_22, t_32, t_40, t_41, t_48, t_49, t_57, t_59, t_60, t_63, t_72, t_76, t_88, t_100, t_144, t_200, t_255, t_288, t_400, t_800, t_999, t_1000, t_1024, t_1200, t_1600, t_3200, t_100000, t_200000, t_252645135, t_858993459, t_1431655765, u_m1000002, u_m1000001, u_m1000, u_m3, u_m1, u_0, u_1, u_2, u_3, u_4, u_5, u_7, u_8, u_10, u_11, u_15, u_60, u_100, u_255, u_999, u_1000, u_100000, u_4294967295] at hd41)
            refine g_iload_n (i := 3) dX8_move_50 rfl rfl ?_
            refine g_istore dX8_move_51 (Nat.le_of_ble_eq_true rfl) rfl ?_
            rw [if_pos (congrArg Int32.toInt hc41)] at hf
            subst hf
            rcases Nat.le_total k p with hap | hap
            · have kk := k1 (p - k) k (by omega) (Nat.le_refl _)
              rw [z1] at kk
              exact kk
            · have kk := k2 (k - p) k (by omega) (Nat.le_refl _)
              rw [z2] at kk
              refine g_iload dX8_move_53 rfl ?_
              refine g_iload_n (i := 2) dX8_move_55 rfl rfl ?_
              refine g_icmp_ge (tgt := 81) dX8_move_56 (by decide) (fun hc56 => ?_) (fun hc56 => ?_)
              · (try simp (disch := omega) only [nT, t_m1000100, t_m1000010, t_m1000003, t_m1000002, t_m1000001, t_m1000000, t_m65535, t_m1000, t_m3, t_m1, t_0, t_1, t_2, t_3, t_4, t_5, t_6, t_7, t_8, t_9, t_10, t_11, t_12, t_13, t_15, t_16, t_20, t_21, t_22, t_32, t_40, t_41, t_48, t_49, t_57, t_59, t_60, t_63, t_72, t_76, t_88, t_100, t_144, t_200, t_255, t_288, t_400, t_800, t_999, t_1000, t_1024, t_1200, t_1600, t_3200, t_100000, t_200000, t_252645135, t_858993459, t_1431655765, u_m1000002, u_m1000001, u_m1000, u_m3, u_m1, u_0, u_1, u_2, u_3, u_4, u_5, u_7, u_8, u_10, u_11, u_15, u_60, u_100, u_255, u_999, u_1000, u_100000, u_4294967295] at hc56)
                refine g_iload_n (i := 3) dX8_move_81 rfl rfl ?_
                refine g_istore dX8_move_82 (Nat.le_of_ble_eq_true rfl) rfl ?_
                exact kk
              · (try simp (disch := omega) only [nT, t_m1000100, t_m1000010, t_m1000003, t_m1000002, t_m1000001, t_m1000000, t_m65535, t_m1000, t_m3, t_m1, t_0, t_1, t_2, t_3, t_4, t_5, t_6, t_7, t_8, t_9, t_10, t_11, t_12, t_13, t_15, t_16, t_20, t_21, t_22, t_32, t_40, t_41, t_48, t_49, t_57, t_59, t_60, t_63, t_72, t_76, t_88, t_100, t_144, t_200, t_255, t_288, t_400, t_800, t_999, t_1000, t_1024, t_1200, t_1600, t_3200, t_100000, t_200000, t_252645135, t_858993459, t_1431655765, u_m1000002, u_m1000001, u_m1000, u_m3, u_m1, u_0, u_1, u_2, u_3, u_4, u_5, u_7, u_8, u_10, u_11, u_15, u_60, u_100, u_255, u_999, u_1000, u_100000, u_4294967295] at hc56); omega
          · have hd41 := mt i_eq.mpr hc41; (try simp (disch := omega) only [nT, t_m1000100, t_m1000010, t_m1000003, t_m1000002, t_m1000001, t_m1000000, t_m65535, t_m1000, t_m3, t_m1, t_0, t_1, t_2, t_3, t_4, t_5, t_6, t_7, t_8, t_9, t_10, t_11, t_12, t_13, t_15, t_16, t_20, t_21, t_22, t_32, t_40, t_41, t_48, t_49, t_57, t_59, t_60, t_63, t_72, t_76, t_88, t_100, t_144, t_200, t_255, t_288, t_400, t_800, t_999, t_1000, t_1024, t_1200, t_1600, t_3200, t_100000, t_200000, t_252645135, t_858993459, t_1431655765, u_m1000002, u_m1000001, u_m1000, u_m3, u_m1, u_0, u_1, u_2, u_3, u_4, u_5, u_7, u_8, u_10, u_11, u_15, u_60, u_100, u_255, u_999, u_1000, u_100000, u_4294967295] at hd41)
            refine g_iinc dX8_move_44 rfl (Nat.le_of_ble_eq_true rfl) rfl ?_
            refine g_goto (tgt := 34) dX8_move_47 (by decide) ?_
            rw [if_neg (mt i_eq.mpr hc41)] at hf
            rw [ni_incO]
            obtain ⟨j, h1, h2, h3⟩ := hx
            have hj : j ≠ k := fun z => hc41 (by rw [← z, h3])
            exact ih (k + 1) (by omega) ⟨j, by omega, by omega, h3⟩ hf x4
      refine g_iconst (v := 0) dX8_move_32 (by decide) ?_
      refine g_istore_n (i := 3) dX8_move_33 rfl (Nat.le_of_ble_eq_true rfl) rfl ?_
      exact hfs cn 0 (by omega) ⟨j0, by omega, by omega, hj1⟩ hza _
    · replace hc26 := bI_0.mp hc26
      (try simp (disch := omega) only [nT, t_m1000100, t_m1000010, t_m1000003, t_m1000002, t_m1000001, t_m1000000, t_m65535, t_m1000, t_m3, t_m1, t_0, t_1, t_2, t_3, t_4, t_5, t_6, t_7, t_8, t_9, t_10, t_11, t_12, t_13, t_15, t_16, t_20, t_21, t_22, t_32, t_40, t_41, t_48, t_49, t_57, t_59, t_60, t_63, t_72, t_76, t_88, t_100, t_144, t_200, t_255, t_288, t_400, t_800, t_999, t_1000, t_1024, t_1200, t_1600, t_3200, t_100000, t_200000, t_252645135, t_858993459, t_1431655765, u_m1000002, u_m1000001, u_m1000, u_m3, u_m1, u_0, u_1, u_2, u_3, u_4, u_5, u_7, u_8, u_10, u_11, u_15, u_60, u_100, u_255, u_999, u_1000, u_100000, u_4294967295] at hc26)
      refine g_ldc dX8_move_29 kc_X8_126 ?_
      refine g_iret dX8_move_31 rfl (rfl) (hQ _ _ ?_)
      have e : opMove (cn, lo, hi, ti, bi, sh, fl) t p = _ := if_pos (by dsimp only; omega)
      rw [e]; exact ⟨rfl, ⟨e1, e2, e3, e4, e5, e6, e7, e8, e9, e10, e11, e12, e13, e14⟩, fr_sF (by decide) fr_rf⟩
def kindv (w : TS) (t : Nat) : Int32 := if (w.2.2.1 t).toInt < (w.2.1 t).toInt then 3 else if 9 < (w.2.2.2.1 t).toInt then 0 else if (w.2.1 t).toInt = (w.2.2.1 t).toInt then 2 else 1
theorem c_kindOf {w : TS} {h : HH} (hs : TsX h w.1 w.2.1 w.2.2.1 w.2.2.2.1 w.2.2.2.2.1 w.2.2.2.2.2.1 w.2.2.2.2.2.2) {t : Nat} (ht : t < 10) : CT mX5_kindOf 0 0 0 [.ref 27, .int (nI t)] h (fun r h' => r = some (.int (kindv w t)) ∧ h' = h) := by
  obtain ⟨e1, e2, e3, e4, e5, e6, e7, e8, e9, e10, e11, e12, e13, e14⟩ := hs
  refine CT.go [.ref 27, .int (nI t)] (by decide +kernel) rfl rfl (fun Q' hQ => ?_)
  refine g_aload_n (i := 0) dX5_kindOf_0 rfl rfl ?_
  refine g_get dX5_kindOf_1 fl_X5_15 (by repeat' (first | assumption | exact rF_eq | refine rF_ne (by decide) ?_ | refine rF_a ?_ | exact rA_eq | refine rA_ne (by decide) ?_ | refine rA_f ?_)) (by repeat' (first | assumption | exact rF_eq | refine rF_ne (by decide) ?_ | refine rF_a ?_ | exact rA_eq | refine rA_ne (by decide) ?_ | refine rA_f ?_)) ?_
  refine g_iload_n (i := 1) dX5_kindOf_4 rfl rfl ?_
  refine g_iald dX5_kindOf_5 (by repeat' (first | assumption | exact rF_eq | refine rF_ne (by decide) ?_ | refine rF_a ?_ | exact rA_eq | refine rA_ne (by decide) ?_ | refine rA_f ?_)) (nT (by omega)) (ht) ?_
  refine g_aload_n (i := 0) dX5_kindOf_6 rfl rfl ?_
  refine g_get dX5_kindOf_7 fl_X5_19 (by repeat' (first | assumption | exact rF_eq | refine rF_ne (by decide) ?_ | refine rF_a ?_ | exact rA_eq | refine rA_ne (by decide) ?_ | refine rA_f ?_)) (by repeat' (first | assumption | exact rF_eq | refine rF_ne (by decide) ?_ | refine rF_a ?_ | exact rA_eq | refine rA_ne (by decide) ?_ | refine rA_f ?_)) ?_
  refine g_iload_n (i := 1) dX5_kindOf_10 rfl rfl ?_
  refine g_iald dX5_kindOf_11 (by repeat' (first | assumption | exact rF_eq | refine rF_ne (by decide) ?_ | refine rF_a ?_ | exact rA_eq | refine rA_ne (by decide) ?_ | refine rA_f ?_)) (nT (by omega)) (ht) ?_
  refine g_icmp_le (tgt := 17) dX5_kindOf_12 (by decide) (fun hc12 => ?_) (fun hc12 => ?_)
  · (try simp (disch := omega) only [nT, t_m1000100, t_m1000010, t_m1000003, t_m1000002, t_m1000001, t_m1000000, t_m65535, t_m1000, t_m3, t_m1, t_0, t_1, t_2, t_3, t_4, t_5, t_6, t_7, t_8, t_9, t_10, t_11, t_12, t_13, t_15, t_16, t_20, t_21, t_22, t_32, t_40, t_41, t_48, t_49, t_57, t_59, t_60, t_63, t_72, t_76, t_88, t_100, t_144, t_200, t_255, t_288, t_400, t_800, t_999, t_1000, t_1024, t_1200, t_1600, t_3200, t_100000, t_200000, t_252645135, t_858993459, t_1431655765, u_m1000002, u_m1000001, u_m1000, u_m3, u_m1, u_0, u_1, u_2, u_3, u_4, u_5, u_7, u_8, u_10, u_11, u_15, u_60, u_100, u_255, u_999, u_1000, u_100000, u_4294967295] at hc12)
    refine g_aload_n (i := 0) dX5_kindOf_17 rfl rfl ?_
    refine g_get dX5_kindOf_18 fl_X5_22 (by repeat' (first | assumption | exact rF_eq | refine rF_ne (by decide) ?_ | refine rF_a ?_ | exact rA_eq | refine rA_ne (by decide) ?_ | refine rA_f ?_)) (by repeat' (first | assumption | exact rF_eq | refine rF_ne (by decide) ?_ | refine rF_a ?_ | exact rA_eq | refine rA_ne (by decide) ?_ | refine rA_f ?_)) ?_
    refine g_iload_n (i := 1) dX5_kindOf_21 rfl rfl ?_
    refine g_iald dX5_kindOf_22 (by repeat' (first | assumption | exact rF_eq | refine rF_ne (by decide) ?_ | refine rF_a ?_ | exact rA_eq | refine rA_ne (by decide) ?_ | refine rA_f ?_)) (nT (by omega)) (ht) ?_
    refine g_bipush (v := 9) dX5_kindOf_23 (by decide) ?_
    refine g_icmp_le (tgt := 30) dX5_kindOf_25 (by decide) (fun hc25 => ?_) (fun hc25 => ?_)
    · (try simp (disch := omega) only [nT, t_m1000100, t_m1000010, t_m1000003, t_m1000002, t_m1000001, t_m1000000, t_m65535, t_m1000, t_m3, t_m1, t_0, t_1, t_2, t_3, t_4, t_5, t_6, t_7, t_8, t_9, t_10, t_11, t_12, t_13, t_15, t_16, t_20, t_21, t_22, t_32, t_40, t_41, t_48, t_49, t_57, t_59, t_60, t_63, t_72, t_76, t_88, t_100, t_144, t_200, t_255, t_288, t_400, t_800, t_999, t_1000, t_1024, t_1200, t_1600, t_3200, t_100000, t_200000, t_252645135, t_858993459, t_1431655765, u_m1000002, u_m1000001, u_m1000, u_m3, u_m1, u_0, u_1, u_2, u_3, u_4, u_5, u_7, u_8, u_10, u_11, u_15, u_60, u_100, u_255, u_999, u_1000, u_100000, u_4294967295] at hc25)
      refine g_aload_n (i := 0) dX5_kindOf_30 rfl rfl ?_
      refine g_get dX5_kindOf_31 fl_X5_15 (by repeat' (first | assumption | exact rF_eq | refine rF_ne (by decide) ?_ | refine rF_a ?_ | exact rA_eq | refine rA_ne (by decide) ?_ | refine rA_f ?_)) (by repeat' (first | assumption | exact rF_eq | refine rF_ne (by decide) ?_ | refine rF_a ?_ | exact rA_eq | refine rA_ne (by decide) ?_ | refine rA_f ?_)) ?_
      refine g_iload_n (i := 1) dX5_kindOf_34 rfl rfl ?_
      refine g_iald dX5_kindOf_35 (by repeat' (first | assumption | exact rF_eq | refine rF_ne (by decide) ?_ | refine rF_a ?_ | exact rA_eq | refine rA_ne (by decide) ?_ | refine rA_f ?_)) (nT (by omega)) (ht) ?_
      refine g_aload_n (i := 0) dX5_kindOf_36 rfl rfl ?_
      refine g_get dX5_kindOf_37 fl_X5_19 (by repeat' (first | assumption | exact rF_eq | refine rF_ne (by decide) ?_ | refine rF_a ?_ | exact rA_eq | refine rA_ne (by decide) ?_ | refine rA_f ?_)) (by repeat' (first | assumption | exact rF_eq | refine rF_ne (by decide) ?_ | refine rF_a ?_ | exact rA_eq | refine rA_ne (by decide) ?_ | refine rA_f ?_)) ?_
      refine g_iload_n (i := 1) dX5_kindOf_40 rfl rfl ?_
      refine g_iald dX5_kindOf_41 (by repeat' (first | assumption | exact rF_eq | refine rF_ne (by decide) ?_ | refine rF_a ?_ | exact rA_eq | refine rA_ne (by decide) ?_ | refine rA_f ?_)) (nT (by omega)) (ht) ?_
      refine g_icmp_ne (tgt := 49) dX5_kindOf_42 (by decide) (fun hc42 => ?_) (fun hc42 => ?_)
      · have hd42 := mt i_eq.mpr hc42; (try simp (disch := omega) only [nT, t_m1000100, t_m1000010, t_m1000003, t_m1000002, t_m1000001, t_m1000000, t_m65535, t_m1000, t_m3, t_m1, t_0, t_1, t_2, t_3, t_4, t_5, t_6, t_7, t_8, t_9, t_10, t_11, t_12, t_13, t_15, t_16, t_20, t_21, t_22, t_32, t_40, t_41, t_48, t_49, t_57, t_59, t_60, t_63, t_72, t_76, t_88, t_100, t_144, t_200, t_255, t_288, t_400, t_800, t_999, t_1000, t_1024, t_1200, t_1600, t_3200, t_100000, t_200000, t_252645135, t_858993459, t_1431655765, u_m1000002, u_m1000001, u_m1000, u_m3, u_m1, u_0, u_1, u_2, u_3, u_4, u_5, u_7, u_8, u_10, u_11, u_15, u_60, u_100, u_255, u_999, u_1000, u_100000, u_4294967295] at hd42)
        refine g_iconst (v := 1) dX5_kindOf_49 (by decide) ?_
        refine g_iret dX5_kindOf_50 rfl (rfl) (hQ _ _ ?_)
        refine ⟨?_, rfl⟩
        unfold kindv
        first | rw [if_pos (by omega)] | (rw [if_neg (by omega)]; first | rw [if_pos (by omega)] | (rw [if_neg (by omega)]; first | rw [if_pos (by omega)] | rw [if_neg (by omega)]))
      · have hd42 := i_eq.mp hc42; (try simp (disch := omega) only [nT, t_m1000100, t_m1000010, t_m1000003, t_m1000002, t_m1000001, t_m1000000, t_m65535, t_m1000, t_m3, t_m1, t_0, t_1, t_2, t_3, t_4, t_5, t_6, t_7, t_8, t_9, t_10, t_11, t_12, t_13, t_15, t_16, t_20, t_21, t_22, t_32, t_40, t_41, t_48, t_49, t_57, t_59, t_60, t_63, t_72, t_76, t_88, t_100, t_144, t_200, t_255, t_288, t_400, t_800, t_999, t_1000, t_1024, t_1200, t_1600, t_3200, t_100000, t_200000, t_252645135, t_858993459, t_1431655765, u_m1000002, u_m1000001, u_m1000, u_m3, u_m1, u_0, u_1, u_2, u_3, u_4, u_5, u_7, u_8, u_10, u_11, u_15, u_60, u_100, u_255, u_999, u_1000, u_100000, u_4294967295] at hd42)
        refine g_iconst (v := 2) dX5_kindOf_45 (by decide) ?_
        refine g_goto (tgt := 50) dX5_kindOf_46 (by decide) ?_
        refine g_iret dX5_kindOf_50 rfl (rfl) (hQ _ _ ?_)
        refine ⟨?_, rfl⟩
        unfold kindv
        first | rw [if_pos (by omega)] | (rw [if_neg (by omega)]; first | rw [if_pos (by omega)] | (rw [if_neg (by omega)]; first | rw [if_pos (by omega)] | rw [if_neg (by omega)]))
    · (try simp (disch := omega) only [nT, t_m1000100, t_m1000010, t_m1000003, t_m1000002, t_m1000001, t_m1000000, t_m65535, t_m1000, t_m3, t_m1, t_0, t_1, t_2, t_3, t_4, t_5, t_6, t_7, t_8, t_9, t_10, t_11, t_12, t_13, t_15, t_16, t_20, t_21, t_22, t_32, t_40, t_41, t_48, t_49, t_57, t_59, t_60, t_63, t_72, t_76, t_88, t_100, t_144, t_200, t_255, t_288, t_400, t_800, t_999, t_1000, t_1024, t_1200, t_1600, t_3200, t_100000, t_200000, t_252645135, t_858993459, t_1431655765, u_m1000002, u_m1000001, u_m1000, u_m3, u_m1, u_0, u_1, u_2, u_3, u_4, u_5, u_7, u_8, u_10, u_11, u_15, u_60, u_100, u_255, u_999, u_1000, u_100000, u_4294967295] at hc25)
      refine g_iconst (v := 0) dX5_kindOf_28 (by decide) ?_
      refine g_iret dX5_kindOf_29 rfl (rfl) (hQ _ _ ?_)
      refine ⟨?_, rfl⟩
      unfold kindv
      first | rw [if_pos (by omega)] | (rw [if_neg (by omega)]; first | rw [if_pos (by omega)] | (rw [if_neg (by omega)]; first | rw [if_pos (by omega)] | rw [if_neg (by omega)]))
  · (try simp (disch := omega) only [nT, t_m1000100, t_m1000010, t_m1000003, t_m1000002, t_m1000001, t_m1000000, t_m65535, t_m1000, t_m3, t_m1, t_0, t_1, t_2, t_3, t_4, t_5, t_6, t_7, t_8, t_9, t_10, t_11, t_12, t_13, t_15, t_16, t_20, t_21, t_22, t_32, t_40, t_41, t_48, t_49, t_57, t_59, t_60, t_63, t_72, t_76, t_88, t_100, t_144, t_200, t_255, t_288, t_400, t_800, t_999, t_1000, t_1024, t_1200, t_1600, t_3200, t_100000, t_200000, t_252645135, t_858993459, t_1431655765, u_m1000002, u_m1000001, u_m1000, u_m3, u_m1, u_0, u_1, u_2, u_3, u_4, u_5, u_7, u_8, u_10, u_11, u_15, u_60, u_100, u_255, u_999, u_1000, u_100000, u_4294967295] at hc12)
    refine g_iconst (v := 3) dX5_kindOf_15 (by decide) ?_
    refine g_iret dX5_kindOf_16 rfl (rfl) (hQ _ _ ?_)
    refine ⟨?_, rfl⟩
    unfold kindv
    first | rw [if_pos (by omega)] | (rw [if_neg (by omega)]; first | rw [if_pos (by omega)] | (rw [if_neg (by omega)]; first | rw [if_pos (by omega)] | rw [if_neg (by omega)]))
theorem c_mkindOf {w : TS} {h : HH} (hs : TsM h w.1 w.2.1 w.2.2.1 w.2.2.2.1 w.2.2.2.2.1 w.2.2.2.2.2.1 w.2.2.2.2.2.2) {t : Nat} (ht : t < 10) : CT mX8_kindOf 0 0 0 [.ref 44, .int (nI t)] h (fun r h' => r = some (.int (kindv w t)) ∧ h' = h) := by
  obtain ⟨e1, e2, e3, e4, e5, e6, e7, e8, e9, e10, e11, e12, e13, e14⟩ := hs
  refine CT.go [.ref 44, .int (nI t)] (by decide +kernel) rfl rfl (fun Q' hQ => ?_)
  refine g_aload_n (i := 0) dX8_kindOf_0 rfl rfl ?_
  refine g_get dX8_kindOf_1 fl_X8_47 (by repeat' (first | assumption | exact rF_eq | refine rF_ne (by decide) ?_ | refine rF_a ?_ | exact rA_eq | refine rA_ne (by decide) ?_ | refine rA_f ?_)) (by repeat' (first | assumption | exact rF_eq | refine rF_ne (by decide) ?_ | refine rF_a ?_ | exact rA_eq | refine rA_ne (by decide) ?_ | refine rA_f ?_)) ?_
  refine g_iload_n (i := 1) dX8_kindOf_4 rfl rfl ?_
  refine g_iald dX8_kindOf_5 (by repeat' (first | assumption | exact rF_eq | refine rF_ne (by decide) ?_ | refine rF_a ?_ | exact rA_eq | refine rA_ne (by decide) ?_ | refine rA_f ?_)) (nT (by omega)) (ht) ?_
  refine g_aload_n (i := 0) dX8_kindOf_6 rfl rfl ?_
  refine g_get dX8_kindOf_7 fl_X8_50 (by repeat' (first | assumption | exact rF_eq | refine rF_ne (by decide) ?_ | refine rF_a ?_ | exact rA_eq | refine rA_ne (by decide) ?_ | refine rA_f ?_)) (by repeat' (first | assumption | exact rF_eq | refine rF_ne (by decide) ?_ | refine rF_a ?_ | exact rA_eq | refine rA_ne (by decide) ?_ | refine rA_f ?_)) ?_
  refine g_iload_n (i := 1) dX8_kindOf_10 rfl rfl ?_
  refine g_iald dX8_kindOf_11 (by repeat' (first | assumption | exact rF_eq | refine rF_ne (by decide) ?_ | refine rF_a ?_ | exact rA_eq | refine rA_ne (by decide) ?_ | refine rA_f ?_)) (nT (by omega)) (ht) ?_
  refine g_icmp_le (tgt := 19) dX8_kindOf_12 (by decide) (fun hc12 => ?_) (fun hc12 => ?_)
  · (try simp (disch := omega) only [nT, t_m1000100, t_m1000010, t_m1000003, t_m1000002, t_m1000001, t_m1000000, t_m65535, t_m1000, t_m3, t_m1, t_0, t_1, t_2, t_3, t_4, t_5, t_6, t_7, t_8, t_9, t_10, t_11, t_12, t_13, t_15, t_16, t_20, t_21, t_22, t_32, t_40, t_41, t_48, t_49, t_57, t_59, t_60, t_63, t_72, t_76, t_88, t_100, t_144, t_200, t_255, t_288, t_400, t_800, t_999, t_1000, t_1024, t_1200, t_1600, t_3200, t_100000, t_200000, t_252645135, t_858993459, t_1431655765, u_m1000002, u_m1000001, u_m1000, u_m3, u_m1, u_0, u_1, u_2, u_3, u_4, u_5, u_7, u_8, u_10, u_11, u_15, u_60, u_100, u_255, u_999, u_1000, u_100000, u_4294967295] at hc12)
    refine g_aload_n (i := 0) dX8_kindOf_19 rfl rfl ?_
    refine g_get dX8_kindOf_20 fl_X8_53 (by repeat' (first | assumption | exact rF_eq | refine rF_ne (by decide) ?_ | refine rF_a ?_ | exact rA_eq | refine rA_ne (by decide) ?_ | refine rA_f ?_)) (by repeat' (first | assumption | exact rF_eq | refine rF_ne (by decide) ?_ | refine rF_a ?_ | exact rA_eq | refine rA_ne (by decide) ?_ | refine rA_f ?_)) ?_
    refine g_iload_n (i := 1) dX8_kindOf_23 rfl rfl ?_
    refine g_iald dX8_kindOf_24 (by repeat' (first | assumption | exact rF_eq | refine rF_ne (by decide) ?_ | refine rF_a ?_ | exact rA_eq | refine rA_ne (by decide) ?_ | refine rA_f ?_)) (nT (by omega)) (ht) ?_
    refine g_bipush (v := 9) dX8_kindOf_25 (by decide) ?_
    refine g_icmp_le (tgt := 34) dX8_kindOf_27 (by decide) (fun hc27 => ?_) (fun hc27 => ?_)
    · (try simp (disch := omega) only [nT, t_m1000100, t_m1000010, t_m1000003, t_m1000002, t_m1000001, t_m1000000, t_m65535, t_m1000, t_m3, t_m1, t_0, t_1, t_2, t_3, t_4, t_5, t_6, t_7, t_8, t_9, t_10, t_11, t_12, t_13, t_15, t_16, t_20, t_21, t_22, t_32, t_40, t_41, t_48, t_49, t_57, t_59, t_60, t_63, t_72, t_76, t_88, t_100, t_144, t_200, t_255, t_288, t_400, t_800, t_999, t_1000, t_1024, t_1200, t_1600, t_3200, t_100000, t_200000, t_252645135, t_858993459, t_1431655765, u_m1000002, u_m1000001, u_m1000, u_m3, u_m1, u_0, u_1, u_2, u_3, u_4, u_5, u_7, u_8, u_10, u_11, u_15, u_60, u_100, u_255, u_999, u_1000, u_100000, u_4294967295] at hc27)
      refine g_aload_n (i := 0) dX8_kindOf_34 rfl rfl ?_
      refine g_get dX8_kindOf_35 fl_X8_47 (by repeat' (first | assumption | exact rF_eq | refine rF_ne (by decide) ?_ | refine rF_a ?_ | exact rA_eq | refine rA_ne (by decide) ?_ | refine rA_f ?_)) (by repeat' (first | assumption | exact rF_eq | refine rF_ne (by decide) ?_ | refine rF_a ?_ | exact rA_eq | refine rA_ne (by decide) ?_ | refine rA_f ?_)) ?_
      refine g_iload_n (i := 1) dX8_kindOf_38 rfl rfl ?_
      refine g_iald dX8_kindOf_39 (by repeat' (first | assumption | exact rF_eq | refine rF_ne (by decide) ?_ | refine rF_a ?_ | exact rA_eq | refine rA_ne (by decide) ?_ | refine rA_f ?_)) (nT (by omega)) (ht) ?_
      refine g_aload_n (i := 0) dX8_kindOf_40 rfl rfl ?_
      refine g_get dX8_kindOf_41 fl_X8_50 (by repeat' (first | assumption | exact rF_eq | refine rF_ne (by decide) ?_ | refine rF_a ?_ | exact rA_eq | refine rA_ne (by decide) ?_ | refine rA_f ?_)) (by repeat' (first | assumption | exact rF_eq | refine rF_ne (by decide) ?_ | refine rF_a ?_ | exact rA_eq | refine rA_ne (by decide) ?_ | refine rA_f ?_)) ?_
      refine g_iload_n (i := 1) dX8_kindOf_44 rfl rfl ?_
      refine g_iald dX8_kindOf_45 (by repeat' (first | assumption | exact rF_eq | refine rF_ne (by decide) ?_ | refine rF_a ?_ | exact rA_eq | refine rA_ne (by decide) ?_ | refine rA_f ?_)) (nT (by omega)) (ht) ?_
      refine g_icmp_ne (tgt := 53) dX8_kindOf_46 (by decide) (fun hc46 => ?_) (fun hc46 => ?_)
      · have hd46 := mt i_eq.mpr hc46; (try simp (disch := omega) only [nT, t_m1000100, t_m1000010, t_m1000003, t_m1000002, t_m1000001, t_m1000000, t_m65535, t_m1000, t_m3, t_m1, t_0, t_1, t_2, t_3, t_4, t_5, t_6, t_7, t_8, t_9, t_10, t_11, t_12, t_13, t_15, t_16, t_20, t_21, t_22, t_32, t_40, t_41, t_48, t_49, t_57, t_59, t_60, t_63, t_72, t_76, t_88, t_100, t_144, t_200, t_255, t_288, t_400, t_800, t_999, t_1000, t_1024, t_1200, t_1600, t_3200, t_100000, t_200000, t_252645135, t_858993459, t_1431655765, u_m1000002, u_m1000001, u_m1000, u_m3, u_m1, u_0, u_1, u_2, u_3, u_4, u_5, u_7, u_8, u_10, u_11, u_15, u_60, u_100, u_255, u_999, u_1000, u_100000, u_4294967295] at hd46)
        refine g_iconst (v := 1) dX8_kindOf_53 (by decide) ?_
        refine g_iret dX8_kindOf_54 rfl (rfl) (hQ _ _ ?_)
        refine ⟨?_, rfl⟩
        unfold kindv
        first | rw [if_pos (by omega)] | (rw [if_neg (by omega)]; first | rw [if_pos (by omega)] | (rw [if_neg (by omega)]; first | rw [if_pos (by omega)] | rw [if_neg (by omega)]))
      · have hd46 := i_eq.mp hc46; (try simp (disch := omega) only [nT, t_m1000100, t_m1000010, t_m1000003, t_m1000002, t_m1000001, t_m1000000, t_m65535, t_m1000, t_m3, t_m1, t_0, t_1, t_2, t_3, t_4, t_5, t_6, t_7, t_8, t_9, t_10, t_11, t_12, t_13, t_15, t_16, t_20, t_21, t_22, t_32, t_40, t_41, t_48, t_49, t_57, t_59, t_60, t_63, t_72, t_76, t_88, t_100, t_144, t_200, t_255, t_288, t_400, t_800, t_999, t_1000, t_1024, t_1200, t_1600, t_3200, t_100000, t_200000, t_252645135, t_858993459, t_1431655765, u_m1000002, u_m1000001, u_m1000, u_m3, u_m1, u_0, u_1, u_2, u_3, u_4, u_5, u_7, u_8, u_10, u_11, u_15, u_60, u_100, u_255, u_999, u_1000, u_100000, u_4294967295] at hd46)
        refine g_iconst (v := 2) dX8_kindOf_49 (by decide) ?_
        refine g_goto (tgt := 54) dX8_kindOf_50 (by decide) ?_
        refine g_iret dX8_kindOf_54 rfl (rfl) (hQ _ _ ?_)
        refine ⟨?_, rfl⟩
        unfold kindv
        first | rw [if_pos (by omega)] | (rw [if_neg (by omega)]; first | rw [if_pos (by omega)] | (rw [if_neg (by omega)]; first | rw [if_pos (by omega)] | rw [if_neg (by omega)]))
    · (try simp (disch := omega) only [nT, t_m1000100, t_m1000010, t_m1000003, t_m1000002, t_m1000001, t_m1000000, t_m65535, t_m1000, t_m3, t_m1, t_0, t_1, t_2, t_3, t_4, t_5, t_6, t_7, t_8, t_9, t_10, t_11, t_12, t_13, t_15, t_16, t_20, t_21, t_22, t_32, t_40, t_41, t_48, t_49, t_57, t_59, t_60, t_63, t_72, t_76, t_88, t_100, t_144, t_200, t_255, t_288, t_400, t_800, t_999, t_1000, t_1024, t_1200, t_1600, t_3200, t_100000, t_200000, t_252645135, t_858993459, t_1431655765, u_m1000002, u_m1000001, u_m1000, u_m3, u_m1, u_0, u_1, u_2, u_3, u_4, u_5, u_7, u_8, u_10, u_11, u_15, u_60, u_100, u_255, u_999, u_1000, u_100000, u_4294967295] at hc27)
      refine g_iconst (v := 0) dX8_kindOf_30 (by decide) ?_
      refine g_goto (tgt := 54) dX8_kindOf_31 (by decide) ?_
      refine g_iret dX8_kindOf_54 rfl (rfl) (hQ _ _ ?_)
      refine ⟨?_, rfl⟩
      unfold kindv
      first | rw [if_pos (by omega)] | (rw [if_neg (by omega)]; first | rw [if_pos (by omega)] | (rw [if_neg (by omega)]; first | rw [if_pos (by omega)] | rw [if_neg (by omega)]))
  · (try simp (disch := omega) only [nT, t_m1000100, t_m1000010, t_m1000003, t_m1000002, t_m1000001, t_m1000000, t_m65535, t_m1000, t_m3, t_m1, t_0, t_1, t_2, t_3, t_4, t_5, t_6, t_7, t_8, t_9, t_10, t_11, t_12, t_13, t_15, t_16, t_20, t_21, t_22, t_32, t_40, t_41, t_48, t_49, t_57, t_59, t_60, t_63, t_72, t_76, t_88, t_100, t_144, t_200, t_255, t_288, t_400, t_800, t_999, t_1000, t_1024, t_1200, t_1600, t_3200, t_100000, t_200000, t_252645135, t_858993459, t_1431655765, u_m1000002, u_m1000001, u_m1000, u_m3, u_m1, u_0, u_1, u_2, u_3, u_4, u_5, u_7, u_8, u_10, u_11, u_15, u_60, u_100, u_255, u_999, u_1000, u_100000, u_4294967295] at hc12)
    refine g_iconst (v := 3) dX8_kindOf_15 (by decide) ?_
    refine g_goto (tgt := 54) dX8_kindOf_16 (by decide) ?_
    refine g_iret dX8_kindOf_54 rfl (rfl) (hQ _ _ ?_)
    refine ⟨?_, rfl⟩
    unfold kindv
    first | rw [if_pos (by omega)] | (rw [if_neg (by omega)]; first | rw [if_pos (by omega)] | (rw [if_neg (by omega)]; first | rw [if_pos (by omega)] | rw [if_neg (by omega)]))
def opFlow (w : TS) (p : Int32) : Int32 := if 0 ≤ p.toInt ∧ p.toInt < w.1 then w.2.2.2.2.2.2 p.toInt.toNat else -1000000
def opKind (w : TS) (t : Int32) : Int32 := if 0 ≤ t.toInt ∧ t.toInt < w.1 then kindv w t.toInt.toNat else -1000001
theorem x_flow {w : TS} (hw : w.1 ≤ 10) {h : HH} (hg : GTX w h) (p : Int32) : CT mX7_flow 1 0 0 [.ref 0, .int p] h (fun r h' => r = some (.int (opFlow w p)) ∧ h' = h) := by
  obtain ⟨cn, lo, hi, ti, bi, sh, fl⟩ := w
  obtain ⟨⟨h0, h1⟩, e1, e2, e3, e4, e5, e6, e7, e8, e9, e10, e11, e12, e13, e14⟩ := hg
  dsimp only at hw e2 e14
  refine CT.go [.ref 0, .int p] (by decide +kernel) rfl rfl (fun Q' hQ => ?_)
  refine g_iload_n (i := 1) dX7_flow_0 rfl rfl ?_
  refine g_aload_n (i := 0) dX7_flow_1 rfl rfl ?_
  refine g_get dX7_flow_2 fl_X7_47 (by repeat' (first | assumption | exact rF_eq | refine rF_ne (by decide) ?_ | refine rF_a ?_ | exact rA_eq | refine rA_ne (by decide) ?_ | refine rA_f ?_)) (by repeat' (first | assumption | exact rF_eq | refine rF_ne (by decide) ?_ | refine rF_a ?_ | exact rA_eq | refine rA_ne (by decide) ?_ | refine rA_f ?_)) ?_
  refine g_get dX7_flow_5 fl_X7_194 (by repeat' (first | assumption | exact rF_eq | refine rF_ne (by decide) ?_ | refine rF_a ?_ | exact rA_eq | refine rA_ne (by decide) ?_ | refine rA_f ?_)) (by repeat' (first | assumption | exact rF_eq | refine rF_ne (by decide) ?_ | refine rF_a ?_ | exact rA_eq | refine rA_ne (by decide) ?_ | refine rA_f ?_)) ?_
  refine g_callS (M' := mX7_isWithin) dX7_flow_8 lc_X7_isWithin ml_X7_90 (c_isWithin h p (nI cn) cn (nT (by omega))) rfl rfl ⟨Nat.le_of_ble_eq_true rfl, Nat.le_of_ble_eq_true rfl, Nat.le_of_ble_eq_true rfl, Nat.le_of_ble_eq_true rfl⟩ (Nat.le_of_ble_eq_true rfl) ?_
  intro r_ h_ q_; obtain ⟨q1_, q2_⟩ := q_; have q2_ := q2_.symm; subst q1_; subst q2_
  refine g_if_eq (tgt := 26) dX7_flow_11 (by decide) (fun hc11 => ?_) (fun hc11 => ?_)
  · replace hc11 := bI_0.mp hc11
    (try simp (disch := omega) only [nT, t_m1000100, t_m1000010, t_m1000003, t_m1000002, t_m1000001, t_m1000000, t_m65535, t_m1000, t_m3, t_m1, t_0, t_1, t_2, t_3, t_4, t_5, t_6, t_7, t_8, t_9, t_10, t_11, t_12, t_13, t_15, t_16, t_20, t_21, t_22, t_32, t_40, t_41, t_48, t_49, t_57, t_59, t_60, t_63, t_72, t_76, t_88, t_100, t_144, t_200, t_255, t_288, t_400, t_800, t_999, t_1000, t_1024, t_1200, t_1600, t_3200, t_100000, t_200000, t_252645135, t_858993459, t_1431655765, u_m1000002, u_m1000001, u_m1000, u_m3, u_m1, u_0, u_1, u_2, u_3, u_4, u_5, u_7, u_8, u_10, u_11, u_15, u_60, u_100, u_255, u_999, u_1000, u_100000, u_4294967295] at hc11)
    have e : opFlow (cn, lo, hi, ti, bi, sh, fl) p = _ := if_neg (by dsimp only; omega)
    refine g_ldc dX7_flow_26 kc_X7_155 ?_
    refine g_iret dX7_flow_28 rfl (rfl) (hQ _ _ ?_)
    rw [e]; exact ⟨rfl, rfl⟩
  · replace hc11 := bI_n0.mp hc11
    (try simp (disch := omega) only [nT, t_m1000100, t_m1000010, t_m1000003, t_m1000002, t_m1000001, t_m1000000, t_m65535, t_m1000, t_m3, t_m1, t_0, t_1, t_2, t_3, t_4, t_5, t_6, t_7, t_8, t_9, t_10, t_11, t_12, t_13, t_15, t_16, t_20, t_21, t_22, t_32, t_40, t_41, t_48, t_49, t_57, t_59, t_60, t_63, t_72, t_76, t_88, t_100, t_144, t_200, t_255, t_288, t_400, t_800, t_999, t_1000, t_1024, t_1200, t_1600, t_3200, t_100000, t_200000, t_252645135, t_858993459, t_1431655765, u_m1000002, u_m1000001, u_m1000, u_m3, u_m1, u_0, u_1, u_2, u_3, u_4, u_5, u_7, u_8, u_10, u_11, u_15, u_60, u_100, u_255, u_999, u_1000, u_100000, u_4294967295] at hc11)
    have e : opFlow (cn, lo, hi, ti, bi, sh, fl) p = _ := if_pos (by dsimp only; omega)
    obtain ⟨b, hb, rfl, htb⟩ := n_of (n := cn) (x := p) (by omega) (by omega)
    rw [nTN (by omega)] at e
    refine g_aload_n (i := 0) dX7_flow_14 rfl rfl ?_
    refine g_get dX7_flow_15 fl_X7_47 (by repeat' (first | assumption | exact rF_eq | refine rF_ne (by decide) ?_ | refine rF_a ?_ | exact rA_eq | refine rA_ne (by decide) ?_ | refine rA_f ?_)) (by repeat' (first | assumption | exact rF_eq | refine rF_ne (by decide) ?_ | refine rF_a ?_ | exact rA_eq | refine rA_ne (by decide) ?_ | refine rA_f ?_)) ?_
    refine g_get dX7_flow_18 fl_X7_207 (by repeat' (first | assumption | exact rF_eq | refine rF_ne (by decide) ?_ | refine rF_a ?_ | exact rA_eq | refine rA_ne (by decide) ?_ | refine rA_f ?_)) (by repeat' (first | assumption | exact rF_eq | refine rF_ne (by decide) ?_ | refine rF_a ?_ | exact rA_eq | refine rA_ne (by decide) ?_ | refine rA_f ?_)) ?_
    refine g_iload_n (i := 1) dX7_flow_21 rfl rfl ?_
    refine g_iald dX7_flow_22 (by repeat' (first | assumption | exact rF_eq | refine rF_ne (by decide) ?_ | refine rF_a ?_ | exact rA_eq | refine rA_ne (by decide) ?_ | refine rA_f ?_)) (nT (by omega)) (by omega) ?_
    refine g_goto (tgt := 28) dX7_flow_23 (by decide) ?_
    refine g_iret dX7_flow_28 rfl (rfl) (hQ _ _ ?_)
    rw [e]; exact ⟨rfl, rfl⟩
theorem m_flow {w : TS} (hw : w.1 ≤ 10) {h : HH} (hg : GTM w h) (p : Int32) : CT mX8_flow 1 0 0 [.ref 44, .int p] h (fun r h' => r = some (.int (opFlow w p)) ∧ h' = sF h 44 0 (.int 0)) := by
  obtain ⟨cn, lo, hi, ti, bi, sh, fl⟩ := w
  obtain ⟨e1, e2, e3, e4, e5, e6, e7, e8, e9, e10, e11, e12, e13, e14⟩ := hg
  dsimp only at hw e2 e14
  refine CT.go [.ref 44, .int p] (by decide +kernel) rfl rfl (fun Q' hQ => ?_)
  refine g_aload_n (i := 0) dX8_flow_0 rfl rfl ?_
  refine g_iconst (v := 0) dX8_flow_1 (by decide) ?_
  refine g_put dX8_flow_2 pl_X8_107 (by repeat' (first | assumption | exact rF_eq | refine rF_ne (by decide) ?_ | refine rF_a ?_ | exact rA_eq | refine rA_ne (by decide) ?_ | refine rA_f ?_)) (fun _ => ⟨rfl, rfl⟩) ?_
  refine g_iload_n (i := 1) dX8_flow_5 rfl rfl ?_
  refine g_i2l dX8_flow_6 ?_
  refine g_lconst (v := 0) dX8_flow_7 (by decide) ?_
  refine g_aload_n (i := 0) dX8_flow_8 rfl rfl ?_
  refine g_get dX8_flow_9 fl_X8_197 (by repeat' (first | assumption | exact rF_eq | refine rF_ne (by decide) ?_ | refine rF_a ?_ | exact rA_eq | refine rA_ne (by decide) ?_ | refine rA_f ?_)) (by repeat' (first | assumption | exact rF_eq | refine rF_ne (by decide) ?_ | refine rF_a ?_ | exact rA_eq | refine rA_ne (by decide) ?_ | refine rA_f ?_)) ?_
  refine g_iconst (v := 1) dX8_flow_12 (by decide) ?_
  refine g_isub dX8_flow_13 ?_
  refine g_i2l dX8_flow_14 ?_
  refine g_callS (M' := mX8_in) dX8_flow_15 lc_X8_in ml_X8_116 (c_in _ p.toInt64 0 (nI cn - 1).toInt64 0 ((cn : Int) - 1) rfl (by rw [l_i, nm1T (by omega)])) rfl rfl ⟨Nat.le_of_ble_eq_true rfl, Nat.le_of_ble_eq_true rfl, Nat.le_of_ble_eq_true rfl, Nat.le_of_ble_eq_true rfl⟩ (Nat.le_of_ble_eq_true rfl) ?_
  intro r_ h_ q_; obtain ⟨q1_, q2_⟩ := q_; have q2_ := q2_.symm; subst q1_; subst q2_
  rw [l_i]
  refine g_if_eq (tgt := 30) dX8_flow_18 (by decide) (fun hc18 => ?_) (fun hc18 => ?_)
  · replace hc18 := bI_0.mp hc18
    (try simp (disch := omega) only [nT, t_m1000100, t_m1000010, t_m1000003, t_m1000002, t_m1000001, t_m1000000, t_m65535, t_m1000, t_m3, t_m1, t_0, t_1, t_2, t_3, t_4, t_5, t_6, t_7, t_8, t_9, t_10, t_11, t_12, t_13, t_15, t_16, t_20, t_21, t_22, t_32, t_40, t_41, t_48, t_49, t_57, t_59, t_60, t_63, t_72, t_76, t_88, t_100, t_144, t_200, t_255, t_288, t_400, t_800, t_999, t_1000, t_1024, t_1200, t_1600, t_3200, t_100000, t_200000, t_252645135, t_858993459, t_1431655765, u_m1000002, u_m1000001, u_m1000, u_m3, u_m1, u_0, u_1, u_2, u_3, u_4, u_5, u_7, u_8, u_10, u_11, u_15, u_60, u_100, u_255, u_999, u_1000, u_100000, u_4294967295] at hc18)
    have e : opFlow (cn, lo, hi, ti, bi, sh, fl) p = _ := if_neg (by dsimp only; omega)
    refine g_ldc dX8_flow_30 kc_X8_142 ?_
    refine g_iret dX8_flow_32 rfl (rfl) (hQ _ _ ?_)
    rw [e]; exact ⟨rfl, rfl⟩
  · replace hc18 := bI_n0.mp hc18
    (try simp (disch := omega) only [nT, t_m1000100, t_m1000010, t_m1000003, t_m1000002, t_m1000001, t_m1000000, t_m65535, t_m1000, t_m3, t_m1, t_0, t_1, t_2, t_3, t_4, t_5, t_6, t_7, t_8, t_9, t_10, t_11, t_12, t_13, t_15, t_16, t_20, t_21, t_22, t_32, t_40, t_41, t_48, t_49, t_57, t_59, t_60, t_63, t_72, t_76, t_88, t_100, t_144, t_200, t_255, t_288, t_400, t_800, t_999, t_1000, t_1024, t_1200, t_1600, t_3200, t_100000, t_200000, t_252645135, t_858993459, t_1431655765, u_m1000002, u_m1000001, u_m1000, u_m3, u_m1, u_0, u_1, u_2, u_3, u_4, u_5, u_7, u_8, u_10, u_11, u_15, u_60, u_100, u_255, u_999, u_1000, u_100000, u_4294967295] at hc18)
    have e : opFlow (cn, lo, hi, ti, bi, sh, fl) p = _ := if_pos (by dsimp only; omega)
    obtain ⟨b, hb, rfl, htb⟩ := n_of (n := cn) (x := p) (by omega) (by omega)
    rw [nTN (by omega)] at e
    refine g_aload_n (i := 0) dX8_flow_21 rfl rfl ?_
    refine g_get dX8_flow_22 fl_X8_62 (by repeat' (first | assumption | exact rF_eq | refine rF_ne (by decide) ?_ | refine rF_a ?_ | exact rA_eq | refine rA_ne (by decide) ?_ | refine rA_f ?_)) (by repeat' (first | assumption | exact rF_eq | refine rF_ne (by decide) ?_ | refine rF_a ?_ | exact rA_eq | refine rA_ne (by decide) ?_ | refine rA_f ?_)) ?_
    refine g_iload_n (i := 1) dX8_flow_25 rfl rfl ?_
    refine g_iald dX8_flow_26 (by repeat' (first | assumption | exact rF_eq | refine rF_ne (by decide) ?_ | refine rF_a ?_ | exact rA_eq | refine rA_ne (by decide) ?_ | refine rA_f ?_)) (nT (by omega)) (by omega) ?_
    refine g_goto (tgt := 32) dX8_flow_27 (by decide) ?_
    refine g_iret dX8_flow_32 rfl (rfl) (hQ _ _ ?_)
    rw [e]; exact ⟨rfl, rfl⟩
theorem x_kind {w : TS} (hw : w.1 ≤ 10) {h : HH} (hg : GTX w h) (p : Int32) : CT mX7_kind 1 0 0 [.ref 0, .int p] h (fun r h' => r = some (.int (opKind w p)) ∧ h' = h) := by
  have hg0 := hg
  obtain ⟨⟨h0, h1⟩, hs⟩ := hg
  obtain ⟨e1, e2, e3, e4, e5, e6, e7, e8, e9, e10, e11, e12, e13, e14⟩ := id hs
  refine CT.go [.ref 0, .int p] (by decide +kernel) rfl rfl (fun Q' hQ => ?_)
  refine g_iload_n (i := 1) dX7_kind_0 rfl rfl ?_
  refine g_aload_n (i := 0) dX7_kind_1 rfl rfl ?_
  refine g_get dX7_kind_2 fl_X7_47 (by repeat' (first | assumption | exact rF_eq | refine rF_ne (by decide) ?_ | refine rF_a ?_ | exact rA_eq | refine rA_ne (by decide) ?_ | refine rA_f ?_)) (by repeat' (first | assumption | exact rF_eq | refine rF_ne (by decide) ?_ | refine rF_a ?_ | exact rA_eq | refine rA_ne (by decide) ?_ | refine rA_f ?_)) ?_
  refine g_get dX7_kind_5 fl_X7_194 (by repeat' (first | assumption | exact rF_eq | refine rF_ne (by decide) ?_ | refine rF_a ?_ | exact rA_eq | refine rA_ne (by decide) ?_ | refine rA_f ?_)) (by repeat' (first | assumption | exact rF_eq | refine rF_ne (by decide) ?_ | refine rF_a ?_ | exact rA_eq | refine rA_ne (by decide) ?_ | refine rA_f ?_)) ?_
  refine g_callS (M' := mX7_isWithin) dX7_kind_8 lc_X7_isWithin ml_X7_90 (c_isWithin h p (nI w.1) w.1 (nT (by omega))) rfl rfl ⟨Nat.le_of_ble_eq_true rfl, Nat.le_of_ble_eq_true rfl, Nat.le_of_ble_eq_true rfl, Nat.le_of_ble_eq_true rfl⟩ (Nat.le_of_ble_eq_true rfl) ?_
  intro r_ h_ q_; obtain ⟨q1_, q2_⟩ := q_; have q2_ := q2_.symm; subst q1_; subst q2_
  refine g_if_eq (tgt := 25) dX7_kind_11 (by decide) (fun hc11 => ?_) (fun hc11 => ?_)
  · replace hc11 := bI_0.mp hc11
    (try simp (disch := omega) only [nT, t_m1000100, t_m1000010, t_m1000003, t_m1000002, t_m1000001, t_m1000000, t_m65535, t_m1000, t_m3, t_m1, t_0, t_1, t_2, t_3, t_4, t_5, t_6, t_7, t_8, t_9, t_10, t_11, t_12, t_13, t_15, t_16, t_20, t_21, t_22, t_32, t_40, t_41, t_48, t_49, t_57, t_59, t_60, t_63, t_72, t_76, t_88, t_100, t_144, t_200, t_255, t_288, t_400, t_800, t_999, t_1000, t_1024, t_1200, t_1600, t_3200, t_100000, t_200000, t_252645135, t_858993459, t_1431655765, u_m1000002, u_m1000001, u_m1000, u_m3, u_m1, u_0, u_1, u_2, u_3, u_4, u_5, u_7, u_8, u_10, u_11, u_15, u_60, u_100, u_255, u_999, u_1000, u_100000, u_4294967295] at hc11)
    have e : opKind w p = _ := if_neg (by omega)
    refine g_ldc dX7_kind_25 kc_X7_94 ?_
    refine g_iret dX7_kind_27 rfl (rfl) (hQ _ _ ?_)
    rw [e]; exact ⟨rfl, rfl⟩
  · replace hc11 := bI_n0.mp hc11
    (try simp (disch := omega) only [nT, t_m1000100, t_m1000010, t_m1000003, t_m1000002, t_m1000001, t_m1000000, t_m65535, t_m1000, t_m3, t_m1, t_0, t_1, t_2, t_3, t_4, t_5, t_6, t_7, t_8, t_9, t_10, t_11, t_12, t_13, t_15, t_16, t_20, t_21, t_22, t_32, t_40, t_41, t_48, t_49, t_57, t_59, t_60, t_63, t_72, t_76, t_88, t_100, t_144, t_200, t_255, t_288, t_400, t_800, t_999, t_1000, t_1024, t_1200, t_1600, t_3200, t_100000, t_200000, t_252645135, t_858993459, t_1431655765, u_m1000002, u_m1000001, u_m1000, u_m3, u_m1, u_0, u_1, u_2, u_3, u_4, u_5, u_7, u_8, u_10, u_11, u_15, u_60, u_100, u_255, u_999, u_1000, u_100000, u_4294967295] at hc11)
    have e : opKind w p = _ := if_pos (by omega)
    obtain ⟨b, hb, rfl, htb⟩ := n_of (n := w.1) (x := p) (by omega) (by omega)
    rw [nTN (by omega)] at e
    refine g_aload_n (i := 0) dX7_kind_14 rfl rfl ?_
    refine g_get dX7_kind_15 fl_X7_47 (by repeat' (first | assumption | exact rF_eq | refine rF_ne (by decide) ?_ | refine rF_a ?_ | exact rA_eq | refine rA_ne (by decide) ?_ | refine rA_f ?_)) (by repeat' (first | assumption | exact rF_eq | refine rF_ne (by decide) ?_ | refine rF_a ?_ | exact rA_eq | refine rA_ne (by decide) ?_ | refine rA_f ?_)) ?_
    refine g_iload_n (i := 1) dX7_kind_18 rfl rfl ?_
    refine g_callV (M' := mX5_kindOf) dX7_kind_19 lc_X5_kindOf ml_X7_210 (c_kindOf hs (by omega)) rfl rfl (by repeat' (first | assumption | exact rF_eq | refine rF_ne (by decide) ?_ | refine rF_a ?_ | exact rA_eq | refine rA_ne (by decide) ?_ | refine rA_f ?_)) rfl ⟨Nat.le_of_ble_eq_true rfl, Nat.le_of_ble_eq_true rfl, Nat.le_of_ble_eq_true rfl, Nat.le_of_ble_eq_true rfl⟩ (Nat.le_of_ble_eq_true rfl) ?_
    intro r_ h_ q_; obtain ⟨q1_, q2_⟩ := q_; have q2_ := q2_.symm; subst q1_; subst q2_
    refine g_goto (tgt := 27) dX7_kind_22 (by decide) ?_
    refine g_iret dX7_kind_27 rfl (rfl) (hQ _ _ ?_)
    rw [e]; exact ⟨rfl, rfl⟩
theorem m_kind {w : TS} (hw : w.1 ≤ 10) {h : HH} (hg : GTM w h) (p : Int32) : CT mX8_kind 2 0 0 [.ref 44, .int p] h (fun r h' => r = some (.int (opKind w p)) ∧ h' = sF h 44 0 (.int 0)) := by
  have hs : TsM (sF h 44 0 (.int 0)) w.1 w.2.1 w.2.2.1 w.2.2.2.1 w.2.2.2.2.1 w.2.2.2.2.2.1 w.2.2.2.2.2.2 := hg
  obtain ⟨e1, e2, e3, e4, e5, e6, e7, e8, e9, e10, e11, e12, e13, e14⟩ := hg
  refine CT.go [.ref 44, .int p] (by decide +kernel) rfl rfl (fun Q' hQ => ?_)
  refine g_aload_n (i := 0) dX8_kind_0 rfl rfl ?_
  refine g_iconst (v := 0) dX8_kind_1 (by decide) ?_
  refine g_put dX8_kind_2 pl_X8_107 (by repeat' (first | assumption | exact rF_eq | refine rF_ne (by decide) ?_ | refine rF_a ?_ | exact rA_eq | refine rA_ne (by decide) ?_ | refine rA_f ?_)) (fun _ => ⟨rfl, rfl⟩) ?_
  refine g_aload_n (i := 0) dX8_kind_5 rfl rfl ?_
  refine g_iload_n (i := 1) dX8_kind_6 rfl rfl ?_
  refine g_callV (M' := mX8_isTest) dX8_kind_7 lc_X8_isTest ml_X8_204 (c_isTest (h := sF h 44 0 (.int 0)) e1 e2 hw p) rfl rfl (by repeat' (first | assumption | exact rF_eq | refine rF_ne (by decide) ?_ | refine rF_a ?_ | exact rA_eq | refine rA_ne (by decide) ?_ | refine rA_f ?_)) rfl ⟨Nat.le_of_ble_eq_true rfl, Nat.le_of_ble_eq_true rfl, Nat.le_of_ble_eq_true rfl, Nat.le_of_ble_eq_true rfl⟩ (Nat.le_of_ble_eq_true rfl) ?_
  intro r_ h_ q_; obtain ⟨q1_, q2_⟩ := q_; have q2_ := q2_.symm; subst q1_; subst q2_
  refine g_if_eq (tgt := 21) dX8_kind_10 (by decide) (fun hc10 => ?_) (fun hc10 => ?_)
  · replace hc10 := bI_0.mp hc10
    (try simp (disch := omega) only [nT, t_m1000100, t_m1000010, t_m1000003, t_m1000002, t_m1000001, t_m1000000, t_m65535, t_m1000, t_m3, t_m1, t_0, t_1, t_2, t_3, t_4, t_5, t_6, t_7, t_8, t_9, t_10, t_11, t_12, t_13, t_15, t_16, t_20, t_21, t_22, t_32, t_40, t_41, t_48, t_49, t_57, t_59, t_60, t_63, t_72, t_76, t_88, t_100, t_144, t_200, t_255, t_288, t_400, t_800, t_999, t_1000, t_1024, t_1200, t_1600, t_3200, t_100000, t_200000, t_252645135, t_858993459, t_1431655765, u_m1000002, u_m1000001, u_m1000, u_m3, u_m1, u_0, u_1, u_2, u_3, u_4, u_5, u_7, u_8, u_10, u_11, u_15, u_60, u_100, u_255, u_999, u_1000, u_100000, u_4294967295] at hc10)
    have e : opKind w p = _ := if_neg (by omega)
    refine g_ldc dX8_kind_21 kc_X8_126 ?_
    refine g_iret dX8_kind_23 rfl (rfl) (hQ _ _ ?_)
    rw [e]; exact ⟨rfl, rfl⟩
  · replace hc10 := bI_n0.mp hc10
    (try simp (disch := omega) only [nT, t_m1000100, t_m1000010, t_m1000003, t_m1000002, t_m1000001, t_m1000000, t_m65535, t_m1000, t_m3, t_m1, t_0, t_1, t_2, t_3, t_4, t_5, t_6, t_7, t_8, t_9, t_10, t_11, t_12, t_13, t_15, t_16, t_20, t_21, t_22, t_32, t_40, t_41, t_48, t_49, t_57, t_59, t_60, t_63, t_72, t_76, t_88, t_100, t_144, t_200, t_255, t_288, t_400, t_800, t_999, t_1000, t_1024, t_1200, t_1600, t_3200, t_100000, t_200000, t_252645135, t_858993459, t_1431655765, u_m1000002, u_m1000001, u_m1000, u_m3, u_m1, u_0, u_1, u_2, u_3, u_4, u_5, u_7, u_8, u_10, u_11, u_15, u_60, u_100, u_255, u_999, u_1000, u_100000, u_4294967295] at hc10)
    have e : opKind w p = _ := if_pos (by omega)
    obtain ⟨b, hb, rfl, htb⟩ := n_of (n := w.1) (x := p) (by omega) (by omega)
    rw [nTN (by omega)] at e
    refine g_aload_n (i := 0) dX8_kind_13 rfl rfl ?_
    refine g_iload_n (i := 1) dX8_kind_14 rfl rfl ?_
    refine g_callV (M' := mX8_kindOf) dX8_kind_15 lc_X8_kindOf ml_X8_207 (c_mkindOf hs (by omega)) rfl rfl (by repeat' (first | assumption | exact rF_eq | refine rF_ne (by decide) ?_ | refine rF_a ?_ | exact rA_eq | refine rA_ne (by decide) ?_ | refine rA_f ?_)) rfl ⟨Nat.le_of_ble_eq_true rfl, Nat.le_of_ble_eq_true rfl, Nat.le_of_ble_eq_true rfl, Nat.le_of_ble_eq_true rfl⟩ (Nat.le_of_ble_eq_true rfl) ?_
    intro r_ h_ q_; obtain ⟨q1_, q2_⟩ := q_; have q2_ := q2_.symm; subst q1_; subst q2_
    refine g_goto (tgt := 23) dX8_kind_18 (by decide) ?_
    refine g_iret dX8_kind_23 rfl (rfl) (hQ _ _ ?_)
    rw [e]; exact ⟨rfl, rfl⟩
/-- a TEST taken as one of a KIND: its time, or a finding; the status behind it -/
def opAs (w : TS) (st : Int32) (t k : Int32) : Int32 × Int32 :=
  if ¬ (0 ≤ t.toInt ∧ t.toInt < w.1) ∨ ¬ (0 ≤ k.toInt ∧ k.toInt < 4) then (-1000001, st)
  else if k.toInt = 0 ∨ k = kindv w t.toInt.toNat ∨ (k.toInt = 1 ∧ (kindv w t.toInt.toNat).toInt = 2) then (w.2.2.2.1 t.toInt.toNat, 0)
  else (fnd 3, 3)
theorem c_isAlso {w : TS} {h : HH} (hs : TsX h w.1 w.2.1 w.2.2.1 w.2.2.2.1 w.2.2.2.2.1 w.2.2.2.2.2.1 w.2.2.2.2.2.2) {t : Nat} (ht : t < 10) (k : Int32) : CT mX5_isAlso 1 0 0 [.ref 27, .int (nI t), .int k] h (fun r h' => r = some (.int (bI (k.toInt = 0 ∨ k = kindv w t ∨ (k.toInt = 1 ∧ (kindv w t).toInt = 2)))) ∧ h' = h) := by
  obtain ⟨e1, e2, e3, e4, e5, e6, e7, e8, e9, e10, e11, e12, e13, e14⟩ := id hs
  refine CT.go [.ref 27, .int (nI t), .int k, hU] (by decide +kernel) rfl rfl (fun Q' hQ => ?_)
  refine g_aload_n (i := 0) dX5_isAlso_0 rfl rfl ?_
  refine g_iload_n (i := 1) dX5_isAlso_1 rfl rfl ?_
  refine g_callV (M' := mX5_kindOf) dX5_isAlso_2 lc_X5_kindOf ml_X5_34 (c_kindOf hs ht) rfl rfl (by repeat' (first | assumption | exact rF_eq | refine rF_ne (by decide) ?_ | refine rF_a ?_ | exact rA_eq | refine rA_ne (by decide) ?_ | refine rA_f ?_)) rfl ⟨Nat.le_of_ble_eq_true rfl, Nat.le_of_ble_eq_true rfl, Nat.le_of_ble_eq_true rfl, Nat.le_of_ble_eq_true rfl⟩ (Nat.le_of_ble_eq_true rfl) ?_
  intro r_ h_ q_; obtain ⟨q1_, q2_⟩ := q_; have q2_ := q2_.symm; subst q1_; subst q2_
  refine g_istore_n (i := 3) dX5_isAlso_5 rfl (Nat.le_of_ble_eq_true rfl) rfl ?_
  refine g_iload_n (i := 2) dX5_isAlso_6 rfl rfl ?_
  refine g_if_eq (tgt := 25) dX5_isAlso_7 (by decide) (fun hc7 => ?_) (fun hc7 => ?_)
  · have hd7 := i_eq.mp hc7; (try simp (disch := omega) only [nT, t_m1000100, t_m1000010, t_m1000003, t_m1000002, t_m1000001, t_m1000000, t_m65535, t_m1000, t_m3, t_m1, t_0, t_1, t_2, t_3, t_4, t_5, t_6, t_7, t_8, t_9, t_10, t_11, t_12, t_13, t_15, t_16, t_20, t_21, t_22, t_32, t_40, t_41, t_48, t_49, t_57, t_59, t_60, t_63, t_72, t_76, t_88, t_100, t_144, t_200, t_255, t_288, t_400, t_800, t_999, t_1000, t_1024, t_1200, t_1600, t_3200, t_100000, t_200000, t_252645135, t_858993459, t_1431655765, u_m1000002, u_m1000001, u_m1000, u_m3, u_m1, u_0, u_1, u_2, u_3, u_4, u_5, u_7, u_8, u_10, u_11, u_15, u_60, u_100, u_255, u_999, u_1000, u_100000, u_4294967295] at hd7)
    refine g_iconst (v := 1) dX5_isAlso_25 (by decide) ?_
    refine g_goto (tgt := 30) dX5_isAlso_26 (by decide) ?_
    refine g_iret dX5_isAlso_30 rfl (rfl) (hQ _ _ ?_)
    refine ⟨?_, rfl⟩
    first | rw [bI_t (by first | exact Or.inl hd7 | exact Or.inr (Or.inl hc12) | exact Or.inr (Or.inr ⟨hd17, hd22⟩))] | rw [bI_f (by rintro (q | q | ⟨q1, q2⟩); exact hd7 q; exact hc12 q; first | exact hd17 q1 | exact hd22 q2)]
  · have hd7 := mt i_eq.mpr hc7; (try simp (disch := omega) only [nT, t_m1000100, t_m1000010, t_m1000003, t_m1000002, t_m1000001, t_m1000000, t_m65535, t_m1000, t_m3, t_m1, t_0, t_1, t_2, t_3, t_4, t_5, t_6, t_7, t_8, t_9, t_10, t_11, t_12, t_13, t_15, t_16, t_20, t_21, t_22, t_32, t_40, t_41, t_48, t_49, t_57, t_59, t_60, t_63, t_72, t_76, t_88, t_100, t_144, t_200, t_255, t_288, t_400, t_800, t_999, t_1000, t_1024, t_1200, t_1600, t_3200, t_100000, t_200000, t_252645135, t_858993459, t_1431655765, u_m1000002, u_m1000001, u_m1000, u_m3, u_m1, u_0, u_1, u_2, u_3, u_4, u_5, u_7, u_8, u_10, u_11, u_15, u_60, u_100, u_255, u_999, u_1000, u_100000, u_4294967295] at hd7)
    refine g_iload_n (i := 2) dX5_isAlso_10 rfl rfl ?_
    refine g_iload_n (i := 3) dX5_isAlso_11 rfl rfl ?_
    refine g_icmp_eq (tgt := 25) dX5_isAlso_12 (by decide) (fun hc12 => ?_) (fun hc12 => ?_)
    · have hd12 := i_eq.mp hc12; (try simp (disch := omega) only [nT, t_m1000100, t_m1000010, t_m1000003, t_m1000002, t_m1000001, t_m1000000, t_m65535, t_m1000, t_m3, t_m1, t_0, t_1, t_2, t_3, t_4, t_5, t_6, t_7, t_8, t_9, t_10, t_11, t_12, t_13, t_15, t_16, t_20, t_21, t_22, t_32, t_40, t_41, t_48, t_49, t_57, t_59, t_60, t_63, t_72, t_76, t_88, t_100, t_144, t_200, t_255, t_288, t_400, t_800, t_999, t_1000, t_1024, t_1200, t_1600, t_3200, t_100000, t_200000, t_252645135, t_858993459, t_1431655765, u_m1000002, u_m1000001, u_m1000, u_m3, u_m1, u_0, u_1, u_2, u_3, u_4, u_5, u_7, u_8, u_10, u_11, u_15, u_60, u_100, u_255, u_999, u_1000, u_100000, u_4294967295] at hd12)
      refine g_iconst (v := 1) dX5_isAlso_25 (by decide) ?_
      refine g_goto (tgt := 30) dX5_isAlso_26 (by decide) ?_
      refine g_iret dX5_isAlso_30 rfl (rfl) (hQ _ _ ?_)
      refine ⟨?_, rfl⟩
      first | rw [bI_t (by first | exact Or.inl hd7 | exact Or.inr (Or.inl hc12) | exact Or.inr (Or.inr ⟨hd17, hd22⟩))] | rw [bI_f (by rintro (q | q | ⟨q1, q2⟩); exact hd7 q; exact hc12 q; first | exact hd17 q1 | exact hd22 q2)]
    · have hd12 := mt i_eq.mpr hc12; (try simp (disch := omega) only [nT, t_m1000100, t_m1000010, t_m1000003, t_m1000002, t_m1000001, t_m1000000, t_m65535, t_m1000, t_m3, t_m1, t_0, t_1, t_2, t_3, t_4, t_5, t_6, t_7, t_8, t_9, t_10, t_11, t_12, t_13, t_15, t_16, t_20, t_21, t_22, t_32, t_40, t_41, t_48, t_49, t_57, t_59, t_60, t_63, t_72, t_76, t_88, t_100, t_144, t_200, t_255, t_288, t_400, t_800, t_999, t_1000, t_1024, t_1200, t_1600, t_3200, t_100000, t_200000, t_252645135, t_858993459, t_1431655765, u_m1000002, u_m1000001, u_m1000, u_m3, u_m1, u_0, u_1, u_2, u_3, u_4, u_5, u_7, u_8, u_10, u_11, u_15, u_60, u_100, u_255, u_999, u_1000, u_100000, u_4294967295] at hd12)
      refine g_iload_n (i := 2) dX5_isAlso_15 rfl rfl ?_
      refine g_iconst (v := 1) dX5_isAlso_16 (by decide) ?_
      refine g_icmp_ne (tgt := 29) dX5_isAlso_17 (by decide) (fun hc17 => ?_) (fun hc17 => ?_)
      · have hd17 := mt i_eq.mpr hc17; (try simp (disch := omega) only [nT, t_m1000100, t_m1000010, t_m1000003, t_m1000002, t_m1000001, t_m1000000, t_m65535, t_m1000, t_m3, t_m1, t_0, t_1, t_2, t_3, t_4, t_5, t_6, t_7, t_8, t_9, t_10, t_11, t_12, t_13, t_15, t_16, t_20, t_21, t_22, t_32, t_40, t_41, t_48, t_49, t_57, t_59, t_60, t_63, t_72, t_76, t_88, t_100, t_144, t_200, t_255, t_288, t_400, t_800, t_999, t_1000, t_1024, t_1200, t_1600, t_3200, t_100000, t_200000, t_252645135, t_858993459, t_1431655765, u_m1000002, u_m1000001, u_m1000, u_m3, u_m1, u_0, u_1, u_2, u_3, u_4, u_5, u_7, u_8, u_10, u_11, u_15, u_60, u_100, u_255, u_999, u_1000, u_100000, u_4294967295] at hd17)
        refine g_iconst (v := 0) dX5_isAlso_29 (by decide) ?_
        refine g_iret dX5_isAlso_30 rfl (rfl) (hQ _ _ ?_)
        refine ⟨?_, rfl⟩
        first | rw [bI_t (by first | exact Or.inl hd7 | exact Or.inr (Or.inl hc12) | exact Or.inr (Or.inr ⟨hd17, hd22⟩))] | rw [bI_f (by rintro (q | q | ⟨q1, q2⟩); exact hd7 q; exact hc12 q; first | exact hd17 q1 | exact hd22 q2)]
      · have hd17 := i_eq.mp hc17; (try simp (disch := omega) only [nT, t_m1000100, t_m1000010, t_m1000003, t_m1000002, t_m1000001, t_m1000000, t_m65535, t_m1000, t_m3, t_m1, t_0, t_1, t_2, t_3, t_4, t_5, t_6, t_7, t_8, t_9, t_10, t_11, t_12, t_13, t_15, t_16, t_20, t_21, t_22, t_32, t_40, t_41, t_48, t_49, t_57, t_59, t_60, t_63, t_72, t_76, t_88, t_100, t_144, t_200, t_255, t_288, t_400, t_800, t_999, t_1000, t_1024, t_1200, t_1600, t_3200, t_100000, t_200000, t_252645135, t_858993459, t_1431655765, u_m1000002, u_m1000001, u_m1000, u_m3, u_m1, u_0, u_1, u_2, u_3, u_4, u_5, u_7, u_8, u_10, u_11, u_15, u_60, u_100, u_255, u_999, u_1000, u_100000, u_4294967295] at hd17)
        refine g_iload_n (i := 3) dX5_isAlso_20 rfl rfl ?_
        refine g_iconst (v := 2) dX5_isAlso_21 (by decide) ?_
        refine g_icmp_ne (tgt := 29) dX5_isAlso_22 (by decide) (fun hc22 => ?_) (fun hc22 => ?_)
        · have hd22 := mt i_eq.mpr hc22; (try simp (disch := omega) only [nT, t_m1000100, t_m1000010, t_m1000003, t_m1000002, t_m1000001, t_m1000000, t_m65535, t_m1000, t_m3, t_m1, t_0, t_1, t_2, t_3, t_4, t_5, t_6, t_7, t_8, t_9, t_10, t_11, t_12, t_13, t_15, t_16, t_20, t_21, t_22, t_32, t_40, t_41, t_48, t_49, t_57, t_59, t_60, t_63, t_72, t_76, t_88, t_100, t_144, t_200, t_255, t_288, t_400, t_800, t_999, t_1000, t_1024, t_1200, t_1600, t_3200, t_100000, t_200000, t_252645135, t_858993459, t_1431655765, u_m1000002, u_m1000001, u_m1000, u_m3, u_m1, u_0, u_1, u_2, u_3, u_4, u_5, u_7, u_8, u_10, u_11, u_15, u_60, u_100, u_255, u_999, u_1000, u_100000, u_4294967295] at hd22)
          refine g_iconst (v := 0) dX5_isAlso_29 (by decide) ?_
          refine g_iret dX5_isAlso_30 rfl (rfl) (hQ _ _ ?_)
          refine ⟨?_, rfl⟩
          first | rw [bI_t (by first | exact Or.inl hd7 | exact Or.inr (Or.inl hc12) | exact Or.inr (Or.inr ⟨hd17, hd22⟩))] | rw [bI_f (by rintro (q | q | ⟨q1, q2⟩); exact hd7 q; exact hc12 q; first | exact hd17 q1 | exact hd22 q2)]
        · have hd22 := i_eq.mp hc22; (try simp (disch := omega) only [nT, t_m1000100, t_m1000010, t_m1000003, t_m1000002, t_m1000001, t_m1000000, t_m65535, t_m1000, t_m3, t_m1, t_0, t_1, t_2, t_3, t_4, t_5, t_6, t_7, t_8, t_9, t_10, t_11, t_12, t_13, t_15, t_16, t_20, t_21, t_22, t_32, t_40, t_41, t_48, t_49, t_57, t_59, t_60, t_63, t_72, t_76, t_88, t_100, t_144, t_200, t_255, t_288, t_400, t_800, t_999, t_1000, t_1024, t_1200, t_1600, t_3200, t_100000, t_200000, t_252645135, t_858993459, t_1431655765, u_m1000002, u_m1000001, u_m1000, u_m3, u_m1, u_0, u_1, u_2, u_3, u_4, u_5, u_7, u_8, u_10, u_11, u_15, u_60, u_100, u_255, u_999, u_1000, u_100000, u_4294967295] at hd22)
          refine g_iconst (v := 1) dX5_isAlso_25 (by decide) ?_
          refine g_goto (tgt := 30) dX5_isAlso_26 (by decide) ?_
          refine g_iret dX5_isAlso_30 rfl (rfl) (hQ _ _ ?_)
          refine ⟨?_, rfl⟩
          first | rw [bI_t (by first | exact Or.inl hd7 | exact Or.inr (Or.inl hc12) | exact Or.inr (Or.inr ⟨hd17, hd22⟩))] | rw [bI_f (by rintro (q | q | ⟨q1, q2⟩); exact hd7 q; exact hc12 q; first | exact hd17 q1 | exact hd22 q2)]
theorem x_as {w : TS} {st : Int32} (hw : w.1 ≤ 10) {h : HH} (hg : GTX w h) (t k : Int32) (h2 : gF h 0 1 = .int st) : CT mX7_as 2 0 0 [.ref 0, .int t, .int k] h (fun r h' => r = some (.int (opAs w st t k).1) ∧ GTX w h' ∧ gF h' 0 1 = .int (opAs w st t k).2 ∧ Fr [] [(0, 1)] h h') := by
  have hg0 := hg
  obtain ⟨⟨h0, h1⟩, hs⟩ := hg
  obtain ⟨e1, e2, e3, e4, e5, e6, e7, e8, e9, e10, e11, e12, e13, e14⟩ := id hs
  refine CT.go [.ref 0, .int t, .int k] (by decide +kernel) rfl rfl (fun Q' hQ => ?_)
  refine g_iload_n (i := 1) dX7_as_0 rfl rfl ?_
  refine g_aload_n (i := 0) dX7_as_1 rfl rfl ?_
  refine g_get dX7_as_2 fl_X7_47 (by repeat' (first | assumption | exact rF_eq | refine rF_ne (by decide) ?_ | refine rF_a ?_ | exact rA_eq | refine rA_ne (by decide) ?_ | refine rA_f ?_)) (by repeat' (first | assumption | exact rF_eq | refine rF_ne (by decide) ?_ | refine rF_a ?_ | exact rA_eq | refine rA_ne (by decide) ?_ | refine rA_f ?_)) ?_
  refine g_get dX7_as_5 fl_X7_194 (by repeat' (first | assumption | exact rF_eq | refine rF_ne (by decide) ?_ | refine rF_a ?_ | exact rA_eq | refine rA_ne (by decide) ?_ | refine rA_f ?_)) (by repeat' (first | assumption | exact rF_eq | refine rF_ne (by decide) ?_ | refine rF_a ?_ | exact rA_eq | refine rA_ne (by decide) ?_ | refine rA_f ?_)) ?_
  refine g_callS (M' := mX7_isWithin) dX7_as_8 lc_X7_isWithin ml_X7_90 (c_isWithin h t (nI w.1) w.1 (nT (by omega))) rfl rfl ⟨Nat.le_of_ble_eq_true rfl, Nat.le_of_ble_eq_true rfl, Nat.le_of_ble_eq_true rfl, Nat.le_of_ble_eq_true rfl⟩ (Nat.le_of_ble_eq_true rfl) ?_
  intro r_ h_ q_; obtain ⟨q1_, q2_⟩ := q_; have q2_ := q2_.symm; subst q1_; subst q2_
  refine g_if_eq (tgt := 22) dX7_as_11 (by decide) (fun hc11 => ?_) (fun hc11 => ?_)
  · replace hc11 := bI_0.mp hc11
    (try simp (disch := omega) only [nT, t_m1000100, t_m1000010, t_m1000003, t_m1000002, t_m1000001, t_m1000000, t_m65535, t_m1000, t_m3, t_m1, t_0, t_1, t_2, t_3, t_4, t_5, t_6, t_7, t_8, t_9, t_10, t_11, t_12, t_13, t_15, t_16, t_20, t_21, t_22, t_32, t_40, t_41, t_48, t_49, t_57, t_59, t_60, t_63, t_72, t_76, t_88, t_100, t_144, t_200, t_255, t_288, t_400, t_800, t_999, t_1000, t_1024, t_1200, t_1600, t_3200, t_100000, t_200000, t_252645135, t_858993459, t_1431655765, u_m1000002, u_m1000001, u_m1000, u_m3, u_m1, u_0, u_1, u_2, u_3, u_4, u_5, u_7, u_8, u_10, u_11, u_15, u_60, u_100, u_255, u_999, u_1000, u_100000, u_4294967295] at hc11)
    refine g_ldc dX7_as_22 kc_X7_94 ?_
    refine g_iret dX7_as_24 rfl (rfl) (hQ _ _ ?_)
    have e : opAs w st t k = _ := if_pos (by omega)
    rw [e]; exact ⟨rfl, hg0, h2, fr_rf⟩
  · replace hc11 := bI_n0.mp hc11
    (try simp (disch := omega) only [nT, t_m1000100, t_m1000010, t_m1000003, t_m1000002, t_m1000001, t_m1000000, t_m65535, t_m1000, t_m3, t_m1, t_0, t_1, t_2, t_3, t_4, t_5, t_6, t_7, t_8, t_9, t_10, t_11, t_12, t_13, t_15, t_16, t_20, t_21, t_22, t_32, t_40, t_41, t_48, t_49, t_57, t_59, t_60, t_63, t_72, t_76, t_88, t_100, t_144, t_200, t_255, t_288, t_400, t_800, t_999, t_1000, t_1024, t_1200, t_1600, t_3200, t_100000, t_200000, t_252645135, t_858993459, t_1431655765, u_m1000002, u_m1000001, u_m1000, u_m3, u_m1, u_0, u_1, u_2, u_3, u_4, u_5, u_7, u_8, u_10, u_11, u_15, u_60, u_100, u_255, u_999, u_1000, u_100000, u_4294967295] at hc11)
    refine g_iload_n (i := 2) dX7_as_14 rfl rfl ?_
    refine g_iconst (v := 4) dX7_as_15 (by decide) ?_
    refine g_callS (M' := mX7_isWithin) dX7_as_16 lc_X7_isWithin ml_X7_90 (c_isWithin h k 4 4 rfl) rfl rfl ⟨Nat.le_of_ble_eq_true rfl, Nat.le_of_ble_eq_true rfl, Nat.le_of_ble_eq_true rfl, Nat.le_of_ble_eq_true rfl⟩ (Nat.le_of_ble_eq_true rfl) ?_
    intro r_ h_ q_; obtain ⟨q1_, q2_⟩ := q_; have q2_ := q2_.symm; subst q1_; subst q2_
    refine g_if_ne (tgt := 25) dX7_as_19 (by decide) (fun hc19 => ?_) (fun hc19 => ?_)
    · replace hc19 := bI_n0.mp hc19
      (try simp (disch := omega) only [nT, t_m1000100, t_m1000010, t_m1000003, t_m1000002, t_m1000001, t_m1000000, t_m65535, t_m1000, t_m3, t_m1, t_0, t_1, t_2, t_3, t_4, t_5, t_6, t_7, t_8, t_9, t_10, t_11, t_12, t_13, t_15, t_16, t_20, t_21, t_22, t_32, t_40, t_41, t_48, t_49, t_57, t_59, t_60, t_63, t_72, t_76, t_88, t_100, t_144, t_200, t_255, t_288, t_400, t_800, t_999, t_1000, t_1024, t_1200, t_1600, t_3200, t_100000, t_200000, t_252645135, t_858993459, t_1431655765, u_m1000002, u_m1000001, u_m1000, u_m3, u_m1, u_0, u_1, u_2, u_3, u_4, u_5, u_7, u_8, u_10, u_11, u_15, u_60, u_100, u_255, u_999, u_1000, u_100000, u_4294967295] at hc19)
      have e : opAs w st t k = _ := if_neg (by omega)
      obtain ⟨b, hb, rfl, htb⟩ := n_of (n := w.1) (x := t) (by omega) (by omega)
      rw [nTN (by omega)] at e
      refine g_aload_n (i := 0) dX7_as_25 rfl rfl ?_
      refine g_get dX7_as_26 fl_X7_47 (by repeat' (first | assumption | exact rF_eq | refine rF_ne (by decide) ?_ | refine rF_a ?_ | exact rA_eq | refine rA_ne (by decide) ?_ | refine rA_f ?_)) (by repeat' (first | assumption | exact rF_eq | refine rF_ne (by decide) ?_ | refine rF_a ?_ | exact rA_eq | refine rA_ne (by decide) ?_ | refine rA_f ?_)) ?_
      refine g_iload_n (i := 1) dX7_as_29 rfl rfl ?_
      refine g_iload_n (i := 2) dX7_as_30 rfl rfl ?_
      refine g_callV (M' := mX5_isAlso) dX7_as_31 lc_X5_isAlso ml_X7_213 (c_isAlso hs (by omega) k) rfl rfl (by repeat' (first | assumption | exact rF_eq | refine rF_ne (by decide) ?_ | refine rF_a ?_ | exact rA_eq | refine rA_ne (by decide) ?_ | refine rA_f ?_)) rfl ⟨Nat.le_of_ble_eq_true rfl, Nat.le_of_ble_eq_true rfl, Nat.le_of_ble_eq_true rfl, Nat.le_of_ble_eq_true rfl⟩ (Nat.le_of_ble_eq_true rfl) ?_
      intro r_ h_ q_; obtain ⟨q1_, q2_⟩ := q_; have q2_ := q2_.symm; subst q1_; subst q2_
      refine g_if_eq (tgt := 53) dX7_as_34 (by decide) (fun hc34 => ?_) (fun hc34 => ?_)
      · replace hc34 := bI_0.mp hc34
        (try simp (disch := omega) only [nT, t_m1000100, t_m1000010, t_m1000003, t_m1000002, t_m1000001, t_m1000000, t_m65535, t_m1000, t_m3, t_m1, t_0, t_1, t_2, t_3, t_4, t_5, t_6, t_7, t_8, t_9, t_10, t_11, t_12, t_13, t_15, t_16, t_20, t_21, t_22, t_32, t_40, t_41, t_48, t_49, t_57, t_59, t_60, t_63, t_72, t_76, t_88, t_100, t_144, t_200, t_255, t_288, t_400, t_800, t_999, t_1000, t_1024, t_1200, t_1600, t_3200, t_100000, t_200000, t_252645135, t_858993459, t_1431655765, u_m1000002, u_m1000001, u_m1000, u_m3, u_m1, u_0, u_1, u_2, u_3, u_4, u_5, u_7, u_8, u_10, u_11, u_15, u_60, u_100, u_255, u_999, u_1000, u_100000, u_4294967295] at hc34)
        refine g_aload_n (i := 0) dX7_as_53 rfl rfl ?_
        rw [if_neg hc34] at e
        refine g_iconst (v := 3) dX7_as_54 (by decide) ?_
        refine g_callV (M' := mX7_found) dX7_as_55 lc_X7_found ml_X7_95 (c_found h0 3) rfl rfl (by repeat' (first | assumption | exact rF_eq | refine rF_ne (by decide) ?_ | refine rF_a ?_ | exact rA_eq | refine rA_ne (by decide) ?_ | refine rA_f ?_)) rfl ⟨Nat.le_of_ble_eq_true rfl, Nat.le_of_ble_eq_true rfl, Nat.le_of_ble_eq_true rfl, Nat.le_of_ble_eq_true rfl⟩ (Nat.le_of_ble_eq_true rfl) ?_
        intro r_ h_ q_; obtain ⟨q1_, q2_⟩ := q_; have q2_ := q2_.symm; subst q1_; subst q2_
        refine g_iret dX7_as_58 rfl (rfl) (hQ _ _ ?_)
        rw [e]; exact ⟨rfl, ⟨⟨h0, h1⟩, hs⟩, rfl, fr_sF (by decide) fr_rf⟩
      · replace hc34 := bI_n0.mp hc34
        (try simp (disch := omega) only [nT, t_m1000100, t_m1000010, t_m1000003, t_m1000002, t_m1000001, t_m1000000, t_m65535, t_m1000, t_m3, t_m1, t_0, t_1, t_2, t_3, t_4, t_5, t_6, t_7, t_8, t_9, t_10, t_11, t_12, t_13, t_15, t_16, t_20, t_21, t_22, t_32, t_40, t_41, t_48, t_49, t_57, t_59, t_60, t_63, t_72, t_76, t_88, t_100, t_144, t_200, t_255, t_288, t_400, t_800, t_999, t_1000, t_1024, t_1200, t_1600, t_3200, t_100000, t_200000, t_252645135, t_858993459, t_1431655765, u_m1000002, u_m1000001, u_m1000, u_m3, u_m1, u_0, u_1, u_2, u_3, u_4, u_5, u_7, u_8, u_10, u_11, u_15, u_60, u_100, u_255, u_999, u_1000, u_100000, u_4294967295] at hc34)
        refine g_aload_n (i := 0) dX7_as_37 rfl rfl ?_
        refine g_aload_n (i := 0) dX7_as_38 rfl rfl ?_
        refine g_get dX7_as_39 fl_X7_47 (by repeat' (first | assumption | exact rF_eq | refine rF_ne (by decide) ?_ | refine rF_a ?_ | exact rA_eq | refine rA_ne (by decide) ?_ | refine rA_f ?_)) (by repeat' (first | assumption | exact rF_eq | refine rF_ne (by decide) ?_ | refine rF_a ?_ | exact rA_eq | refine rA_ne (by decide) ?_ | refine rA_f ?_)) ?_
        refine g_get dX7_as_42 fl_X7_216 (by repeat' (first | assumption | exact rF_eq | refine rF_ne (by decide) ?_ | refine rF_a ?_ | exact rA_eq | refine rA_ne (by decide) ?_ | refine rA_f ?_)) (by repeat' (first | assumption | exact rF_eq | refine rF_ne (by decide) ?_ | refine rF_a ?_ | exact rA_eq | refine rA_ne (by decide) ?_ | refine rA_f ?_)) ?_
        refine g_iload_n (i := 1) dX7_as_45 rfl rfl ?_
        refine g_iald dX7_as_46 (by repeat' (first | assumption | exact rF_eq | refine rF_ne (by decide) ?_ | refine rF_a ?_ | exact rA_eq | refine rA_ne (by decide) ?_ | refine rA_f ?_)) (htb) (by omega) ?_
        refine g_callV (M' := mX7_fine) dX7_as_47 lc_X7_fine ml_X7_103 (c_fine h0 (w.2.2.2.1 b)) rfl rfl (by repeat' (first | assumption | exact rF_eq | refine rF_ne (by decide) ?_ | refine rF_a ?_ | exact rA_eq | refine rA_ne (by decide) ?_ | refine rA_f ?_)) rfl ⟨Nat.le_of_ble_eq_true rfl, Nat.le_of_ble_eq_true rfl, Nat.le_of_ble_eq_true rfl, Nat.le_of_ble_eq_true rfl⟩ (Nat.le_of_ble_eq_true rfl) ?_
        intro r_ h_ q_; obtain ⟨q1_, q2_⟩ := q_; have q2_ := q2_.symm; subst q1_; subst q2_
        rw [if_pos hc34] at e
        refine g_goto (tgt := 58) dX7_as_50 (by decide) ?_
        refine g_iret dX7_as_58 rfl (rfl) (hQ _ _ ?_)
        rw [e]; exact ⟨rfl, ⟨⟨h0, h1⟩, hs⟩, rfl, fr_sF (by decide) fr_rf⟩
    · replace hc19 := bI_0.mp hc19
      (try simp (disch := omega) only [nT, t_m1000100, t_m1000010, t_m1000003, t_m1000002, t_m1000001, t_m1000000, t_m65535, t_m1000, t_m3, t_m1, t_0, t_1, t_2, t_3, t_4, t_5, t_6, t_7, t_8, t_9, t_10, t_11, t_12, t_13, t_15, t_16, t_20, t_21, t_22, t_32, t_40, t_41, t_48, t_49, t_57, t_59, t_60, t_63, t_72, t_76, t_88, t_100, t_144, t_200, t_255, t_288, t_400, t_800, t_999, t_1000, t_1024, t_1200, t_1600, t_3200, t_100000, t_200000, t_252645135, t_858993459, t_1431655765, u_m1000002, u_m1000001, u_m1000, u_m3, u_m1, u_0, u_1, u_2, u_3, u_4, u_5, u_7, u_8, u_10, u_11, u_15, u_60, u_100, u_255, u_999, u_1000, u_100000, u_4294967295] at hc19)
      refine g_ldc dX7_as_22 kc_X7_94 ?_
      refine g_iret dX7_as_24 rfl (rfl) (hQ _ _ ?_)
      have e : opAs w st t k = _ := if_pos (by omega)
      rw [e]; exact ⟨rfl, hg0, h2, fr_rf⟩
theorem m_as {w : TS} {st : Int32} (hw : w.1 ≤ 10) {h : HH} (hg : GTM w h) (t k : Int32) (h2 : gF h 44 1 = .int st) : CT mX8_as 2 0 0 [.ref 44, .int t, .int k] h (fun r h' => r = some (.int (opAs w st t k).1) ∧ GTM w h' ∧ gF h' 44 1 = .int (opAs w st t k).2 ∧ Fr [] [(44, 0), (44, 1)] h h') := by
  have hg0 := hg
  have hs : TsM (sF (sF h 44 0 (.int 0)) 44 1 (.int 0)) w.1 w.2.1 w.2.2.1 w.2.2.2.1 w.2.2.2.2.1 w.2.2.2.2.2.1 w.2.2.2.2.2.2 := hg
  obtain ⟨e1, e2, e3, e4, e5, e6, e7, e8, e9, e10, e11, e12, e13, e14⟩ := hg
  refine CT.go [.ref 44, .int t, .int k, hU] (by decide +kernel) rfl rfl (fun Q' hQ => ?_)
  refine g_aload_n (i := 0) dX8_as_0 rfl rfl ?_
  refine g_iconst (v := 0) dX8_as_1 (by decide) ?_
  refine g_put dX8_as_2 pl_X8_107 (by repeat' (first | assumption | exact rF_eq | refine rF_ne (by decide) ?_ | refine rF_a ?_ | exact rA_eq | refine rA_ne (by decide) ?_ | refine rA_f ?_)) (fun _ => ⟨rfl, rfl⟩) ?_
  refine g_aload_n (i := 0) dX8_as_5 rfl rfl ?_
  refine g_iload_n (i := 1) dX8_as_6 rfl rfl ?_
  refine g_callV (M' := mX8_isTest) dX8_as_7 lc_X8_isTest ml_X8_204 (c_isTest (h := sF h 44 0 (.int 0)) e1 e2 hw t) rfl rfl (by repeat' (first | assumption | exact rF_eq | refine rF_ne (by decide) ?_ | refine rF_a ?_ | exact rA_eq | refine rA_ne (by decide) ?_ | refine rA_f ?_)) rfl ⟨Nat.le_of_ble_eq_true rfl, Nat.le_of_ble_eq_true rfl, Nat.le_of_ble_eq_true rfl, Nat.le_of_ble_eq_true rfl⟩ (Nat.le_of_ble_eq_true rfl) ?_
  intro r_ h_ q_; obtain ⟨q1_, q2_⟩ := q_; have q2_ := q2_.symm; subst q1_; subst q2_
  refine g_if_eq (tgt := 25) dX8_as_10 (by decide) (fun hc10 => ?_) (fun hc10 => ?_)
  · replace hc10 := bI_0.mp hc10
    (try simp (disch := omega) only [nT, t_m1000100, t_m1000010, t_m1000003, t_m1000002, t_m1000001, t_m1000000, t_m65535, t_m1000, t_m3, t_m1, t_0, t_1, t_2, t_3, t_4, t_5, t_6, t_7, t_8, t_9, t_10, t_11, t_12, t_13, t_15, t_16, t_20, t_21, t_22, t_32, t_40, t_41, t_48, t_49, t_57, t_59, t_60, t_63, t_72, t_76, t_88, t_100, t_144, t_200, t_255, t_288, t_400, t_800, t_999, t_1000, t_1024, t_1200, t_1600, t_3200, t_100000, t_200000, t_252645135, t_858993459, t_1431655765, u_m1000002, u_m1000001, u_m1000, u_m3, u_m1, u_0, u_1, u_2, u_3, u_4, u_5, u_7, u_8, u_10, u_11, u_15, u_60, u_100, u_255, u_999, u_1000, u_100000, u_4294967295] at hc10)
    refine g_ldc dX8_as_25 kc_X8_126 ?_
    refine g_iret dX8_as_27 rfl (rfl) (hQ _ _ ?_)
    have e : opAs w st t k = _ := if_pos (by omega)
    rw [e]; exact ⟨rfl, hg0, h2, fr_sF (by decide) fr_rf⟩
  · replace hc10 := bI_n0.mp hc10
    (try simp (disch := omega) only [nT, t_m1000100, t_m1000010, t_m1000003, t_m1000002, t_m1000001, t_m1000000, t_m65535, t_m1000, t_m3, t_m1, t_0, t_1, t_2, t_3, t_4, t_5, t_6, t_7, t_8, t_9, t_10, t_11, t_12, t_13, t_15, t_16, t_20, t_21, t_22, t_32, t_40, t_41, t_48, t_49, t_57, t_59, t_60, t_63, t_72, t_76, t_88, t_100, t_144, t_200, t_255, t_288, t_400, t_800, t_999, t_1000, t_1024, t_1200, t_1600, t_3200, t_100000, t_200000, t_252645135, t_858993459, t_1431655765, u_m1000002, u_m1000001, u_m1000, u_m3, u_m1, u_0, u_1, u_2, u_3, u_4, u_5, u_7, u_8, u_10, u_11, u_15, u_60, u_100, u_255, u_999, u_1000, u_100000, u_4294967295] at hc10)
    refine g_iload_n (i := 2) dX8_as_13 rfl rfl ?_
    refine g_i2l dX8_as_14 ?_
    refine g_lconst (v := 0) dX8_as_15 (by decide) ?_
    refine g_ldc2 dX8_as_16 kc_X8_210 ?_
    refine g_callS (M' := mX8_in) dX8_as_19 lc_X8_in ml_X8_116 (c_in _ k.toInt64 0 3 0 3 rfl rfl) rfl rfl ⟨Nat.le_of_ble_eq_true rfl, Nat.le_of_ble_eq_true rfl, Nat.le_of_ble_eq_true rfl, Nat.le_of_ble_eq_true rfl⟩ (Nat.le_of_ble_eq_true rfl) ?_
    intro r_ h_ q_; obtain ⟨q1_, q2_⟩ := q_; have q2_ := q2_.symm; subst q1_; subst q2_
    rw [l_i]
    refine g_if_ne (tgt := 28) dX8_as_22 (by decide) (fun hc22 => ?_) (fun hc22 => ?_)
    · replace hc22 := bI_n0.mp hc22
      (try simp (disch := omega) only [nT, t_m1000100, t_m1000010, t_m1000003, t_m1000002, t_m1000001, t_m1000000, t_m65535, t_m1000, t_m3, t_m1, t_0, t_1, t_2, t_3, t_4, t_5, t_6, t_7, t_8, t_9, t_10, t_11, t_12, t_13, t_15, t_16, t_20, t_21, t_22, t_32, t_40, t_41, t_48, t_49, t_57, t_59, t_60, t_63, t_72, t_76, t_88, t_100, t_144, t_200, t_255, t_288, t_400, t_800, t_999, t_1000, t_1024, t_1200, t_1600, t_3200, t_100000, t_200000, t_252645135, t_858993459, t_1431655765, u_m1000002, u_m1000001, u_m1000, u_m3, u_m1, u_0, u_1, u_2, u_3, u_4, u_5, u_7, u_8, u_10, u_11, u_15, u_60, u_100, u_255, u_999, u_1000, u_100000, u_4294967295] at hc22)
      have e : opAs w st t k = _ := if_neg (by omega)
      obtain ⟨b, hb, rfl, htb⟩ := n_of (n := w.1) (x := t) (by omega) (by omega)
      rw [nTN (by omega)] at e
      refine g_aload_n (i := 0) dX8_as_28 rfl rfl ?_
      refine g_iconst (v := 0) dX8_as_29 (by decide) ?_
      refine g_put dX8_as_30 pl_X8_110 (by repeat' (first | assumption | exact rF_eq | refine rF_ne (by decide) ?_ | refine rF_a ?_ | exact rA_eq | refine rA_ne (by decide) ?_ | refine rA_f ?_)) (fun _ => ⟨rfl, rfl⟩) ?_
      refine g_aload_n (i := 0) dX8_as_33 rfl rfl ?_
      refine g_iload_n (i := 1) dX8_as_34 rfl rfl ?_
      refine g_callV (M' := mX8_kindOf) dX8_as_35 lc_X8_kindOf ml_X8_207 (c_mkindOf hs (by omega)) rfl rfl (by repeat' (first | assumption | exact rF_eq | refine rF_ne (by decide) ?_ | refine rF_a ?_ | exact rA_eq | refine rA_ne (by decide) ?_ | refine rA_f ?_)) rfl ⟨Nat.le_of_ble_eq_true rfl, Nat.le_of_ble_eq_true rfl, Nat.le_of_ble_eq_true rfl, Nat.le_of_ble_eq_true rfl⟩ (Nat.le_of_ble_eq_true rfl) ?_
      intro r_ h_ q_; obtain ⟨q1_, q2_⟩ := q_; have q2_ := q2_.symm; subst q1_; subst q2_
      refine g_istore_n (i := 3) dX8_as_38 rfl (Nat.le_of_ble_eq_true rfl) rfl ?_
      refine g_iload_n (i := 2) dX8_as_39 rfl rfl ?_
      refine g_if_eq (tgt := 58) dX8_as_40 (by decide) (fun hc40 => ?_) (fun hc40 => ?_)
      · have hd40 := i_eq.mp hc40; (try simp (disch := omega) only [nT, t_m1000100, t_m1000010, t_m1000003, t_m1000002, t_m1000001, t_m1000000, t_m65535, t_m1000, t_m3, t_m1, t_0, t_1, t_2, t_3, t_4, t_5, t_6, t_7, t_8, t_9, t_10, t_11, t_12, t_13, t_15, t_16, t_20, t_21, t_22, t_32, t_40, t_41, t_48, t_49, t_57, t_59, t_60, t_63, t_72, t_76, t_88, t_100, t_144, t_200, t_255, t_288, t_400, t_800, t_999, t_1000, t_1024, t_1200, t_1600, t_3200, t_100000, t_200000, t_252645135, t_858993459, t_1431655765, u_m1000002, u_m1000001, u_m1000, u_m3, u_m1, u_0, u_1, u_2, u_3, u_4, u_5, u_7, u_8, u_10, u_11, u_15, u_60, u_100, u_255, u_999, u_1000, u_100000, u_4294967295] at hd40)
        rw [if_pos (by first | exact Or.inl hd40 | exact Or.inr (Or.inl hc45.symm) | exact Or.inr (Or.inr ⟨hd50, hd55⟩))] at e
        refine g_aload_n (i := 0) dX8_as_58 rfl rfl ?_
        refine g_get dX8_as_59 fl_X8_53 (by repeat' (first | assumption | exact rF_eq | refine rF_ne (by decide) ?_ | refine rF_a ?_ | exact rA_eq | refine rA_ne (by decide) ?_ | refine rA_f ?_)) (by repeat' (first | assumption | exact rF_eq | refine rF_ne (by decide) ?_ | refine rF_a ?_ | exact rA_eq | refine rA_ne (by decide) ?_ | refine rA_f ?_)) ?_
        refine g_iload_n (i := 1) dX8_as_62 rfl rfl ?_
        refine g_iald dX8_as_63 (by repeat' (first | assumption | exact rF_eq | refine rF_ne (by decide) ?_ | refine rF_a ?_ | exact rA_eq | refine rA_ne (by decide) ?_ | refine rA_f ?_)) (htb) (by omega) ?_
        refine g_goto (tgt := 72) dX8_as_64 (by decide) ?_
        refine g_iret dX8_as_72 rfl (rfl) (hQ _ _ ?_)
        rw [e]; exact ⟨rfl, hs, rfl, by repeat' (first | exact fr_rf | refine fr_sF (by decide) ?_)⟩
      · have hd40 := mt i_eq.mpr hc40; (try simp (disch := omega) only [nT, t_m1000100, t_m1000010, t_m1000003, t_m1000002, t_m1000001, t_m1000000, t_m65535, t_m1000, t_m3, t_m1, t_0, t_1, t_2, t_3, t_4, t_5, t_6, t_7, t_8, t_9, t_10, t_11, t_12, t_13, t_15, t_16, t_20, t_21, t_22, t_32, t_40, t_41, t_48, t_49, t_57, t_59, t_60, t_63, t_72, t_76, t_88, t_100, t_144, t_200, t_255, t_288, t_400, t_800, t_999, t_1000, t_1024, t_1200, t_1600, t_3200, t_100000, t_200000, t_252645135, t_858993459, t_1431655765, u_m1000002, u_m1000001, u_m1000, u_m3, u_m1, u_0, u_1, u_2, u_3, u_4, u_5, u_7, u_8, u_10, u_11, u_15, u_60, u_100, u_255, u_999, u_1000, u_100000, u_4294967295] at hd40)
        refine g_iload_n (i := 3) dX8_as_43 rfl rfl ?_
        refine g_iload_n (i := 2) dX8_as_44 rfl rfl ?_
        refine g_icmp_eq (tgt := 58) dX8_as_45 (by decide) (fun hc45 => ?_) (fun hc45 => ?_)
        · have hd45 := i_eq.mp hc45; (try simp (disch := omega) only [nT, t_m1000100, t_m1000010, t_m1000003, t_m1000002, t_m1000001, t_m1000000, t_m65535, t_m1000, t_m3, t_m1, t_0, t_1, t_2, t_3, t_4, t_5, t_6, t_7, t_8, t_9, t_10, t_11, t_12, t_13, t_15, t_16, t_20, t_21, t_22, t_32, t_40, t_41, t_48, t_49, t_57, t_59, t_60, t_63, t_72, t_76, t_88, t_100, t_144, t_200, t_255, t_288, t_400, t_800, t_999, t_1000, t_1024, t_1200, t_1600, t_3200, t_100000, t_200000, t_252645135, t_858993459, t_1431655765, u_m1000002, u_m1000001, u_m1000, u_m3, u_m1, u_0, u_1, u_2, u_3, u_4, u_5, u_7, u_8, u_10, u_11, u_15, u_60, u_100, u_255, u_999, u_1000, u_100000, u_4294967295] at hd45)
          rw [if_pos (by first | exact Or.inl hd40 | exact Or.inr (Or.inl hc45.symm) | exact Or.inr (Or.inr ⟨hd50, hd55⟩))] at e
          refine g_aload_n (i := 0) dX8_as_58 rfl rfl ?_
          refine g_get dX8_as_59 fl_X8_53 (by repeat' (first | assumption | exact rF_eq | refine rF_ne (by decide) ?_ | refine rF_a ?_ | exact rA_eq | refine rA_ne (by decide) ?_ | refine rA_f ?_)) (by repeat' (first | assumption | exact rF_eq | refine rF_ne (by decide) ?_ | refine rF_a ?_ | exact rA_eq | refine rA_ne (by decide) ?_ | refine rA_f ?_)) ?_
          refine g_iload_n (i := 1) dX8_as_62 rfl rfl ?_
          refine g_iald dX8_as_63 (by repeat' (first | assumption | exact rF_eq | refine rF_ne (by decide) ?_ | refine rF_a ?_ | exact rA_eq | refine rA_ne (by decide) ?_ | refine rA_f ?_)) (htb) (by omega) ?_
          refine g_goto (tgt := 72) dX8_as_64 (by decide) ?_
          refine g_iret dX8_as_72 rfl (rfl) (hQ _ _ ?_)
          rw [e]; exact ⟨rfl, hs, rfl, by repeat' (first | exact fr_rf | refine fr_sF (by decide) ?_)⟩
        · have hd45 := mt i_eq.mpr hc45; (try simp (disch := omega) only [nT, t_m1000100, t_m1000010, t_m1000003, t_m1000002, t_m1000001, t_m1000000, t_m65535, t_m1000, t_m3, t_m1, t_0, t_1, t_2, t_3, t_4, t_5, t_6, t_7, t_8, t_9, t_10, t_11, t_12, t_13, t_15, t_16, t_20, t_21, t_22, t_32, t_40, t_41, t_48, t_49, t_57, t_59, t_60, t_63, t_72, t_76, t_88, t_100, t_144, t_200, t_255, t_288, t_400, t_800, t_999, t_1000, t_1024, t_1200, t_1600, t_3200, t_100000, t_200000, t_252645135, t_858993459, t_1431655765, u_m1000002, u_m1000001, u_m1000, u_m3, u_m1, u_0, u_1, u_2, u_3, u_4, u_5, u_7, u_8, u_10, u_11, u_15, u_60, u_100, u_255, u_999, u_1000, u_100000, u_4294967295] at hd45)
          refine g_iload_n (i := 2) dX8_as_48 rfl rfl ?_
          refine g_iconst (v := 1) dX8_as_49 (by decide) ?_
          refine g_icmp_ne (tgt := 67) dX8_as_50 (by decide) (fun hc50 => ?_) (fun hc50 => ?_)
          · have hd50 := mt i_eq.mpr hc50; (try simp (disch := omega) only [nT, t_m1000100, t_m1000010, t_m1000003, t_m1000002, t_m1000001, t_m1000000, t_m65535, t_m1000, t_m3, t_m1, t_0, t_1, t_2, t_3, t_4, t_5, t_6, t_7, t_8, t_9, t_10, t_11, t_12, t_13, t_15, t_16, t_20, t_21, t_22, t_32, t_40, t_41, t_48, t_49, t_57, t_59, t_60, t_63, t_72, t_76, t_88, t_100, t_144, t_200, t_255, t_288, t_400, t_800, t_999, t_1000, t_1024, t_1200, t_1600, t_3200, t_100000, t_200000, t_252645135, t_858993459, t_1431655765, u_m1000002, u_m1000001, u_m1000, u_m3, u_m1, u_0, u_1, u_2, u_3, u_4, u_5, u_7, u_8, u_10, u_11, u_15, u_60, u_100, u_255, u_999, u_1000, u_100000, u_4294967295] at hd50)
            rw [if_neg (by rintro (q | q | ⟨q1, q2⟩); exact hd40 q; exact hc45 q.symm; first | exact hd50 q1 | exact hd55 q2)] at e
            refine g_aload_n (i := 0) dX8_as_67 rfl rfl ?_
            refine g_iconst (v := 3) dX8_as_68 (by decide) ?_
            refine g_callV (M' := mX8_found) dX8_as_69 lc_X8_found ml_X8_127 (c_mfound (h := sF (sF h 44 0 (.int 0)) 44 1 (.int 0)) e1 3) rfl rfl (by repeat' (first | assumption | exact rF_eq | refine rF_ne (by decide) ?_ | refine rF_a ?_ | exact rA_eq | refine rA_ne (by decide) ?_ | refine rA_f ?_)) rfl ⟨Nat.le_of_ble_eq_true rfl, Nat.le_of_ble_eq_true rfl, Nat.le_of_ble_eq_true rfl, Nat.le_of_ble_eq_true rfl⟩ (Nat.le_of_ble_eq_true rfl) ?_
            intro r_ h_ q_; obtain ⟨q1_, q2_⟩ := q_; have q2_ := q2_.symm; subst q1_; subst q2_
            refine g_iret dX8_as_72 rfl (rfl) (hQ _ _ ?_)
            rw [e]; exact ⟨rfl, hs, rfl, by repeat' (first | exact fr_rf | refine fr_sF (by decide) ?_)⟩
          · have hd50 := i_eq.mp hc50; (try simp (disch := omega) only [nT, t_m1000100, t_m1000010, t_m1000003, t_m1000002, t_m1000001, t_m1000000, t_m65535, t_m1000, t_m3, t_m1, t_0, t_1, t_2, t_3, t_4, t_5, t_6, t_7, t_8, t_9, t_10, t_11, t_12, t_13, t_15, t_16, t_20, t_21, t_22, t_32, t_40, t_41, t_48, t_49, t_57, t_59, t_60, t_63, t_72, t_76, t_88, t_100, t_144, t_200, t_255, t_288, t_400, t_800, t_999, t_1000, t_1024, t_1200, t_1600, t_3200, t_100000, t_200000, t_252645135, t_858993459, t_1431655765, u_m1000002, u_m1000001, u_m1000, u_m3, u_m1, u_0, u_1, u_2, u_3, u_4, u_5, u_7, u_8, u_10, u_11, u_15, u_60, u_100, u_255, u_999, u_1000, u_100000, u_4294967295] at hd50)
            refine g_iload_n (i := 3) dX8_as_53 rfl rfl ?_
            refine g_iconst (v := 2) dX8_as_54 (by decide) ?_
            refine g_icmp_ne (tgt := 67) dX8_as_55 (by decide) (fun hc55 => ?_) (fun hc55 => ?_)
            · have hd55 := mt i_eq.mpr hc55; (try simp (disch := omega) only [nT, t_m1000100, t_m1000010, t_m1000003, t_m1000002, t_m1000001, t_m1000000, t_m65535, t_m1000, t_m3, t_m1, t_0, t_1, t_2, t_3, t_4, t_5, t_6, t_7, t_8, t_9, t_10, t_11, t_12, t_13, t_15, t_16, t_20, t_21, t_22, t_32, t_40, t_41, t_48, t_49, t_57, t_59, t_60, t_63, t_72, t_76, t_88, t_100, t_144, t_200, t_255, t_288, t_400, t_800, t_999, t_1000, t_1024, t_1200, t_1600, t_3200, t_100000, t_200000, t_252645135, t_858993459, t_1431655765, u_m1000002, u_m1000001, u_m1000, u_m3, u_m1, u_0, u_1, u_2, u_3, u_4, u_5, u_7, u_8, u_10, u_11, u_15, u_60, u_100, u_255, u_999, u_1000, u_100000, u_4294967295] at hd55)
              rw [if_neg (by rintro (q | q | ⟨q1, q2⟩); exact hd40 q; exact hc45 q.symm; first | exact hd50 q1 | exact hd55 q2)] at e
              refine g_aload_n (i := 0) dX8_as_67 rfl rfl ?_
              refine g_iconst (v := 3) dX8_as_68 (by decide) ?_
              refine g_callV (M' := mX8_found) dX8_as_69 lc_X8_found ml_X8_127 (c_mfound (h := sF (sF h 44 0 (.int 0)) 44 1 (.int 0)) e1 3) rfl rfl (by repeat' (first | assumption | exact rF_eq | refine rF_ne (by decide) ?_ | refine rF_a ?_ | exact rA_eq | refine rA_ne (by decide) ?_ | refine rA_f ?_)) rfl ⟨Nat.le_of_ble_eq_true rfl, Nat.le_of_ble_eq_true rfl, Nat.le_of_ble_eq_true rfl, Nat.le_of_ble_eq_true rfl⟩ (Nat.le_of_ble_eq_true rfl) ?_
              intro r_ h_ q_; obtain ⟨q1_, q2_⟩ := q_; have q2_ := q2_.symm; subst q1_; subst q2_
              refine g_iret dX8_as_72 rfl (rfl) (hQ _ _ ?_)
              rw [e]; exact ⟨rfl, hs, rfl, by repeat' (first | exact fr_rf | refine fr_sF (by decide) ?_)⟩
            · have hd55 := i_eq.mp hc55; (try simp (disch := omega) only [nT, t_m1000100, t_m1000010, t_m1000003, t_m1000002, t_m1000001, t_m1000000, t_m65535, t_m1000, t_m3, t_m1, t_0, t_1, t_2, t_3, t_4, t_5, t_6, t_7, t_8, t_9, t_10, t_11, t_12, t_13, t_15, t_16, t_20, t_21, t_22, t_32, t_40, t_41, t_48, t_49, t_57, t_59, t_60, t_63, t_72, t_76, t_88, t_100, t_144, t_200, t_255, t_288, t_400, t_800, t_999, t_1000, t_1024, t_1200, t_1600, t_3200, t_100000, t_200000, t_252645135, t_858993459, t_1431655765, u_m1000002, u_m1000001, u_m1000, u_m3, u_m1, u_0, u_1, u_2, u_3, u_4, u_5, u_7, u_8, u_10, u_11, u_15, u_60, u_100, u_255, u_999, u_1000, u_100000, u_4294967295] at hd55)
              rw [if_pos (by first | exact Or.inl hd40 | exact Or.inr (Or.inl hc45.symm) | exact Or.inr (Or.inr ⟨hd50, hd55⟩))] at e
              refine g_aload_n (i := 0) dX8_as_58 rfl rfl ?_
              refine g_get dX8_as_59 fl_X8_53 (by repeat' (first | assumption | exact rF_eq | refine rF_ne (by decide) ?_ | refine rF_a ?_ | exact rA_eq | refine rA_ne (by decide) ?_ | refine rA_f ?_)) (by repeat' (first | assumption | exact rF_eq | refine rF_ne (by decide) ?_ | refine rF_a ?_ | exact rA_eq | refine rA_ne (by decide) ?_ | refine rA_f ?_)) ?_
              refine g_iload_n (i := 1) dX8_as_62 rfl rfl ?_
              refine g_iald dX8_as_63 (by repeat' (first | assumption | exact rF_eq | refine rF_ne (by decide) ?_ | refine rF_a ?_ | exact rA_eq | refine rA_ne (by decide) ?_ | refine rA_f ?_)) (htb) (by omega) ?_
              refine g_goto (tgt := 72) dX8_as_64 (by decide) ?_
              refine g_iret dX8_as_72 rfl (rfl) (hQ _ _ ?_)
              rw [e]; exact ⟨rfl, hs, rfl, by repeat' (first | exact fr_rf | refine fr_sF (by decide) ?_)⟩
    · replace hc22 := bI_0.mp hc22
      (try simp (disch := omega) only [nT, t_m1000100, t_m1000010, t_m1000003, t_m1000002, t_m1000001, t_m1000000, t_m65535, t_m1000, t_m3, t_m1, t_0, t_1, t_2, t_3, t_4, t_5, t_6, t_7, t_8, t_9, t_10, t_11, t_12, t_13, t_15, t_16, t_20, t_21, t_22, t_32, t_40, t_41, t_48, t_49, t_57, t_59, t_60, t_63, t_72, t_76, t_88, t_100, t_144, t_200, t_255, t_288, t_400, t_800, t_999, t_1000, t_1024, t_1200, t_1600, t_3200, t_100000, t_200000, t_252645135, t_858993459, t_1431655765, u_m1000002, u_m1000001, u_m1000, u_m3, u_m1, u_0, u_1, u_2, u_3, u_4, u_5, u_7, u_8, u_10, u_11, u_15, u_60, u_100, u_255, u_999, u_1000, u_100000, u_4294967295] at hc22)
      refine g_ldc dX8_as_25 kc_X8_126 ?_
      refine g_iret dX8_as_27 rfl (rfl) (hQ _ _ ?_)
      have e : opAs w st t k = _ := if_pos (by omega)
      rw [e]; exact ⟨rfl, hg0, h2, fr_sF (by decide) fr_rf⟩
def opShare (w : TS) (t f : Int32) : Int32 × TS :=
  if ¬ (0 ≤ t.toInt ∧ t.toInt < w.1) ∨ ¬ (0 ≤ f.toInt ∧ f.toInt ≤ 10) then (-1000001, w)
  else (w.2.2.2.2.2.1 t.toInt.toNat, w.1, w.2.1, w.2.2.1, w.2.2.2.1, w.2.2.2.2.1, upd w.2.2.2.2.2.1 t.toInt.toNat f, w.2.2.2.2.2.2)
theorem x_share {w : TS} (hw : w.1 ≤ 10) {h : HH} (hg : GTX w h) (t f : Int32) : CT mX7_share 1 0 0 [.ref 0, .int t, .int f] h (fun r h' => r = some (.int (opShare w t f).1) ∧ GTX (opShare w t f).2 h' ∧ Fr [32] [] h h') := by
  have hg0 := hg
  obtain ⟨⟨h0, h1⟩, hs⟩ := hg
  obtain ⟨e1, e2, e3, e4, e5, e6, e7, e8, e9, e10, e11, e12, e13, e14⟩ := id hs
  refine CT.go [.ref 0, .int t, .int f, hU] (by decide +kernel) rfl rfl (fun Q' hQ => ?_)
  refine g_iload_n (i := 1) dX7_share_0 rfl rfl ?_
  refine g_aload_n (i := 0) dX7_share_1 rfl rfl ?_
  refine g_get dX7_share_2 fl_X7_47 (by repeat' (first | assumption | exact rF_eq | refine rF_ne (by decide) ?_ | refine rF_a ?_ | exact rA_eq | refine rA_ne (by decide) ?_ | refine rA_f ?_)) (by repeat' (first | assumption | exact rF_eq | refine rF_ne (by decide) ?_ | refine rF_a ?_ | exact rA_eq | refine rA_ne (by decide) ?_ | refine rA_f ?_)) ?_
  refine g_get dX7_share_5 fl_X7_194 (by repeat' (first | assumption | exact rF_eq | refine rF_ne (by decide) ?_ | refine rF_a ?_ | exact rA_eq | refine rA_ne (by decide) ?_ | refine rA_f ?_)) (by repeat' (first | assumption | exact rF_eq | refine rF_ne (by decide) ?_ | refine rF_a ?_ | exact rA_eq | refine rA_ne (by decide) ?_ | refine rA_f ?_)) ?_
  refine g_callS (M' := mX7_isWithin) dX7_share_8 lc_X7_isWithin ml_X7_90 (c_isWithin h t (nI w.1) w.1 (nT (by omega))) rfl rfl ⟨Nat.le_of_ble_eq_true rfl, Nat.le_of_ble_eq_true rfl, Nat.le_of_ble_eq_true rfl, Nat.le_of_ble_eq_true rfl⟩ (Nat.le_of_ble_eq_true rfl) ?_
  intro r_ h_ q_; obtain ⟨q1_, q2_⟩ := q_; have q2_ := q2_.symm; subst q1_; subst q2_
  refine g_if_eq (tgt := 24) dX7_share_11 (by decide) (fun hc11 => ?_) (fun hc11 => ?_)
  · replace hc11 := bI_0.mp hc11
    (try simp (disch := omega) only [nT, t_m1000100, t_m1000010, t_m1000003, t_m1000002, t_m1000001, t_m1000000, t_m65535, t_m1000, t_m3, t_m1, t_0, t_1, t_2, t_3, t_4, t_5, t_6, t_7, t_8, t_9, t_10, t_11, t_12, t_13, t_15, t_16, t_20, t_21, t_22, t_32, t_40, t_41, t_48, t_49, t_57, t_59, t_60, t_63, t_72, t_76, t_88, t_100, t_144, t_200, t_255, t_288, t_400, t_800, t_999, t_1000, t_1024, t_1200, t_1600, t_3200, t_100000, t_200000, t_252645135, t_858993459, t_1431655765, u_m1000002, u_m1000001, u_m1000, u_m3, u_m1, u_0, u_1, u_2, u_3, u_4, u_5, u_7, u_8, u_10, u_11, u_15, u_60, u_100, u_255, u_999, u_1000, u_100000, u_4294967295] at hc11)
    refine g_ldc dX7_share_24 kc_X7_94 ?_
    refine g_iret dX7_share_26 rfl (rfl) (hQ _ _ ?_)
    have e : opShare w t f = _ := if_pos (by omega)
    rw [e]; exact ⟨rfl, hg0, fr_rf⟩
  · replace hc11 := bI_n0.mp hc11
    (try simp (disch := omega) only [nT, t_m1000100, t_m1000010, t_m1000003, t_m1000002, t_m1000001, t_m1000000, t_m65535, t_m1000, t_m3, t_m1, t_0, t_1, t_2, t_3, t_4, t_5, t_6, t_7, t_8, t_9, t_10, t_11, t_12, t_13, t_15, t_16, t_20, t_21, t_22, t_32, t_40, t_41, t_48, t_49, t_57, t_59, t_60, t_63, t_72, t_76, t_88, t_100, t_144, t_200, t_255, t_288, t_400, t_800, t_999, t_1000, t_1024, t_1200, t_1600, t_3200, t_100000, t_200000, t_252645135, t_858993459, t_1431655765, u_m1000002, u_m1000001, u_m1000, u_m3, u_m1, u_0, u_1, u_2, u_3, u_4, u_5, u_7, u_8, u_10, u_11, u_15, u_60, u_100, u_255, u_999, u_1000, u_100000, u_4294967295] at hc11)
    refine g_iload_n (i := 2) dX7_share_14 rfl rfl ?_
    refine g_if_lt (tgt := 24) dX7_share_15 (by decide) (fun hc15 => ?_) (fun hc15 => ?_)
    · (try simp (disch := omega) only [nT, t_m1000100, t_m1000010, t_m1000003, t_m1000002, t_m1000001, t_m1000000, t_m65535, t_m1000, t_m3, t_m1, t_0, t_1, t_2, t_3, t_4, t_5, t_6, t_7, t_8, t_9, t_10, t_11, t_12, t_13, t_15, t_16, t_20, t_21, t_22, t_32, t_40, t_41, t_48, t_49, t_57, t_59, t_60, t_63, t_72, t_76, t_88, t_100, t_144, t_200, t_255, t_288, t_400, t_800, t_999, t_1000, t_1024, t_1200, t_1600, t_3200, t_100000, t_200000, t_252645135, t_858993459, t_1431655765, u_m1000002, u_m1000001, u_m1000, u_m3, u_m1, u_0, u_1, u_2, u_3, u_4, u_5, u_7, u_8, u_10, u_11, u_15, u_60, u_100, u_255, u_999, u_1000, u_100000, u_4294967295] at hc15)
      refine g_ldc dX7_share_24 kc_X7_94 ?_
      refine g_iret dX7_share_26 rfl (rfl) (hQ _ _ ?_)
      have e : opShare w t f = _ := if_pos (by omega)
      rw [e]; exact ⟨rfl, hg0, fr_rf⟩
    · (try simp (disch := omega) only [nT, t_m1000100, t_m1000010, t_m1000003, t_m1000002, t_m1000001, t_m1000000, t_m65535, t_m1000, t_m3, t_m1, t_0, t_1, t_2, t_3, t_4, t_5, t_6, t_7, t_8, t_9, t_10, t_11, t_12, t_13, t_15, t_16, t_20, t_21, t_22, t_32, t_40, t_41, t_48, t_49, t_57, t_59, t_60, t_63, t_72, t_76, t_88, t_100, t_144, t_200, t_255, t_288, t_400, t_800, t_999, t_1000, t_1024, t_1200, t_1600, t_3200, t_100000, t_200000, t_252645135, t_858993459, t_1431655765, u_m1000002, u_m1000001, u_m1000, u_m3, u_m1, u_0, u_1, u_2, u_3, u_4, u_5, u_7, u_8, u_10, u_11, u_15, u_60, u_100, u_255, u_999, u_1000, u_100000, u_4294967295] at hc15)
      refine g_iload_n (i := 2) dX7_share_18 rfl rfl ?_
      refine g_bipush (v := 10) dX7_share_19 (by decide) ?_
      refine g_icmp_le (tgt := 27) dX7_share_21 (by decide) (fun hc21 => ?_) (fun hc21 => ?_)
      · (try simp (disch := omega) only [nT, t_m1000100, t_m1000010, t_m1000003, t_m1000002, t_m1000001, t_m1000000, t_m65535, t_m1000, t_m3, t_m1, t_0, t_1, t_2, t_3, t_4, t_5, t_6, t_7, t_8, t_9, t_10, t_11, t_12, t_13, t_15, t_16, t_20, t_21, t_22, t_32, t_40, t_41, t_48, t_49, t_57, t_59, t_60, t_63, t_72, t_76, t_88, t_100, t_144, t_200, t_255, t_288, t_400, t_800, t_999, t_1000, t_1024, t_1200, t_1600, t_3200, t_100000, t_200000, t_252645135, t_858993459, t_1431655765, u_m1000002, u_m1000001, u_m1000, u_m3, u_m1, u_0, u_1, u_2, u_3, u_4, u_5, u_7, u_8, u_10, u_11, u_15, u_60, u_100, u_255, u_999, u_1000, u_100000, u_4294967295] at hc21)
        have e : opShare w t f = _ := if_neg (by omega)
        obtain ⟨b, hb, rfl, htb⟩ := n_of (n := w.1) (x := t) (by omega) (by omega)
        rw [nTN (by omega)] at e
        refine g_aload_n (i := 0) dX7_share_27 rfl rfl ?_
        refine g_get dX7_share_28 fl_X7_47 (by repeat' (first | assumption | exact rF_eq | refine rF_ne (by decide) ?_ | refine rF_a ?_ | exact rA_eq | refine rA_ne (by decide) ?_ | refine rA_f ?_)) (by repeat' (first | assumption | exact rF_eq | refine rF_ne (by decide) ?_ | refine rF_a ?_ | exact rA_eq | refine rA_ne (by decide) ?_ | refine rA_f ?_)) ?_
        refine g_get dX7_share_31 fl_X7_267 (by repeat' (first | assumption | exact rF_eq | refine rF_ne (by decide) ?_ | refine rF_a ?_ | exact rA_eq | refine rA_ne (by decide) ?_ | refine rA_f ?_)) (by repeat' (first | assumption | exact rF_eq | refine rF_ne (by decide) ?_ | refine rF_a ?_ | exact rA_eq | refine rA_ne (by decide) ?_ | refine rA_f ?_)) ?_
        refine g_iload_n (i := 1) dX7_share_34 rfl rfl ?_
        refine g_iald dX7_share_35 (by repeat' (first | assumption | exact rF_eq | refine rF_ne (by decide) ?_ | refine rF_a ?_ | exact rA_eq | refine rA_ne (by decide) ?_ | refine rA_f ?_)) (htb) (by omega) ?_
        refine g_istore_n (i := 3) dX7_share_36 rfl (Nat.le_of_ble_eq_true rfl) rfl ?_
        refine g_aload_n (i := 0) dX7_share_37 rfl rfl ?_
        refine g_get dX7_share_38 fl_X7_47 (by repeat' (first | assumption | exact rF_eq | refine rF_ne (by decide) ?_ | refine rF_a ?_ | exact rA_eq | refine rA_ne (by decide) ?_ | refine rA_f ?_)) (by repeat' (first | assumption | exact rF_eq | refine rF_ne (by decide) ?_ | refine rF_a ?_ | exact rA_eq | refine rA_ne (by decide) ?_ | refine rA_f ?_)) ?_
        refine g_get dX7_share_41 fl_X7_267 (by repeat' (first | assumption | exact rF_eq | refine rF_ne (by decide) ?_ | refine rF_a ?_ | exact rA_eq | refine rA_ne (by decide) ?_ | refine rA_f ?_)) (by repeat' (first | assumption | exact rF_eq | refine rF_ne (by decide) ?_ | refine rF_a ?_ | exact rA_eq | refine rA_ne (by decide) ?_ | refine rA_f ?_)) ?_
        refine g_iload_n (i := 1) dX7_share_44 rfl rfl ?_
        refine g_iload_n (i := 2) dX7_share_45 rfl rfl ?_
        refine g_iast dX7_share_46 (by repeat' (first | assumption | exact rF_eq | refine rF_ne (by decide) ?_ | refine rF_a ?_ | exact rA_eq | refine rA_ne (by decide) ?_ | refine rA_f ?_)) (htb) (by omega) ?_
        refine g_iload_n (i := 3) dX7_share_47 rfl rfl ?_
        refine g_iret dX7_share_48 rfl (rfl) (hQ _ _ ?_)
        rw [e]; exact ⟨rfl, ⟨⟨h0, h1⟩, e1, e2, e3, e4, e5, e6, e7, e8, e9, e10, e11, e12, rfl, e14⟩, fr_sA (by decide) fr_rf⟩
      · (try simp (disch := omega) only [nT, t_m1000100, t_m1000010, t_m1000003, t_m1000002, t_m1000001, t_m1000000, t_m65535, t_m1000, t_m3, t_m1, t_0, t_1, t_2, t_3, t_4, t_5, t_6, t_7, t_8, t_9, t_10, t_11, t_12, t_13, t_15, t_16, t_20, t_21, t_22, t_32, t_40, t_41, t_48, t_49, t_57, t_59, t_60, t_63, t_72, t_76, t_88, t_100, t_144, t_200, t_255, t_288, t_400, t_800, t_999, t_1000, t_1024, t_1200, t_1600, t_3200, t_100000, t_200000, t_252645135, t_858993459, t_1431655765, u_m1000002, u_m1000001, u_m1000, u_m3, u_m1, u_0, u_1, u_2, u_3, u_4, u_5, u_7, u_8, u_10, u_11, u_15, u_60, u_100, u_255, u_999, u_1000, u_100000, u_4294967295] at hc21)
        refine g_ldc dX7_share_24 kc_X7_94 ?_
        refine g_iret dX7_share_26 rfl (rfl) (hQ _ _ ?_)
        have e : opShare w t f = _ := if_pos (by omega)
        rw [e]; exact ⟨rfl, hg0, fr_rf⟩
theorem m_share {w : TS} (hw : w.1 ≤ 10) {h : HH} (hg : GTM w h) (t f : Int32) : CT mX8_share 2 0 0 [.ref 44, .int t, .int f] h (fun r h' => r = some (.int (opShare w t f).1) ∧ GTM (opShare w t f).2 h' ∧ Fr [61] [(44, 0)] h h') := by
  have hg0 := hg
  obtain ⟨e1, e2, e3, e4, e5, e6, e7, e8, e9, e10, e11, e12, e13, e14⟩ := hg
  refine CT.go [.ref 44, .int t, .int f, hU] (by decide +kernel) rfl rfl (fun Q' hQ => ?_)
  refine g_aload_n (i := 0) dX8_share_0 rfl rfl ?_
  refine g_iconst (v := 0) dX8_share_1 (by decide) ?_
  refine g_put dX8_share_2 pl_X8_107 (by repeat' (first | assumption | exact rF_eq | refine rF_ne (by decide) ?_ | refine rF_a ?_ | exact rA_eq | refine rA_ne (by decide) ?_ | refine rA_f ?_)) (fun _ => ⟨rfl, rfl⟩) ?_
  refine g_aload_n (i := 0) dX8_share_5 rfl rfl ?_
  refine g_iload_n (i := 1) dX8_share_6 rfl rfl ?_
  refine g_callV (M' := mX8_isTest) dX8_share_7 lc_X8_isTest ml_X8_204 (c_isTest (h := sF h 44 0 (.int 0)) e1 e2 hw t) rfl rfl (by repeat' (first | assumption | exact rF_eq | refine rF_ne (by decide) ?_ | refine rF_a ?_ | exact rA_eq | refine rA_ne (by decide) ?_ | refine rA_f ?_)) rfl ⟨Nat.le_of_ble_eq_true rfl, Nat.le_of_ble_eq_true rfl, Nat.le_of_ble_eq_true rfl, Nat.le_of_ble_eq_true rfl⟩ (Nat.le_of_ble_eq_true rfl) ?_
  intro r_ h_ q_; obtain ⟨q1_, q2_⟩ := q_; have q2_ := q2_.symm; subst q1_; subst q2_
  refine g_if_eq (tgt := 25) dX8_share_10 (by decide) (fun hc10 => ?_) (fun hc10 => ?_)
  · replace hc10 := bI_0.mp hc10
    (try simp (disch := omega) only [nT, t_m1000100, t_m1000010, t_m1000003, t_m1000002, t_m1000001, t_m1000000, t_m65535, t_m1000, t_m3, t_m1, t_0, t_1, t_2, t_3, t_4, t_5, t_6, t_7, t_8, t_9, t_10, t_11, t_12, t_13, t_15, t_16, t_20, t_21, t_22, t_32, t_40, t_41, t_48, t_49, t_57, t_59, t_60, t_63, t_72, t_76, t_88, t_100, t_144, t_200, t_255, t_288, t_400, t_800, t_999, t_1000, t_1024, t_1200, t_1600, t_3200, t_100000, t_200000, t_252645135, t_858993459, t_1431655765, u_m1000002, u_m1000001, u_m1000, u_m3, u_m1, u_0, u_1, u_2, u_3, u_4, u_5, u_7, u_8, u_10, u_11, u_15, u_60, u_100, u_255, u_999, u_1000, u_100000, u_4294967295] at hc10)
    refine g_ldc dX8_share_25 kc_X8_126 ?_
    refine g_iret dX8_share_27 rfl (rfl) (hQ _ _ ?_)
    have e : opShare w t f = _ := if_pos (by omega)
    rw [e]; exact ⟨rfl, hg0, fr_sF (by decide) fr_rf⟩
  · replace hc10 := bI_n0.mp hc10
    (try simp (disch := omega) only [nT, t_m1000100, t_m1000010, t_m1000003, t_m1000002, t_m1000001, t_m1000000, t_m65535, t_m1000, t_m3, t_m1, t_0, t_1, t_2, t_3, t_4, t_5, t_6, t_7, t_8, t_9, t_10, t_11, t_12, t_13, t_15, t_16, t_20, t_21, t_22, t_32, t_40, t_41, t_48, t_49, t_57, t_59, t_60, t_63, t_72, t_76, t_88, t_100, t_144, t_200, t_255, t_288, t_400, t_800, t_999, t_1000, t_1024, t_1200, t_1600, t_3200, t_100000, t_200000, t_252645135, t_858993459, t_1431655765, u_m1000002, u_m1000001, u_m1000, u_m3, u_m1, u_0, u_1, u_2, u_3, u_4, u_5, u_7, u_8, u_10, u_11, u_15, u_60, u_100, u_255, u_999, u_1000, u_100000, u_4294967295] at hc10)
    refine g_iload_n (i := 2) dX8_share_13 rfl rfl ?_
    refine g_i2l dX8_share_14 ?_
    refine g_lconst (v := 0) dX8_share_15 (by decide) ?_
    refine g_ldc2 dX8_share_16 kc_X8_249 ?_
    refine g_callS (M' := mX8_in) dX8_share_19 lc_X8_in ml_X8_116 (c_in _ f.toInt64 0 10 0 10 rfl rfl) rfl rfl ⟨Nat.le_of_ble_eq_true rfl, Nat.le_of_ble_eq_true rfl, Nat.le_of_ble_eq_true rfl, Nat.le_of_ble_eq_true rfl⟩ (Nat.le_of_ble_eq_true rfl) ?_
    intro r_ h_ q_; obtain ⟨q1_, q2_⟩ := q_; have q2_ := q2_.symm; subst q1_; subst q2_
    rw [l_i]
    refine g_if_ne (tgt := 28) dX8_share_22 (by decide) (fun hc22 => ?_) (fun hc22 => ?_)
    · replace hc22 := bI_n0.mp hc22
      (try simp (disch := omega) only [nT, t_m1000100, t_m1000010, t_m1000003, t_m1000002, t_m1000001, t_m1000000, t_m65535, t_m1000, t_m3, t_m1, t_0, t_1, t_2, t_3, t_4, t_5, t_6, t_7, t_8, t_9, t_10, t_11, t_12, t_13, t_15, t_16, t_20, t_21, t_22, t_32, t_40, t_41, t_48, t_49, t_57, t_59, t_60, t_63, t_72, t_76, t_88, t_100, t_144, t_200, t_255, t_288, t_400, t_800, t_999, t_1000, t_1024, t_1200, t_1600, t_3200, t_100000, t_200000, t_252645135, t_858993459, t_1431655765, u_m1000002, u_m1000001, u_m1000, u_m3, u_m1, u_0, u_1, u_2, u_3, u_4, u_5, u_7, u_8, u_10, u_11, u_15, u_60, u_100, u_255, u_999, u_1000, u_100000, u_4294967295] at hc22)
      have e : opShare w t f = _ := if_neg (by omega)
      obtain ⟨b, hb, rfl, htb⟩ := n_of (n := w.1) (x := t) (by omega) (by omega)
      rw [nTN (by omega)] at e
      refine g_aload_n (i := 0) dX8_share_28 rfl rfl ?_
      refine g_get dX8_share_29 fl_X8_59 (by repeat' (first | assumption | exact rF_eq | refine rF_ne (by decide) ?_ | refine rF_a ?_ | exact rA_eq | refine rA_ne (by decide) ?_ | refine rA_f ?_)) (by repeat' (first | assumption | exact rF_eq | refine rF_ne (by decide) ?_ | refine rF_a ?_ | exact rA_eq | refine rA_ne (by decide) ?_ | refine rA_f ?_)) ?_
      refine g_iload_n (i := 1) dX8_share_32 rfl rfl ?_
      refine g_iald dX8_share_33 (by repeat' (first | assumption | exact rF_eq | refine rF_ne (by decide) ?_ | refine rF_a ?_ | exact rA_eq | refine rA_ne (by decide) ?_ | refine rA_f ?_)) (htb) (by omega) ?_
      refine g_istore_n (i := 3) dX8_share_34 rfl (Nat.le_of_ble_eq_true rfl) rfl ?_
      refine g_aload_n (i := 0) dX8_share_35 rfl rfl ?_
      refine g_get dX8_share_36 fl_X8_59 (by repeat' (first | assumption | exact rF_eq | refine rF_ne (by decide) ?_ | refine rF_a ?_ | exact rA_eq | refine rA_ne (by decide) ?_ | refine rA_f ?_)) (by repeat' (first | assumption | exact rF_eq | refine rF_ne (by decide) ?_ | refine rF_a ?_ | exact rA_eq | refine rA_ne (by decide) ?_ | refine rA_f ?_)) ?_
      refine g_iload_n (i := 1) dX8_share_39 rfl rfl ?_
      refine g_iload_n (i := 2) dX8_share_40 rfl rfl ?_
      refine g_iast dX8_share_41 (by repeat' (first | assumption | exact rF_eq | refine rF_ne (by decide) ?_ | refine rF_a ?_ | exact rA_eq | refine rA_ne (by decide) ?_ | refine rA_f ?_)) (htb) (by omega) ?_
      refine g_iload_n (i := 3) dX8_share_42 rfl rfl ?_
      refine g_iret dX8_share_43 rfl (rfl) (hQ _ _ ?_)
      rw [e]; exact ⟨rfl, ⟨e1, e2, e3, e4, e5, e6, e7, e8, e9, e10, e11, e12, rfl, e14⟩, fr_sA (by decide) (fr_sF (by decide) fr_rf)⟩
    · replace hc22 := bI_0.mp hc22
      (try simp (disch := omega) only [nT, t_m1000100, t_m1000010, t_m1000003, t_m1000002, t_m1000001, t_m1000000, t_m65535, t_m1000, t_m3, t_m1, t_0, t_1, t_2, t_3, t_4, t_5, t_6, t_7, t_8, t_9, t_10, t_11, t_12, t_13, t_15, t_16, t_20, t_21, t_22, t_32, t_40, t_41, t_48, t_49, t_57, t_59, t_60, t_63, t_72, t_76, t_88, t_100, t_144, t_200, t_255, t_288, t_400, t_800, t_999, t_1000, t_1024, t_1200, t_1600, t_3200, t_100000, t_200000, t_252645135, t_858993459, t_1431655765, u_m1000002, u_m1000001, u_m1000, u_m3, u_m1, u_0, u_1, u_2, u_3, u_4, u_5, u_7, u_8, u_10, u_11, u_15, u_60, u_100, u_255, u_999, u_1000, u_100000, u_4294967295] at hc22)
      refine g_ldc dX8_share_25 kc_X8_126 ?_
      refine g_iret dX8_share_27 rfl (rfl) (hQ _ _ ?_)
      have e : opShare w t f = _ := if_pos (by omega)
      rw [e]; exact ⟨rfl, hg0, fr_sF (by decide) fr_rf⟩
