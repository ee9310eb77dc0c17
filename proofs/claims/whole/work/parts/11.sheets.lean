/-! the SHEETS -/
theorem c_isWithin (h : HH) (x y : Int32) (k : Int) (hy : y.toInt = k) : CT mX7_isWithin 0 0 0 [.int x, .int y] h (fun r h' => r = some (.int (bI (0 ≤ x.toInt ∧ x.toInt < k))) ∧ h' = h) := by
  subst hy
  refine CT.go [.int x, .int y] (by decide +kernel) rfl rfl (fun Q' hQ => ?_)
  refine g_iload_n (i := 0) dX7_isWithin_0 rfl rfl ?_
  refine g_if_lt (tgt := 13) dX7_isWithin_1 (by decide) (fun hc1 => ?_) (fun hc1 => ?_)
  · (try simp (disch := omega) only [nT, t_m1000100, t_m1000010, t_m1000003, t_m1000002, t_m1000001, t_m1000000, t_m65535, t_m1000, t_m3, t_m1, t_0, t_1, t_2, t_3, t_4, t_5, t_6, t_7, t_8, t_9, t_10, t_11, t_12, t_13, t_15, t_16, t_20, t_21, t_22, t_32, t_40, t_41, t_48, t_49, t_57, t_59, t_60, t_63, t_72, t_76, t_88, t_100, t_144, t_200, t_255, t_288, t_400, t_800, t_999, t_1000, t_1024, t_1200, t_1600, t_3200, t_100000, t_200000, t_252645135, t_858993459, t_1431655765, u_m1000002, u_m1000001, u_m1000, u_m3, u_m1, u_0, u_1, u_2, u_3, u_4, u_5, u_7, u_8, u_10, u_11, u_15, u_60, u_100, u_255, u_999, u_1000, u_100000, u_4294967295] at hc1)
    refine g_iconst (v := 0) dX7_isWithin_13 (by decide) ?_
    refine g_iret dX7_isWithin_14 rfl (rfl) (hQ _ _ ?_)
    refine ⟨?_, rfl⟩
    first | rw [bI_t ⟨by omega, by omega⟩] | rw [bI_f (fun q => by omega)]
  · (try simp (disch := omega) only [nT, t_m1000100, t_m1000010, t_m1000003, t_m1000002, t_m1000001, t_m1000000, t_m65535, t_m1000, t_m3, t_m1, t_0, t_1, t_2, t_3, t_4, t_5, t_6, t_7, t_8, t_9, t_10, t_11, t_12, t_13, t_15, t_16, t_20, t_21, t_22, t_32, t_40, t_41, t_48, t_49, t_57, t_59, t_60, t_63, t_72, t_76, t_88, t_100, t_144, t_200, t_255, t_288, t_400, t_800, t_999, t_1000, t_1024, t_1200, t_1600, t_3200, t_100000, t_200000, t_252645135, t_858993459, t_1431655765, u_m1000002, u_m1000001, u_m1000, u_m3, u_m1, u_0, u_1, u_2, u_3, u_4, u_5, u_7, u_8, u_10, u_11, u_15, u_60, u_100, u_255, u_999, u_1000, u_100000, u_4294967295] at hc1)
    refine g_iload_n (i := 0) dX7_isWithin_4 rfl rfl ?_
    refine g_iload_n (i := 1) dX7_isWithin_5 rfl rfl ?_
    refine g_icmp_ge (tgt := 13) dX7_isWithin_6 (by decide) (fun hc6 => ?_) (fun hc6 => ?_)
    · (try simp (disch := omega) only [nT, t_m1000100, t_m1000010, t_m1000003, t_m1000002, t_m1000001, t_m1000000, t_m65535, t_m1000, t_m3, t_m1, t_0, t_1, t_2, t_3, t_4, t_5, t_6, t_7, t_8, t_9, t_10, t_11, t_12, t_13, t_15, t_16, t_20, t_21, t_22, t_32, t_40, t_41, t_48, t_49, t_57, t_59, t_60, t_63, t_72, t_76, t_88, t_100, t_144, t_200, t_255, t_288, t_400, t_800, t_999, t_1000, t_1024, t_1200, t_1600, t_3200, t_100000, t_200000, t_252645135, t_858993459, t_1431655765, u_m1000002, u_m1000001, u_m1000, u_m3, u_m1, u_0, u_1, u_2, u_3, u_4, u_5, u_7, u_8, u_10, u_11, u_15, u_60, u_100, u_255, u_999, u_1000, u_100000, u_4294967295] at hc6)
      refine g_iconst (v := 0) dX7_isWithin_13 (by decide) ?_
      refine g_iret dX7_isWithin_14 rfl (rfl) (hQ _ _ ?_)
      refine ⟨?_, rfl⟩
      first | rw [bI_t ⟨by omega, by omega⟩] | rw [bI_f (fun q => by omega)]
    · (try simp (disch := omega) only [nT, t_m1000100, t_m1000010, t_m1000003, t_m1000002, t_m1000001, t_m1000000, t_m65535, t_m1000, t_m3, t_m1, t_0, t_1, t_2, t_3, t_4, t_5, t_6, t_7, t_8, t_9, t_10, t_11, t_12, t_13, t_15, t_16, t_20, t_21, t_22, t_32, t_40, t_41, t_48, t_49, t_57, t_59, t_60, t_63, t_72, t_76, t_88, t_100, t_144, t_200, t_255, t_288, t_400, t_800, t_999, t_1000, t_1024, t_1200, t_1600, t_3200, t_100000, t_200000, t_252645135, t_858993459, t_1431655765, u_m1000002, u_m1000001, u_m1000, u_m3, u_m1, u_0, u_1, u_2, u_3, u_4, u_5, u_7, u_8, u_10, u_11, u_15, u_60, u_100, u_255, u_999, u_1000, u_100000, u_4294967295] at hc6)
      refine g_iconst (v := 1) dX7_isWithin_9 (by decide) ?_
      refine g_goto (tgt := 14) dX7_isWithin_10 (by decide) ?_
      refine g_iret dX7_isWithin_14 rfl (rfl) (hQ _ _ ?_)
      refine ⟨?_, rfl⟩
      first | rw [bI_t ⟨by omega, by omega⟩] | rw [bI_f (fun q => by omega)]
def ShX (h : HH) (ln sz it : Nat → Int32) : Prop := gA h 1 = aO 3 ∧ gF h 1 0 = .ref 2 ∧ gF h 1 1 = .ref 3 ∧ gF h 1 2 = .ref 4 ∧ gA h 2 = aI 8 ln ∧ gA h 3 = aI 8 sz ∧ gA h 4 = aI 800 it
theorem c_indexOf (h : HH) (x y : Int32) : CT mX3_indexOf 0 0 0 [.ref 1, .int x, .int y] h (fun r h' => r = some (.int (x * 100 + y)) ∧ h' = h) := by
  refine CT.go [.ref 1, .int x, .int y] (by decide +kernel) rfl rfl (fun Q' hQ => ?_)
  refine g_iload_n (i := 1) dX3_indexOf_0 rfl rfl ?_
  refine g_bipush (v := 100) dX3_indexOf_1 (by decide) ?_
  refine g_imul dX3_indexOf_3 ?_
  refine g_iload_n (i := 2) dX3_indexOf_4 rfl rfl ?_
  refine g_iadd dX3_indexOf_5 ?_
  refine g_iret dX3_indexOf_6 rfl (rfl) (hQ _ _ ?_)
  exact ⟨rfl, rfl⟩
theorem c_isMissing {h : HH} {ln sz it : Nat → Int32} (hs : ShX h ln sz it) {x : Int32} {a : Nat} (hx : x.toInt = (a : Int)) (ha : a < 8) (hw : -1 ≤ (ln a).toInt) : CT mX3_isMissing 0 0 0 [.ref 1, .int x] h (fun r h' => r = some (.int (bI ((ln a).toInt < 0))) ∧ h' = h) := by
  obtain ⟨e1, e2, e3, e4, e5, e6, e7⟩ := hs
  refine CT.go [.ref 1, .int x] (by decide +kernel) rfl rfl (fun Q' hQ => ?_)
  refine g_aload_n (i := 0) dX3_isMissing_0 rfl rfl ?_
  refine g_get dX3_isMissing_1 fl_X3_9 (by repeat' (first | assumption | exact rF_eq | refine rF_ne (by decide) ?_ | refine rF_a ?_ | exact rA_eq | refine rA_ne (by decide) ?_ | refine rA_f ?_)) (by repeat' (first | assumption | exact rF_eq | refine rF_ne (by decide) ?_ | refine rF_a ?_ | exact rA_eq | refine rA_ne (by decide) ?_ | refine rA_f ?_)) ?_
  refine g_iload_n (i := 1) dX3_isMissing_4 rfl rfl ?_
  refine g_iald dX3_isMissing_5 (by repeat' (first | assumption | exact rF_eq | refine rF_ne (by decide) ?_ | refine rF_a ?_ | exact rA_eq | refine rA_ne (by decide) ?_ | refine rA_f ?_)) (hx) (ha) ?_
  refine g_iconst (v := (-1)) dX3_isMissing_6 (by decide) ?_
  refine g_icmp_ne (tgt := 14) dX3_isMissing_7 (by decide) (fun hc7 => ?_) (fun hc7 => ?_)
  · have hd7 := mt i_eq.mpr hc7; (try simp (disch := omega) only [nT, t_m1000100, t_m1000010, t_m1000003, t_m1000002, t_m1000001, t_m1000000, t_m65535, t_m1000, t_m3, t_m1, t_0, t_1, t_2, t_3, t_4, t_5, t_6, t_7, t_8, t_9, t_10, t_11, t_12, t_13, t_15, t_16, t_20, t_21, t_22, t_32, t_40, t_41, t_48, t_49, t_57, t_59, t_60, t_63, t_72, t_76, t_88, t_100, t_144, t_200, t_255, t_288, t_400, t_800, t_999, t_1000, t_1024, t_1200, t_1600, t_3200, t_100000, t_200000, t_252645135, t_858993459, t_1431655765, u_m1000002, u_m1000001, u_m1000, u_m3, u_m1, u_0, u_1, u_2, u_3, u_4, u_5, u_7, u_8, u_10, u_11, u_15, u_60, u_100, u_255, u_999, u_1000, u_100000, u_4294967295] at hd7)
    refine g_iconst (v := 0) dX3_isMissing_14 (by decide) ?_
    refine g_iret dX3_isMissing_15 rfl (rfl) (hQ _ _ ?_)
    refine ⟨?_, rfl⟩
    first | rw [bI_t (by omega)] | rw [bI_f (by omega)]
  · have hd7 := i_eq.mp hc7; (try simp (disch := omega) only [nT, t_m1000100, t_m1000010, t_m1000003, t_m1000002, t_m1000001, t_m1000000, t_m65535, t_m1000, t_m3, t_m1, t_0, t_1, t_2, t_3, t_4, t_5, t_6, t_7, t_8, t_9, t_10, t_11, t_12, t_13, t_15, t_16, t_20, t_21, t_22, t_32, t_40, t_41, t_48, t_49, t_57, t_59, t_60, t_63, t_72, t_76, t_88, t_100, t_144, t_200, t_255, t_288, t_400, t_800, t_999, t_1000, t_1024, t_1200, t_1600, t_3200, t_100000, t_200000, t_252645135, t_858993459, t_1431655765, u_m1000002, u_m1000001, u_m1000, u_m3, u_m1, u_0, u_1, u_2, u_3, u_4, u_5, u_7, u_8, u_10, u_11, u_15, u_60, u_100, u_255, u_999, u_1000, u_100000, u_4294967295] at hd7)
    refine g_iconst (v := 1) dX3_isMissing_10 (by decide) ?_
    refine g_goto (tgt := 15) dX3_isMissing_11 (by decide) ?_
    refine g_iret dX3_isMissing_15 rfl (rfl) (hQ _ _ ?_)
    refine ⟨?_, rfl⟩
    first | rw [bI_t (by omega)] | rw [bI_f (by omega)]
theorem c_hasItems {h : HH} {ln sz it : Nat → Int32} (hs : ShX h ln sz it) {x i n : Int32} {a : Nat} (hx : x.toInt = (a : Int)) (ha : a < 8) : CT mX3_hasItems 0 0 0 [.ref 1, .int x, .int i, .int n] h (fun r h' => r = some (.int (bI (0 ≤ i.toInt ∧ 0 ≤ n.toInt ∧ i.toInt + n.toInt ≤ (sz a).toInt))) ∧ h' = h) := by
  obtain ⟨e1, e2, e3, e4, e5, e6, e7⟩ := hs
  refine CT.go [.ref 1, .int x, .int i, .int n] (by decide +kernel) rfl rfl (fun Q' hQ => ?_)
  refine g_iload_n (i := 2) dX3_hasItems_0 rfl rfl ?_
  refine g_if_lt (tgt := 28) dX3_hasItems_1 (by decide) (fun hc1 => ?_) (fun hc1 => ?_)
  · (try simp (disch := omega) only [nT, t_m1000100, t_m1000010, t_m1000003, t_m1000002, t_m1000001, t_m1000000, t_m65535, t_m1000, t_m3, t_m1, t_0, t_1, t_2, t_3, t_4, t_5, t_6, t_7, t_8, t_9, t_10, t_11, t_12, t_13, t_15, t_16, t_20, t_21, t_22, t_32, t_40, t_41, t_48, t_49, t_57, t_59, t_60, t_63, t_72, t_76, t_88, t_100, t_144, t_200, t_255, t_288, t_400, t_800, t_999, t_1000, t_1024, t_1200, t_1600, t_3200, t_100000, t_200000, t_252645135, t_858993459, t_1431655765, u_m1000002, u_m1000001, u_m1000, u_m3, u_m1, u_0, u_1, u_2, u_3, u_4, u_5, u_7, u_8, u_10, u_11, u_15, u_60, u_100, u_255, u_999, u_1000, u_100000, u_4294967295] at hc1)
    refine g_iconst (v := 0) dX3_hasItems_28 (by decide) ?_
    refine g_iret dX3_hasItems_29 rfl (rfl) (hQ _ _ ?_)
    refine ⟨?_, rfl⟩
    first | rw [bI_t ⟨by omega, by omega, by omega⟩] | rw [bI_f (fun q => by omega)]
  · (try simp (disch := omega) only [nT, t_m1000100, t_m1000010, t_m1000003, t_m1000002, t_m1000001, t_m1000000, t_m65535, t_m1000, t_m3, t_m1, t_0, t_1, t_2, t_3, t_4, t_5, t_6, t_7, t_8, t_9, t_10, t_11, t_12, t_13, t_15, t_16, t_20, t_21, t_22, t_32, t_40, t_41, t_48, t_49, t_57, t_59, t_60, t_63, t_72, t_76, t_88, t_100, t_144, t_200, t_255, t_288, t_400, t_800, t_999, t_1000, t_1024, t_1200, t_1600, t_3200, t_100000, t_200000, t_252645135, t_858993459, t_1431655765, u_m1000002, u_m1000001, u_m1000, u_m3, u_m1, u_0, u_1, u_2, u_3, u_4, u_5, u_7, u_8, u_10, u_11, u_15, u_60, u_100, u_255, u_999, u_1000, u_100000, u_4294967295] at hc1)
    refine g_iload_n (i := 3) dX3_hasItems_4 rfl rfl ?_
    refine g_if_lt (tgt := 28) dX3_hasItems_5 (by decide) (fun hc5 => ?_) (fun hc5 => ?_)
    · (try simp (disch := omega) only [nT, t_m1000100, t_m1000010, t_m1000003, t_m1000002, t_m1000001, t_m1000000, t_m65535, t_m1000, t_m3, t_m1, t_0, t_1, t_2, t_3, t_4, t_5, t_6, t_7, t_8, t_9, t_10, t_11, t_12, t_13, t_15, t_16, t_20, t_21, t_22, t_32, t_40, t_41, t_48, t_49, t_57, t_59, t_60, t_63, t_72, t_76, t_88, t_100, t_144, t_200, t_255, t_288, t_400, t_800, t_999, t_1000, t_1024, t_1200, t_1600, t_3200, t_100000, t_200000, t_252645135, t_858993459, t_1431655765, u_m1000002, u_m1000001, u_m1000, u_m3, u_m1, u_0, u_1, u_2, u_3, u_4, u_5, u_7, u_8, u_10, u_11, u_15, u_60, u_100, u_255, u_999, u_1000, u_100000, u_4294967295] at hc5)
      refine g_iconst (v := 0) dX3_hasItems_28 (by decide) ?_
      refine g_iret dX3_hasItems_29 rfl (rfl) (hQ _ _ ?_)
      refine ⟨?_, rfl⟩
      first | rw [bI_t ⟨by omega, by omega, by omega⟩] | rw [bI_f (fun q => by omega)]
    · (try simp (disch := omega) only [nT, t_m1000100, t_m1000010, t_m1000003, t_m1000002, t_m1000001, t_m1000000, t_m65535, t_m1000, t_m3, t_m1, t_0, t_1, t_2, t_3, t_4, t_5, t_6, t_7, t_8, t_9, t_10, t_11, t_12, t_13, t_15, t_16, t_20, t_21, t_22, t_32, t_40, t_41, t_48, t_49, t_57, t_59, t_60, t_63, t_72, t_76, t_88, t_100, t_144, t_200, t_255, t_288, t_400, t_800, t_999, t_1000, t_1024, t_1200, t_1600, t_3200, t_100000, t_200000, t_252645135, t_858993459, t_1431655765, u_m1000002, u_m1000001, u_m1000, u_m3, u_m1, u_0, u_1, u_2, u_3, u_4, u_5, u_7, u_8, u_10, u_11, u_15, u_60, u_100, u_255, u_999, u_1000, u_100000, u_4294967295] at hc5)
      refine g_iload_n (i := 2) dX3_hasItems_8 rfl rfl ?_
      refine g_i2l dX3_hasItems_9 ?_
      refine g_iload_n (i := 3) dX3_hasItems_10 rfl rfl ?_
      refine g_i2l dX3_hasItems_11 ?_
      refine g_ladd dX3_hasItems_12 ?_
      refine g_aload_n (i := 0) dX3_hasItems_13 rfl rfl ?_
      refine g_get dX3_hasItems_14 fl_X3_15 (by repeat' (first | assumption | exact rF_eq | refine rF_ne (by decide) ?_ | refine rF_a ?_ | exact rA_eq | refine rA_ne (by decide) ?_ | refine rA_f ?_)) (by repeat' (first | assumption | exact rF_eq | refine rF_ne (by decide) ?_ | refine rF_a ?_ | exact rA_eq | refine rA_ne (by decide) ?_ | refine rA_f ?_)) ?_
      refine g_iload_n (i := 1) dX3_hasItems_17 rfl rfl ?_
      refine g_iald dX3_hasItems_18 (by repeat' (first | assumption | exact rF_eq | refine rF_ne (by decide) ?_ | refine rF_a ?_ | exact rA_eq | refine rA_ne (by decide) ?_ | refine rA_f ?_)) (hx) (ha) ?_
      refine g_i2l dX3_hasItems_19 ?_
      refine g_lcmp dX3_hasItems_20 ?_
      refine g_if_gt (tgt := 28) dX3_hasItems_21 (by decide) (fun hc21 => ?_) (fun hc21 => ?_)
      · replace hc21 := lc_gt.mp hc21; (try simp only [l_add32, l_i] at hc21)
        (try simp (disch := omega) only [nT, t_m1000100, t_m1000010, t_m1000003, t_m1000002, t_m1000001, t_m1000000, t_m65535, t_m1000, t_m3, t_m1, t_0, t_1, t_2, t_3, t_4, t_5, t_6, t_7, t_8, t_9, t_10, t_11, t_12, t_13, t_15, t_16, t_20, t_21, t_22, t_32, t_40, t_41, t_48, t_49, t_57, t_59, t_60, t_63, t_72, t_76, t_88, t_100, t_144, t_200, t_255, t_288, t_400, t_800, t_999, t_1000, t_1024, t_1200, t_1600, t_3200, t_100000, t_200000, t_252645135, t_858993459, t_1431655765, u_m1000002, u_m1000001, u_m1000, u_m3, u_m1, u_0, u_1, u_2, u_3, u_4, u_5, u_7, u_8, u_10, u_11, u_15, u_60, u_100, u_255, u_999, u_1000, u_100000, u_4294967295] at hc21)
        refine g_iconst (v := 0) dX3_hasItems_28 (by decide) ?_
        refine g_iret dX3_hasItems_29 rfl (rfl) (hQ _ _ ?_)
        refine ⟨?_, rfl⟩
        first | rw [bI_t ⟨by omega, by omega, by omega⟩] | rw [bI_f (fun q => by omega)]
      · replace hc21 := lc_le.mp hc21; (try simp only [l_add32, l_i] at hc21)
        (try simp (disch := omega) only [nT, t_m1000100, t_m1000010, t_m1000003, t_m1000002, t_m1000001, t_m1000000, t_m65535, t_m1000, t_m3, t_m1, t_0, t_1, t_2, t_3, t_4, t_5, t_6, t_7, t_8, t_9, t_10, t_11, t_12, t_13, t_15, t_16, t_20, t_21, t_22, t_32, t_40, t_41, t_48, t_49, t_57, t_59, t_60, t_63, t_72, t_76, t_88, t_100, t_144, t_200, t_255, t_288, t_400, t_800, t_999, t_1000, t_1024, t_1200, t_1600, t_3200, t_100000, t_200000, t_252645135, t_858993459, t_1431655765, u_m1000002, u_m1000001, u_m1000, u_m3, u_m1, u_0, u_1, u_2, u_3, u_4, u_5, u_7, u_8, u_10, u_11, u_15, u_60, u_100, u_255, u_999, u_1000, u_100000, u_4294967295] at hc21)
        refine g_iconst (v := 1) dX3_hasItems_24 (by decide) ?_
        refine g_goto (tgt := 29) dX3_hasItems_25 (by decide) ?_
        refine g_iret dX3_hasItems_29 rfl (rfl) (hQ _ _ ?_)
        refine ⟨?_, rfl⟩
        first | rw [bI_t ⟨by omega, by omega, by omega⟩] | rw [bI_f (fun q => by omega)]
theorem c_indexOfN (h : HH) (a b : Nat) : CT mX3_indexOf 0 0 0 [.ref 1, .int (nI a), .int (nI b)] h (fun r h' => r = some (.int (nI (100 * a + b))) ∧ h' = h) := (c_indexOf h (nI a) (nI b)).mono (fun r h' q => by rw [ix100] at q; exact q)
def zer (it : Nat → Int32) (b k : Nat) : Nat → Int32 := fun j => if b ≤ j ∧ j < b + k then 0 else it j
theorem zer_0 (it : Nat → Int32) (b : Nat) : zer it b 0 = it := funext fun j => if_neg (fun q => by omega)
theorem zer_s (it : Nat → Int32) (b k : Nat) : upd (zer it b k) (b + k) 0 = zer it b (k + 1) := by
  funext j
  unfold upd zer
  by_cases h1 : j = b + k
  · rw [if_pos h1, if_pos ⟨by omega, by omega⟩]
  · rw [if_neg h1]
    by_cases h2 : b ≤ j ∧ j < b + k
    · rw [if_pos h2, if_pos ⟨by omega, by omega⟩]
    · rw [if_neg h2, if_neg (fun q => by omega)]
theorem c_itemAt {h : HH} {ln sz it : Nat → Int32} (hs : ShX h ln sz it) {a b : Nat} (ha : a < 8) (hb : b < 100) : CT mX3_itemAt 1 0 0 [.ref 1, .int (nI a), .int (nI b)] h (fun r h' => r = some (.int (it (100 * a + b))) ∧ h' = h) := by
  obtain ⟨e1, e2, e3, e4, e5, e6, e7⟩ := hs
  refine CT.go [.ref 1, .int (nI a), .int (nI b)] (by decide +kernel) rfl rfl (fun Q' hQ => ?_)
  refine g_aload_n (i := 0) dX3_itemAt_0 rfl rfl ?_
  refine g_get dX3_itemAt_1 fl_X3_18 (by repeat' (first | assumption | exact rF_eq | refine rF_ne (by decide) ?_ | refine rF_a ?_ | exact rA_eq | refine rA_ne (by decide) ?_ | refine rA_f ?_)) (by repeat' (first | assumption | exact rF_eq | refine rF_ne (by decide) ?_ | refine rF_a ?_ | exact rA_eq | refine rA_ne (by decide) ?_ | refine rA_f ?_)) ?_
  refine g_aload_n (i := 0) dX3_itemAt_4 rfl rfl ?_
  refine g_iload_n (i := 1) dX3_itemAt_5 rfl rfl ?_
  refine g_iload_n (i := 2) dX3_itemAt_6 rfl rfl ?_
  refine g_callV (M' := mX3_indexOf) dX3_itemAt_7 lc_X3_indexOf ml_X3_31 (c_indexOfN h a b) rfl rfl (by repeat' (first | assumption | exact rF_eq | refine rF_ne (by decide) ?_ | refine rF_a ?_ | exact rA_eq | refine rA_ne (by decide) ?_ | refine rA_f ?_)) rfl ⟨Nat.le_of_ble_eq_true rfl, Nat.le_of_ble_eq_true rfl, Nat.le_of_ble_eq_true rfl, Nat.le_of_ble_eq_true rfl⟩ (Nat.le_of_ble_eq_true rfl) ?_
  intro r_ h_ q_; obtain ⟨q1_, q2_⟩ := q_; have q2_ := q2_.symm; subst q1_; subst q2_
  refine g_iald dX3_itemAt_10 (by repeat' (first | assumption | exact rF_eq | refine rF_ne (by decide) ?_ | refine rF_a ?_ | exact rA_eq | refine rA_ne (by decide) ?_ | refine rA_f ?_)) (nT (by omega)) (by omega) ?_
  refine g_iret dX3_itemAt_11 rfl (rfl) (hQ _ _ ?_)
  exact ⟨rfl, rfl⟩
def kept (l v : Int32) : Int32 := if l = 0 then v.toInt8.toInt32 else if l = 1 then v.toInt16.toInt32 else v
theorem c_put {h : HH} {ln sz it : Nat → Int32} (hs : ShX h ln sz it) {a b : Nat} (ha : a < 8) (hb : b < 100) (v : Int32) : CT mX3_put 1 0 0 [.ref 1, .int (nI a), .int (nI b), .int v] h (fun r h' => r = some (.int (kept (ln a) v)) ∧ h' = sA h 4 (aI 800 (upd it (100 * a + b) (kept (ln a) v)))) := by
  obtain ⟨e1, e2, e3, e4, e5, e6, e7⟩ := hs
  refine CT.go [.ref 1, .int (nI a), .int (nI b), .int v, hU] (by decide +kernel) rfl rfl (fun Q' hQ => ?_)
  refine g_iload_n (i := 3) dX3_put_0 rfl rfl ?_
  refine g_istore dX3_put_1 (Nat.le_of_ble_eq_true rfl) rfl ?_
  refine g_aload_n (i := 0) dX3_put_3 rfl rfl ?_
  refine g_get dX3_put_4 fl_X3_9 (by repeat' (first | assumption | exact rF_eq | refine rF_ne (by decide) ?_ | refine rF_a ?_ | exact rA_eq | refine rA_ne (by decide) ?_ | refine rA_f ?_)) (by repeat' (first | assumption | exact rF_eq | refine rF_ne (by decide) ?_ | refine rF_a ?_ | exact rA_eq | refine rA_ne (by decide) ?_ | refine rA_f ?_)) ?_
  refine g_iload_n (i := 1) dX3_put_7 rfl rfl ?_
  refine g_iald dX3_put_8 (by repeat' (first | assumption | exact rF_eq | refine rF_ne (by decide) ?_ | refine rF_a ?_ | exact rA_eq | refine rA_ne (by decide) ?_ | refine rA_f ?_)) (nT (by omega)) (ha) ?_
  refine g_if_ne (tgt := 19) dX3_put_9 (by decide) (fun hc9 => ?_) (fun hc9 => ?_)
  · have hd9 := mt i_eq.mpr hc9; (try simp (disch := omega) only [nT, t_m1000100, t_m1000010, t_m1000003, t_m1000002, t_m1000001, t_m1000000, t_m65535, t_m1000, t_m3, t_m1, t_0, t_1, t_2, t_3, t_4, t_5, t_6, t_7, t_8, t_9, t_10, t_11, t_12, t_13, t_15, t_16, t_20, t_21, t_22, t_32, t_40, t_41, t_48, t_49, t_57, t_59, t_60, t_63, t_72, t_76, t_88, t_100, t_144, t_200, t_255, t_288, t_400, t_800, t_999, t_1000, t_1024, t_1200, t_1600, t_3200, t_100000, t_200000, t_252645135, t_858993459, t_1431655765, u_m1000002, u_m1000001, u_m1000, u_m3, u_m1, u_0, u_1, u_2, u_3, u_4, u_5, u_7, u_8, u_10, u_11, u_15, u_60, u_100, u_255, u_999, u_1000, u_100000, u_4294967295] at hd9)
    refine g_aload_n (i := 0) dX3_put_19 rfl rfl ?_
    refine g_get dX3_put_20 fl_X3_9 (by repeat' (first | assumption | exact rF_eq | refine rF_ne (by decide) ?_ | refine rF_a ?_ | exact rA_eq | refine rA_ne (by decide) ?_ | refine rA_f ?_)) (by repeat' (first | assumption | exact rF_eq | refine rF_ne (by decide) ?_ | refine rF_a ?_ | exact rA_eq | refine rA_ne (by decide) ?_ | refine rA_f ?_)) ?_
    refine g_iload_n (i := 1) dX3_put_23 rfl rfl ?_
    refine g_iald dX3_put_24 (by repeat' (first | assumption | exact rF_eq | refine rF_ne (by decide) ?_ | refine rF_a ?_ | exact rA_eq | refine rA_ne (by decide) ?_ | refine rA_f ?_)) (nT (by omega)) (ha) ?_
    refine g_iconst (v := 1) dX3_put_25 (by decide) ?_
    refine g_icmp_ne (tgt := 33) dX3_put_26 (by decide) (fun hc26 => ?_) (fun hc26 => ?_)
    · have hd26 := mt i_eq.mpr hc26; (try simp (disch := omega) only [nT, t_m1000100, t_m1000010, t_m1000003, t_m1000002, t_m1000001, t_m1000000, t_m65535, t_m1000, t_m3, t_m1, t_0, t_1, t_2, t_3, t_4, t_5, t_6, t_7, t_8, t_9, t_10, t_11, t_12, t_13, t_15, t_16, t_20, t_21, t_22, t_32, t_40, t_41, t_48, t_49, t_57, t_59, t_60, t_63, t_72, t_76, t_88, t_100, t_144, t_200, t_255, t_288, t_400, t_800, t_999, t_1000, t_1024, t_1200, t_1600, t_3200, t_100000, t_200000, t_252645135, t_858993459, t_1431655765, u_m1000002, u_m1000001, u_m1000, u_m3, u_m1, u_0, u_1, u_2, u_3, u_4, u_5, u_7, u_8, u_10, u_11, u_15, u_60, u_100, u_255, u_999, u_1000, u_100000, u_4294967295] at hd26)
      refine g_aload_n (i := 0) dX3_put_33 rfl rfl ?_
      refine g_get dX3_put_34 fl_X3_18 (by repeat' (first | assumption | exact rF_eq | refine rF_ne (by decide) ?_ | refine rF_a ?_ | exact rA_eq | refine rA_ne (by decide) ?_ | refine rA_f ?_)) (by repeat' (first | assumption | exact rF_eq | refine rF_ne (by decide) ?_ | refine rF_a ?_ | exact rA_eq | refine rA_ne (by decide) ?_ | refine rA_f ?_)) ?_
      refine g_aload_n (i := 0) dX3_put_37 rfl rfl ?_
      refine g_iload_n (i := 1) dX3_put_38 rfl rfl ?_
      refine g_iload_n (i := 2) dX3_put_39 rfl rfl ?_
      refine g_callV (M' := mX3_indexOf) dX3_put_40 lc_X3_indexOf ml_X3_31 (c_indexOfN h a b) rfl rfl (by repeat' (first | assumption | exact rF_eq | refine rF_ne (by decide) ?_ | refine rF_a ?_ | exact rA_eq | refine rA_ne (by decide) ?_ | refine rA_f ?_)) rfl ⟨Nat.le_of_ble_eq_true rfl, Nat.le_of_ble_eq_true rfl, Nat.le_of_ble_eq_true rfl, Nat.le_of_ble_eq_true rfl⟩ (Nat.le_of_ble_eq_true rfl) ?_
      intro r_ h_ q_; obtain ⟨q1_, q2_⟩ := q_; have q2_ := q2_.symm; subst q1_; subst q2_
      refine g_iload dX3_put_43 rfl ?_
      refine g_iast dX3_put_45 (by repeat' (first | assumption | exact rF_eq | refine rF_ne (by decide) ?_ | refine rF_a ?_ | exact rA_eq | refine rA_ne (by decide) ?_ | refine rA_f ?_)) (nT (by omega)) (by omega) ?_
      refine g_iload dX3_put_46 rfl ?_
      refine g_iret dX3_put_48 rfl (rfl) (hQ _ _ ?_)
      refine (fun {w : Int32} (e : kept (ln a) v = w) => ?_ : ∀ {w : Int32}, kept (ln a) v = w → some (Value.int w) = some (.int (kept (ln a) v)) ∧ sA h 4 (aI 800 (upd it (100 * a + b) w)) = sA h 4 (aI 800 (upd it (100 * a + b) (kept (ln a) v)))) ?_
      · subst e; exact ⟨rfl, rfl⟩
      · unfold kept; simp [*]
    · have hd26 := i_eq.mp hc26; (try simp (disch := omega) only [nT, t_m1000100, t_m1000010, t_m1000003, t_m1000002, t_m1000001, t_m1000000, t_m65535, t_m1000, t_m3, t_m1, t_0, t_1, t_2, t_3, t_4, t_5, t_6, t_7, t_8, t_9, t_10, t_11, t_12, t_13, t_15, t_16, t_20, t_21, t_22, t_32, t_40, t_41, t_48, t_49, t_57, t_59, t_60, t_63, t_72, t_76, t_88, t_100, t_144, t_200, t_255, t_288, t_400, t_800, t_999, t_1000, t_1024, t_1200, t_1600, t_3200, t_100000, t_200000, t_252645135, t_858993459, t_1431655765, u_m1000002, u_m1000001, u_m1000, u_m3, u_m1, u_0, u_1, u_2, u_3, u_4, u_5, u_7, u_8, u_10, u_11, u_15, u_60, u_100, u_255, u_999, u_1000, u_100000, u_4294967295] at hd26)
      refine g_iload_n (i := 3) dX3_put_29 rfl rfl ?_
      refine g_i2s dX3_put_30 ?_
      refine g_istore dX3_put_31 (Nat.le_of_ble_eq_true rfl) rfl ?_
      refine g_aload_n (i := 0) dX3_put_33 rfl rfl ?_
      refine g_get dX3_put_34 fl_X3_18 (by repeat' (first | assumption | exact rF_eq | refine rF_ne (by decide) ?_ | refine rF_a ?_ | exact rA_eq | refine rA_ne (by decide) ?_ | refine rA_f ?_)) (by repeat' (first | assumption | exact rF_eq | refine rF_ne (by decide) ?_ | refine rF_a ?_ | exact rA_eq | refine rA_ne (by decide) ?_ | refine rA_f ?_)) ?_
      refine g_aload_n (i := 0) dX3_put_37 rfl rfl ?_
      refine g_iload_n (i := 1) dX3_put_38 rfl rfl ?_
      refine g_iload_n (i := 2) dX3_put_39 rfl rfl ?_
      refine g_callV (M' := mX3_indexOf) dX3_put_40 lc_X3_indexOf ml_X3_31 (c_indexOfN h a b) rfl rfl (by repeat' (first | assumption | exact rF_eq | refine rF_ne (by decide) ?_ | refine rF_a ?_ | exact rA_eq | refine rA_ne (by decide) ?_ | refine rA_f ?_)) rfl ⟨Nat.le_of_ble_eq_true rfl, Nat.le_of_ble_eq_true rfl, Nat.le_of_ble_eq_true rfl, Nat.le_of_ble_eq_true rfl⟩ (Nat.le_of_ble_eq_true rfl) ?_
      intro r_ h_ q_; obtain ⟨q1_, q2_⟩ := q_; have q2_ := q2_.symm; subst q1_; subst q2_
      refine g_iload dX3_put_43 rfl ?_
      refine g_iast dX3_put_45 (by repeat' (first | assumption | exact rF_eq | refine rF_ne (by decide) ?_ | refine rF_a ?_ | exact rA_eq | refine rA_ne (by decide) ?_ | refine rA_f ?_)) (nT (by omega)) (by omega) ?_
      refine g_iload dX3_put_46 rfl ?_
      refine g_iret dX3_put_48 rfl (rfl) (hQ _ _ ?_)
      refine (fun {w : Int32} (e : kept (ln a) v = w) => ?_ : ∀ {w : Int32}, kept (ln a) v = w → some (Value.int w) = some (.int (kept (ln a) v)) ∧ sA h 4 (aI 800 (upd it (100 * a + b) w)) = sA h 4 (aI 800 (upd it (100 * a + b) (kept (ln a) v)))) ?_
      · subst e; exact ⟨rfl, rfl⟩
      · unfold kept; simp [*]
  · have hd9 := i_eq.mp hc9; (try simp (disch := omega) only [nT, t_m1000100, t_m1000010, t_m1000003, t_m1000002, t_m1000001, t_m1000000, t_m65535, t_m1000, t_m3, t_m1, t_0, t_1, t_2, t_3, t_4, t_5, t_6, t_7, t_8, t_9, t_10, t_11, t_12, t_13, t_15, t_16, t_20, t_21, t_22, t_32, t_40, t_41, t_48, t_49, t_57, t_59, t_60, t_63, t_72, t_76, t_88, t_100, t_144, t_200, t_255, t_288, t_400, t_800, t_999, t_1000, t_1024, t_1200, t_1600, t_3200, t_100000, t_200000, t_252645135, t_858993459, t_1431655765, u_m1000002, u_m1000001, u_m1000, u_m3, u_m1, u_0, u_1, u_2, u_3, u_4, u_5, u_7, u_8, u_10, u_11, u_15, u_60, u_100, u_255, u_999, u_1000, u_100000, u_4294967295] at hd9)
    refine g_iload_n (i := 3) dX3_put_12 rfl rfl ?_
    refine g_i2b dX3_put_13 ?_
    refine g_istore dX3_put_14 (Nat.le_of_ble_eq_true rfl) rfl ?_
    refine g_goto (tgt := 33) dX3_put_16 (by decide) ?_
    refine g_aload_n (i := 0) dX3_put_33 rfl rfl ?_
    refine g_get dX3_put_34 fl_X3_18 (by repeat' (first | assumption | exact rF_eq | refine rF_ne (by decide) ?_ | refine rF_a ?_ | exact rA_eq | refine rA_ne (by decide) ?_ | refine rA_f ?_)) (by repeat' (first | assumption | exact rF_eq | refine rF_ne (by decide) ?_ | refine rF_a ?_ | exact rA_eq | refine rA_ne (by decide) ?_ | refine rA_f ?_)) ?_
    refine g_aload_n (i := 0) dX3_put_37 rfl rfl ?_
    refine g_iload_n (i := 1) dX3_put_38 rfl rfl ?_
    refine g_iload_n (i := 2) dX3_put_39 rfl rfl ?_
    refine g_callV (M' := mX3_indexOf) dX3_put_40 lc_X3_indexOf ml_X3_31 (c_indexOfN h a b) rfl rfl (by repeat' (first | assumption | exact rF_eq | refine rF_ne (by decide) ?_ | refine rF_a ?_ | exact rA_eq | refine rA_ne (by decide) ?_ | refine rA_f ?_)) rfl ⟨Nat.le_of_ble_eq_true rfl, Nat.le_of_ble_eq_true rfl, Nat.le_of_ble_eq_true rfl, Nat.le_of_ble_eq_true rfl⟩ (Nat.le_of_ble_eq_true rfl) ?_
    intro r_ h_ q_; obtain ⟨q1_, q2_⟩ := q_; have q2_ := q2_.symm; subst q1_; subst q2_
    refine g_iload dX3_put_43 rfl ?_
    refine g_iast dX3_put_45 (by repeat' (first | assumption | exact rF_eq | refine rF_ne (by decide) ?_ | refine rF_a ?_ | exact rA_eq | refine rA_ne (by decide) ?_ | refine rA_f ?_)) (nT (by omega)) (by omega) ?_
    refine g_iload dX3_put_46 rfl ?_
    refine g_iret dX3_put_48 rfl (rfl) (hQ _ _ ?_)
    refine (fun {w : Int32} (e : kept (ln a) v = w) => ?_ : ∀ {w : Int32}, kept (ln a) v = w → some (Value.int w) = some (.int (kept (ln a) v)) ∧ sA h 4 (aI 800 (upd it (100 * a + b) w)) = sA h 4 (aI 800 (upd it (100 * a + b) (kept (ln a) v)))) ?_
    · subst e; exact ⟨rfl, rfl⟩
    · unfold kept; simp [*]
theorem l_lay {h : HH} {ln sz it : Nat → Int32} (hs : ShX h ln sz it) {a N : Nat} (ha : a < 8) (hN : N ≤ 100) (l : Int32) {Q' : Option Value → HH → Prop} (hQ : Q' none (sA h 4 (aI 800 (zer it (100 * a) N)))) : ∀ n k : Nat, k + n = N → GG (EM mX3_lay 1 0 0 Q') 0 0 17 [.ref 1, .int (nI a), .int l, .int (nI N), .int (nI k)] [] (sA h 4 (aI 800 (zer it (100 * a) k))) := by
  obtain ⟨e1, e2, e3, e4, e5, e6, e7⟩ := hs
  intro n
  induction n with
  | zero =>
    intro k hk
    obtain rfl : k = N := by omega
    refine g_iload dX3_lay_17 rfl ?_
    refine g_iload_n (i := 3) dX3_lay_19 rfl rfl ?_
    refine g_icmp_ge (tgt := 42) dX3_lay_20 (by decide) (fun _ => ?_) (fun hc => absurd hc (by omega))
    exact g_vret dX3_lay_42 rfl hQ
  | succ n ih =>
    intro k hk
    refine g_iload dX3_lay_17 rfl ?_
    refine g_iload_n (i := 3) dX3_lay_19 rfl rfl ?_
    refine g_icmp_ge (tgt := 42) dX3_lay_20 (by decide) (fun hc20 => ?_) (fun hc20 => ?_)
    · (try simp (disch := omega) only [nT, t_m1000100, t_m1000010, t_m1000003, t_m1000002, t_m1000001, t_m1000000, t_m65535, t_m1000, t_m3, t_m1, t_0, t_1, t_2, t_3, t_4, t_5, t_6, t_7, t_8, t_9, t_10, t_11, t_12, t_13, t_15, t_16, t_20, t_21, t_22, t_32, t_40, t_41, t_48, t_49, t_57, t_59, t_60, t_63, t_72, t_76, t_88, t_100, t_144, t_200, t_255, t_288, t_400, t_800, t_999, t_1000, t_1024, t_1200, t_1600, t_3200, t_100000, t_200000, t_252645135, t_858993459, t_1431655765, u_m1000002, u_m1000001, u_m1000, u_m3, u_m1, u_0, u_1, u_2, u_3, u_4, u_5, u_7, u_8, u_10, u_11, u_15, u_60, u_100, u_255, u_999, u_1000, u_100000, u_4294967295] at hc20); omega
    · (try simp (disch := omega) only [nT, t_m1000100, t_m1000010, t_m1000003, t_m1000002, t_m1000001, t_m1000000, t_m65535, t_m1000, t_m3, t_m1, t_0, t_1, t_2, t_3, t_4, t_5, t_6, t_7, t_8, t_9, t_10, t_11, t_12, t_13, t_15, t_16, t_20, t_21, t_22, t_32, t_40, t_41, t_48, t_49, t_57, t_59, t_60, t_63, t_72, t_76, t_88, t_100, t_144, t_200, t_255, t_288, t_400, t_800, t_999, t_1000, t_1024, t_1200, t_1600, t_3200, t_100000, t_200000, t_252645135, t_858993459, t_1431655765, u_m1000002, u_m1000001, u_m1000, u_m3, u_m1, u_0, u_1, u_2, u_3, u_4, u_5, u_7, u_8, u_10, u_11, u_15, u_60, u_100, u_255, u_999, u_1000, u_100000, u_4294967295] at hc20)
      refine g_aload_n (i := 0) dX3_lay_23 rfl rfl ?_
      refine g_get dX3_lay_24 fl_X3_18 (by repeat' (first | assumption | exact rF_eq | refine rF_ne (by decide) ?_ | refine rF_a ?_ | exact rA_eq | refine rA_ne (by decide) ?_ | refine rA_f ?_)) (by repeat' (first | assumption | exact rF_eq | refine rF_ne (by decide) ?_ | refine rF_a ?_ | exact rA_eq | refine rA_ne (by decide) ?_ | refine rA_f ?_)) ?_
      refine g_aload_n (i := 0) dX3_lay_27 rfl rfl ?_
      refine g_iload_n (i := 1) dX3_lay_28 rfl rfl ?_
      refine g_iload dX3_lay_29 rfl ?_
      refine g_callV (M' := mX3_indexOf) dX3_lay_31 lc_X3_indexOf ml_X3_31 (c_indexOfN _ a k) rfl rfl (by repeat' (first | assumption | exact rF_eq | refine rF_ne (by decide) ?_ | refine rF_a ?_ | exact rA_eq | refine rA_ne (by decide) ?_ | refine rA_f ?_)) rfl ⟨Nat.le_of_ble_eq_true rfl, Nat.le_of_ble_eq_true rfl, Nat.le_of_ble_eq_true rfl, Nat.le_of_ble_eq_true rfl⟩ (Nat.le_of_ble_eq_true rfl) ?_
      intro r_ h_ q_; obtain ⟨q1_, q2_⟩ := q_; have q2_ := q2_.symm; subst q1_; subst q2_
      refine g_iconst (v := 0) dX3_lay_34 (by decide) ?_
      refine g_iast dX3_lay_35 (by repeat' (first | assumption | exact rF_eq | refine rF_ne (by decide) ?_ | refine rF_a ?_ | exact rA_eq | refine rA_ne (by decide) ?_ | refine rA_f ?_)) (nT (by omega)) (by omega) ?_
      refine g_iinc dX3_lay_36 rfl (Nat.le_of_ble_eq_true rfl) rfl ?_
      refine g_goto (tgt := 17) dX3_lay_39 (by decide) ?_
      rw [sA_sA, zer_s, ni_incO]
      exact ih (k + 1) (by omega)
theorem c_lay {h : HH} {ln sz it : Nat → Int32} (hs : ShX h ln sz it) {a N : Nat} (ha : a < 8) (hN : N ≤ 100) (l : Int32) : CT mX3_lay 1 0 0 [.ref 1, .int (nI a), .int l, .int (nI N)] h (fun r h' => r = none ∧ h' = sA (sA (sA h 2 (aI 8 (upd ln a l))) 3 (aI 8 (upd sz a (nI N)))) 4 (aI 800 (zer it (100 * a) N))) := by
  have hs0 := hs
  obtain ⟨e1, e2, e3, e4, e5, e6, e7⟩ := hs
  refine CT.go [.ref 1, .int (nI a), .int l, .int (nI N), hU] (by decide +kernel) rfl rfl (fun Q' hQ => ?_)
  refine g_aload_n (i := 0) dX3_lay_0 rfl rfl ?_
  refine g_get dX3_lay_1 fl_X3_9 (by repeat' (first | assumption | exact rF_eq | refine rF_ne (by decide) ?_ | refine rF_a ?_ | exact rA_eq | refine rA_ne (by decide) ?_ | refine rA_f ?_)) (by repeat' (first | assumption | exact rF_eq | refine rF_ne (by decide) ?_ | refine rF_a ?_ | exact rA_eq | refine rA_ne (by decide) ?_ | refine rA_f ?_)) ?_
  refine g_iload_n (i := 1) dX3_lay_4 rfl rfl ?_
  refine g_iload_n (i := 2) dX3_lay_5 rfl rfl ?_
  refine g_iast dX3_lay_6 (by repeat' (first | assumption | exact rF_eq | refine rF_ne (by decide) ?_ | refine rF_a ?_ | exact rA_eq | refine rA_ne (by decide) ?_ | refine rA_f ?_)) (nT (by omega)) (ha) ?_
  refine g_aload_n (i := 0) dX3_lay_7 rfl rfl ?_
  refine g_get dX3_lay_8 fl_X3_15 (by repeat' (first | assumption | exact rF_eq | refine rF_ne (by decide) ?_ | refine rF_a ?_ | exact rA_eq | refine rA_ne (by decide) ?_ | refine rA_f ?_)) (by repeat' (first | assumption | exact rF_eq | refine rF_ne (by decide) ?_ | refine rF_a ?_ | exact rA_eq | refine rA_ne (by decide) ?_ | refine rA_f ?_)) ?_
  refine g_iload_n (i := 1) dX3_lay_11 rfl rfl ?_
  refine g_iload_n (i := 3) dX3_lay_12 rfl rfl ?_
  refine g_iast dX3_lay_13 (by repeat' (first | assumption | exact rF_eq | refine rF_ne (by decide) ?_ | refine rF_a ?_ | exact rA_eq | refine rA_ne (by decide) ?_ | refine rA_f ?_)) (nT (by omega)) (ha) ?_
  refine g_iconst (v := 0) dX3_lay_14 (by decide) ?_
  refine g_istore dX3_lay_15 (Nat.le_of_ble_eq_true rfl) rfl ?_
  have key := l_lay (h := sA (sA h 2 (aI 8 (upd ln a l))) 3 (aI 8 (upd sz a (nI N)))) (ln := upd ln a l) (sz := upd sz a (nI N)) (it := it) ⟨e1, e2, e3, e4, rfl, rfl, e7⟩ ha hN l (hQ _ _ ⟨rfl, rfl⟩) N 0 (by omega)
  rw [zer_0, sA_self (show gA (sA (sA h 2 (aI 8 (upd ln a l))) 3 (aI 8 (upd sz a (nI N)))) 4 = aI 800 it from e7)] at key
  exact key
def pres (ln : Nat → Int32) : Nat → Nat
  | 0 => 0
  | k + 1 => pres ln k + (if (ln k).toInt < 0 then 0 else 1)
theorem pres_le (ln : Nat → Int32) : ∀ k, pres ln k ≤ k
  | 0 => Nat.le_refl 0
  | k + 1 => by have := pres_le ln k; unfold pres; split <;> omega
theorem c_present {h : HH} {ln sz it : Nat → Int32} (hs : ShX h ln sz it) (hw : ∀ a, a < 8 → -1 ≤ (ln a).toInt) : CT mX3_present 1 0 0 [.ref 1] h (fun r h' => r = some (.int (nI (pres ln 8))) ∧ h' = h) := by
  have hs0 := hs
  obtain ⟨e1, e2, e3, e4, e5, e6, e7⟩ := hs
  refine CT.go [.ref 1, hU, hU] (by decide +kernel) rfl rfl (fun Q' hQ => ?_)
  have key : ∀ n k : Nat, k + n = 8 → GG (EM mX3_present 1 0 0 Q') 0 0 4 [.ref 1, .int (nI (pres ln k)), .int (nI k)] [] h := by
    intro n
    induction n with
    | zero =>
      intro k hk
      obtain rfl : k = 8 := by omega
      refine g_iload_n (i := 2) dX3_present_4 rfl rfl ?_
      refine g_bipush (v := 8) dX3_present_5 (by decide) ?_
      refine g_icmp_ge (tgt := 27) dX3_present_7 (by decide) (fun hc7 => ?_) (fun hc7 => ?_)
      · (try simp (disch := omega) only [nT, t_m1000100, t_m1000010, t_m1000003, t_m1000002, t_m1000001, t_m1000000, t_m65535, t_m1000, t_m3, t_m1, t_0, t_1, t_2, t_3, t_4, t_5, t_6, t_7, t_8, t_9, t_10, t_11, t_12, t_13, t_15, t_16, t_20, t_21, t_22, t_32, t_40, t_41, t_48, t_49, t_57, t_59, t_60, t_63, t_72, t_76, t_88, t_100, t_144, t_200, t_255, t_288, t_400, t_800, t_999, t_1000, t_1024, t_1200, t_1600, t_3200, t_100000, t_200000, t_252645135, t_858993459, t_1431655765, u_m1000002, u_m1000001, u_m1000, u_m3, u_m1, u_0, u_1, u_2, u_3, u_4, u_5, u_7, u_8, u_10, u_11, u_15, u_60, u_100, u_255, u_999, u_1000, u_100000, u_4294967295] at hc7)
        refine g_iload_n (i := 1) dX3_present_27 rfl rfl ?_
        refine g_iret dX3_present_28 rfl (rfl) (hQ _ _ ?_)
        exact ⟨rfl, rfl⟩
      · (try simp (disch := omega) only [nT, t_m1000100, t_m1000010, t_m1000003, t_m1000002, t_m1000001, t_m1000000, t_m65535, t_m1000, t_m3, t_m1, t_0, t_1, t_2, t_3, t_4, t_5, t_6, t_7, t_8, t_9, t_10, t_11, t_12, t_13, t_15, t_16, t_20, t_21, t_22, t_32, t_40, t_41, t_48, t_49, t_57, t_59, t_60, t_63, t_72, t_76, t_88, t_100, t_144, t_200, t_255, t_288, t_400, t_800, t_999, t_1000, t_1024, t_1200, t_1600, t_3200, t_100000, t_200000, t_252645135, t_858993459, t_1431655765, u_m1000002, u_m1000001, u_m1000, u_m3, u_m1, u_0, u_1, u_2, u_3, u_4, u_5, u_7, u_8, u_10, u_11, u_15, u_60, u_100, u_255, u_999, u_1000, u_100000, u_4294967295] at hc7); omega
    | succ n ih =>
      intro k hk
      have hp := pres_le ln k
      refine g_iload_n (i := 2) dX3_present_4 rfl rfl ?_
      refine g_bipush (v := 8) dX3_present_5 (by decide) ?_
      refine g_icmp_ge (tgt := 27) dX3_present_7 (by decide) (fun hc7 => ?_) (fun hc7 => ?_)
      · (try simp (disch := omega) only [nT, t_m1000100, t_m1000010, t_m1000003, t_m1000002, t_m1000001, t_m1000000, t_m65535, t_m1000, t_m3, t_m1, t_0, t_1, t_2, t_3, t_4, t_5, t_6, t_7, t_8, t_9, t_10, t_11, t_12, t_13, t_15, t_16, t_20, t_21, t_22, t_32, t_40, t_41, t_48, t_49, t_57, t_59, t_60, t_63, t_72, t_76, t_88, t_100, t_144, t_200, t_255, t_288, t_400, t_800, t_999, t_1000, t_1024, t_1200, t_1600, t_3200, t_100000, t_200000, t_252645135, t_858993459, t_1431655765, u_m1000002, u_m1000001, u_m1000, u_m3, u_m1, u_0, u_1, u_2, u_3, u_4, u_5, u_7, u_8, u_10, u_11, u_15, u_60, u_100, u_255, u_999, u_1000, u_100000, u_4294967295] at hc7); omega
      · (try simp (disch := omega) only [nT, t_m1000100, t_m1000010, t_m1000003, t_m1000002, t_m1000001, t_m1000000, t_m65535, t_m1000, t_m3, t_m1, t_0, t_1, t_2, t_3, t_4, t_5, t_6, t_7, t_8, t_9, t_10, t_11, t_12, t_13, t_15, t_16, t_20, t_21, t_22, t_32, t_40, t_41, t_48, t_49, t_57, t_59, t_60, t_63, t_72, t_76, t_88, t_100, t_144, t_200, t_255, t_288, t_400, t_800, t_999, t_1000, t_1024, t_1200, t_1600, t_3200, t_100000, t_200000, t_252645135, t_858993459, t_1431655765, u_m1000002, u_m1000001, u_m1000, u_m3, u_m1, u_0, u_1, u_2, u_3, u_4, u_5, u_7, u_8, u_10, u_11, u_15, u_60, u_100, u_255, u_999, u_1000, u_100000, u_4294967295] at hc7)
        refine g_aload_n (i := 0) dX3_present_10 rfl rfl ?_
        refine g_iload_n (i := 2) dX3_present_11 rfl rfl ?_
        refine g_callV (M' := mX3_isMissing) dX3_present_12 lc_X3_isMissing ml_X3_27 (c_isMissing hs0 (nT (by omega)) (by omega : k < 8) (hw k (by omega))) rfl rfl (by repeat' (first | assumption | exact rF_eq | refine rF_ne (by decide) ?_ | refine rF_a ?_ | exact rA_eq | refine rA_ne (by decide) ?_ | refine rA_f ?_)) rfl ⟨Nat.le_of_ble_eq_true rfl, Nat.le_of_ble_eq_true rfl, Nat.le_of_ble_eq_true rfl, Nat.le_of_ble_eq_true rfl⟩ (Nat.le_of_ble_eq_true rfl) ?_
        intro r_ h_ q_; obtain ⟨q1_, q2_⟩ := q_; have q2_ := q2_.symm; subst q1_; subst q2_
        refine g_if_ne (tgt := 21) dX3_present_15 (by decide) (fun hc15 => ?_) (fun hc15 => ?_)
        · replace hc15 := bI_n0.mp hc15
          (try simp (disch := omega) only [nT, t_m1000100, t_m1000010, t_m1000003, t_m1000002, t_m1000001, t_m1000000, t_m65535, t_m1000, t_m3, t_m1, t_0, t_1, t_2, t_3, t_4, t_5, t_6, t_7, t_8, t_9, t_10, t_11, t_12, t_13, t_15, t_16, t_20, t_21, t_22, t_32, t_40, t_41, t_48, t_49, t_57, t_59, t_60, t_63, t_72, t_76, t_88, t_100, t_144, t_200, t_255, t_288, t_400, t_800, t_999, t_1000, t_1024, t_1200, t_1600, t_3200, t_100000, t_200000, t_252645135, t_858993459, t_1431655765, u_m1000002, u_m1000001, u_m1000, u_m3, u_m1, u_0, u_1, u_2, u_3, u_4, u_5, u_7, u_8, u_10, u_11, u_15, u_60, u_100, u_255, u_999, u_1000, u_100000, u_4294967295] at hc15)
          refine g_iinc dX3_present_21 rfl (Nat.le_of_ble_eq_true rfl) rfl ?_
          refine g_goto (tgt := 4) dX3_present_24 (by decide) ?_
          have ih1 := ih (k + 1) (by omega)
          unfold pres at ih1
          first | rw [if_pos (by assumption)] at ih1 | rw [if_neg (by assumption)] at ih1
          rw [ni_incO]
          try rw [ni_incO]
          exact ih1
        · replace hc15 := bI_0.mp hc15
          (try simp (disch := omega) only [nT, t_m1000100, t_m1000010, t_m1000003, t_m1000002, t_m1000001, t_m1000000, t_m65535, t_m1000, t_m3, t_m1, t_0, t_1, t_2, t_3, t_4, t_5, t_6, t_7, t_8, t_9, t_10, t_11, t_12, t_13, t_15, t_16, t_20, t_21, t_22, t_32, t_40, t_41, t_48, t_49, t_57, t_59, t_60, t_63, t_72, t_76, t_88, t_100, t_144, t_200, t_255, t_288, t_400, t_800, t_999, t_1000, t_1024, t_1200, t_1600, t_3200, t_100000, t_200000, t_252645135, t_858993459, t_1431655765, u_m1000002, u_m1000001, u_m1000, u_m3, u_m1, u_0, u_1, u_2, u_3, u_4, u_5, u_7, u_8, u_10, u_11, u_15, u_60, u_100, u_255, u_999, u_1000, u_100000, u_4294967295] at hc15)
          refine g_iinc dX3_present_18 rfl (Nat.le_of_ble_eq_true rfl) rfl ?_
          refine g_iinc dX3_present_21 rfl (Nat.le_of_ble_eq_true rfl) rfl ?_
          refine g_goto (tgt := 4) dX3_present_24 (by decide) ?_
          have ih1 := ih (k + 1) (by omega)
          unfold pres at ih1
          first | rw [if_pos (by assumption)] at ih1 | rw [if_neg (by assumption)] at ih1
          rw [ni_incO]
          try rw [ni_incO]
          exact ih1
  refine g_iconst (v := 0) dX3_present_0 (by decide) ?_
  refine g_istore_n (i := 1) dX3_present_1 rfl (Nat.le_of_ble_eq_true rfl) rfl ?_
  refine g_iconst (v := 0) dX3_present_2 (by decide) ?_
  refine g_istore_n (i := 2) dX3_present_3 rfl (Nat.le_of_ble_eq_true rfl) rfl ?_
  exact key 8 0 (by omega)
theorem c_found {h : HH} (h0 : gA h 0 = aO 7) (x : Int32) : CT mX7_found 0 0 0 [.ref 0, .int x] h (fun r h' => r = some (.int (-1000010 - x)) ∧ h' = sF h 0 1 (.int x)) := by
  refine CT.go [.ref 0, .int x] (by decide +kernel) rfl rfl (fun Q' hQ => ?_)
  refine g_aload_n (i := 0) dX7_found_0 rfl rfl ?_
  refine g_iload_n (i := 1) dX7_found_1 rfl rfl ?_
  refine g_put dX7_found_2 pl_X7_16 (by repeat' (first | assumption | exact rF_eq | refine rF_ne (by decide) ?_ | refine rF_a ?_ | exact rA_eq | refine rA_ne (by decide) ?_ | refine rA_f ?_)) (fun _ => ⟨rfl, rfl⟩) ?_
  refine g_ldcw dX7_found_5 kc_X7_343 ?_
  refine g_iload_n (i := 1) dX7_found_8 rfl rfl ?_
  refine g_isub dX7_found_9 ?_
  refine g_iret dX7_found_10 rfl (rfl) (hQ _ _ ?_)
  exact ⟨rfl, rfl⟩
theorem c_fine {h : HH} (h0 : gA h 0 = aO 7) (x : Int32) : CT mX7_fine 0 0 0 [.ref 0, .int x] h (fun r h' => r = some (.int x) ∧ h' = sF h 0 1 (.int 0)) := by
  refine CT.go [.ref 0, .int x] (by decide +kernel) rfl rfl (fun Q' hQ => ?_)
  refine g_aload_n (i := 0) dX7_fine_0 rfl rfl ?_
  refine g_iconst (v := 0) dX7_fine_1 (by decide) ?_
  refine g_put dX7_fine_2 pl_X7_16 (by repeat' (first | assumption | exact rF_eq | refine rF_ne (by decide) ?_ | refine rF_a ?_ | exact rA_eq | refine rA_ne (by decide) ?_ | refine rA_f ?_)) (fun _ => ⟨rfl, rfl⟩) ?_
  refine g_iload_n (i := 1) dX7_fine_5 rfl rfl ?_
  refine g_iret dX7_fine_6 rfl (rfl) (hQ _ _ ?_)
  exact ⟨rfl, rfl⟩
