/-! the reader of the class: small methods -/
/-- the reader at cell 6 reads into I; length L, text tx which is tp as far as L -/
def TxX (h : HH) (I L : Nat) (tp : Nat → Int32) : Prop := (I = 7 ∨ I = 18) ∧ L ≤ 400 ∧ gA h 6 = aO 4 ∧ gF h 6 0 = .ref I ∧ gF h 6 3 = .int (nI L) ∧ gA h I = aO 2 ∧ gF h I 0 = .ref (I + 1) ∧ ∃ tx, gA h (I + 1) = aI 400 tx ∧ ∀ j, j < L → tx j = tp j
theorem c_x4fig (h : HH) (c : Int32) : CT mX4_isFigure 0 0 0 [.int c] h (fun r h' => r = some (.int (bI (isFg c = true))) ∧ h' = h) := by
  refine CT.go [.int c] (by decide +kernel) rfl rfl (fun Q' hQ => ?_)
  refine g_iload_n (i := 0) dX4_isFigure_0 rfl rfl ?_
  refine g_bipush (v := 48) dX4_isFigure_1 (by decide) ?_
  refine g_icmp_lt (tgt := 16) dX4_isFigure_3 (by decide) (fun hc3 => ?_) (fun hc3 => ?_)
  · (try simp (disch := omega) only [nT, t_m1000100, t_m1000010, t_m1000003, t_m1000002, t_m1000001, t_m1000000, t_m65535, t_m1000, t_m3, t_m1, t_0, t_1, t_2, t_3, t_4, t_5, t_6, t_7, t_8, t_9, t_10, t_11, t_12, t_13, t_15, t_16, t_20, t_21, t_22, t_32, t_40, t_41, t_48, t_49, t_57, t_59, t_60, t_63, t_72, t_76, t_88, t_100, t_144, t_200, t_255, t_288, t_400, t_800, t_999, t_1000, t_1024, t_1200, t_1600, t_3200, t_100000, t_200000, t_252645135, t_858993459, t_1431655765, u_m1000002, u_m1000001, u_m1000, u_m3, u_m1, u_0, u_1, u_2, u_3, u_4, u_5, u_7, u_8, u_10, u_11, u_15, u_60, u_100, u_255, u_999, u_1000, u_100000, u_4294967295] at hc3)
    rw [bI_f (fun q => by have := isFg_t.mp q; omega)] at hQ
    refine g_iconst (v := 0) dX4_isFigure_16 (by decide) ?_
    refine g_iret dX4_isFigure_17 rfl (rfl) (hQ _ _ ?_)
    exact ⟨rfl, rfl⟩
  · (try simp (disch := omega) only [nT, t_m1000100, t_m1000010, t_m1000003, t_m1000002, t_m1000001, t_m1000000, t_m65535, t_m1000, t_m3, t_m1, t_0, t_1, t_2, t_3, t_4, t_5, t_6, t_7, t_8, t_9, t_10, t_11, t_12, t_13, t_15, t_16, t_20, t_21, t_22, t_32, t_40, t_41, t_48, t_49, t_57, t_59, t_60, t_63, t_72, t_76, t_88, t_100, t_144, t_200, t_255, t_288, t_400, t_800, t_999, t_1000, t_1024, t_1200, t_1600, t_3200, t_100000, t_200000, t_252645135, t_858993459, t_1431655765, u_m1000002, u_m1000001, u_m1000, u_m3, u_m1, u_0, u_1, u_2, u_3, u_4, u_5, u_7, u_8, u_10, u_11, u_15, u_60, u_100, u_255, u_999, u_1000, u_100000, u_4294967295] at hc3)
    refine g_iload_n (i := 0) dX4_isFigure_6 rfl rfl ?_
    refine g_bipush (v := 57) dX4_isFigure_7 (by decide) ?_
    refine g_icmp_gt (tgt := 16) dX4_isFigure_9 (by decide) (fun hc9 => ?_) (fun hc9 => ?_)
    · (try simp (disch := omega) only [nT, t_m1000100, t_m1000010, t_m1000003, t_m1000002, t_m1000001, t_m1000000, t_m65535, t_m1000, t_m3, t_m1, t_0, t_1, t_2, t_3, t_4, t_5, t_6, t_7, t_8, t_9, t_10, t_11, t_12, t_13, t_15, t_16, t_20, t_21, t_22, t_32, t_40, t_41, t_48, t_49, t_57, t_59, t_60, t_63, t_72, t_76, t_88, t_100, t_144, t_200, t_255, t_288, t_400, t_800, t_999, t_1000, t_1024, t_1200, t_1600, t_3200, t_100000, t_200000, t_252645135, t_858993459, t_1431655765, u_m1000002, u_m1000001, u_m1000, u_m3, u_m1, u_0, u_1, u_2, u_3, u_4, u_5, u_7, u_8, u_10, u_11, u_15, u_60, u_100, u_255, u_999, u_1000, u_100000, u_4294967295] at hc9)
      rw [bI_f (fun q => by have := isFg_t.mp q; omega)] at hQ
      refine g_iconst (v := 0) dX4_isFigure_16 (by decide) ?_
      refine g_iret dX4_isFigure_17 rfl (rfl) (hQ _ _ ?_)
      exact ⟨rfl, rfl⟩
    · (try simp (disch := omega) only [nT, t_m1000100, t_m1000010, t_m1000003, t_m1000002, t_m1000001, t_m1000000, t_m65535, t_m1000, t_m3, t_m1, t_0, t_1, t_2, t_3, t_4, t_5, t_6, t_7, t_8, t_9, t_10, t_11, t_12, t_13, t_15, t_16, t_20, t_21, t_22, t_32, t_40, t_41, t_48, t_49, t_57, t_59, t_60, t_63, t_72, t_76, t_88, t_100, t_144, t_200, t_255, t_288, t_400, t_800, t_999, t_1000, t_1024, t_1200, t_1600, t_3200, t_100000, t_200000, t_252645135, t_858993459, t_1431655765, u_m1000002, u_m1000001, u_m1000, u_m3, u_m1, u_0, u_1, u_2, u_3, u_4, u_5, u_7, u_8, u_10, u_11, u_15, u_60, u_100, u_255, u_999, u_1000, u_100000, u_4294967295] at hc9)
      rw [bI_t (isFg_t.mpr (by omega))] at hQ
      refine g_iconst (v := 1) dX4_isFigure_12 (by decide) ?_
      refine g_goto (tgt := 17) dX4_isFigure_13 (by decide) ?_
      refine g_iret dX4_isFigure_17 rfl (rfl) (hQ _ _ ?_)
      exact ⟨rfl, rfl⟩
theorem c_x4sig (h : HH) (c : Int32) : CT mX4_isSign 0 0 0 [.int c] h (fun r h' => r = some (.int (bI (isSg c = true))) ∧ h' = h) := by
  refine CT.go [.int c] (by decide +kernel) rfl rfl (fun Q' hQ => ?_)
  refine g_iload_n (i := 0) dX4_isSign_0 rfl rfl ?_
  refine g_bipush (v := 48) dX4_isSign_1 (by decide) ?_
  refine g_icmp_eq (tgt := 30) dX4_isSign_3 (by decide) (fun hc3 => ?_) (fun hc3 => ?_)
  · have hd3 := i_eq.mp hc3; (try simp (disch := omega) only [nT, t_m1000100, t_m1000010, t_m1000003, t_m1000002, t_m1000001, t_m1000000, t_m65535, t_m1000, t_m3, t_m1, t_0, t_1, t_2, t_3, t_4, t_5, t_6, t_7, t_8, t_9, t_10, t_11, t_12, t_13, t_15, t_16, t_20, t_21, t_22, t_32, t_40, t_41, t_48, t_49, t_57, t_59, t_60, t_63, t_72, t_76, t_88, t_100, t_144, t_200, t_255, t_288, t_400, t_800, t_999, t_1000, t_1024, t_1200, t_1600, t_3200, t_100000, t_200000, t_252645135, t_858993459, t_1431655765, u_m1000002, u_m1000001, u_m1000, u_m3, u_m1, u_0, u_1, u_2, u_3, u_4, u_5, u_7, u_8, u_10, u_11, u_15, u_60, u_100, u_255, u_999, u_1000, u_100000, u_4294967295] at hd3)
    rw [bI_t (isSg_t.mpr (by omega))] at hQ
    refine g_iconst (v := 1) dX4_isSign_30 (by decide) ?_
    refine g_goto (tgt := 35) dX4_isSign_31 (by decide) ?_
    refine g_iret dX4_isSign_35 rfl (rfl) (hQ _ _ ?_)
    exact ⟨rfl, rfl⟩
  · have hd3 := mt i_eq.mpr hc3; (try simp (disch := omega) only [nT, t_m1000100, t_m1000010, t_m1000003, t_m1000002, t_m1000001, t_m1000000, t_m65535, t_m1000, t_m3, t_m1, t_0, t_1, t_2, t_3, t_4, t_5, t_6, t_7, t_8, t_9, t_10, t_11, t_12, t_13, t_15, t_16, t_20, t_21, t_22, t_32, t_40, t_41, t_48, t_49, t_57, t_59, t_60, t_63, t_72, t_76, t_88, t_100, t_144, t_200, t_255, t_288, t_400, t_800, t_999, t_1000, t_1024, t_1200, t_1600, t_3200, t_100000, t_200000, t_252645135, t_858993459, t_1431655765, u_m1000002, u_m1000001, u_m1000, u_m3, u_m1, u_0, u_1, u_2, u_3, u_4, u_5, u_7, u_8, u_10, u_11, u_15, u_60, u_100, u_255, u_999, u_1000, u_100000, u_4294967295] at hd3)
    refine g_iload_n (i := 0) dX4_isSign_6 rfl rfl ?_
    refine g_bipush (v := 49) dX4_isSign_7 (by decide) ?_
    refine g_icmp_eq (tgt := 30) dX4_isSign_9 (by decide) (fun hc9 => ?_) (fun hc9 => ?_)
    · have hd9 := i_eq.mp hc9; (try simp (disch := omega) only [nT, t_m1000100, t_m1000010, t_m1000003, t_m1000002, t_m1000001, t_m1000000, t_m65535, t_m1000, t_m3, t_m1, t_0, t_1, t_2, t_3, t_4, t_5, t_6, t_7, t_8, t_9, t_10, t_11, t_12, t_13, t_15, t_16, t_20, t_21, t_22, t_32, t_40, t_41, t_48, t_49, t_57, t_59, t_60, t_63, t_72, t_76, t_88, t_100, t_144, t_200, t_255, t_288, t_400, t_800, t_999, t_1000, t_1024, t_1200, t_1600, t_3200, t_100000, t_200000, t_252645135, t_858993459, t_1431655765, u_m1000002, u_m1000001, u_m1000, u_m3, u_m1, u_0, u_1, u_2, u_3, u_4, u_5, u_7, u_8, u_10, u_11, u_15, u_60, u_100, u_255, u_999, u_1000, u_100000, u_4294967295] at hd9)
      rw [bI_t (isSg_t.mpr (by omega))] at hQ
      refine g_iconst (v := 1) dX4_isSign_30 (by decide) ?_
      refine g_goto (tgt := 35) dX4_isSign_31 (by decide) ?_
      refine g_iret dX4_isSign_35 rfl (rfl) (hQ _ _ ?_)
      exact ⟨rfl, rfl⟩
    · have hd9 := mt i_eq.mpr hc9; (try simp (disch := omega) only [nT, t_m1000100, t_m1000010, t_m1000003, t_m1000002, t_m1000001, t_m1000000, t_m65535, t_m1000, t_m3, t_m1, t_0, t_1, t_2, t_3, t_4, t_5, t_6, t_7, t_8, t_9, t_10, t_11, t_12, t_13, t_15, t_16, t_20, t_21, t_22, t_32, t_40, t_41, t_48, t_49, t_57, t_59, t_60, t_63, t_72, t_76, t_88, t_100, t_144, t_200, t_255, t_288, t_400, t_800, t_999, t_1000, t_1024, t_1200, t_1600, t_3200, t_100000, t_200000, t_252645135, t_858993459, t_1431655765, u_m1000002, u_m1000001, u_m1000, u_m3, u_m1, u_0, u_1, u_2, u_3, u_4, u_5, u_7, u_8, u_10, u_11, u_15, u_60, u_100, u_255, u_999, u_1000, u_100000, u_4294967295] at hd9)
      refine g_iload_n (i := 0) dX4_isSign_12 rfl rfl ?_
      refine g_bipush (v := 76) dX4_isSign_13 (by decide) ?_
      refine g_icmp_eq (tgt := 30) dX4_isSign_15 (by decide) (fun hc15 => ?_) (fun hc15 => ?_)
      · have hd15 := i_eq.mp hc15; (try simp (disch := omega) only [nT, t_m1000100, t_m1000010, t_m1000003, t_m1000002, t_m1000001, t_m1000000, t_m65535, t_m1000, t_m3, t_m1, t_0, t_1, t_2, t_3, t_4, t_5, t_6, t_7, t_8, t_9, t_10, t_11, t_12, t_13, t_15, t_16, t_20, t_21, t_22, t_32, t_40, t_41, t_48, t_49, t_57, t_59, t_60, t_63, t_72, t_76, t_88, t_100, t_144, t_200, t_255, t_288, t_400, t_800, t_999, t_1000, t_1024, t_1200, t_1600, t_3200, t_100000, t_200000, t_252645135, t_858993459, t_1431655765, u_m1000002, u_m1000001, u_m1000, u_m3, u_m1, u_0, u_1, u_2, u_3, u_4, u_5, u_7, u_8, u_10, u_11, u_15, u_60, u_100, u_255, u_999, u_1000, u_100000, u_4294967295] at hd15)
        rw [bI_t (isSg_t.mpr (by omega))] at hQ
        refine g_iconst (v := 1) dX4_isSign_30 (by decide) ?_
        refine g_goto (tgt := 35) dX4_isSign_31 (by decide) ?_
        refine g_iret dX4_isSign_35 rfl (rfl) (hQ _ _ ?_)
        exact ⟨rfl, rfl⟩
      · have hd15 := mt i_eq.mpr hc15; (try simp (disch := omega) only [nT, t_m1000100, t_m1000010, t_m1000003, t_m1000002, t_m1000001, t_m1000000, t_m65535, t_m1000, t_m3, t_m1, t_0, t_1, t_2, t_3, t_4, t_5, t_6, t_7, t_8, t_9, t_10, t_11, t_12, t_13, t_15, t_16, t_20, t_21, t_22, t_32, t_40, t_41, t_48, t_49, t_57, t_59, t_60, t_63, t_72, t_76, t_88, t_100, t_144, t_200, t_255, t_288, t_400, t_800, t_999, t_1000, t_1024, t_1200, t_1600, t_3200, t_100000, t_200000, t_252645135, t_858993459, t_1431655765, u_m1000002, u_m1000001, u_m1000, u_m3, u_m1, u_0, u_1, u_2, u_3, u_4, u_5, u_7, u_8, u_10, u_11, u_15, u_60, u_100, u_255, u_999, u_1000, u_100000, u_4294967295] at hd15)
        refine g_iload_n (i := 0) dX4_isSign_18 rfl rfl ?_
        refine g_bipush (v := 72) dX4_isSign_19 (by decide) ?_
        refine g_icmp_eq (tgt := 30) dX4_isSign_21 (by decide) (fun hc21 => ?_) (fun hc21 => ?_)
        · have hd21 := i_eq.mp hc21; (try simp (disch := omega) only [nT, t_m1000100, t_m1000010, t_m1000003, t_m1000002, t_m1000001, t_m1000000, t_m65535, t_m1000, t_m3, t_m1, t_0, t_1, t_2, t_3, t_4, t_5, t_6, t_7, t_8, t_9, t_10, t_11, t_12, t_13, t_15, t_16, t_20, t_21, t_22, t_32, t_40, t_41, t_48, t_49, t_57, t_59, t_60, t_63, t_72, t_76, t_88, t_100, t_144, t_200, t_255, t_288, t_400, t_800, t_999, t_1000, t_1024, t_1200, t_1600, t_3200, t_100000, t_200000, t_252645135, t_858993459, t_1431655765, u_m1000002, u_m1000001, u_m1000, u_m3, u_m1, u_0, u_1, u_2, u_3, u_4, u_5, u_7, u_8, u_10, u_11, u_15, u_60, u_100, u_255, u_999, u_1000, u_100000, u_4294967295] at hd21)
          rw [bI_t (isSg_t.mpr (by omega))] at hQ
          refine g_iconst (v := 1) dX4_isSign_30 (by decide) ?_
          refine g_goto (tgt := 35) dX4_isSign_31 (by decide) ?_
          refine g_iret dX4_isSign_35 rfl (rfl) (hQ _ _ ?_)
          exact ⟨rfl, rfl⟩
        · have hd21 := mt i_eq.mpr hc21; (try simp (disch := omega) only [nT, t_m1000100, t_m1000010, t_m1000003, t_m1000002, t_m1000001, t_m1000000, t_m65535, t_m1000, t_m3, t_m1, t_0, t_1, t_2, t_3, t_4, t_5, t_6, t_7, t_8, t_9, t_10, t_11, t_12, t_13, t_15, t_16, t_20, t_21, t_22, t_32, t_40, t_41, t_48, t_49, t_57, t_59, t_60, t_63, t_72, t_76, t_88, t_100, t_144, t_200, t_255, t_288, t_400, t_800, t_999, t_1000, t_1024, t_1200, t_1600, t_3200, t_100000, t_200000, t_252645135, t_858993459, t_1431655765, u_m1000002, u_m1000001, u_m1000, u_m3, u_m1, u_0, u_1, u_2, u_3, u_4, u_5, u_7, u_8, u_10, u_11, u_15, u_60, u_100, u_255, u_999, u_1000, u_100000, u_4294967295] at hd21)
          refine g_iload_n (i := 0) dX4_isSign_24 rfl rfl ?_
          refine g_bipush (v := 88) dX4_isSign_25 (by decide) ?_
          refine g_icmp_ne (tgt := 34) dX4_isSign_27 (by decide) (fun hc27 => ?_) (fun hc27 => ?_)
          · have hd27 := mt i_eq.mpr hc27; (try simp (disch := omega) only [nT, t_m1000100, t_m1000010, t_m1000003, t_m1000002, t_m1000001, t_m1000000, t_m65535, t_m1000, t_m3, t_m1, t_0, t_1, t_2, t_3, t_4, t_5, t_6, t_7, t_8, t_9, t_10, t_11, t_12, t_13, t_15, t_16, t_20, t_21, t_22, t_32, t_40, t_41, t_48, t_49, t_57, t_59, t_60, t_63, t_72, t_76, t_88, t_100, t_144, t_200, t_255, t_288, t_400, t_800, t_999, t_1000, t_1024, t_1200, t_1600, t_3200, t_100000, t_200000, t_252645135, t_858993459, t_1431655765, u_m1000002, u_m1000001, u_m1000, u_m3, u_m1, u_0, u_1, u_2, u_3, u_4, u_5, u_7, u_8, u_10, u_11, u_15, u_60, u_100, u_255, u_999, u_1000, u_100000, u_4294967295] at hd27)
            rw [bI_f (fun q => by have := isSg_t.mp q; omega)] at hQ
            refine g_iconst (v := 0) dX4_isSign_34 (by decide) ?_
            refine g_iret dX4_isSign_35 rfl (rfl) (hQ _ _ ?_)
            exact ⟨rfl, rfl⟩
          · have hd27 := i_eq.mp hc27; (try simp (disch := omega) only [nT, t_m1000100, t_m1000010, t_m1000003, t_m1000002, t_m1000001, t_m1000000, t_m65535, t_m1000, t_m3, t_m1, t_0, t_1, t_2, t_3, t_4, t_5, t_6, t_7, t_8, t_9, t_10, t_11, t_12, t_13, t_15, t_16, t_20, t_21, t_22, t_32, t_40, t_41, t_48, t_49, t_57, t_59, t_60, t_63, t_72, t_76, t_88, t_100, t_144, t_200, t_255, t_288, t_400, t_800, t_999, t_1000, t_1024, t_1200, t_1600, t_3200, t_100000, t_200000, t_252645135, t_858993459, t_1431655765, u_m1000002, u_m1000001, u_m1000, u_m3, u_m1, u_0, u_1, u_2, u_3, u_4, u_5, u_7, u_8, u_10, u_11, u_15, u_60, u_100, u_255, u_999, u_1000, u_100000, u_4294967295] at hd27)
            rw [bI_t (isSg_t.mpr (by omega))] at hQ
            refine g_iconst (v := 1) dX4_isSign_30 (by decide) ?_
            refine g_goto (tgt := 35) dX4_isSign_31 (by decide) ?_
            refine g_iret dX4_isSign_35 rfl (rfl) (hQ _ _ ?_)
            exact ⟨rfl, rfl⟩
theorem c_bblanks {h : HH} {I L : Nat} {tp : Nat → Int32} (ht : TxX h I L tp) {p : Nat} (hp : p ≤ L) : CT mX4_behindBlanks 0 0 0 [.ref 6, .int (nI p)] h (fun r h' => r = some (.int (nI (fwd isBl L tp p))) ∧ h' = h) := by
  obtain ⟨hI, hL, e1, e2, e3, e4, e5, tx, e6, e7⟩ := ht
  refine CT.go [.ref 6, .int (nI p), hU] (by decide +kernel) rfl rfl (fun Q' hQ => ?_)
  generalize hz : fwd isBl L tp p = z at hQ
  have key : ∀ m k : Nat, k + m = L → fwd isBl L tp k = z → GG (EM mX4_behindBlanks 0 0 0 Q') 0 0 2 [.ref 6, .int (nI p), .int (nI k)] [] h := by
    intro m
    induction m with
    | zero =>
      intro k hk he
      rw [fwd_e (by omega)] at he
      subst he
      refine g_iload_n (i := 2) dX4_behindBlanks_2 rfl rfl ?_
      refine g_aload_n (i := 0) dX4_behindBlanks_3 rfl rfl ?_
      refine g_get dX4_behindBlanks_4 fl_X4_25 (by repeat' (first | assumption | exact rF_eq | (apply rF_nj; focus decide) | (apply rF_nk; focus omega) | refine rF_a ?_ | exact rA_eq | refine rA_ne (by omega) ?_ | refine rA_f ?_)) (by repeat' (first | assumption | exact rF_eq | (apply rF_nj; focus decide) | (apply rF_nk; focus omega) | refine rF_a ?_ | exact rA_eq | refine rA_ne (by omega) ?_ | refine rA_f ?_)) ?_
      refine g_icmp_ge (tgt := 44) dX4_behindBlanks_7 (by decide) (fun hc7 => ?_) (fun hc7 => ?_)
      · (try simp (disch := omega) only [nT, t_m1000100, t_m1000010, t_m1000003, t_m1000002, t_m1000001, t_m1000000, t_m65535, t_m1000, t_m3, t_m1, t_0, t_1, t_2, t_3, t_4, t_5, t_6, t_7, t_8, t_9, t_10, t_11, t_12, t_13, t_15, t_16, t_20, t_21, t_22, t_32, t_40, t_41, t_48, t_49, t_57, t_59, t_60, t_63, t_72, t_76, t_88, t_100, t_144, t_200, t_255, t_288, t_400, t_800, t_999, t_1000, t_1024, t_1200, t_1600, t_3200, t_100000, t_200000, t_252645135, t_858993459, t_1431655765, u_m1000002, u_m1000001, u_m1000, u_m3, u_m1, u_0, u_1, u_2, u_3, u_4, u_5, u_7, u_8, u_10, u_11, u_15, u_60, u_100, u_255, u_999, u_1000, u_100000, u_4294967295] at hc7)
        refine g_iload_n (i := 2) dX4_behindBlanks_44 rfl rfl ?_
        refine g_iret dX4_behindBlanks_45 rfl (rfl) (hQ _ _ ?_)
        exact ⟨rfl, rfl⟩
      · (try simp (disch := omega) only [nT, t_m1000100, t_m1000010, t_m1000003, t_m1000002, t_m1000001, t_m1000000, t_m65535, t_m1000, t_m3, t_m1, t_0, t_1, t_2, t_3, t_4, t_5, t_6, t_7, t_8, t_9, t_10, t_11, t_12, t_13, t_15, t_16, t_20, t_21, t_22, t_32, t_40, t_41, t_48, t_49, t_57, t_59, t_60, t_63, t_72, t_76, t_88, t_100, t_144, t_200, t_255, t_288, t_400, t_800, t_999, t_1000, t_1024, t_1200, t_1600, t_3200, t_100000, t_200000, t_252645135, t_858993459, t_1431655765, u_m1000002, u_m1000001, u_m1000, u_m3, u_m1, u_0, u_1, u_2, u_3, u_4, u_5, u_7, u_8, u_10, u_11, u_15, u_60, u_100, u_255, u_999, u_1000, u_100000, u_4294967295] at hc7); omega
    | succ m ih =>
      intro k hk he
      have hg := e7 k (by omega)
      refine g_iload_n (i := 2) dX4_behindBlanks_2 rfl rfl ?_
      refine g_aload_n (i := 0) dX4_behindBlanks_3 rfl rfl ?_
      refine g_get dX4_behindBlanks_4 fl_X4_25 (by repeat' (first | assumption | exact rF_eq | (apply rF_nj; focus decide) | (apply rF_nk; focus omega) | refine rF_a ?_ | exact rA_eq | refine rA_ne (by omega) ?_ | refine rA_f ?_)) (by repeat' (first | assumption | exact rF_eq | (apply rF_nj; focus decide) | (apply rF_nk; focus omega) | refine rF_a ?_ | exact rA_eq | refine rA_ne (by omega) ?_ | refine rA_f ?_)) ?_
      refine g_icmp_ge (tgt := 44) dX4_behindBlanks_7 (by decide) (fun hc7 => ?_) (fun hc7 => ?_)
      · (try simp (disch := omega) only [nT, t_m1000100, t_m1000010, t_m1000003, t_m1000002, t_m1000001, t_m1000000, t_m65535, t_m1000, t_m3, t_m1, t_0, t_1, t_2, t_3, t_4, t_5, t_6, t_7, t_8, t_9, t_10, t_11, t_12, t_13, t_15, t_16, t_20, t_21, t_22, t_32, t_40, t_41, t_48, t_49, t_57, t_59, t_60, t_63, t_72, t_76, t_88, t_100, t_144, t_200, t_255, t_288, t_400, t_800, t_999, t_1000, t_1024, t_1200, t_1600, t_3200, t_100000, t_200000, t_252645135, t_858993459, t_1431655765, u_m1000002, u_m1000001, u_m1000, u_m3, u_m1, u_0, u_1, u_2, u_3, u_4, u_5, u_7, u_8, u_10, u_11, u_15, u_60, u_100, u_255, u_999, u_1000, u_100000, u_4294967295] at hc7); omega
      · (try simp (disch := omega) only [nT, t_m1000100, t_m1000010, t_m1000003, t_m1000002, t_m1000001, t_m1000000, t_m65535, t_m1000, t_m3, t_m1, t_0, t_1, t_2, t_3, t_4, t_5, t_6, t_7, t_8, t_9, t_10, t_11, t_12, t_13, t_15, t_16, t_20, t_21, t_22, t_32, t_40, t_41, t_48, t_49, t_57, t_59, t_60, t_63, t_72, t_76, t_88, t_100, t_144, t_200, t_255, t_288, t_400, t_800, t_999, t_1000, t_1024, t_1200, t_1600, t_3200, t_100000, t_200000, t_252645135, t_858993459, t_1431655765, u_m1000002, u_m1000001, u_m1000, u_m3, u_m1, u_0, u_1, u_2, u_3, u_4, u_5, u_7, u_8, u_10, u_11, u_15, u_60, u_100, u_255, u_999, u_1000, u_100000, u_4294967295] at hc7)
        refine g_aload_n (i := 0) dX4_behindBlanks_10 rfl rfl ?_
        refine g_get dX4_behindBlanks_11 fl_X4_12 (by repeat' (first | assumption | exact rF_eq | (apply rF_nj; focus decide) | (apply rF_nk; focus omega) | refine rF_a ?_ | exact rA_eq | refine rA_ne (by omega) ?_ | refine rA_f ?_)) (by repeat' (first | assumption | exact rF_eq | (apply rF_nj; focus decide) | (apply rF_nk; focus omega) | refine rF_a ?_ | exact rA_eq | refine rA_ne (by omega) ?_ | refine rA_f ?_)) ?_
        refine g_get dX4_behindBlanks_14 fl_X4_56 (by repeat' (first | assumption | exact rF_eq | (apply rF_nj; focus decide) | (apply rF_nk; focus omega) | refine rF_a ?_ | exact rA_eq | refine rA_ne (by omega) ?_ | refine rA_f ?_)) (by repeat' (first | assumption | exact rF_eq | (apply rF_nj; focus decide) | (apply rF_nk; focus omega) | refine rF_a ?_ | exact rA_eq | refine rA_ne (by omega) ?_ | refine rA_f ?_)) ?_
        refine g_iload_n (i := 2) dX4_behindBlanks_17 rfl rfl ?_
        refine g_iald dX4_behindBlanks_18 (by repeat' (first | assumption | exact rF_eq | (apply rF_nj; focus decide) | (apply rF_nk; focus omega) | refine rF_a ?_ | exact rA_eq | refine rA_ne (by omega) ?_ | refine rA_f ?_)) (nT (by omega)) (by omega) ?_
        rw [hg]
        refine g_bipush (v := 32) dX4_behindBlanks_19 (by decide) ?_
        refine g_icmp_eq (tgt := 38) dX4_behindBlanks_21 (by decide) (fun hc21 => ?_) (fun hc21 => ?_)
        · have hd21 := i_eq.mp hc21; (try simp (disch := omega) only [nT, t_m1000100, t_m1000010, t_m1000003, t_m1000002, t_m1000001, t_m1000000, t_m65535, t_m1000, t_m3, t_m1, t_0, t_1, t_2, t_3, t_4, t_5, t_6, t_7, t_8, t_9, t_10, t_11, t_12, t_13, t_15, t_16, t_20, t_21, t_22, t_32, t_40, t_41, t_48, t_49, t_57, t_59, t_60, t_63, t_72, t_76, t_88, t_100, t_144, t_200, t_255, t_288, t_400, t_800, t_999, t_1000, t_1024, t_1200, t_1600, t_3200, t_100000, t_200000, t_252645135, t_858993459, t_1431655765, u_m1000002, u_m1000001, u_m1000, u_m3, u_m1, u_0, u_1, u_2, u_3, u_4, u_5, u_7, u_8, u_10, u_11, u_15, u_60, u_100, u_255, u_999, u_1000, u_100000, u_4294967295] at hd21)
          refine g_iinc dX4_behindBlanks_38 rfl (Nat.le_of_ble_eq_true rfl) rfl ?_
          refine g_goto (tgt := 2) dX4_behindBlanks_41 (by decide) ?_
          rw [ni_incO]
          rw [fwd_t (by omega) (isBl_t.mpr (by omega))] at he
          exact ih _ (by omega) he
        · have hd21 := mt i_eq.mpr hc21; (try simp (disch := omega) only [nT, t_m1000100, t_m1000010, t_m1000003, t_m1000002, t_m1000001, t_m1000000, t_m65535, t_m1000, t_m3, t_m1, t_0, t_1, t_2, t_3, t_4, t_5, t_6, t_7, t_8, t_9, t_10, t_11, t_12, t_13, t_15, t_16, t_20, t_21, t_22, t_32, t_40, t_41, t_48, t_49, t_57, t_59, t_60, t_63, t_72, t_76, t_88, t_100, t_144, t_200, t_255, t_288, t_400, t_800, t_999, t_1000, t_1024, t_1200, t_1600, t_3200, t_100000, t_200000, t_252645135, t_858993459, t_1431655765, u_m1000002, u_m1000001, u_m1000, u_m3, u_m1, u_0, u_1, u_2, u_3, u_4, u_5, u_7, u_8, u_10, u_11, u_15, u_60, u_100, u_255, u_999, u_1000, u_100000, u_4294967295] at hd21)
          refine g_aload_n (i := 0) dX4_behindBlanks_24 rfl rfl ?_
          refine g_get dX4_behindBlanks_25 fl_X4_12 (by repeat' (first | assumption | exact rF_eq | (apply rF_nj; focus decide) | (apply rF_nk; focus omega) | refine rF_a ?_ | exact rA_eq | refine rA_ne (by omega) ?_ | refine rA_f ?_)) (by repeat' (first | assumption | exact rF_eq | (apply rF_nj; focus decide) | (apply rF_nk; focus omega) | refine rF_a ?_ | exact rA_eq | refine rA_ne (by omega) ?_ | refine rA_f ?_)) ?_
          refine g_get dX4_behindBlanks_28 fl_X4_56 (by repeat' (first | assumption | exact rF_eq | (apply rF_nj; focus decide) | (apply rF_nk; focus omega) | refine rF_a ?_ | exact rA_eq | refine rA_ne (by omega) ?_ | refine rA_f ?_)) (by repeat' (first | assumption | exact rF_eq | (apply rF_nj; focus decide) | (apply rF_nk; focus omega) | refine rF_a ?_ | exact rA_eq | refine rA_ne (by omega) ?_ | refine rA_f ?_)) ?_
          refine g_iload_n (i := 2) dX4_behindBlanks_31 rfl rfl ?_
          refine g_iald dX4_behindBlanks_32 (by repeat' (first | assumption | exact rF_eq | (apply rF_nj; focus decide) | (apply rF_nk; focus omega) | refine rF_a ?_ | exact rA_eq | refine rA_ne (by omega) ?_ | refine rA_f ?_)) (nT (by omega)) (by omega) ?_
          rw [hg]
          refine g_bipush (v := 10) dX4_behindBlanks_33 (by decide) ?_
          refine g_icmp_ne (tgt := 44) dX4_behindBlanks_35 (by decide) (fun hc35 => ?_) (fun hc35 => ?_)
          · have hd35 := mt i_eq.mpr hc35; (try simp (disch := omega) only [nT, t_m1000100, t_m1000010, t_m1000003, t_m1000002, t_m1000001, t_m1000000, t_m65535, t_m1000, t_m3, t_m1, t_0, t_1, t_2, t_3, t_4, t_5, t_6, t_7, t_8, t_9, t_10, t_11, t_12, t_13, t_15, t_16, t_20, t_21, t_22, t_32, t_40, t_41, t_48, t_49, t_57, t_59, t_60, t_63, t_72, t_76, t_88, t_100, t_144, t_200, t_255, t_288, t_400, t_800, t_999, t_1000, t_1024, t_1200, t_1600, t_3200, t_100000, t_200000, t_252645135, t_858993459, t_1431655765, u_m1000002, u_m1000001, u_m1000, u_m3, u_m1, u_0, u_1, u_2, u_3, u_4, u_5, u_7, u_8, u_10, u_11, u_15, u_60, u_100, u_255, u_999, u_1000, u_100000, u_4294967295] at hd35)
            rw [fwd_f (fun q => by have := isBl_t.mp q; omega)] at he
            subst he
            refine g_iload_n (i := 2) dX4_behindBlanks_44 rfl rfl ?_
            refine g_iret dX4_behindBlanks_45 rfl (rfl) (hQ _ _ ?_)
            exact ⟨rfl, rfl⟩
          · have hd35 := i_eq.mp hc35; (try simp (disch := omega) only [nT, t_m1000100, t_m1000010, t_m1000003, t_m1000002, t_m1000001, t_m1000000, t_m65535, t_m1000, t_m3, t_m1, t_0, t_1, t_2, t_3, t_4, t_5, t_6, t_7, t_8, t_9, t_10, t_11, t_12, t_13, t_15, t_16, t_20, t_21, t_22, t_32, t_40, t_41, t_48, t_49, t_57, t_59, t_60, t_63, t_72, t_76, t_88, t_100, t_144, t_200, t_255, t_288, t_400, t_800, t_999, t_1000, t_1024, t_1200, t_1600, t_3200, t_100000, t_200000, t_252645135, t_858993459, t_1431655765, u_m1000002, u_m1000001, u_m1000, u_m3, u_m1, u_0, u_1, u_2, u_3, u_4, u_5, u_7, u_8, u_10, u_11, u_15, u_60, u_100, u_255, u_999, u_1000, u_100000, u_4294967295] at hd35)
            refine g_iinc dX4_behindBlanks_38 rfl (Nat.le_of_ble_eq_true rfl) rfl ?_
            refine g_goto (tgt := 2) dX4_behindBlanks_41 (by decide) ?_
            rw [ni_incO]
            rw [fwd_t (by omega) (isBl_t.mpr (by omega))] at he
            exact ih _ (by omega) he
  refine g_iload_n (i := 1) dX4_behindBlanks_0 rfl rfl ?_
  refine g_istore_n (i := 2) dX4_behindBlanks_1 rfl (Nat.le_of_ble_eq_true rfl) rfl ?_
  exact key (L - p) p (by omega) hz
theorem c_brow {h : HH} {I L : Nat} {tp : Nat → Int32} (ht : TxX h I L tp) {p : Nat} (hp : p ≤ L) : CT mX4_behindRow 1 0 0 [.ref 6, .int (nI p)] h (fun r h' => r = some (.int (nI (fwd isRw L tp p))) ∧ h' = h) := by
  obtain ⟨hI, hL, e1, e2, e3, e4, e5, tx, e6, e7⟩ := ht
  refine CT.go [.ref 6, .int (nI p), hU] (by decide +kernel) rfl rfl (fun Q' hQ => ?_)
  generalize hz : fwd isRw L tp p = z at hQ
  have key : ∀ m k : Nat, k + m = L → fwd isRw L tp k = z → GG (EM mX4_behindRow 1 0 0 Q') 0 0 2 [.ref 6, .int (nI p), .int (nI k)] [] h := by
    intro m
    induction m with
    | zero =>
      intro k hk he
      rw [fwd_e (by omega)] at he
      subst he
      refine g_iload_n (i := 2) dX4_behindRow_2 rfl rfl ?_
      refine g_aload_n (i := 0) dX4_behindRow_3 rfl rfl ?_
      refine g_get dX4_behindRow_4 fl_X4_25 (by repeat' (first | assumption | exact rF_eq | (apply rF_nj; focus decide) | (apply rF_nk; focus omega) | refine rF_a ?_ | exact rA_eq | refine rA_ne (by omega) ?_ | refine rA_f ?_)) (by repeat' (first | assumption | exact rF_eq | (apply rF_nj; focus decide) | (apply rF_nk; focus omega) | refine rF_a ?_ | exact rA_eq | refine rA_ne (by omega) ?_ | refine rA_f ?_)) ?_
      refine g_icmp_ge (tgt := 46) dX4_behindRow_7 (by decide) (fun hc7 => ?_) (fun hc7 => ?_)
      · (try simp (disch := omega) only [nT, t_m1000100, t_m1000010, t_m1000003, t_m1000002, t_m1000001, t_m1000000, t_m65535, t_m1000, t_m3, t_m1, t_0, t_1, t_2, t_3, t_4, t_5, t_6, t_7, t_8, t_9, t_10, t_11, t_12, t_13, t_15, t_16, t_20, t_21, t_22, t_32, t_40, t_41, t_48, t_49, t_57, t_59, t_60, t_63, t_72, t_76, t_88, t_100, t_144, t_200, t_255, t_288, t_400, t_800, t_999, t_1000, t_1024, t_1200, t_1600, t_3200, t_100000, t_200000, t_252645135, t_858993459, t_1431655765, u_m1000002, u_m1000001, u_m1000, u_m3, u_m1, u_0, u_1, u_2, u_3, u_4, u_5, u_7, u_8, u_10, u_11, u_15, u_60, u_100, u_255, u_999, u_1000, u_100000, u_4294967295] at hc7)
        refine g_iload_n (i := 2) dX4_behindRow_46 rfl rfl ?_
        refine g_iret dX4_behindRow_47 rfl (rfl) (hQ _ _ ?_)
        exact ⟨rfl, rfl⟩
      · (try simp (disch := omega) only [nT, t_m1000100, t_m1000010, t_m1000003, t_m1000002, t_m1000001, t_m1000000, t_m65535, t_m1000, t_m3, t_m1, t_0, t_1, t_2, t_3, t_4, t_5, t_6, t_7, t_8, t_9, t_10, t_11, t_12, t_13, t_15, t_16, t_20, t_21, t_22, t_32, t_40, t_41, t_48, t_49, t_57, t_59, t_60, t_63, t_72, t_76, t_88, t_100, t_144, t_200, t_255, t_288, t_400, t_800, t_999, t_1000, t_1024, t_1200, t_1600, t_3200, t_100000, t_200000, t_252645135, t_858993459, t_1431655765, u_m1000002, u_m1000001, u_m1000, u_m3, u_m1, u_0, u_1, u_2, u_3, u_4, u_5, u_7, u_8, u_10, u_11, u_15, u_60, u_100, u_255, u_999, u_1000, u_100000, u_4294967295] at hc7); omega
    | succ m ih =>
      intro k hk he
      have hg := e7 k (by omega)
      refine g_iload_n (i := 2) dX4_behindRow_2 rfl rfl ?_
      refine g_aload_n (i := 0) dX4_behindRow_3 rfl rfl ?_
      refine g_get dX4_behindRow_4 fl_X4_25 (by repeat' (first | assumption | exact rF_eq | (apply rF_nj; focus decide) | (apply rF_nk; focus omega) | refine rF_a ?_ | exact rA_eq | refine rA_ne (by omega) ?_ | refine rA_f ?_)) (by repeat' (first | assumption | exact rF_eq | (apply rF_nj; focus decide) | (apply rF_nk; focus omega) | refine rF_a ?_ | exact rA_eq | refine rA_ne (by omega) ?_ | refine rA_f ?_)) ?_
      refine g_icmp_ge (tgt := 46) dX4_behindRow_7 (by decide) (fun hc7 => ?_) (fun hc7 => ?_)
      · (try simp (disch := omega) only [nT, t_m1000100, t_m1000010, t_m1000003, t_m1000002, t_m1000001, t_m1000000, t_m65535, t_m1000, t_m3, t_m1, t_0, t_1, t_2, t_3, t_4, t_5, t_6, t_7, t_8, t_9, t_10, t_11, t_12, t_13, t_15, t_16, t_20, t_21, t_22, t_32, t_40, t_41, t_48, t_49, t_57, t_59, t_60, t_63, t_72, t_76, t_88, t_100, t_144, t_200, t_255, t_288, t_400, t_800, t_999, t_1000, t_1024, t_1200, t_1600, t_3200, t_100000, t_200000, t_252645135, t_858993459, t_1431655765, u_m1000002, u_m1000001, u_m1000, u_m3, u_m1, u_0, u_1, u_2, u_3, u_4, u_5, u_7, u_8, u_10, u_11, u_15, u_60, u_100, u_255, u_999, u_1000, u_100000, u_4294967295] at hc7); omega
      · (try simp (disch := omega) only [nT, t_m1000100, t_m1000010, t_m1000003, t_m1000002, t_m1000001, t_m1000000, t_m65535, t_m1000, t_m3, t_m1, t_0, t_1, t_2, t_3, t_4, t_5, t_6, t_7, t_8, t_9, t_10, t_11, t_12, t_13, t_15, t_16, t_20, t_21, t_22, t_32, t_40, t_41, t_48, t_49, t_57, t_59, t_60, t_63, t_72, t_76, t_88, t_100, t_144, t_200, t_255, t_288, t_400, t_800, t_999, t_1000, t_1024, t_1200, t_1600, t_3200, t_100000, t_200000, t_252645135, t_858993459, t_1431655765, u_m1000002, u_m1000001, u_m1000, u_m3, u_m1, u_0, u_1, u_2, u_3, u_4, u_5, u_7, u_8, u_10, u_11, u_15, u_60, u_100, u_255, u_999, u_1000, u_100000, u_4294967295] at hc7)
        refine g_aload_n (i := 0) dX4_behindRow_10 rfl rfl ?_
        refine g_get dX4_behindRow_11 fl_X4_12 (by repeat' (first | assumption | exact rF_eq | (apply rF_nj; focus decide) | (apply rF_nk; focus omega) | refine rF_a ?_ | exact rA_eq | refine rA_ne (by omega) ?_ | refine rA_f ?_)) (by repeat' (first | assumption | exact rF_eq | (apply rF_nj; focus decide) | (apply rF_nk; focus omega) | refine rF_a ?_ | exact rA_eq | refine rA_ne (by omega) ?_ | refine rA_f ?_)) ?_
        refine g_get dX4_behindRow_14 fl_X4_56 (by repeat' (first | assumption | exact rF_eq | (apply rF_nj; focus decide) | (apply rF_nk; focus omega) | refine rF_a ?_ | exact rA_eq | refine rA_ne (by omega) ?_ | refine rA_f ?_)) (by repeat' (first | assumption | exact rF_eq | (apply rF_nj; focus decide) | (apply rF_nk; focus omega) | refine rF_a ?_ | exact rA_eq | refine rA_ne (by omega) ?_ | refine rA_f ?_)) ?_
        refine g_iload_n (i := 2) dX4_behindRow_17 rfl rfl ?_
        refine g_iald dX4_behindRow_18 (by repeat' (first | assumption | exact rF_eq | (apply rF_nj; focus decide) | (apply rF_nk; focus omega) | refine rF_a ?_ | exact rA_eq | refine rA_ne (by omega) ?_ | refine rA_f ?_)) (nT (by omega)) (by omega) ?_
        rw [hg]
        refine g_callS (M' := mX4_isFigure) dX4_behindRow_19 lc_X4_isFigure ml_X4_104 (c_x4fig _ (tp k)) rfl rfl ⟨Nat.le_of_ble_eq_true rfl, Nat.le_of_ble_eq_true rfl, Nat.le_of_ble_eq_true rfl, Nat.le_of_ble_eq_true rfl⟩ (Nat.le_of_ble_eq_true rfl) ?_
        intro r_ h_ q_; obtain ⟨q1_, q2_⟩ := q_; have q2_ := q2_.symm; subst q1_; subst q2_
        refine g_if_ne (tgt := 40) dX4_behindRow_22 (by decide) (fun hc22 => ?_) (fun hc22 => ?_)
        · replace hc22 := bI_n0.mp hc22
          (try simp (disch := omega) only [nT, t_m1000100, t_m1000010, t_m1000003, t_m1000002, t_m1000001, t_m1000000, t_m65535, t_m1000, t_m3, t_m1, t_0, t_1, t_2, t_3, t_4, t_5, t_6, t_7, t_8, t_9, t_10, t_11, t_12, t_13, t_15, t_16, t_20, t_21, t_22, t_32, t_40, t_41, t_48, t_49, t_57, t_59, t_60, t_63, t_72, t_76, t_88, t_100, t_144, t_200, t_255, t_288, t_400, t_800, t_999, t_1000, t_1024, t_1200, t_1600, t_3200, t_100000, t_200000, t_252645135, t_858993459, t_1431655765, u_m1000002, u_m1000001, u_m1000, u_m3, u_m1, u_0, u_1, u_2, u_3, u_4, u_5, u_7, u_8, u_10, u_11, u_15, u_60, u_100, u_255, u_999, u_1000, u_100000, u_4294967295] at hc22)
          refine g_iinc dX4_behindRow_40 rfl (Nat.le_of_ble_eq_true rfl) rfl ?_
          refine g_goto (tgt := 2) dX4_behindRow_43 (by decide) ?_
          rw [ni_incO]
          rw [fwd_t (by omega) (isRw_t.mpr (by first | exact Or.inl (by assumption) | exact Or.inr (by assumption)))] at he
          exact ih _ (by omega) he
        · replace hc22 := bI_0.mp hc22
          (try simp (disch := omega) only [nT, t_m1000100, t_m1000010, t_m1000003, t_m1000002, t_m1000001, t_m1000000, t_m65535, t_m1000, t_m3, t_m1, t_0, t_1, t_2, t_3, t_4, t_5, t_6, t_7, t_8, t_9, t_10, t_11, t_12, t_13, t_15, t_16, t_20, t_21, t_22, t_32, t_40, t_41, t_48, t_49, t_57, t_59, t_60, t_63, t_72, t_76, t_88, t_100, t_144, t_200, t_255, t_288, t_400, t_800, t_999, t_1000, t_1024, t_1200, t_1600, t_3200, t_100000, t_200000, t_252645135, t_858993459, t_1431655765, u_m1000002, u_m1000001, u_m1000, u_m3, u_m1, u_0, u_1, u_2, u_3, u_4, u_5, u_7, u_8, u_10, u_11, u_15, u_60, u_100, u_255, u_999, u_1000, u_100000, u_4294967295] at hc22)
          refine g_aload_n (i := 0) dX4_behindRow_25 rfl rfl ?_
          refine g_get dX4_behindRow_26 fl_X4_12 (by repeat' (first | assumption | exact rF_eq | (apply rF_nj; focus decide) | (apply rF_nk; focus omega) | refine rF_a ?_ | exact rA_eq | refine rA_ne (by omega) ?_ | refine rA_f ?_)) (by repeat' (first | assumption | exact rF_eq | (apply rF_nj; focus decide) | (apply rF_nk; focus omega) | refine rF_a ?_ | exact rA_eq | refine rA_ne (by omega) ?_ | refine rA_f ?_)) ?_
          refine g_get dX4_behindRow_29 fl_X4_56 (by repeat' (first | assumption | exact rF_eq | (apply rF_nj; focus decide) | (apply rF_nk; focus omega) | refine rF_a ?_ | exact rA_eq | refine rA_ne (by omega) ?_ | refine rA_f ?_)) (by repeat' (first | assumption | exact rF_eq | (apply rF_nj; focus decide) | (apply rF_nk; focus omega) | refine rF_a ?_ | exact rA_eq | refine rA_ne (by omega) ?_ | refine rA_f ?_)) ?_
          refine g_iload_n (i := 2) dX4_behindRow_32 rfl rfl ?_
          refine g_iald dX4_behindRow_33 (by repeat' (first | assumption | exact rF_eq | (apply rF_nj; focus decide) | (apply rF_nk; focus omega) | refine rF_a ?_ | exact rA_eq | refine rA_ne (by omega) ?_ | refine rA_f ?_)) (nT (by omega)) (by omega) ?_
          rw [hg]
          refine g_callS (M' := mX4_isSign) dX4_behindRow_34 lc_X4_isSign ml_X4_108 (c_x4sig _ (tp k)) rfl rfl ⟨Nat.le_of_ble_eq_true rfl, Nat.le_of_ble_eq_true rfl, Nat.le_of_ble_eq_true rfl, Nat.le_of_ble_eq_true rfl⟩ (Nat.le_of_ble_eq_true rfl) ?_
          intro r_ h_ q_; obtain ⟨q1_, q2_⟩ := q_; have q2_ := q2_.symm; subst q1_; subst q2_
          refine g_if_eq (tgt := 46) dX4_behindRow_37 (by decide) (fun hc37 => ?_) (fun hc37 => ?_)
          · replace hc37 := bI_0.mp hc37
            (try simp (disch := omega) only [nT, t_m1000100, t_m1000010, t_m1000003, t_m1000002, t_m1000001, t_m1000000, t_m65535, t_m1000, t_m3, t_m1, t_0, t_1, t_2, t_3, t_4, t_5, t_6, t_7, t_8, t_9, t_10, t_11, t_12, t_13, t_15, t_16, t_20, t_21, t_22, t_32, t_40, t_41, t_48, t_49, t_57, t_59, t_60, t_63, t_72, t_76, t_88, t_100, t_144, t_200, t_255, t_288, t_400, t_800, t_999, t_1000, t_1024, t_1200, t_1600, t_3200, t_100000, t_200000, t_252645135, t_858993459, t_1431655765, u_m1000002, u_m1000001, u_m1000, u_m3, u_m1, u_0, u_1, u_2, u_3, u_4, u_5, u_7, u_8, u_10, u_11, u_15, u_60, u_100, u_255, u_999, u_1000, u_100000, u_4294967295] at hc37)
            rw [fwd_f (fun q => by rcases isRw_t.mp q with q | q <;> contradiction)] at he
            subst he
            refine g_iload_n (i := 2) dX4_behindRow_46 rfl rfl ?_
            refine g_iret dX4_behindRow_47 rfl (rfl) (hQ _ _ ?_)
            exact ⟨rfl, rfl⟩
          · replace hc37 := bI_n0.mp hc37
            (try simp (disch := omega) only [nT, t_m1000100, t_m1000010, t_m1000003, t_m1000002, t_m1000001, t_m1000000, t_m65535, t_m1000, t_m3, t_m1, t_0, t_1, t_2, t_3, t_4, t_5, t_6, t_7, t_8, t_9, t_10, t_11, t_12, t_13, t_15, t_16, t_20, t_21, t_22, t_32, t_40, t_41, t_48, t_49, t_57, t_59, t_60, t_63, t_72, t_76, t_88, t_100, t_144, t_200, t_255, t_288, t_400, t_800, t_999, t_1000, t_1024, t_1200, t_1600, t_3200, t_100000, t_200000, t_252645135, t_858993459, t_1431655765, u_m1000002, u_m1000001, u_m1000, u_m3, u_m1, u_0, u_1, u_2, u_3, u_4, u_5, u_7, u_8, u_10, u_11, u_15, u_60, u_100, u_255, u_999, u_1000, u_100000, u_4294967295] at hc37)
            refine g_iinc dX4_behindRow_40 rfl (Nat.le_of_ble_eq_true rfl) rfl ?_
            refine g_goto (tgt := 2) dX4_behindRow_43 (by decide) ?_
            rw [ni_incO]
            rw [fwd_t (by omega) (isRw_t.mpr (by first | exact Or.inl (by assumption) | exact Or.inr (by assumption)))] at he
            exact ih _ (by omega) he
  refine g_iload_n (i := 1) dX4_behindRow_0 rfl rfl ?_
  refine g_istore_n (i := 2) dX4_behindRow_1 rfl (Nat.le_of_ble_eq_true rfl) rfl ?_
  exact key (L - p) p (by omega) hz
theorem c_isAt {h : HH} {I L : Nat} {tp : Nat → Int32} (ht : TxX h I L tp) {p : Nat} (hp : p ≤ L) {c : Int32} {k : Int} (hc : c.toInt = k) : CT mX4_isAt 0 0 0 [.ref 6, .int (nI p), .int c] h (fun r h' => r = some (.int (bI (p < L ∧ (tp p).toInt = k))) ∧ h' = h) := by
  obtain ⟨hI, hL, e1, e2, e3, e4, e5, tx, e6, e7⟩ := ht
  refine CT.go [.ref 6, .int (nI p), .int c] (by decide +kernel) rfl rfl (fun Q' hQ => ?_)
  refine g_iload_n (i := 1) dX4_isAt_0 rfl rfl ?_
  refine g_aload_n (i := 0) dX4_isAt_1 rfl rfl ?_
  refine g_get dX4_isAt_2 fl_X4_25 (by repeat' (first | assumption | exact rF_eq | (apply rF_nj; focus decide) | (apply rF_nk; focus omega) | refine rF_a ?_ | exact rA_eq | refine rA_ne (by omega) ?_ | refine rA_f ?_)) (by repeat' (first | assumption | exact rF_eq | (apply rF_nj; focus decide) | (apply rF_nk; focus omega) | refine rF_a ?_ | exact rA_eq | refine rA_ne (by omega) ?_ | refine rA_f ?_)) ?_
  refine g_icmp_ge (tgt := 25) dX4_isAt_5 (by decide) (fun hc5 => ?_) (fun hc5 => ?_)
  · (try simp (disch := omega) only [nT, t_m1000100, t_m1000010, t_m1000003, t_m1000002, t_m1000001, t_m1000000, t_m65535, t_m1000, t_m3, t_m1, t_0, t_1, t_2, t_3, t_4, t_5, t_6, t_7, t_8, t_9, t_10, t_11, t_12, t_13, t_15, t_16, t_20, t_21, t_22, t_32, t_40, t_41, t_48, t_49, t_57, t_59, t_60, t_63, t_72, t_76, t_88, t_100, t_144, t_200, t_255, t_288, t_400, t_800, t_999, t_1000, t_1024, t_1200, t_1600, t_3200, t_100000, t_200000, t_252645135, t_858993459, t_1431655765, u_m1000002, u_m1000001, u_m1000, u_m3, u_m1, u_0, u_1, u_2, u_3, u_4, u_5, u_7, u_8, u_10, u_11, u_15, u_60, u_100, u_255, u_999, u_1000, u_100000, u_4294967295] at hc5)
    rw [bI_f (by omega)] at hQ
    refine g_iconst (v := 0) dX4_isAt_25 (by decide) ?_
    refine g_iret dX4_isAt_26 rfl (rfl) (hQ _ _ ?_)
    exact ⟨rfl, rfl⟩
  · (try simp (disch := omega) only [nT, t_m1000100, t_m1000010, t_m1000003, t_m1000002, t_m1000001, t_m1000000, t_m65535, t_m1000, t_m3, t_m1, t_0, t_1, t_2, t_3, t_4, t_5, t_6, t_7, t_8, t_9, t_10, t_11, t_12, t_13, t_15, t_16, t_20, t_21, t_22, t_32, t_40, t_41, t_48, t_49, t_57, t_59, t_60, t_63, t_72, t_76, t_88, t_100, t_144, t_200, t_255, t_288, t_400, t_800, t_999, t_1000, t_1024, t_1200, t_1600, t_3200, t_100000, t_200000, t_252645135, t_858993459, t_1431655765, u_m1000002, u_m1000001, u_m1000, u_m3, u_m1, u_0, u_1, u_2, u_3, u_4, u_5, u_7, u_8, u_10, u_11, u_15, u_60, u_100, u_255, u_999, u_1000, u_100000, u_4294967295] at hc5)
    refine g_aload_n (i := 0) dX4_isAt_8 rfl rfl ?_
    refine g_get dX4_isAt_9 fl_X4_12 (by repeat' (first | assumption | exact rF_eq | (apply rF_nj; focus decide) | (apply rF_nk; focus omega) | refine rF_a ?_ | exact rA_eq | refine rA_ne (by omega) ?_ | refine rA_f ?_)) (by repeat' (first | assumption | exact rF_eq | (apply rF_nj; focus decide) | (apply rF_nk; focus omega) | refine rF_a ?_ | exact rA_eq | refine rA_ne (by omega) ?_ | refine rA_f ?_)) ?_
    refine g_get dX4_isAt_12 fl_X4_56 (by repeat' (first | assumption | exact rF_eq | (apply rF_nj; focus decide) | (apply rF_nk; focus omega) | refine rF_a ?_ | exact rA_eq | refine rA_ne (by omega) ?_ | refine rA_f ?_)) (by repeat' (first | assumption | exact rF_eq | (apply rF_nj; focus decide) | (apply rF_nk; focus omega) | refine rF_a ?_ | exact rA_eq | refine rA_ne (by omega) ?_ | refine rA_f ?_)) ?_
    refine g_iload_n (i := 1) dX4_isAt_15 rfl rfl ?_
    refine g_iald dX4_isAt_16 (by repeat' (first | assumption | exact rF_eq | (apply rF_nj; focus decide) | (apply rF_nk; focus omega) | refine rF_a ?_ | exact rA_eq | refine rA_ne (by omega) ?_ | refine rA_f ?_)) (nT (by omega)) (by omega) ?_
    rw [e7 p (by omega)]
    refine g_iload_n (i := 2) dX4_isAt_17 rfl rfl ?_
    refine g_icmp_ne (tgt := 25) dX4_isAt_18 (by decide) (fun hc18 => ?_) (fun hc18 => ?_)
    · have hd18 := mt i_eq.mpr hc18; (try simp (disch := omega) only [nT, t_m1000100, t_m1000010, t_m1000003, t_m1000002, t_m1000001, t_m1000000, t_m65535, t_m1000, t_m3, t_m1, t_0, t_1, t_2, t_3, t_4, t_5, t_6, t_7, t_8, t_9, t_10, t_11, t_12, t_13, t_15, t_16, t_20, t_21, t_22, t_32, t_40, t_41, t_48, t_49, t_57, t_59, t_60, t_63, t_72, t_76, t_88, t_100, t_144, t_200, t_255, t_288, t_400, t_800, t_999, t_1000, t_1024, t_1200, t_1600, t_3200, t_100000, t_200000, t_252645135, t_858993459, t_1431655765, u_m1000002, u_m1000001, u_m1000, u_m3, u_m1, u_0, u_1, u_2, u_3, u_4, u_5, u_7, u_8, u_10, u_11, u_15, u_60, u_100, u_255, u_999, u_1000, u_100000, u_4294967295] at hd18)
      rw [bI_f (by omega)] at hQ
      refine g_iconst (v := 0) dX4_isAt_25 (by decide) ?_
      refine g_iret dX4_isAt_26 rfl (rfl) (hQ _ _ ?_)
      exact ⟨rfl, rfl⟩
    · have hd18 := i_eq.mp hc18; (try simp (disch := omega) only [nT, t_m1000100, t_m1000010, t_m1000003, t_m1000002, t_m1000001, t_m1000000, t_m65535, t_m1000, t_m3, t_m1, t_0, t_1, t_2, t_3, t_4, t_5, t_6, t_7, t_8, t_9, t_10, t_11, t_12, t_13, t_15, t_16, t_20, t_21, t_22, t_32, t_40, t_41, t_48, t_49, t_57, t_59, t_60, t_63, t_72, t_76, t_88, t_100, t_144, t_200, t_255, t_288, t_400, t_800, t_999, t_1000, t_1024, t_1200, t_1600, t_3200, t_100000, t_200000, t_252645135, t_858993459, t_1431655765, u_m1000002, u_m1000001, u_m1000, u_m3, u_m1, u_0, u_1, u_2, u_3, u_4, u_5, u_7, u_8, u_10, u_11, u_15, u_60, u_100, u_255, u_999, u_1000, u_100000, u_4294967295] at hd18)
      rw [bI_t (by omega)] at hQ
      refine g_iconst (v := 1) dX4_isAt_21 (by decide) ?_
      refine g_goto (tgt := 26) dX4_isAt_22 (by decide) ?_
      refine g_iret dX4_isAt_26 rfl (rfl) (hQ _ _ ?_)
      exact ⟨rfl, rfl⟩
theorem c_areSigns {h : HH} {I L : Nat} {tp : Nat → Int32} (ht : TxX h I L tp) {p e : Nat} (hp : p ≤ e) (hE : e ≤ L) : CT mX4_areSigns 1 0 0 [.ref 6, .int (nI p), .int (nI e)] h (fun r h' => r = some (.int (bI (alB isSg tp (e - p) p = true))) ∧ h' = h) := by
  obtain ⟨hI, hL, e1, e2, e3, e4, e5, tx, e6, e7⟩ := ht
  refine CT.go [.ref 6, .int (nI p), .int (nI e), hU] (by decide +kernel) rfl rfl (fun Q' hQ => ?_)
  generalize hz : alB isSg tp (e - p) p = z at hQ
  have key : ∀ m k : Nat, k + m = e → alB isSg tp m k = z → GG (EM mX4_areSigns 1 0 0 Q') 0 0 2 [.ref 6, .int (nI p), .int (nI e), .int (nI k)] [] h := by
    intro m
    induction m with
    | zero =>
      intro k hk he
      obtain rfl : true = z := he
      refine g_iload_n (i := 3) dX4_areSigns_2 rfl rfl ?_
      refine g_iload_n (i := 2) dX4_areSigns_3 rfl rfl ?_
      refine g_icmp_ge (tgt := 30) dX4_areSigns_4 (by decide) (fun hc4 => ?_) (fun hc4 => ?_)
      · (try simp (disch := omega) only [nT, t_m1000100, t_m1000010, t_m1000003, t_m1000002, t_m1000001, t_m1000000, t_m65535, t_m1000, t_m3, t_m1, t_0, t_1, t_2, t_3, t_4, t_5, t_6, t_7, t_8, t_9, t_10, t_11, t_12, t_13, t_15, t_16, t_20, t_21, t_22, t_32, t_40, t_41, t_48, t_49, t_57, t_59, t_60, t_63, t_72, t_76, t_88, t_100, t_144, t_200, t_255, t_288, t_400, t_800, t_999, t_1000, t_1024, t_1200, t_1600, t_3200, t_100000, t_200000, t_252645135, t_858993459, t_1431655765, u_m1000002, u_m1000001, u_m1000, u_m3, u_m1, u_0, u_1, u_2, u_3, u_4, u_5, u_7, u_8, u_10, u_11, u_15, u_60, u_100, u_255, u_999, u_1000, u_100000, u_4294967295] at hc4)
        refine g_iconst (v := 1) dX4_areSigns_30 (by decide) ?_
        refine g_iret dX4_areSigns_31 rfl (rfl) (hQ _ _ ?_)
        exact ⟨rfl, rfl⟩
      · (try simp (disch := omega) only [nT, t_m1000100, t_m1000010, t_m1000003, t_m1000002, t_m1000001, t_m1000000, t_m65535, t_m1000, t_m3, t_m1, t_0, t_1, t_2, t_3, t_4, t_5, t_6, t_7, t_8, t_9, t_10, t_11, t_12, t_13, t_15, t_16, t_20, t_21, t_22, t_32, t_40, t_41, t_48, t_49, t_57, t_59, t_60, t_63, t_72, t_76, t_88, t_100, t_144, t_200, t_255, t_288, t_400, t_800, t_999, t_1000, t_1024, t_1200, t_1600, t_3200, t_100000, t_200000, t_252645135, t_858993459, t_1431655765, u_m1000002, u_m1000001, u_m1000, u_m3, u_m1, u_0, u_1, u_2, u_3, u_4, u_5, u_7, u_8, u_10, u_11, u_15, u_60, u_100, u_255, u_999, u_1000, u_100000, u_4294967295] at hc4); omega
    | succ m ih =>
      intro k hk he
      have hg := e7 k (by omega)
      unfold alB at he
      refine g_iload_n (i := 3) dX4_areSigns_2 rfl rfl ?_
      refine g_iload_n (i := 2) dX4_areSigns_3 rfl rfl ?_
      refine g_icmp_ge (tgt := 30) dX4_areSigns_4 (by decide) (fun hc4 => ?_) (fun hc4 => ?_)
      · (try simp (disch := omega) only [nT, t_m1000100, t_m1000010, t_m1000003, t_m1000002, t_m1000001, t_m1000000, t_m65535, t_m1000, t_m3, t_m1, t_0, t_1, t_2, t_3, t_4, t_5, t_6, t_7, t_8, t_9, t_10, t_11, t_12, t_13, t_15, t_16, t_20, t_21, t_22, t_32, t_40, t_41, t_48, t_49, t_57, t_59, t_60, t_63, t_72, t_76, t_88, t_100, t_144, t_200, t_255, t_288, t_400, t_800, t_999, t_1000, t_1024, t_1200, t_1600, t_3200, t_100000, t_200000, t_252645135, t_858993459, t_1431655765, u_m1000002, u_m1000001, u_m1000, u_m3, u_m1, u_0, u_1, u_2, u_3, u_4, u_5, u_7, u_8, u_10, u_11, u_15, u_60, u_100, u_255, u_999, u_1000, u_100000, u_4294967295] at hc4); omega
      · (try simp (disch := omega) only [nT, t_m1000100, t_m1000010, t_m1000003, t_m1000002, t_m1000001, t_m1000000, t_m65535, t_m1000, t_m3, t_m1, t_0, t_1, t_2, t_3, t_4, t_5, t_6, t_7, t_8, t_9, t_10, t_11, t_12, t_13, t_15, t_16, t_20, t_21, t_22, t_32, t_40, t_41, t_48, t_49, t_57, t_59, t_60, t_63, t_72, t_76, t_88, t_100, t_144, t_200, t_255, t_288, t_400, t_800, t_999, t_1000, t_1024, t_1200, t_1600, t_3200, t_100000, t_200000, t_252645135, t_858993459, t_1431655765, u_m1000002, u_m1000001, u_m1000, u_m3, u_m1, u_0, u_1, u_2, u_3, u_4, u_5, u_7, u_8, u_10, u_11, u_15, u_60, u_100, u_255, u_999, u_1000, u_100000, u_4294967295] at hc4)
        refine g_aload_n (i := 0) dX4_areSigns_7 rfl rfl ?_
        refine g_get dX4_areSigns_8 fl_X4_12 (by repeat' (first | assumption | exact rF_eq | (apply rF_nj; focus decide) | (apply rF_nk; focus omega) | refine rF_a ?_ | exact rA_eq | refine rA_ne (by omega) ?_ | refine rA_f ?_)) (by repeat' (first | assumption | exact rF_eq | (apply rF_nj; focus decide) | (apply rF_nk; focus omega) | refine rF_a ?_ | exact rA_eq | refine rA_ne (by omega) ?_ | refine rA_f ?_)) ?_
        refine g_get dX4_areSigns_11 fl_X4_56 (by repeat' (first | assumption | exact rF_eq | (apply rF_nj; focus decide) | (apply rF_nk; focus omega) | refine rF_a ?_ | exact rA_eq | refine rA_ne (by omega) ?_ | refine rA_f ?_)) (by repeat' (first | assumption | exact rF_eq | (apply rF_nj; focus decide) | (apply rF_nk; focus omega) | refine rF_a ?_ | exact rA_eq | refine rA_ne (by omega) ?_ | refine rA_f ?_)) ?_
        refine g_iload_n (i := 3) dX4_areSigns_14 rfl rfl ?_
        refine g_iald dX4_areSigns_15 (by repeat' (first | assumption | exact rF_eq | (apply rF_nj; focus decide) | (apply rF_nk; focus omega) | refine rF_a ?_ | exact rA_eq | refine rA_ne (by omega) ?_ | refine rA_f ?_)) (nT (by omega)) (by omega) ?_
        rw [hg]
        refine g_callS (M' := mX4_isSign) dX4_areSigns_16 lc_X4_isSign ml_X4_108 (c_x4sig _ (tp k)) rfl rfl ⟨Nat.le_of_ble_eq_true rfl, Nat.le_of_ble_eq_true rfl, Nat.le_of_ble_eq_true rfl, Nat.le_of_ble_eq_true rfl⟩ (Nat.le_of_ble_eq_true rfl) ?_
        intro r_ h_ q_; obtain ⟨q1_, q2_⟩ := q_; have q2_ := q2_.symm; subst q1_; subst q2_
        refine g_if_ne (tgt := 24) dX4_areSigns_19 (by decide) (fun hc19 => ?_) (fun hc19 => ?_)
        · replace hc19 := bI_n0.mp hc19
          (try simp (disch := omega) only [nT, t_m1000100, t_m1000010, t_m1000003, t_m1000002, t_m1000001, t_m1000000, t_m65535, t_m1000, t_m3, t_m1, t_0, t_1, t_2, t_3, t_4, t_5, t_6, t_7, t_8, t_9, t_10, t_11, t_12, t_13, t_15, t_16, t_20, t_21, t_22, t_32, t_40, t_41, t_48, t_49, t_57, t_59, t_60, t_63, t_72, t_76, t_88, t_100, t_144, t_200, t_255, t_288, t_400, t_800, t_999, t_1000, t_1024, t_1200, t_1600, t_3200, t_100000, t_200000, t_252645135, t_858993459, t_1431655765, u_m1000002, u_m1000001, u_m1000, u_m3, u_m1, u_0, u_1, u_2, u_3, u_4, u_5, u_7, u_8, u_10, u_11, u_15, u_60, u_100, u_255, u_999, u_1000, u_100000, u_4294967295] at hc19)
          refine g_iinc dX4_areSigns_24 rfl (Nat.le_of_ble_eq_true rfl) rfl ?_
          refine g_goto (tgt := 2) dX4_areSigns_27 (by decide) ?_
          rw [ni_incO]
          rw [hc19, Bool.true_and] at he
          exact ih _ (by omega) he
        · replace hc19 := bI_0.mp hc19
          (try simp (disch := omega) only [nT, t_m1000100, t_m1000010, t_m1000003, t_m1000002, t_m1000001, t_m1000000, t_m65535, t_m1000, t_m3, t_m1, t_0, t_1, t_2, t_3, t_4, t_5, t_6, t_7, t_8, t_9, t_10, t_11, t_12, t_13, t_15, t_16, t_20, t_21, t_22, t_32, t_40, t_41, t_48, t_49, t_57, t_59, t_60, t_63, t_72, t_76, t_88, t_100, t_144, t_200, t_255, t_288, t_400, t_800, t_999, t_1000, t_1024, t_1200, t_1600, t_3200, t_100000, t_200000, t_252645135, t_858993459, t_1431655765, u_m1000002, u_m1000001, u_m1000, u_m3, u_m1, u_0, u_1, u_2, u_3, u_4, u_5, u_7, u_8, u_10, u_11, u_15, u_60, u_100, u_255, u_999, u_1000, u_100000, u_4294967295] at hc19)
          rw [Bool.eq_false_iff.mpr hc19, Bool.false_and] at he
          subst he
          refine g_iconst (v := 0) dX4_areSigns_22 (by decide) ?_
          refine g_iret dX4_areSigns_23 rfl (rfl) (hQ _ _ ?_)
          exact ⟨rfl, rfl⟩
  refine g_iload_n (i := 1) dX4_areSigns_0 rfl rfl ?_
  refine g_istore_n (i := 3) dX4_areSigns_1 rfl (Nat.le_of_ble_eq_true rfl) rfl ?_
  exact key (e - p) p (by omega) hz
theorem c_areFigures {h : HH} {I L : Nat} {tp : Nat → Int32} (ht : TxX h I L tp) {p e : Nat} (hp : p ≤ e) (hE : e ≤ L) : CT mX4_areFigures 1 0 0 [.ref 6, .int (nI p), .int (nI e)] h (fun r h' => r = some (.int (bI (alB isFg tp (e - p) p = true))) ∧ h' = h) := by
  obtain ⟨hI, hL, e1, e2, e3, e4, e5, tx, e6, e7⟩ := ht
  refine CT.go [.ref 6, .int (nI p), .int (nI e), hU] (by decide +kernel) rfl rfl (fun Q' hQ => ?_)
  generalize hz : alB isFg tp (e - p) p = z at hQ
  have key : ∀ m k : Nat, k + m = e → alB isFg tp m k = z → GG (EM mX4_areFigures 1 0 0 Q') 0 0 2 [.ref 6, .int (nI p), .int (nI e), .int (nI k)] [] h := by
    intro m
    induction m with
    | zero =>
      intro k hk he
      obtain rfl : true = z := he
      refine g_iload_n (i := 3) dX4_areFigures_2 rfl rfl ?_
      refine g_iload_n (i := 2) dX4_areFigures_3 rfl rfl ?_
      refine g_icmp_ge (tgt := 30) dX4_areFigures_4 (by decide) (fun hc4 => ?_) (fun hc4 => ?_)
      · (try simp (disch := omega) only [nT, t_m1000100, t_m1000010, t_m1000003, t_m1000002, t_m1000001, t_m1000000, t_m65535, t_m1000, t_m3, t_m1, t_0, t_1, t_2, t_3, t_4, t_5, t_6, t_7, t_8, t_9, t_10, t_11, t_12, t_13, t_15, t_16, t_20, t_21, t_22, t_32, t_40, t_41, t_48, t_49, t_57, t_59, t_60, t_63, t_72, t_76, t_88, t_100, t_144, t_200, t_255, t_288, t_400, t_800, t_999, t_1000, t_1024, t_1200, t_1600, t_3200, t_100000, t_200000, t_252645135, t_858993459, t_1431655765, u_m1000002, u_m1000001, u_m1000, u_m3, u_m1, u_0, u_1, u_2, u_3, u_4, u_5, u_7, u_8, u_10, u_11, u_15, u_60, u_100, u_255, u_999, u_1000, u_100000, u_4294967295] at hc4)
        refine g_iconst (v := 1) dX4_areFigures_30 (by decide) ?_
        refine g_iret dX4_areFigures_31 rfl (rfl) (hQ _ _ ?_)
        exact ⟨rfl, rfl⟩
      · (try simp (disch := omega) only [nT, t_m1000100, t_m1000010, t_m1000003, t_m1000002, t_m1000001, t_m1000000, t_m65535, t_m1000, t_m3, t_m1, t_0, t_1, t_2, t_3, t_4, t_5, t_6, t_7, t_8, t_9, t_10, t_11, t_12, t_13, t_15, t_16, t_20, t_21, t_22, t_32, t_40, t_41, t_48, t_49, t_57, t_59, t_60, t_63, t_72, t_76, t_88, t_100, t_144, t_200, t_255, t_288, t_400, t_800, t_999, t_1000, t_1024, t_1200, t_1600, t_3200, t_100000, t_200000, t_252645135, t_858993459, t_1431655765, u_m1000002, u_m1000001, u_m1000, u_m3, u_m1, u_0, u_1, u_2, u_3, u_4, u_5, u_7, u_8, u_10, u_11, u_15, u_60, u_100, u_255, u_999, u_1000, u_100000, u_4294967295] at hc4); omega
    | succ m ih =>
      intro k hk he
      have hg := e7 k (by omega)
      unfold alB at he
      refine g_iload_n (i := 3) dX4_areFigures_2 rfl rfl ?_
      refine g_iload_n (i := 2) dX4_areFigures_3 rfl rfl ?_
      refine g_icmp_ge (tgt := 30) dX4_areFigures_4 (by decide) (fun hc4 => ?_) (fun hc4 => ?_)
      · (try simp (disch := omega) only [nT, t_m1000100, t_m1000010, t_m1000003, t_m1000002, t_m1000001, t_m1000000, t_m65535, t_m1000, t_m3, t_m1, t_0, t_1, t_2, t_3, t_4, t_5, t_6, t_7, t_8, t_9, t_10, t_11, t_12, t_13, t_15, t_16, t_20, t_21, t_22, t_32, t_40, t_41, t_48, t_49, t_57, t_59, t_60, t_63, t_72, t_76, t_88, t_100, t_144, t_200, t_255, t_288, t_400, t_800, t_999, t_1000, t_1024, t_1200, t_1600, t_3200, t_100000, t_200000, t_252645135, t_858993459, t_1431655765, u_m1000002, u_m1000001, u_m1000, u_m3, u_m1, u_0, u_1, u_2, u_3, u_4, u_5, u_7, u_8, u_10, u_11, u_15, u_60, u_100, u_255, u_999, u_1000, u_100000, u_4294967295] at hc4); omega
      · (try simp (disch := omega) only [nT, t_m1000100, t_m1000010, t_m1000003, t_m1000002, t_m1000001, t_m1000000, t_m65535, t_m1000, t_m3, t_m1, t_0, t_1, t_2, t_3, t_4, t_5, t_6, t_7, t_8, t_9, t_10, t_11, t_12, t_13, t_15, t_16, t_20, t_21, t_22, t_32, t_40, t_41, t_48, t_49, t_57, t_59, t_60, t_63, t_72, t_76, t_88, t_100, t_144, t_200, t_255, t_288, t_400, t_800, t_999, t_1000, t_1024, t_1200, t_1600, t_3200, t_100000, t_200000, t_252645135, t_858993459, t_1431655765, u_m1000002, u_m1000001, u_m1000, u_m3, u_m1, u_0, u_1, u_2, u_3, u_4, u_5, u_7, u_8, u_10, u_11, u_15, u_60, u_100, u_255, u_999, u_1000, u_100000, u_4294967295] at hc4)
        refine g_aload_n (i := 0) dX4_areFigures_7 rfl rfl ?_
        refine g_get dX4_areFigures_8 fl_X4_12 (by repeat' (first | assumption | exact rF_eq | (apply rF_nj; focus decide) | (apply rF_nk; focus omega) | refine rF_a ?_ | exact rA_eq | refine rA_ne (by omega) ?_ | refine rA_f ?_)) (by repeat' (first | assumption | exact rF_eq | (apply rF_nj; focus decide) | (apply rF_nk; focus omega) | refine rF_a ?_ | exact rA_eq | refine rA_ne (by omega) ?_ | refine rA_f ?_)) ?_
        refine g_get dX4_areFigures_11 fl_X4_56 (by repeat' (first | assumption | exact rF_eq | (apply rF_nj; focus decide) | (apply rF_nk; focus omega) | refine rF_a ?_ | exact rA_eq | refine rA_ne (by omega) ?_ | refine rA_f ?_)) (by repeat' (first | assumption | exact rF_eq | (apply rF_nj; focus decide) | (apply rF_nk; focus omega) | refine rF_a ?_ | exact rA_eq | refine rA_ne (by omega) ?_ | refine rA_f ?_)) ?_
        refine g_iload_n (i := 3) dX4_areFigures_14 rfl rfl ?_
        refine g_iald dX4_areFigures_15 (by repeat' (first | assumption | exact rF_eq | (apply rF_nj; focus decide) | (apply rF_nk; focus omega) | refine rF_a ?_ | exact rA_eq | refine rA_ne (by omega) ?_ | refine rA_f ?_)) (nT (by omega)) (by omega) ?_
        rw [hg]
        refine g_callS (M' := mX4_isFigure) dX4_areFigures_16 lc_X4_isFigure ml_X4_104 (c_x4fig _ (tp k)) rfl rfl ⟨Nat.le_of_ble_eq_true rfl, Nat.le_of_ble_eq_true rfl, Nat.le_of_ble_eq_true rfl, Nat.le_of_ble_eq_true rfl⟩ (Nat.le_of_ble_eq_true rfl) ?_
        intro r_ h_ q_; obtain ⟨q1_, q2_⟩ := q_; have q2_ := q2_.symm; subst q1_; subst q2_
        refine g_if_ne (tgt := 24) dX4_areFigures_19 (by decide) (fun hc19 => ?_) (fun hc19 => ?_)
        · replace hc19 := bI_n0.mp hc19
          (try simp (disch := omega) only [nT, t_m1000100, t_m1000010, t_m1000003, t_m1000002, t_m1000001, t_m1000000, t_m65535, t_m1000, t_m3, t_m1, t_0, t_1, t_2, t_3, t_4, t_5, t_6, t_7, t_8, t_9, t_10, t_11, t_12, t_13, t_15, t_16, t_20, t_21, t_22, t_32, t_40, t_41, t_48, t_49, t_57, t_59, t_60, t_63, t_72, t_76, t_88, t_100, t_144, t_200, t_255, t_288, t_400, t_800, t_999, t_1000, t_1024, t_1200, t_1600, t_3200, t_100000, t_200000, t_252645135, t_858993459, t_1431655765, u_m1000002, u_m1000001, u_m1000, u_m3, u_m1, u_0, u_1, u_2, u_3, u_4, u_5, u_7, u_8, u_10, u_11, u_15, u_60, u_100, u_255, u_999, u_1000, u_100000, u_4294967295] at hc19)
          refine g_iinc dX4_areFigures_24 rfl (Nat.le_of_ble_eq_true rfl) rfl ?_
          refine g_goto (tgt := 2) dX4_areFigures_27 (by decide) ?_
          rw [ni_incO]
          rw [hc19, Bool.true_and] at he
          exact ih _ (by omega) he
        · replace hc19 := bI_0.mp hc19
          (try simp (disch := omega) only [nT, t_m1000100, t_m1000010, t_m1000003, t_m1000002, t_m1000001, t_m1000000, t_m65535, t_m1000, t_m3, t_m1, t_0, t_1, t_2, t_3, t_4, t_5, t_6, t_7, t_8, t_9, t_10, t_11, t_12, t_13, t_15, t_16, t_20, t_21, t_22, t_32, t_40, t_41, t_48, t_49, t_57, t_59, t_60, t_63, t_72, t_76, t_88, t_100, t_144, t_200, t_255, t_288, t_400, t_800, t_999, t_1000, t_1024, t_1200, t_1600, t_3200, t_100000, t_200000, t_252645135, t_858993459, t_1431655765, u_m1000002, u_m1000001, u_m1000, u_m3, u_m1, u_0, u_1, u_2, u_3, u_4, u_5, u_7, u_8, u_10, u_11, u_15, u_60, u_100, u_255, u_999, u_1000, u_100000, u_4294967295] at hc19)
          rw [Bool.eq_false_iff.mpr hc19, Bool.false_and] at he
          subst he
          refine g_iconst (v := 0) dX4_areFigures_22 (by decide) ?_
          refine g_iret dX4_areFigures_23 rfl (rfl) (hQ _ _ ?_)
          exact ⟨rfl, rfl⟩
  refine g_iload_n (i := 1) dX4_areFigures_0 rfl rfl ?_
  refine g_istore_n (i := 3) dX4_areFigures_1 rfl (Nat.le_of_ble_eq_true rfl) rfl ?_
  exact key (e - p) p (by omega) hz
theorem c_numberAt {h : HH} {I L : Nat} {tp : Nat → Int32} (ht : TxX h I L tp) {p e : Nat} (hp : p ≤ e) (hE : e ≤ L) : CT mX4_numberAt 0 0 0 [.ref 6, .int (nI p), .int (nI e)] h (fun r h' => r = some (.int (numB tp (e - p) p 0)) ∧ h' = h) := by
  obtain ⟨hI, hL, e1, e2, e3, e4, e5, tx, e6, e7⟩ := ht
  refine CT.go [.ref 6, .int (nI p), .int (nI e), hU, hU] (by decide +kernel) rfl rfl (fun Q' hQ => ?_)
  generalize hz : numB tp (e - p) p 0 = z at hQ
  have key : ∀ (m k : Nat) (v : Int32), k + m = e → numB tp m k v = z → GG (EM mX4_numberAt 0 0 0 Q') 0 0 5 [.ref 6, .int (nI p), .int (nI e), .int v, .int (nI k)] [] h := by
    intro m
    induction m with
    | zero =>
      intro k v hk he
      obtain rfl : v = z := he
      refine g_iload dX4_numberAt_5 rfl ?_
      refine g_iload_n (i := 2) dX4_numberAt_7 rfl rfl ?_
      refine g_icmp_ge (tgt := 36) dX4_numberAt_8 (by decide) (fun hc8 => ?_) (fun hc8 => ?_)
      · (try simp (disch := omega) only [nT, t_m1000100, t_m1000010, t_m1000003, t_m1000002, t_m1000001, t_m1000000, t_m65535, t_m1000, t_m3, t_m1, t_0, t_1, t_2, t_3, t_4, t_5, t_6, t_7, t_8, t_9, t_10, t_11, t_12, t_13, t_15, t_16, t_20, t_21, t_22, t_32, t_40, t_41, t_48, t_49, t_57, t_59, t_60, t_63, t_72, t_76, t_88, t_100, t_144, t_200, t_255, t_288, t_400, t_800, t_999, t_1000, t_1024, t_1200, t_1600, t_3200, t_100000, t_200000, t_252645135, t_858993459, t_1431655765, u_m1000002, u_m1000001, u_m1000, u_m3, u_m1, u_0, u_1, u_2, u_3, u_4, u_5, u_7, u_8, u_10, u_11, u_15, u_60, u_100, u_255, u_999, u_1000, u_100000, u_4294967295] at hc8)
        refine g_iload_n (i := 3) dX4_numberAt_36 rfl rfl ?_
        refine g_iret dX4_numberAt_37 rfl (rfl) (hQ _ _ ?_)
        exact ⟨rfl, rfl⟩
      · (try simp (disch := omega) only [nT, t_m1000100, t_m1000010, t_m1000003, t_m1000002, t_m1000001, t_m1000000, t_m65535, t_m1000, t_m3, t_m1, t_0, t_1, t_2, t_3, t_4, t_5, t_6, t_7, t_8, t_9, t_10, t_11, t_12, t_13, t_15, t_16, t_20, t_21, t_22, t_32, t_40, t_41, t_48, t_49, t_57, t_59, t_60, t_63, t_72, t_76, t_88, t_100, t_144, t_200, t_255, t_288, t_400, t_800, t_999, t_1000, t_1024, t_1200, t_1600, t_3200, t_100000, t_200000, t_252645135, t_858993459, t_1431655765, u_m1000002, u_m1000001, u_m1000, u_m3, u_m1, u_0, u_1, u_2, u_3, u_4, u_5, u_7, u_8, u_10, u_11, u_15, u_60, u_100, u_255, u_999, u_1000, u_100000, u_4294967295] at hc8); omega
    | succ m ih =>
      intro k v hk he
      have hg := e7 k (by omega)
      unfold numB at he
      refine g_iload dX4_numberAt_5 rfl ?_
      refine g_iload_n (i := 2) dX4_numberAt_7 rfl rfl ?_
      refine g_icmp_ge (tgt := 36) dX4_numberAt_8 (by decide) (fun hc8 => ?_) (fun hc8 => ?_)
      · (try simp (disch := omega) only [nT, t_m1000100, t_m1000010, t_m1000003, t_m1000002, t_m1000001, t_m1000000, t_m65535, t_m1000, t_m3, t_m1, t_0, t_1, t_2, t_3, t_4, t_5, t_6, t_7, t_8, t_9, t_10, t_11, t_12, t_13, t_15, t_16, t_20, t_21, t_22, t_32, t_40, t_41, t_48, t_49, t_57, t_59, t_60, t_63, t_72, t_76, t_88, t_100, t_144, t_200, t_255, t_288, t_400, t_800, t_999, t_1000, t_1024, t_1200, t_1600, t_3200, t_100000, t_200000, t_252645135, t_858993459, t_1431655765, u_m1000002, u_m1000001, u_m1000, u_m3, u_m1, u_0, u_1, u_2, u_3, u_4, u_5, u_7, u_8, u_10, u_11, u_15, u_60, u_100, u_255, u_999, u_1000, u_100000, u_4294967295] at hc8); omega
      · (try simp (disch := omega) only [nT, t_m1000100, t_m1000010, t_m1000003, t_m1000002, t_m1000001, t_m1000000, t_m65535, t_m1000, t_m3, t_m1, t_0, t_1, t_2, t_3, t_4, t_5, t_6, t_7, t_8, t_9, t_10, t_11, t_12, t_13, t_15, t_16, t_20, t_21, t_22, t_32, t_40, t_41, t_48, t_49, t_57, t_59, t_60, t_63, t_72, t_76, t_88, t_100, t_144, t_200, t_255, t_288, t_400, t_800, t_999, t_1000, t_1024, t_1200, t_1600, t_3200, t_100000, t_200000, t_252645135, t_858993459, t_1431655765, u_m1000002, u_m1000001, u_m1000, u_m3, u_m1, u_0, u_1, u_2, u_3, u_4, u_5, u_7, u_8, u_10, u_11, u_15, u_60, u_100, u_255, u_999, u_1000, u_100000, u_4294967295] at hc8)
        refine g_bipush (v := 10) dX4_numberAt_11 (by decide) ?_
        refine g_iload_n (i := 3) dX4_numberAt_13 rfl rfl ?_
        refine g_imul dX4_numberAt_14 ?_
        refine g_aload_n (i := 0) dX4_numberAt_15 rfl rfl ?_
        refine g_get dX4_numberAt_16 fl_X4_12 (by repeat' (first | assumption | exact rF_eq | (apply rF_nj; focus decide) | (apply rF_nk; focus omega) | refine rF_a ?_ | exact rA_eq | refine rA_ne (by omega) ?_ | refine rA_f ?_)) (by repeat' (first | assumption | exact rF_eq | (apply rF_nj; focus decide) | (apply rF_nk; focus omega) | refine rF_a ?_ | exact rA_eq | refine rA_ne (by omega) ?_ | refine rA_f ?_)) ?_
        refine g_get dX4_numberAt_19 fl_X4_56 (by repeat' (first | assumption | exact rF_eq | (apply rF_nj; focus decide) | (apply rF_nk; focus omega) | refine rF_a ?_ | exact rA_eq | refine rA_ne (by omega) ?_ | refine rA_f ?_)) (by repeat' (first | assumption | exact rF_eq | (apply rF_nj; focus decide) | (apply rF_nk; focus omega) | refine rF_a ?_ | exact rA_eq | refine rA_ne (by omega) ?_ | refine rA_f ?_)) ?_
        refine g_iload dX4_numberAt_22 rfl ?_
        refine g_iald dX4_numberAt_24 (by repeat' (first | assumption | exact rF_eq | (apply rF_nj; focus decide) | (apply rF_nk; focus omega) | refine rF_a ?_ | exact rA_eq | refine rA_ne (by omega) ?_ | refine rA_f ?_)) (nT (by omega)) (by omega) ?_
        rw [hg]
        refine g_iadd dX4_numberAt_25 ?_
        refine g_bipush (v := 48) dX4_numberAt_26 (by decide) ?_
        refine g_isub dX4_numberAt_28 ?_
        refine g_istore_n (i := 3) dX4_numberAt_29 rfl (Nat.le_of_ble_eq_true rfl) rfl ?_
        refine g_iinc dX4_numberAt_30 rfl (Nat.le_of_ble_eq_true rfl) rfl ?_
        refine g_goto (tgt := 5) dX4_numberAt_33 (by decide) ?_
        rw [ni_incO]
        exact ih _ _ (by omega) he
  refine g_iconst (v := 0) dX4_numberAt_0 (by decide) ?_
  refine g_istore_n (i := 3) dX4_numberAt_1 rfl (Nat.le_of_ble_eq_true rfl) rfl ?_
  refine g_iload_n (i := 1) dX4_numberAt_2 rfl rfl ?_
  refine g_istore dX4_numberAt_3 (Nat.le_of_ble_eq_true rfl) rfl ?_
  exact key (e - p) p 0 (by omega) hz
theorem c_stopAt {h : HH} {L : Nat} (e1 : gA h 6 = aO 4) (e3 : gF h 6 3 = .int (nI L)) (f q : Int32) : CT mX4_stopAt 0 0 0 [.ref 6, .int f, .int q] h (fun r h' => r = some (.int (nI L)) ∧ h' = sF (sF h 6 2 (.int f)) 6 1 (.int q)) := by
  refine CT.go [.ref 6, .int f, .int q] (by decide +kernel) rfl rfl (fun Q' hQ => ?_)
  refine g_aload_n (i := 0) dX4_stopAt_0 rfl rfl ?_
  refine g_iload_n (i := 1) dX4_stopAt_1 rfl rfl ?_
  refine g_put dX4_stopAt_2 pl_X4_22 (by repeat' (first | assumption | exact rF_eq | refine rF_ne (by decide) ?_ | refine rF_a ?_ | exact rA_eq | refine rA_ne (by decide) ?_ | refine rA_f ?_)) (fun _ => ⟨rfl, rfl⟩) ?_
  refine g_aload_n (i := 0) dX4_stopAt_5 rfl rfl ?_
  refine g_iload_n (i := 2) dX4_stopAt_6 rfl rfl ?_
  refine g_put dX4_stopAt_7 pl_X4_18 (by repeat' (first | assumption | exact rF_eq | refine rF_ne (by decide) ?_ | refine rF_a ?_ | exact rA_eq | refine rA_ne (by decide) ?_ | refine rA_f ?_)) (fun _ => ⟨rfl, rfl⟩) ?_
  refine g_aload_n (i := 0) dX4_stopAt_10 rfl rfl ?_
  refine g_get dX4_stopAt_11 fl_X4_25 (by repeat' (first | assumption | exact rF_eq | refine rF_ne (by decide) ?_ | refine rF_a ?_ | exact rA_eq | refine rA_ne (by decide) ?_ | refine rA_f ?_)) (by repeat' (first | assumption | exact rF_eq | refine rF_ne (by decide) ?_ | refine rF_a ?_ | exact rA_eq | refine rA_ne (by decide) ?_ | refine rA_f ?_)) ?_
  refine g_iret dX4_stopAt_14 rfl (rfl) (hQ _ _ ?_)
  exact ⟨rfl, rfl⟩
/-! the steps -/
def pwB (c : Int32) (tx : Nat → Int32) (q : Nat) : Nat → Nat
  | 0 => 0
  | m + 1 => if tx (q + m) = c then pwB c tx q m + 2 ^ m else pwB c tx q m
theorem pwB_lt (c : Int32) (tx : Nat → Int32) (q : Nat) : ∀ m, pwB c tx q m < 2 ^ m
  | 0 => by unfold pwB; omega
  | m + 1 => by
    have := pwB_lt c tx q m
    unfold pwB
    rw [Nat.pow_succ]
    split <;> omega
theorem or_bit : ∀ m, m < 8 → ∀ v, v < 2 ^ m → (nI v ||| ((1 : Int32) <<< (nI m &&& 31))) = nI (v + 2 ^ m) := by decide +kernel
theorem c_pinsWith {h : HH} {I : Nat} {tx : Nat → Int32} (e4 : gA h I = aO 2) (e5 : gF h I 0 = .ref (I + 1)) (e6 : gA h (I + 1) = aI 400 tx) (c : Int32) {q n : Nat} (hn : n ≤ 8) (hq : q + n ≤ 400) : CT mX2_pinsWith 0 0 0 [.ref I, .int c, .int (nI q), .int (nI n)] h (fun r h' => r = some (.int (nI (pwB c tx q n))) ∧ h' = h) := by
  refine CT.go [.ref I, .int c, .int (nI q), .int (nI n), hU, hU] (by decide +kernel) rfl rfl (fun Q' hQ => ?_)
  have key : ∀ m k : Nat, k + m = n → GG (EM mX2_pinsWith 0 0 0 Q') 0 0 6 [.ref I, .int c, .int (nI q), .int (nI n), .int (nI (pwB c tx q k)), .int (nI k)] [] h := by
    intro m
    induction m with
    | zero =>
      intro k hk
      obtain rfl : k = n := by omega
      refine g_iload dX2_pinsWith_6 rfl ?_
      refine g_iload_n (i := 3) dX2_pinsWith_8 rfl rfl ?_
      refine g_icmp_ge (tgt := 40) dX2_pinsWith_9 (by decide) (fun hc9 => ?_) (fun hc9 => ?_)
      · (try simp (disch := omega) only [nT, t_m1000100, t_m1000010, t_m1000003, t_m1000002, t_m1000001, t_m1000000, t_m65535, t_m1000, t_m3, t_m1, t_0, t_1, t_2, t_3, t_4, t_5, t_6, t_7, t_8, t_9, t_10, t_11, t_12, t_13, t_15, t_16, t_20, t_21, t_22, t_32, t_40, t_41, t_48, t_49, t_57, t_59, t_60, t_63, t_72, t_76, t_88, t_100, t_144, t_200, t_255, t_288, t_400, t_800, t_999, t_1000, t_1024, t_1200, t_1600, t_3200, t_100000, t_200000, t_252645135, t_858993459, t_1431655765, u_m1000002, u_m1000001, u_m1000, u_m3, u_m1, u_0, u_1, u_2, u_3, u_4, u_5, u_7, u_8, u_10, u_11, u_15, u_60, u_100, u_255, u_999, u_1000, u_100000, u_4294967295] at hc9)
        refine g_iload dX2_pinsWith_40 rfl ?_
        refine g_iret dX2_pinsWith_42 rfl (rfl) (hQ _ _ ?_)
        exact ⟨rfl, rfl⟩
      · (try simp (disch := omega) only [nT, t_m1000100, t_m1000010, t_m1000003, t_m1000002, t_m1000001, t_m1000000, t_m65535, t_m1000, t_m3, t_m1, t_0, t_1, t_2, t_3, t_4, t_5, t_6, t_7, t_8, t_9, t_10, t_11, t_12, t_13, t_15, t_16, t_20, t_21, t_22, t_32, t_40, t_41, t_48, t_49, t_57, t_59, t_60, t_63, t_72, t_76, t_88, t_100, t_144, t_200, t_255, t_288, t_400, t_800, t_999, t_1000, t_1024, t_1200, t_1600, t_3200, t_100000, t_200000, t_252645135, t_858993459, t_1431655765, u_m1000002, u_m1000001, u_m1000, u_m3, u_m1, u_0, u_1, u_2, u_3, u_4, u_5, u_7, u_8, u_10, u_11, u_15, u_60, u_100, u_255, u_999, u_1000, u_100000, u_4294967295] at hc9); omega
    | succ m ih =>
      intro k hk
      have hb := or_bit k (by omega) _ (pwB_lt c tx q k)
      have i1 := ih (k + 1) (by omega)
      unfold pwB at i1
      refine g_iload dX2_pinsWith_6 rfl ?_
      refine g_iload_n (i := 3) dX2_pinsWith_8 rfl rfl ?_
      refine g_icmp_ge (tgt := 40) dX2_pinsWith_9 (by decide) (fun hc9 => ?_) (fun hc9 => ?_)
      · (try simp (disch := omega) only [nT, t_m1000100, t_m1000010, t_m1000003, t_m1000002, t_m1000001, t_m1000000, t_m65535, t_m1000, t_m3, t_m1, t_0, t_1, t_2, t_3, t_4, t_5, t_6, t_7, t_8, t_9, t_10, t_11, t_12, t_13, t_15, t_16, t_20, t_21, t_22, t_32, t_40, t_41, t_48, t_49, t_57, t_59, t_60, t_63, t_72, t_76, t_88, t_100, t_144, t_200, t_255, t_288, t_400, t_800, t_999, t_1000, t_1024, t_1200, t_1600, t_3200, t_100000, t_200000, t_252645135, t_858993459, t_1431655765, u_m1000002, u_m1000001, u_m1000, u_m3, u_m1, u_0, u_1, u_2, u_3, u_4, u_5, u_7, u_8, u_10, u_11, u_15, u_60, u_100, u_255, u_999, u_1000, u_100000, u_4294967295] at hc9); omega
      · (try simp (disch := omega) only [nT, t_m1000100, t_m1000010, t_m1000003, t_m1000002, t_m1000001, t_m1000000, t_m65535, t_m1000, t_m3, t_m1, t_0, t_1, t_2, t_3, t_4, t_5, t_6, t_7, t_8, t_9, t_10, t_11, t_12, t_13, t_15, t_16, t_20, t_21, t_22, t_32, t_40, t_41, t_48, t_49, t_57, t_59, t_60, t_63, t_72, t_76, t_88, t_100, t_144, t_200, t_255, t_288, t_400, t_800, t_999, t_1000, t_1024, t_1200, t_1600, t_3200, t_100000, t_200000, t_252645135, t_858993459, t_1431655765, u_m1000002, u_m1000001, u_m1000, u_m3, u_m1, u_0, u_1, u_2, u_3, u_4, u_5, u_7, u_8, u_10, u_11, u_15, u_60, u_100, u_255, u_999, u_1000, u_100000, u_4294967295] at hc9)
        refine g_aload_n (i := 0) dX2_pinsWith_12 rfl rfl ?_
        refine g_get dX2_pinsWith_13 fl_X2_9 (by repeat' (first | assumption | exact rF_eq | (apply rF_nj; focus decide) | (apply rF_nk; focus omega) | refine rF_a ?_ | exact rA_eq | refine rA_ne (by omega) ?_ | refine rA_f ?_)) (by repeat' (first | assumption | exact rF_eq | (apply rF_nj; focus decide) | (apply rF_nk; focus omega) | refine rF_a ?_ | exact rA_eq | refine rA_ne (by omega) ?_ | refine rA_f ?_)) ?_
        refine g_iload_n (i := 2) dX2_pinsWith_16 rfl rfl ?_
        refine g_iload dX2_pinsWith_17 rfl ?_
        refine g_iadd dX2_pinsWith_19 ?_
        rw [ni_add]
        refine g_iald dX2_pinsWith_20 (by repeat' (first | assumption | exact rF_eq | (apply rF_nj; focus decide) | (apply rF_nk; focus omega) | refine rF_a ?_ | exact rA_eq | refine rA_ne (by omega) ?_ | refine rA_f ?_)) (nT (by omega)) (by omega) ?_
        refine g_iload_n (i := 1) dX2_pinsWith_21 rfl rfl ?_
        refine g_icmp_ne (tgt := 34) dX2_pinsWith_22 (by decide) (fun hc22 => ?_) (fun hc22 => ?_)
        · have hd22 := mt i_eq.mpr hc22; (try simp (disch := omega) only [nT, t_m1000100, t_m1000010, t_m1000003, t_m1000002, t_m1000001, t_m1000000, t_m65535, t_m1000, t_m3, t_m1, t_0, t_1, t_2, t_3, t_4, t_5, t_6, t_7, t_8, t_9, t_10, t_11, t_12, t_13, t_15, t_16, t_20, t_21, t_22, t_32, t_40, t_41, t_48, t_49, t_57, t_59, t_60, t_63, t_72, t_76, t_88, t_100, t_144, t_200, t_255, t_288, t_400, t_800, t_999, t_1000, t_1024, t_1200, t_1600, t_3200, t_100000, t_200000, t_252645135, t_858993459, t_1431655765, u_m1000002, u_m1000001, u_m1000, u_m3, u_m1, u_0, u_1, u_2, u_3, u_4, u_5, u_7, u_8, u_10, u_11, u_15, u_60, u_100, u_255, u_999, u_1000, u_100000, u_4294967295] at hd22)
          refine g_iinc dX2_pinsWith_34 rfl (Nat.le_of_ble_eq_true rfl) rfl ?_
          refine g_goto (tgt := 6) dX2_pinsWith_37 (by decide) ?_
          rw [ni_incO]
          first
          | (rw [if_pos (by assumption)] at i1; exact i1)
          | (rw [if_neg (by assumption)] at i1; exact i1)
        · have hd22 := i_eq.mp hc22; (try simp (disch := omega) only [nT, t_m1000100, t_m1000010, t_m1000003, t_m1000002, t_m1000001, t_m1000000, t_m65535, t_m1000, t_m3, t_m1, t_0, t_1, t_2, t_3, t_4, t_5, t_6, t_7, t_8, t_9, t_10, t_11, t_12, t_13, t_15, t_16, t_20, t_21, t_22, t_32, t_40, t_41, t_48, t_49, t_57, t_59, t_60, t_63, t_72, t_76, t_88, t_100, t_144, t_200, t_255, t_288, t_400, t_800, t_999, t_1000, t_1024, t_1200, t_1600, t_3200, t_100000, t_200000, t_252645135, t_858993459, t_1431655765, u_m1000002, u_m1000001, u_m1000, u_m3, u_m1, u_0, u_1, u_2, u_3, u_4, u_5, u_7, u_8, u_10, u_11, u_15, u_60, u_100, u_255, u_999, u_1000, u_100000, u_4294967295] at hd22)
          refine g_iload dX2_pinsWith_25 rfl ?_
          refine g_iconst (v := 1) dX2_pinsWith_27 (by decide) ?_
          refine g_iload dX2_pinsWith_28 rfl ?_
          refine g_ishl dX2_pinsWith_30 ?_
          refine g_ior dX2_pinsWith_31 ?_
          rw [hb]
          refine g_istore dX2_pinsWith_32 (Nat.le_of_ble_eq_true rfl) rfl ?_
          refine g_iinc dX2_pinsWith_34 rfl (Nat.le_of_ble_eq_true rfl) rfl ?_
          refine g_goto (tgt := 6) dX2_pinsWith_37 (by decide) ?_
          rw [ni_incO]
          first
          | (rw [if_pos (by assumption)] at i1; exact i1)
          | (rw [if_neg (by assumption)] at i1; exact i1)
  refine g_iconst (v := 0) dX2_pinsWith_0 (by decide) ?_
  refine g_istore dX2_pinsWith_1 (Nat.le_of_ble_eq_true rfl) rfl ?_
  refine g_iconst (v := 0) dX2_pinsWith_3 (by decide) ?_
  refine g_istore dX2_pinsWith_4 (Nat.le_of_ble_eq_true rfl) rfl ?_
  exact key n 0 (by omega)
/-- the steps' rows at object I -/
def StX (h : HH) (I : Nat) (tx rl lk tm wi lo hi tu : Nat → Int32) (sz : Nat) (ws pn nl : Int32) : Prop := gA h I = aO 2 ∧ gF h I 0 = .ref (I + 1) ∧ gF h I 1 = .ref (I + 2) ∧ gF h I 2 = .ref (I + 3) ∧ gF h I 3 = .ref (I + 4) ∧ gF h I 4 = .ref (I + 5) ∧ gF h I 5 = .ref (I + 6) ∧ gF h I 6 = .ref (I + 7) ∧ gF h I 7 = .ref (I + 8)
  ∧ gA h (I + 1) = aI 400 tx ∧ gA h (I + 2) = aI 400 rl ∧ gA h (I + 3) = aI 400 lk ∧ gA h (I + 4) = aI 400 tm ∧ gA h (I + 5) = aI 400 wi ∧ gA h (I + 6) = aI 400 lo ∧ gA h (I + 7) = aI 400 hi ∧ gA h (I + 8) = aI 400 tu
  ∧ gF h I 8 = .int (nI sz) ∧ gF h I 9 = .int ws ∧ gF h I 10 = .int pn ∧ gF h I 11 = .int nl
/-- what a reading leaves as it is -/
def FrI (I : Nat) (h h' : HH) : Prop := (∀ k, ¬ (k = 16 ∨ k = 17 ∨ (I + 1 ≤ k ∧ k ≤ I + 8)) → gA h' k = gA h k) ∧ ∀ k j, ¬ ((k = 6 ∧ 1 ≤ j ∧ j ≤ 4) ∨ (k = I ∧ 8 ≤ j ∧ j ≤ 12)) → gF h' k j = gF h k j
theorem fi_rf {I : Nat} {h : HH} : FrI I h h := ⟨fun _ _ => rfl, fun _ _ _ => rfl⟩
theorem fi_sA {I : Nat} {h h' : HH} {k : Nat} {a : AE} (hk : k = 16 ∨ k = 17 ∨ (I + 1 ≤ k ∧ k ≤ I + 8)) (f : FrI I h h') : FrI I h (sA h' k a) := ⟨fun i hi => by rw [gA_sA, if_neg (fun q : i = k => hi (by rw [q]; exact hk))]; exact f.1 i hi, fun i j hij => f.2 i j hij⟩
theorem fi_sF {I : Nat} {h h' : HH} {k j : Nat} {v : Value} (hk : (k = 6 ∧ 1 ≤ j ∧ j ≤ 4) ∨ (k = I ∧ 8 ≤ j ∧ j ≤ 12)) (f : FrI I h h') : FrI I h (sF h' k j v) := ⟨fun i hi => f.1 i hi, fun i i' hij => by rw [gF_sF, if_neg (fun q => hij (by rw [q.1, q.2]; exact hk))]; exact f.2 i i' hij⟩
theorem fi_tr {I : Nat} {h h' h'' : HH} (f : FrI I h h') (g : FrI I h' h'') : FrI I h h'' := ⟨fun k hk => (g.1 k hk).trans (f.1 k hk), fun k j hk => (g.2 k j hk).trans (f.2 k j hk)⟩
/-- what a step leaves as it is -/
def FrJ (I : Nat) (h h' : HH) : Prop := (∀ k, ¬ (I + 1 ≤ k ∧ k ≤ I + 8) → gA h' k = gA h k) ∧ ∀ k j, ¬ (k = I ∧ 8 ≤ j ∧ j ≤ 11) → gF h' k j = gF h k j
theorem fj_rf {I : Nat} {h : HH} : FrJ I h h := ⟨fun _ _ => rfl, fun _ _ _ => rfl⟩
theorem fj_sA {I : Nat} {h h' : HH} {k : Nat} {a : AE} (hk : I + 1 ≤ k ∧ k ≤ I + 8) (f : FrJ I h h') : FrJ I h (sA h' k a) := ⟨fun i hi => by rw [gA_sA, if_neg (fun q : i = k => hi (by rw [q]; exact hk))]; exact f.1 i hi, fun i j hij => f.2 i j hij⟩
theorem fj_sF {I : Nat} {h h' : HH} {k j : Nat} {v : Value} (hk : k = I ∧ 8 ≤ j ∧ j ≤ 11) (f : FrJ I h h') : FrJ I h (sF h' k j v) := ⟨fun i hi => f.1 i hi, fun i i' hij => by rw [gF_sF, if_neg (fun q => hij (by rw [q.1, q.2]; exact hk))]; exact f.2 i i' hij⟩
theorem fj_fi {I : Nat} {h h' : HH} (f : FrJ I h h') : FrI I h h' := ⟨fun k hk => f.1 k (fun q => hk (Or.inr (Or.inr q))), fun k j hk => f.2 k j (fun q => hk (Or.inr ⟨q.1, q.2.1, by have := q.2.2; omega⟩))⟩
theorem c_addLine {h : HH} {I : Nat} {tx rl lk tm wi lo hi tu : Nat → Int32} {sz nl : Nat} {ws pn : Int32} (hs : StX h I tx rl lk tm wi lo hi tu sz ws pn (nI nl)) {q n : Nat} (hn : n ≤ 8) (hq : q + n ≤ 400) (hz : sz < 400) : CT mX2_addLine 1 0 0 [.ref I, .int (nI q), .int (nI n)] h (fun r h' => r = none ∧ StX h' I tx (upd rl sz 0) (upd lk sz (nI q)) tm wi (upd lo sz (nI (pwB 76 tx q n))) (upd hi sz (nI (pwB 72 tx q n))) tu (sz + 1) ws (nI n) (nI (nl + 1)) ∧ FrJ I h h') := by
  obtain ⟨e0, e1, e2, e3, e4, e5, e6, e7, e8, a1, a2, a3, a4, a5, a6, a7, a8, f8, f9, f10, f11⟩ := hs
  refine CT.go [.ref I, .int (nI q), .int (nI n)] (by decide +kernel) rfl rfl (fun Q' hQ => ?_)
  refine g_aload_n (i := 0) dX2_addLine_0 rfl rfl ?_
  refine g_get dX2_addLine_1 fl_X2_15 (by repeat' (first | assumption | exact rF_eq | (apply rF_nj; focus decide) | (apply rF_nk; focus omega) | refine rF_a ?_ | exact rA_eq | refine rA_ne (by omega) ?_ | refine rA_f ?_)) (by repeat' (first | assumption | exact rF_eq | (apply rF_nj; focus decide) | (apply rF_nk; focus omega) | refine rF_a ?_ | exact rA_eq | refine rA_ne (by omega) ?_ | refine rA_f ?_)) ?_
  refine g_aload_n (i := 0) dX2_addLine_4 rfl rfl ?_
  refine g_get dX2_addLine_5 fl_X2_36 (by repeat' (first | assumption | exact rF_eq | (apply rF_nj; focus decide) | (apply rF_nk; focus omega) | refine rF_a ?_ | exact rA_eq | refine rA_ne (by omega) ?_ | refine rA_f ?_)) (by repeat' (first | assumption | exact rF_eq | (apply rF_nj; focus decide) | (apply rF_nk; focus omega) | refine rF_a ?_ | exact rA_eq | refine rA_ne (by omega) ?_ | refine rA_f ?_)) ?_
  refine g_iconst (v := 0) dX2_addLine_8 (by decide) ?_
  refine g_iast dX2_addLine_9 (by repeat' (first | assumption | exact rF_eq | (apply rF_nj; focus decide) | (apply rF_nk; focus omega) | refine rF_a ?_ | exact rA_eq | refine rA_ne (by omega) ?_ | refine rA_f ?_)) (nT (by omega)) (by omega) ?_
  refine g_aload_n (i := 0) dX2_addLine_10 rfl rfl ?_
  refine g_get dX2_addLine_11 fl_X2_18 (by repeat' (first | assumption | exact rF_eq | (apply rF_nj; focus decide) | (apply rF_nk; focus omega) | refine rF_a ?_ | exact rA_eq | refine rA_ne (by omega) ?_ | refine rA_f ?_)) (by repeat' (first | assumption | exact rF_eq | (apply rF_nj; focus decide) | (apply rF_nk; focus omega) | refine rF_a ?_ | exact rA_eq | refine rA_ne (by omega) ?_ | refine rA_f ?_)) ?_
  refine g_aload_n (i := 0) dX2_addLine_14 rfl rfl ?_
  refine g_get dX2_addLine_15 fl_X2_36 (by repeat' (first | assumption | exact rF_eq | (apply rF_nj; focus decide) | (apply rF_nk; focus omega) | refine rF_a ?_ | exact rA_eq | refine rA_ne (by omega) ?_ | refine rA_f ?_)) (by repeat' (first | assumption | exact rF_eq | (apply rF_nj; focus decide) | (apply rF_nk; focus omega) | refine rF_a ?_ | exact rA_eq | refine rA_ne (by omega) ?_ | refine rA_f ?_)) ?_
  refine g_iload_n (i := 1) dX2_addLine_18 rfl rfl ?_
  refine g_iast dX2_addLine_19 (by repeat' (first | assumption | exact rF_eq | (apply rF_nj; focus decide) | (apply rF_nk; focus omega) | refine rF_a ?_ | exact rA_eq | refine rA_ne (by omega) ?_ | refine rA_f ?_)) (nT (by omega)) (by omega) ?_
  refine g_aload_n (i := 0) dX2_addLine_20 rfl rfl ?_
  refine g_get dX2_addLine_21 fl_X2_27 (by repeat' (first | assumption | exact rF_eq | (apply rF_nj; focus decide) | (apply rF_nk; focus omega) | refine rF_a ?_ | exact rA_eq | refine rA_ne (by omega) ?_ | refine rA_f ?_)) (by repeat' (first | assumption | exact rF_eq | (apply rF_nj; focus decide) | (apply rF_nk; focus omega) | refine rF_a ?_ | exact rA_eq | refine rA_ne (by omega) ?_ | refine rA_f ?_)) ?_
  refine g_aload_n (i := 0) dX2_addLine_24 rfl rfl ?_
  refine g_get dX2_addLine_25 fl_X2_36 (by repeat' (first | assumption | exact rF_eq | (apply rF_nj; focus decide) | (apply rF_nk; focus omega) | refine rF_a ?_ | exact rA_eq | refine rA_ne (by omega) ?_ | refine rA_f ?_)) (by repeat' (first | assumption | exact rF_eq | (apply rF_nj; focus decide) | (apply rF_nk; focus omega) | refine rF_a ?_ | exact rA_eq | refine rA_ne (by omega) ?_ | refine rA_f ?_)) ?_
  refine g_aload_n (i := 0) dX2_addLine_28 rfl rfl ?_
  refine g_bipush (v := 76) dX2_addLine_29 (by decide) ?_
  refine g_iload_n (i := 1) dX2_addLine_31 rfl rfl ?_
  refine g_iload_n (i := 2) dX2_addLine_32 rfl rfl ?_
  refine g_callV (M' := mX2_pinsWith) dX2_addLine_33 lc_X2_pinsWith ml_X2_58 (c_pinsWith (tx := tx) (by repeat' (first | assumption | refine rA_ne (by omega) ?_ | refine rF_a ?_)) (by repeat' (first | assumption | refine rF_a ?_)) (by repeat' (first | assumption | refine rA_ne (by omega) ?_)) 76 hn hq) rfl rfl (by repeat' (first | assumption | exact rF_eq | (apply rF_nj; focus decide) | (apply rF_nk; focus omega) | refine rF_a ?_ | exact rA_eq | refine rA_ne (by omega) ?_ | refine rA_f ?_)) rfl ⟨Nat.le_of_ble_eq_true rfl, Nat.le_of_ble_eq_true rfl, Nat.le_of_ble_eq_true rfl, Nat.le_of_ble_eq_true rfl⟩ (Nat.le_of_ble_eq_true rfl) ?_
  intro r_ h_ q_; obtain ⟨q1_, q2_⟩ := q_; have q2_ := q2_.symm; subst q1_; subst q2_
  refine g_iast dX2_addLine_36 (by repeat' (first | assumption | exact rF_eq | (apply rF_nj; focus decide) | (apply rF_nk; focus omega) | refine rF_a ?_ | exact rA_eq | refine rA_ne (by omega) ?_ | refine rA_f ?_)) (nT (by omega)) (by omega) ?_
  refine g_aload_n (i := 0) dX2_addLine_37 rfl rfl ?_
  refine g_get dX2_addLine_38 fl_X2_30 (by repeat' (first | assumption | exact rF_eq | (apply rF_nj; focus decide) | (apply rF_nk; focus omega) | refine rF_a ?_ | exact rA_eq | refine rA_ne (by omega) ?_ | refine rA_f ?_)) (by repeat' (first | assumption | exact rF_eq | (apply rF_nj; focus decide) | (apply rF_nk; focus omega) | refine rF_a ?_ | exact rA_eq | refine rA_ne (by omega) ?_ | refine rA_f ?_)) ?_
  refine g_aload_n (i := 0) dX2_addLine_41 rfl rfl ?_
  refine g_get dX2_addLine_42 fl_X2_36 (by repeat' (first | assumption | exact rF_eq | (apply rF_nj; focus decide) | (apply rF_nk; focus omega) | refine rF_a ?_ | exact rA_eq | refine rA_ne (by omega) ?_ | refine rA_f ?_)) (by repeat' (first | assumption | exact rF_eq | (apply rF_nj; focus decide) | (apply rF_nk; focus omega) | refine rF_a ?_ | exact rA_eq | refine rA_ne (by omega) ?_ | refine rA_f ?_)) ?_
  refine g_aload_n (i := 0) dX2_addLine_45 rfl rfl ?_
  refine g_bipush (v := 72) dX2_addLine_46 (by decide) ?_
  refine g_iload_n (i := 1) dX2_addLine_48 rfl rfl ?_
  refine g_iload_n (i := 2) dX2_addLine_49 rfl rfl ?_
  refine g_callV (M' := mX2_pinsWith) dX2_addLine_50 lc_X2_pinsWith ml_X2_58 (c_pinsWith (tx := tx) (by repeat' (first | assumption | refine rA_ne (by omega) ?_ | refine rF_a ?_)) (by repeat' (first | assumption | refine rF_a ?_)) (by repeat' (first | assumption | refine rA_ne (by omega) ?_)) 72 hn hq) rfl rfl (by repeat' (first | assumption | exact rF_eq | (apply rF_nj; focus decide) | (apply rF_nk; focus omega) | refine rF_a ?_ | exact rA_eq | refine rA_ne (by omega) ?_ | refine rA_f ?_)) rfl ⟨Nat.le_of_ble_eq_true rfl, Nat.le_of_ble_eq_true rfl, Nat.le_of_ble_eq_true rfl, Nat.le_of_ble_eq_true rfl⟩ (Nat.le_of_ble_eq_true rfl) ?_
  intro r_ h_ q_; obtain ⟨q1_, q2_⟩ := q_; have q2_ := q2_.symm; subst q1_; subst q2_
  refine g_iast dX2_addLine_53 (by repeat' (first | assumption | exact rF_eq | (apply rF_nj; focus decide) | (apply rF_nk; focus omega) | refine rF_a ?_ | exact rA_eq | refine rA_ne (by omega) ?_ | refine rA_f ?_)) (nT (by omega)) (by omega) ?_
  refine g_aload_n (i := 0) dX2_addLine_54 rfl rfl ?_
  refine g_dup dX2_addLine_55 rfl ?_
  refine g_get dX2_addLine_56 fl_X2_36 (by repeat' (first | assumption | exact rF_eq | (apply rF_nj; focus decide) | (apply rF_nk; focus omega) | refine rF_a ?_ | exact rA_eq | refine rA_ne (by omega) ?_ | refine rA_f ?_)) (by repeat' (first | assumption | exact rF_eq | (apply rF_nj; focus decide) | (apply rF_nk; focus omega) | refine rF_a ?_ | exact rA_eq | refine rA_ne (by omega) ?_ | refine rA_f ?_)) ?_
  refine g_iconst (v := 1) dX2_addLine_59 (by decide) ?_
  refine g_iadd dX2_addLine_60 ?_
  rw [ni_inc]
  refine g_put dX2_addLine_61 pl_X2_36 (by repeat' (first | assumption | exact rF_eq | (apply rF_nj; focus decide) | (apply rF_nk; focus omega) | refine rF_a ?_ | exact rA_eq | refine rA_ne (by omega) ?_ | refine rA_f ?_)) (fun _ => ⟨rfl, rfl⟩) ?_
  refine g_aload_n (i := 0) dX2_addLine_64 rfl rfl ?_
  refine g_iload_n (i := 2) dX2_addLine_65 rfl rfl ?_
  refine g_put dX2_addLine_66 pl_X2_43 (by repeat' (first | assumption | exact rF_eq | (apply rF_nj; focus decide) | (apply rF_nk; focus omega) | refine rF_a ?_ | exact rA_eq | refine rA_ne (by omega) ?_ | refine rA_f ?_)) (fun _ => ⟨rfl, rfl⟩) ?_
  refine g_aload_n (i := 0) dX2_addLine_69 rfl rfl ?_
  refine g_dup dX2_addLine_70 rfl ?_
  refine g_get dX2_addLine_71 fl_X2_46 (by repeat' (first | assumption | exact rF_eq | (apply rF_nj; focus decide) | (apply rF_nk; focus omega) | refine rF_a ?_ | exact rA_eq | refine rA_ne (by omega) ?_ | refine rA_f ?_)) (by exact rF_nj (by decide) (rF_nj (by decide) (show gF (sA _ _ _) _ _ = _ from f11))) ?_
  refine g_iconst (v := 1) dX2_addLine_74 (by decide) ?_
  refine g_iadd dX2_addLine_75 ?_
  rw [ni_inc]
  refine g_put dX2_addLine_76 pl_X2_46 (by repeat' (first | assumption | exact rF_eq | (apply rF_nj; focus decide) | (apply rF_nk; focus omega) | refine rF_a ?_ | exact rA_eq | refine rA_ne (by omega) ?_ | refine rA_f ?_)) (fun _ => ⟨rfl, rfl⟩) ?_
  refine g_vret dX2_addLine_79 rfl (hQ _ _ ?_)
  refine ⟨rfl, ⟨?_, ?_, ?_, ?_, ?_, ?_, ?_, ?_, ?_, ?_, ?_, ?_, ?_, ?_, ?_, ?_, ?_, ?_, ?_, ?_, ?_⟩, fj_sF (by omega) (fj_sF (by omega) (fj_sF (by omega) (fj_sA (by omega) (fj_sA (by omega) (fj_sA (by omega) (fj_sA (by omega) fj_rf))))))⟩
  all_goals repeat' (first | assumption | exact rF_eq | refine rF_nj (by decide) ?_ | refine rF_nk (by omega) ?_ | refine rF_a ?_ | exact rA_eq | refine rA_ne (by omega) ?_ | refine rA_f ?_ | rfl)
theorem c_beginLoop {h : HH} {I : Nat} {tx rl lk tm wi lo hi tu : Nat → Int32} {sz : Nat} {nl ws pn : Int32} (hs : StX h I tx rl lk tm wi lo hi tu sz ws pn nl) (t : Int32) (hz : sz < 400) : CT mX2_beginLoop 0 0 0 [.ref I, .int t] h (fun r h' => r = some (.int (nI sz)) ∧ StX h' I tx (upd rl sz 1) lk (upd tm sz t) wi lo hi tu (sz + 1) ws pn nl ∧ FrJ I h h') := by
  obtain ⟨e0, e1, e2, e3, e4, e5, e6, e7, e8, a1, a2, a3, a4, a5, a6, a7, a8, f8, f9, f10, f11⟩ := hs
  refine CT.go [.ref I, .int t] (by decide +kernel) rfl rfl (fun Q' hQ => ?_)
  refine g_aload_n (i := 0) dX2_beginLoop_0 rfl rfl ?_
  refine g_get dX2_beginLoop_1 fl_X2_15 (by repeat' (first | assumption | exact rF_eq | (apply rF_nj; focus decide) | (apply rF_nk; focus omega) | refine rF_a ?_ | exact rA_eq | refine rA_ne (by omega) ?_ | refine rA_f ?_)) (by repeat' (first | assumption | exact rF_eq | (apply rF_nj; focus decide) | (apply rF_nk; focus omega) | refine rF_a ?_ | exact rA_eq | refine rA_ne (by omega) ?_ | refine rA_f ?_)) ?_
  refine g_aload_n (i := 0) dX2_beginLoop_4 rfl rfl ?_
  refine g_get dX2_beginLoop_5 fl_X2_36 (by repeat' (first | assumption | exact rF_eq | (apply rF_nj; focus decide) | (apply rF_nk; focus omega) | refine rF_a ?_ | exact rA_eq | refine rA_ne (by omega) ?_ | refine rA_f ?_)) (by repeat' (first | assumption | exact rF_eq | (apply rF_nj; focus decide) | (apply rF_nk; focus omega) | refine rF_a ?_ | exact rA_eq | refine rA_ne (by omega) ?_ | refine rA_f ?_)) ?_
  refine g_iconst (v := 1) dX2_beginLoop_8 (by decide) ?_
  refine g_iast dX2_beginLoop_9 (by repeat' (first | assumption | exact rF_eq | (apply rF_nj; focus decide) | (apply rF_nk; focus omega) | refine rF_a ?_ | exact rA_eq | refine rA_ne (by omega) ?_ | refine rA_f ?_)) (nT (by omega)) (by omega) ?_
  refine g_aload_n (i := 0) dX2_beginLoop_10 rfl rfl ?_
  refine g_get dX2_beginLoop_11 fl_X2_21 (by repeat' (first | assumption | exact rF_eq | (apply rF_nj; focus decide) | (apply rF_nk; focus omega) | refine rF_a ?_ | exact rA_eq | refine rA_ne (by omega) ?_ | refine rA_f ?_)) (by repeat' (first | assumption | exact rF_eq | (apply rF_nj; focus decide) | (apply rF_nk; focus omega) | refine rF_a ?_ | exact rA_eq | refine rA_ne (by omega) ?_ | refine rA_f ?_)) ?_
  refine g_aload_n (i := 0) dX2_beginLoop_14 rfl rfl ?_
  refine g_get dX2_beginLoop_15 fl_X2_36 (by repeat' (first | assumption | exact rF_eq | (apply rF_nj; focus decide) | (apply rF_nk; focus omega) | refine rF_a ?_ | exact rA_eq | refine rA_ne (by omega) ?_ | refine rA_f ?_)) (by repeat' (first | assumption | exact rF_eq | (apply rF_nj; focus decide) | (apply rF_nk; focus omega) | refine rF_a ?_ | exact rA_eq | refine rA_ne (by omega) ?_ | refine rA_f ?_)) ?_
  refine g_iload_n (i := 1) dX2_beginLoop_18 rfl rfl ?_
  refine g_iast dX2_beginLoop_19 (by repeat' (first | assumption | exact rF_eq | (apply rF_nj; focus decide) | (apply rF_nk; focus omega) | refine rF_a ?_ | exact rA_eq | refine rA_ne (by omega) ?_ | refine rA_f ?_)) (nT (by omega)) (by omega) ?_
  refine g_aload_n (i := 0) dX2_beginLoop_20 rfl rfl ?_
  refine g_dup dX2_beginLoop_21 rfl ?_
  refine g_get dX2_beginLoop_22 fl_X2_36 (by repeat' (first | assumption | exact rF_eq | (apply rF_nj; focus decide) | (apply rF_nk; focus omega) | refine rF_a ?_ | exact rA_eq | refine rA_ne (by omega) ?_ | refine rA_f ?_)) (by repeat' (first | assumption | exact rF_eq | (apply rF_nj; focus decide) | (apply rF_nk; focus omega) | refine rF_a ?_ | exact rA_eq | refine rA_ne (by omega) ?_ | refine rA_f ?_)) ?_
  refine g_iconst (v := 1) dX2_beginLoop_25 (by decide) ?_
  refine g_iadd dX2_beginLoop_26 ?_
  rw [ni_inc]
  refine g_put dX2_beginLoop_27 pl_X2_36 (by repeat' (first | assumption | exact rF_eq | (apply rF_nj; focus decide) | (apply rF_nk; focus omega) | refine rF_a ?_ | exact rA_eq | refine rA_ne (by omega) ?_ | refine rA_f ?_)) (fun _ => ⟨rfl, rfl⟩) ?_
  refine g_aload_n (i := 0) dX2_beginLoop_30 rfl rfl ?_
  refine g_get dX2_beginLoop_31 fl_X2_36 (by repeat' (first | assumption | exact rF_eq | (apply rF_nj; focus decide) | (apply rF_nk; focus omega) | refine rF_a ?_ | exact rA_eq | refine rA_ne (by omega) ?_ | refine rA_f ?_)) (by repeat' (first | assumption | exact rF_eq | (apply rF_nj; focus decide) | (apply rF_nk; focus omega) | refine rF_a ?_ | exact rA_eq | refine rA_ne (by omega) ?_ | refine rA_f ?_)) ?_
  refine g_iconst (v := 1) dX2_beginLoop_34 (by decide) ?_
  refine g_isub dX2_beginLoop_35 ?_
  rw [n_m1]
  refine g_iret dX2_beginLoop_36 rfl (rfl) (hQ _ _ ?_)
  refine ⟨rfl, ⟨?_, ?_, ?_, ?_, ?_, ?_, ?_, ?_, ?_, ?_, ?_, ?_, ?_, ?_, ?_, ?_, ?_, ?_, ?_, ?_, ?_⟩, fj_sF (by omega) (fj_sA (by omega) (fj_sA (by omega) fj_rf))⟩
  all_goals repeat' (first | assumption | exact rF_eq | refine rF_nj (by decide) ?_ | refine rF_nk (by omega) ?_ | refine rF_a ?_ | exact rA_eq | refine rA_ne (by omega) ?_ | refine rA_f ?_ | rfl)
theorem c_endLoop0 {h : HH} {I : Nat} {tx rl lk tm wi lo hi tu : Nat → Int32} {sz : Nat} {nl ws pn : Int32} (hs : StX h I tx rl lk tm wi lo hi tu sz ws pn nl) {b : Nat} : CT mX2_endLoop 0 0 0 [.ref I, .int (nI b), .int (nI 0)] h (fun r h' => r = none ∧ StX h' I tx rl lk tm wi lo hi tu b ws pn nl ∧ FrJ I h h') := by
  obtain ⟨e0, e1, e2, e3, e4, e5, e6, e7, e8, a1, a2, a3, a4, a5, a6, a7, a8, f8, f9, f10, f11⟩ := hs
  refine CT.go [.ref I, .int (nI b), .int (nI 0)] (by decide +kernel) rfl rfl (fun Q' hQ => ?_)
  refine g_iload_n (i := 2) dX2_endLoop_0 rfl rfl ?_
  refine g_if_ne (tgt := 10) dX2_endLoop_1 (by decide) (fun hc1 => ?_) (fun hc1 => ?_)
  · have hd1 := mt i_eq.mpr hc1; (try simp (disch := omega) only [nT, t_m1000100, t_m1000010, t_m1000003, t_m1000002, t_m1000001, t_m1000000, t_m65535, t_m1000, t_m3, t_m1, t_0, t_1, t_2, t_3, t_4, t_5, t_6, t_7, t_8, t_9, t_10, t_11, t_12, t_13, t_15, t_16, t_20, t_21, t_22, t_32, t_40, t_41, t_48, t_49, t_57, t_59, t_60, t_63, t_72, t_76, t_88, t_100, t_144, t_200, t_255, t_288, t_400, t_800, t_999, t_1000, t_1024, t_1200, t_1600, t_3200, t_100000, t_200000, t_252645135, t_858993459, t_1431655765, u_m1000002, u_m1000001, u_m1000, u_m3, u_m1, u_0, u_1, u_2, u_3, u_4, u_5, u_7, u_8, u_10, u_11, u_15, u_60, u_100, u_255, u_999, u_1000, u_100000, u_4294967295] at hd1); exact absurd rfl hc1
  · have hd1 := i_eq.mp hc1; (try simp (disch := omega) only [nT, t_m1000100, t_m1000010, t_m1000003, t_m1000002, t_m1000001, t_m1000000, t_m65535, t_m1000, t_m3, t_m1, t_0, t_1, t_2, t_3, t_4, t_5, t_6, t_7, t_8, t_9, t_10, t_11, t_12, t_13, t_15, t_16, t_20, t_21, t_22, t_32, t_40, t_41, t_48, t_49, t_57, t_59, t_60, t_63, t_72, t_76, t_88, t_100, t_144, t_200, t_255, t_288, t_400, t_800, t_999, t_1000, t_1024, t_1200, t_1600, t_3200, t_100000, t_200000, t_252645135, t_858993459, t_1431655765, u_m1000002, u_m1000001, u_m1000, u_m3, u_m1, u_0, u_1, u_2, u_3, u_4, u_5, u_7, u_8, u_10, u_11, u_15, u_60, u_100, u_255, u_999, u_1000, u_100000, u_4294967295] at hd1)
    refine g_aload_n (i := 0) dX2_endLoop_4 rfl rfl ?_
    refine g_iload_n (i := 1) dX2_endLoop_5 rfl rfl ?_
    refine g_put dX2_endLoop_6 pl_X2_36 (by repeat' (first | assumption | exact rF_eq | (apply rF_nj; focus decide) | (apply rF_nk; focus omega) | refine rF_a ?_ | exact rA_eq | refine rA_ne (by omega) ?_ | refine rA_f ?_)) (fun _ => ⟨rfl, rfl⟩) ?_
    refine g_vret dX2_endLoop_9 rfl (hQ _ _ ?_)
    refine ⟨rfl, ⟨?_, ?_, ?_, ?_, ?_, ?_, ?_, ?_, ?_, ?_, ?_, ?_, ?_, ?_, ?_, ?_, ?_, ?_, ?_, ?_, ?_⟩, fj_sF (by omega) fj_rf⟩
    all_goals repeat' (first | assumption | exact rF_eq | refine rF_nj (by decide) ?_ | refine rF_nk (by omega) ?_ | refine rF_a ?_ | exact rA_eq | refine rA_ne (by omega) ?_ | refine rA_f ?_ | rfl)
theorem c_endLoop {h : HH} {I : Nat} {tx rl lk tm wi lo hi tu : Nat → Int32} {sz : Nat} {nl ws pn : Int32} (hs : StX h I tx rl lk tm wi lo hi tu sz ws pn nl) {b n : Nat} (hb : b < sz) (hz : sz < 400) (hn : 0 < n) (hn2 : n < 2147483648) : CT mX2_endLoop 0 0 0 [.ref I, .int (nI b), .int (nI n)] h (fun r h' => r = none ∧ StX h' I tx (upd rl sz 2) (upd (upd lk b (nI sz)) sz (nI b)) tm (upd wi b (nI n)) lo hi tu (sz + 1) ws pn nl ∧ FrJ I h h') := by
  obtain ⟨e0, e1, e2, e3, e4, e5, e6, e7, e8, a1, a2, a3, a4, a5, a6, a7, a8, f8, f9, f10, f11⟩ := hs
  refine CT.go [.ref I, .int (nI b), .int (nI n)] (by decide +kernel) rfl rfl (fun Q' hQ => ?_)
  refine g_iload_n (i := 2) dX2_endLoop_0 rfl rfl ?_
  refine g_if_ne (tgt := 10) dX2_endLoop_1 (by decide) (fun hc1 => ?_) (fun hc1 => ?_)
  · have hd1 := mt i_eq.mpr hc1; (try simp (disch := omega) only [nT, t_m1000100, t_m1000010, t_m1000003, t_m1000002, t_m1000001, t_m1000000, t_m65535, t_m1000, t_m3, t_m1, t_0, t_1, t_2, t_3, t_4, t_5, t_6, t_7, t_8, t_9, t_10, t_11, t_12, t_13, t_15, t_16, t_20, t_21, t_22, t_32, t_40, t_41, t_48, t_49, t_57, t_59, t_60, t_63, t_72, t_76, t_88, t_100, t_144, t_200, t_255, t_288, t_400, t_800, t_999, t_1000, t_1024, t_1200, t_1600, t_3200, t_100000, t_200000, t_252645135, t_858993459, t_1431655765, u_m1000002, u_m1000001, u_m1000, u_m3, u_m1, u_0, u_1, u_2, u_3, u_4, u_5, u_7, u_8, u_10, u_11, u_15, u_60, u_100, u_255, u_999, u_1000, u_100000, u_4294967295] at hd1)
    refine g_aload_n (i := 0) dX2_endLoop_10 rfl rfl ?_
    refine g_get dX2_endLoop_11 fl_X2_24 (by repeat' (first | assumption | exact rF_eq | (apply rF_nj; focus decide) | (apply rF_nk; focus omega) | refine rF_a ?_ | exact rA_eq | refine rA_ne (by omega) ?_ | refine rA_f ?_)) (by repeat' (first | assumption | exact rF_eq | (apply rF_nj; focus decide) | (apply rF_nk; focus omega) | refine rF_a ?_ | exact rA_eq | refine rA_ne (by omega) ?_ | refine rA_f ?_)) ?_
    refine g_iload_n (i := 1) dX2_endLoop_14 rfl rfl ?_
    refine g_iload_n (i := 2) dX2_endLoop_15 rfl rfl ?_
    refine g_iast dX2_endLoop_16 (by repeat' (first | assumption | exact rF_eq | (apply rF_nj; focus decide) | (apply rF_nk; focus omega) | refine rF_a ?_ | exact rA_eq | refine rA_ne (by omega) ?_ | refine rA_f ?_)) (nT (by omega)) (by omega) ?_
    refine g_aload_n (i := 0) dX2_endLoop_17 rfl rfl ?_
    refine g_get dX2_endLoop_18 fl_X2_18 (by repeat' (first | assumption | exact rF_eq | (apply rF_nj; focus decide) | (apply rF_nk; focus omega) | refine rF_a ?_ | exact rA_eq | refine rA_ne (by omega) ?_ | refine rA_f ?_)) (by repeat' (first | assumption | exact rF_eq | (apply rF_nj; focus decide) | (apply rF_nk; focus omega) | refine rF_a ?_ | exact rA_eq | refine rA_ne (by omega) ?_ | refine rA_f ?_)) ?_
    refine g_iload_n (i := 1) dX2_endLoop_21 rfl rfl ?_
    refine g_aload_n (i := 0) dX2_endLoop_22 rfl rfl ?_
    refine g_get dX2_endLoop_23 fl_X2_36 (by repeat' (first | assumption | exact rF_eq | (apply rF_nj; focus decide) | (apply rF_nk; focus omega) | refine rF_a ?_ | exact rA_eq | refine rA_ne (by omega) ?_ | refine rA_f ?_)) (by repeat' (first | assumption | exact rF_eq | (apply rF_nj; focus decide) | (apply rF_nk; focus omega) | refine rF_a ?_ | exact rA_eq | refine rA_ne (by omega) ?_ | refine rA_f ?_)) ?_
    refine g_iast dX2_endLoop_26 (by repeat' (first | assumption | exact rF_eq | (apply rF_nj; focus decide) | (apply rF_nk; focus omega) | refine rF_a ?_ | exact rA_eq | refine rA_ne (by omega) ?_ | refine rA_f ?_)) (nT (by omega)) (by omega) ?_
    refine g_aload_n (i := 0) dX2_endLoop_27 rfl rfl ?_
    refine g_get dX2_endLoop_28 fl_X2_15 (by repeat' (first | assumption | exact rF_eq | (apply rF_nj; focus decide) | (apply rF_nk; focus omega) | refine rF_a ?_ | exact rA_eq | refine rA_ne (by omega) ?_ | refine rA_f ?_)) (by repeat' (first | assumption | exact rF_eq | (apply rF_nj; focus decide) | (apply rF_nk; focus omega) | refine rF_a ?_ | exact rA_eq | refine rA_ne (by omega) ?_ | refine rA_f ?_)) ?_
    refine g_aload_n (i := 0) dX2_endLoop_31 rfl rfl ?_
    refine g_get dX2_endLoop_32 fl_X2_36 (by repeat' (first | assumption | exact rF_eq | (apply rF_nj; focus decide) | (apply rF_nk; focus omega) | refine rF_a ?_ | exact rA_eq | refine rA_ne (by omega) ?_ | refine rA_f ?_)) (by repeat' (first | assumption | exact rF_eq | (apply rF_nj; focus decide) | (apply rF_nk; focus omega) | refine rF_a ?_ | exact rA_eq | refine rA_ne (by omega) ?_ | refine rA_f ?_)) ?_
    refine g_iconst (v := 2) dX2_endLoop_35 (by decide) ?_
    refine g_iast dX2_endLoop_36 (by repeat' (first | assumption | exact rF_eq | (apply rF_nj; focus decide) | (apply rF_nk; focus omega) | refine rF_a ?_ | exact rA_eq | refine rA_ne (by omega) ?_ | refine rA_f ?_)) (nT (by omega)) (by omega) ?_
    refine g_aload_n (i := 0) dX2_endLoop_37 rfl rfl ?_
    refine g_get dX2_endLoop_38 fl_X2_18 (by repeat' (first | assumption | exact rF_eq | (apply rF_nj; focus decide) | (apply rF_nk; focus omega) | refine rF_a ?_ | exact rA_eq | refine rA_ne (by omega) ?_ | refine rA_f ?_)) (by repeat' (first | assumption | exact rF_eq | (apply rF_nj; focus decide) | (apply rF_nk; focus omega) | refine rF_a ?_ | exact rA_eq | refine rA_ne (by omega) ?_ | refine rA_f ?_)) ?_
    refine g_aload_n (i := 0) dX2_endLoop_41 rfl rfl ?_
    refine g_get dX2_endLoop_42 fl_X2_36 (by repeat' (first | assumption | exact rF_eq | (apply rF_nj; focus decide) | (apply rF_nk; focus omega) | refine rF_a ?_ | exact rA_eq | refine rA_ne (by omega) ?_ | refine rA_f ?_)) (by repeat' (first | assumption | exact rF_eq | (apply rF_nj; focus decide) | (apply rF_nk; focus omega) | refine rF_a ?_ | exact rA_eq | refine rA_ne (by omega) ?_ | refine rA_f ?_)) ?_
    refine g_iload_n (i := 1) dX2_endLoop_45 rfl rfl ?_
    refine g_iast dX2_endLoop_46 (by repeat' (first | assumption | exact rF_eq | (apply rF_nj; focus decide) | (apply rF_nk; focus omega) | refine rF_a ?_ | exact rA_eq | refine rA_ne (by omega) ?_ | refine rA_f ?_)) (nT (by omega)) (by omega) ?_
    refine g_aload_n (i := 0) dX2_endLoop_47 rfl rfl ?_
    refine g_dup dX2_endLoop_48 rfl ?_
    refine g_get dX2_endLoop_49 fl_X2_36 (by repeat' (first | assumption | exact rF_eq | (apply rF_nj; focus decide) | (apply rF_nk; focus omega) | refine rF_a ?_ | exact rA_eq | refine rA_ne (by omega) ?_ | refine rA_f ?_)) (by repeat' (first | assumption | exact rF_eq | (apply rF_nj; focus decide) | (apply rF_nk; focus omega) | refine rF_a ?_ | exact rA_eq | refine rA_ne (by omega) ?_ | refine rA_f ?_)) ?_
    refine g_iconst (v := 1) dX2_endLoop_52 (by decide) ?_
    refine g_iadd dX2_endLoop_53 ?_
    rw [ni_inc]
    refine g_put dX2_endLoop_54 pl_X2_36 (by repeat' (first | assumption | exact rF_eq | (apply rF_nj; focus decide) | (apply rF_nk; focus omega) | refine rF_a ?_ | exact rA_eq | refine rA_ne (by omega) ?_ | refine rA_f ?_)) (fun _ => ⟨rfl, rfl⟩) ?_
    refine g_vret dX2_endLoop_57 rfl (hQ _ _ ?_)
    refine ⟨rfl, ⟨?_, ?_, ?_, ?_, ?_, ?_, ?_, ?_, ?_, ?_, ?_, ?_, ?_, ?_, ?_, ?_, ?_, ?_, ?_, ?_, ?_⟩, fj_sF (by omega) (fj_sA (by omega) (fj_sA (by omega) (fj_sA (by omega) (fj_sA (by omega) fj_rf))))⟩
    all_goals repeat' (first | assumption | exact rF_eq | refine rF_nj (by decide) ?_ | refine rF_nk (by omega) ?_ | refine rF_a ?_ | exact rA_eq | refine rA_ne (by omega) ?_ | refine rA_f ?_ | rfl)
  · have hd1 := i_eq.mp hc1; (try simp (disch := omega) only [nT, t_m1000100, t_m1000010, t_m1000003, t_m1000002, t_m1000001, t_m1000000, t_m65535, t_m1000, t_m3, t_m1, t_0, t_1, t_2, t_3, t_4, t_5, t_6, t_7, t_8, t_9, t_10, t_11, t_12, t_13, t_15, t_16, t_20, t_21, t_22, t_32, t_40, t_41, t_48, t_49, t_57, t_59, t_60, t_63, t_72, t_76, t_88, t_100, t_144, t_200, t_255, t_288, t_400, t_800, t_999, t_1000, t_1024, t_1200, t_1600, t_3200, t_100000, t_200000, t_252645135, t_858993459, t_1431655765, u_m1000002, u_m1000001, u_m1000, u_m3, u_m1, u_0, u_1, u_2, u_3, u_4, u_5, u_7, u_8, u_10, u_11, u_15, u_60, u_100, u_255, u_999, u_1000, u_100000, u_4294967295] at hd1); exact absurd hc1 (nI_ne0 hn hn2)
