/-! sign and compare of the reference -/
theorem ix_s2 (sd l p : Nat) : (1600 : Int32) * nI sd + 8 * nI l + nI p = nI (1600 * sd + 8 * l + p) := by
  rw [show (1600 : Int32) = nI 1600 from rfl, show (8 : Int32) = nI 8 from rfl, pk_mul, pk_mul, ni_add, ni_add]
theorem m1_T {n : Nat} (h : n < 2147483648) : (nI n - 1).toInt64.toInt = (n : Int) - 1 := by rw [l_i, nm1T h]
theorem m_sign {pt : PT} {fl : Int32} (hw : WfP pt) {h : HH} (gq : GQM pt fl h) (c p : Int32) : CT mX8_sign 1 0 0 [.ref 44, .int c, .int p] h (fun r h' => r = some (.int (opSign pt c p)) ∧ h' = sF h 44 0 (.int 0)) := by
  obtain ⟨e0, q7, ⟨q14, q15, q16, q17, q18, q19, q20, q21⟩, sd, th, A, op, ot, ins, hsd, q12, q13, ⟨b1, b2, b3, b4, b5, b6, b7, b8⟩, z0, z1⟩ := gq
  obtain ⟨w1, w2, w3⟩ := hw
  refine CT.go [.ref 44, .int c, .int p] (by decide +kernel) rfl rfl (fun Q' hQ => ?_)
  by_cases hth : th = 0
  · have hop : opSign pt c p = -1000000 := by
      unfold opSign
      rw [if_neg]
      intro q
      rw [(z0 hth).2.2] at q
      have := q.1
      simp only [List.length_nil] at this
      omega
    subst hth
    refine g_aload_n (i := 0) dX8_sign_0 rfl rfl ?_
    refine g_iconst (v := 0) dX8_sign_1 (by decide) ?_
    refine g_put dX8_sign_2 pl_X8_107 (by repeat' (first | assumption | exact rF_eq | (apply rF_nj; focus decide) | (apply rF_nk; focus omega) | refine rF_a ?_ | exact rA_eq | refine rA_ne (by omega) ?_ | refine rA_f ?_)) (fun _ => ⟨rfl, rfl⟩) ?_
    refine g_aload_n (i := 0) dX8_sign_5 rfl rfl ?_
    refine g_get dX8_sign_6 fl_X8_192 (by repeat' (first | assumption | exact rF_eq | (apply rF_nj; focus decide) | (apply rF_nk; focus omega) | refine rF_a ?_ | exact rA_eq | refine rA_ne (by omega) ?_ | refine rA_f ?_)) (by repeat' (first | assumption | exact rF_eq | (apply rF_nj; focus decide) | (apply rF_nk; focus omega) | refine rF_a ?_ | exact rA_eq | refine rA_ne (by omega) ?_ | refine rA_f ?_)) ?_
    refine g_if_eq (tgt := 54) dX8_sign_9 (by decide) (fun hc9 => ?_) (fun hc9 => ?_)
    · have hd9 := i_eq.mp hc9; (try simp (disch := omega) only [nT, t_m1000100, t_m1000010, t_m1000003, t_m1000002, t_m1000001, t_m1000000, t_m65535, t_m1000, t_m3, t_m1, t_0, t_1, t_2, t_3, t_4, t_5, t_6, t_7, t_8, t_9, t_10, t_11, t_12, t_13, t_15, t_16, t_20, t_21, t_22, t_32, t_40, t_41, t_48, t_49, t_57, t_59, t_60, t_63, t_72, t_76, t_88, t_100, t_144, t_200, t_255, t_288, t_400, t_800, t_999, t_1000, t_1024, t_1200, t_1600, t_3200, t_100000, t_200000, t_252645135, t_858993459, t_1431655765, u_m1000002, u_m1000001, u_m1000, u_m3, u_m1, u_0, u_1, u_2, u_3, u_4, u_5, u_7, u_8, u_10, u_11, u_15, u_60, u_100, u_255, u_999, u_1000, u_100000, u_4294967295] at hd9)
      refine g_ldc dX8_sign_54 kc_X8_142 ?_
      refine g_iret dX8_sign_56 rfl (rfl) (hQ _ _ ?_)
      rw [hop]; exact ⟨rfl, rfl⟩
    · have hd9 := mt i_eq.mpr hc9; (try simp (disch := omega) only [nT, t_m1000100, t_m1000010, t_m1000003, t_m1000002, t_m1000001, t_m1000000, t_m65535, t_m1000, t_m3, t_m1, t_0, t_1, t_2, t_3, t_4, t_5, t_6, t_7, t_8, t_9, t_10, t_11, t_12, t_13, t_15, t_16, t_20, t_21, t_22, t_32, t_40, t_41, t_48, t_49, t_57, t_59, t_60, t_63, t_72, t_76, t_88, t_100, t_144, t_200, t_255, t_288, t_400, t_800, t_999, t_1000, t_1024, t_1200, t_1600, t_3200, t_100000, t_200000, t_252645135, t_858993459, t_1431655765, u_m1000002, u_m1000001, u_m1000, u_m3, u_m1, u_0, u_1, u_2, u_3, u_4, u_5, u_7, u_8, u_10, u_11, u_15, u_60, u_100, u_255, u_999, u_1000, u_100000, u_4294967295] at hd9); exact absurd rfl hc9
  · obtain ⟨y1, y2, y3, y4⟩ := z1 hth
    refine g_aload_n (i := 0) dX8_sign_0 rfl rfl ?_
    refine g_iconst (v := 0) dX8_sign_1 (by decide) ?_
    refine g_put dX8_sign_2 pl_X8_107 (by repeat' (first | assumption | exact rF_eq | (apply rF_nj; focus decide) | (apply rF_nk; focus omega) | refine rF_a ?_ | exact rA_eq | refine rA_ne (by omega) ?_ | refine rA_f ?_)) (fun _ => ⟨rfl, rfl⟩) ?_
    refine g_aload_n (i := 0) dX8_sign_5 rfl rfl ?_
    refine g_get dX8_sign_6 fl_X8_192 (by repeat' (first | assumption | exact rF_eq | (apply rF_nj; focus decide) | (apply rF_nk; focus omega) | refine rF_a ?_ | exact rA_eq | refine rA_ne (by omega) ?_ | refine rA_f ?_)) (by repeat' (first | assumption | exact rF_eq | (apply rF_nj; focus decide) | (apply rF_nk; focus omega) | refine rF_a ?_ | exact rA_eq | refine rA_ne (by omega) ?_ | refine rA_f ?_)) ?_
    refine g_if_eq (tgt := 54) dX8_sign_9 (by decide) (fun hc9 => ?_) (fun hc9 => ?_)
    · have hd9 := i_eq.mp hc9; (try simp (disch := omega) only [nT, t_m1000100, t_m1000010, t_m1000003, t_m1000002, t_m1000001, t_m1000000, t_m65535, t_m1000, t_m3, t_m1, t_0, t_1, t_2, t_3, t_4, t_5, t_6, t_7, t_8, t_9, t_10, t_11, t_12, t_13, t_15, t_16, t_20, t_21, t_22, t_32, t_40, t_41, t_48, t_49, t_57, t_59, t_60, t_63, t_72, t_76, t_88, t_100, t_144, t_200, t_255, t_288, t_400, t_800, t_999, t_1000, t_1024, t_1200, t_1600, t_3200, t_100000, t_200000, t_252645135, t_858993459, t_1431655765, u_m1000002, u_m1000001, u_m1000, u_m3, u_m1, u_0, u_1, u_2, u_3, u_4, u_5, u_7, u_8, u_10, u_11, u_15, u_60, u_100, u_255, u_999, u_1000, u_100000, u_4294967295] at hd9); exact absurd hc9 hth
    · have hd9 := mt i_eq.mpr hc9; (try simp (disch := omega) only [nT, t_m1000100, t_m1000010, t_m1000003, t_m1000002, t_m1000001, t_m1000000, t_m65535, t_m1000, t_m3, t_m1, t_0, t_1, t_2, t_3, t_4, t_5, t_6, t_7, t_8, t_9, t_10, t_11, t_12, t_13, t_15, t_16, t_20, t_21, t_22, t_32, t_40, t_41, t_48, t_49, t_57, t_59, t_60, t_63, t_72, t_76, t_88, t_100, t_144, t_200, t_255, t_288, t_400, t_800, t_999, t_1000, t_1024, t_1200, t_1600, t_3200, t_100000, t_200000, t_252645135, t_858993459, t_1431655765, u_m1000002, u_m1000001, u_m1000, u_m3, u_m1, u_0, u_1, u_2, u_3, u_4, u_5, u_7, u_8, u_10, u_11, u_15, u_60, u_100, u_255, u_999, u_1000, u_100000, u_4294967295] at hd9)
      refine g_iload_n (i := 1) dX8_sign_12 rfl rfl ?_
      refine g_i2l dX8_sign_13 ?_
      refine g_lconst (v := 0) dX8_sign_14 (by decide) ?_
      refine g_aload_n (i := 0) dX8_sign_15 rfl rfl ?_
      refine g_get dX8_sign_16 fl_X8_28 (by repeat' (first | assumption | exact rF_eq | (apply rF_nj; focus decide) | (apply rF_nk; focus omega) | refine rF_a ?_ | exact rA_eq | refine rA_ne (by omega) ?_ | refine rA_f ?_)) (by repeat' (first | assumption | exact rF_eq | (apply rF_nj; focus decide) | (apply rF_nk; focus omega) | refine rF_a ?_ | exact rA_eq | refine rA_ne (by omega) ?_ | refine rA_f ?_)) ?_
      refine g_aload_n (i := 0) dX8_sign_19 rfl rfl ?_
      refine g_get dX8_sign_20 fl_X8_171 (by repeat' (first | assumption | exact rF_eq | (apply rF_nj; focus decide) | (apply rF_nk; focus omega) | refine rF_a ?_ | exact rA_eq | refine rA_ne (by omega) ?_ | refine rA_f ?_)) (by repeat' (first | assumption | exact rF_eq | (apply rF_nj; focus decide) | (apply rF_nk; focus omega) | refine rF_a ?_ | exact rA_eq | refine rA_ne (by omega) ?_ | refine rA_f ?_)) ?_
      refine g_iald dX8_sign_23 (by repeat' (first | assumption | exact rF_eq | (apply rF_nj; focus decide) | (apply rF_nk; focus omega) | refine rF_a ?_ | exact rA_eq | refine rA_ne (by omega) ?_ | refine rA_f ?_)) (nT (by omega)) (by omega) ?_
      rw [y3]
      refine g_iconst (v := 1) dX8_sign_24 (by decide) ?_
      refine g_isub dX8_sign_25 ?_
      refine g_i2l dX8_sign_26 ?_
      refine g_callS (M' := mX8_in) dX8_sign_27 lc_X8_in ml_X8_116 (c_in _ c.toInt64 0 (nI pt.2.2.1.length - 1).toInt64 0 ((pt.2.2.1.length : Int) - 1) rfl (m1_T (by omega))) rfl rfl ⟨Nat.le_of_ble_eq_true rfl, Nat.le_of_ble_eq_true rfl, Nat.le_of_ble_eq_true rfl, Nat.le_of_ble_eq_true rfl⟩ (Nat.le_of_ble_eq_true rfl) ?_
      intro r_ h_ q_; obtain ⟨q1_, q2_⟩ := q_; have q2_ := q2_.symm; subst q1_; subst q2_
      rw [l_i]
      refine g_if_eq (tgt := 54) dX8_sign_30 (by decide) (fun hc30 => ?_) (fun hc30 => ?_)
      · replace hc30 := bI_0.mp hc30
        (try simp (disch := omega) only [nT, t_m1000100, t_m1000010, t_m1000003, t_m1000002, t_m1000001, t_m1000000, t_m65535, t_m1000, t_m3, t_m1, t_0, t_1, t_2, t_3, t_4, t_5, t_6, t_7, t_8, t_9, t_10, t_11, t_12, t_13, t_15, t_16, t_20, t_21, t_22, t_32, t_40, t_41, t_48, t_49, t_57, t_59, t_60, t_63, t_72, t_76, t_88, t_100, t_144, t_200, t_255, t_288, t_400, t_800, t_999, t_1000, t_1024, t_1200, t_1600, t_3200, t_100000, t_200000, t_252645135, t_858993459, t_1431655765, u_m1000002, u_m1000001, u_m1000, u_m3, u_m1, u_0, u_1, u_2, u_3, u_4, u_5, u_7, u_8, u_10, u_11, u_15, u_60, u_100, u_255, u_999, u_1000, u_100000, u_4294967295] at hc30)
        refine g_ldc dX8_sign_54 kc_X8_142 ?_
        refine g_iret dX8_sign_56 rfl (rfl) (hQ _ _ ?_)
        refine ⟨?_, rfl⟩
        unfold opSign
        rw [if_neg (by omega)]
      · replace hc30 := bI_n0.mp hc30
        (try simp (disch := omega) only [nT, t_m1000100, t_m1000010, t_m1000003, t_m1000002, t_m1000001, t_m1000000, t_m65535, t_m1000, t_m3, t_m1, t_0, t_1, t_2, t_3, t_4, t_5, t_6, t_7, t_8, t_9, t_10, t_11, t_12, t_13, t_15, t_16, t_20, t_21, t_22, t_32, t_40, t_41, t_48, t_49, t_57, t_59, t_60, t_63, t_72, t_76, t_88, t_100, t_144, t_200, t_255, t_288, t_400, t_800, t_999, t_1000, t_1024, t_1200, t_1600, t_3200, t_100000, t_200000, t_252645135, t_858993459, t_1431655765, u_m1000002, u_m1000001, u_m1000, u_m3, u_m1, u_0, u_1, u_2, u_3, u_4, u_5, u_7, u_8, u_10, u_11, u_15, u_60, u_100, u_255, u_999, u_1000, u_100000, u_4294967295] at hc30)
        refine g_iload_n (i := 2) dX8_sign_33 rfl rfl ?_
        refine g_i2l dX8_sign_34 ?_
        refine g_lconst (v := 0) dX8_sign_35 (by decide) ?_
        refine g_aload_n (i := 0) dX8_sign_36 rfl rfl ?_
        refine g_get dX8_sign_37 fl_X8_25 (by repeat' (first | assumption | exact rF_eq | (apply rF_nj; focus decide) | (apply rF_nk; focus omega) | refine rF_a ?_ | exact rA_eq | refine rA_ne (by omega) ?_ | refine rA_f ?_)) (by repeat' (first | assumption | exact rF_eq | (apply rF_nj; focus decide) | (apply rF_nk; focus omega) | refine rF_a ?_ | exact rA_eq | refine rA_ne (by omega) ?_ | refine rA_f ?_)) ?_
        refine g_aload_n (i := 0) dX8_sign_40 rfl rfl ?_
        refine g_get dX8_sign_41 fl_X8_171 (by repeat' (first | assumption | exact rF_eq | (apply rF_nj; focus decide) | (apply rF_nk; focus omega) | refine rF_a ?_ | exact rA_eq | refine rA_ne (by omega) ?_ | refine rA_f ?_)) (by repeat' (first | assumption | exact rF_eq | (apply rF_nj; focus decide) | (apply rF_nk; focus omega) | refine rF_a ?_ | exact rA_eq | refine rA_ne (by omega) ?_ | refine rA_f ?_)) ?_
        refine g_iald dX8_sign_44 (by repeat' (first | assumption | exact rF_eq | (apply rF_nj; focus decide) | (apply rF_nk; focus omega) | refine rF_a ?_ | exact rA_eq | refine rA_ne (by omega) ?_ | refine rA_f ?_)) (nT (by omega)) (by omega) ?_
        rw [y2]
        refine g_iconst (v := 1) dX8_sign_45 (by decide) ?_
        refine g_isub dX8_sign_46 ?_
        refine g_i2l dX8_sign_47 ?_
        refine g_callS (M' := mX8_in) dX8_sign_48 lc_X8_in ml_X8_116 (c_in _ p.toInt64 0 (nI pt.2.1 - 1).toInt64 0 ((pt.2.1 : Int) - 1) rfl (m1_T (by omega))) rfl rfl ⟨Nat.le_of_ble_eq_true rfl, Nat.le_of_ble_eq_true rfl, Nat.le_of_ble_eq_true rfl, Nat.le_of_ble_eq_true rfl⟩ (Nat.le_of_ble_eq_true rfl) ?_
        intro r_ h_ q_; obtain ⟨q1_, q2_⟩ := q_; have q2_ := q2_.symm; subst q1_; subst q2_
        rw [l_i]
        refine g_if_ne (tgt := 57) dX8_sign_51 (by decide) (fun hc51 => ?_) (fun hc51 => ?_)
        · replace hc51 := bI_n0.mp hc51
          (try simp (disch := omega) only [nT, t_m1000100, t_m1000010, t_m1000003, t_m1000002, t_m1000001, t_m1000000, t_m65535, t_m1000, t_m3, t_m1, t_0, t_1, t_2, t_3, t_4, t_5, t_6, t_7, t_8, t_9, t_10, t_11, t_12, t_13, t_15, t_16, t_20, t_21, t_22, t_32, t_40, t_41, t_48, t_49, t_57, t_59, t_60, t_63, t_72, t_76, t_88, t_100, t_144, t_200, t_255, t_288, t_400, t_800, t_999, t_1000, t_1024, t_1200, t_1600, t_3200, t_100000, t_200000, t_252645135, t_858993459, t_1431655765, u_m1000002, u_m1000001, u_m1000, u_m3, u_m1, u_0, u_1, u_2, u_3, u_4, u_5, u_7, u_8, u_10, u_11, u_15, u_60, u_100, u_255, u_999, u_1000, u_100000, u_4294967295] at hc51)
          obtain ⟨cc, hc1, rfl, hc3⟩ := n_of (n := pt.2.2.1.length) (x := c) (by omega) (by omega)
          obtain ⟨pp, hp1, rfl, hp3⟩ := n_of (n := pt.2.1) (x := p) (by omega) (by omega)
          have hcq : pt.2.2.1[cc]? = some (pt.2.2.1[cc]'hc1) := List.getElem?_eq_getElem hc1
          obtain ⟨l, l1, l2, l3⟩ := y4 cc _ hcq
          have hop : opSign pt (nI cc) (nI pp) = A.2.2.2.1 (1600 * sd + 8 * l + pp) := by
            unfold opSign
            rw [if_pos ⟨⟨by omega, by omega⟩, by omega, by omega⟩, hc3, hp3, Int.toNat_natCast, Int.toNat_natCast, l3 pp hp1, List.getD_eq_getElem?_getD, hcq]
            rfl
          refine g_aload_n (i := 0) dX8_sign_57 rfl rfl ?_
          refine g_get dX8_sign_58 fl_X8_31 (by repeat' (first | assumption | exact rF_eq | (apply rF_nj; focus decide) | (apply rF_nk; focus omega) | refine rF_a ?_ | exact rA_eq | refine rA_ne (by omega) ?_ | refine rA_f ?_)) (by repeat' (first | assumption | exact rF_eq | (apply rF_nj; focus decide) | (apply rF_nk; focus omega) | refine rF_a ?_ | exact rA_eq | refine rA_ne (by omega) ?_ | refine rA_f ?_)) ?_
          refine g_sipush (v := 1600) dX8_sign_61 (by decide) ?_
          refine g_aload_n (i := 0) dX8_sign_64 rfl rfl ?_
          refine g_get dX8_sign_65 fl_X8_171 (by repeat' (first | assumption | exact rF_eq | (apply rF_nj; focus decide) | (apply rF_nk; focus omega) | refine rF_a ?_ | exact rA_eq | refine rA_ne (by omega) ?_ | refine rA_f ?_)) (by repeat' (first | assumption | exact rF_eq | (apply rF_nj; focus decide) | (apply rF_nk; focus omega) | refine rF_a ?_ | exact rA_eq | refine rA_ne (by omega) ?_ | refine rA_f ?_)) ?_
          refine g_imul dX8_sign_68 ?_
          refine g_bipush (v := 8) dX8_sign_69 (by decide) ?_
          refine g_aload_n (i := 0) dX8_sign_71 rfl rfl ?_
          refine g_get dX8_sign_72 fl_X8_35 (by repeat' (first | assumption | exact rF_eq | (apply rF_nj; focus decide) | (apply rF_nk; focus omega) | refine rF_a ?_ | exact rA_eq | refine rA_ne (by omega) ?_ | refine rA_f ?_)) (by repeat' (first | assumption | exact rF_eq | (apply rF_nj; focus decide) | (apply rF_nk; focus omega) | refine rF_a ?_ | exact rA_eq | refine rA_ne (by omega) ?_ | refine rA_f ?_)) ?_
          refine g_ldc dX8_sign_75 kc_X8_165 ?_
          refine g_aload_n (i := 0) dX8_sign_77 rfl rfl ?_
          refine g_get dX8_sign_78 fl_X8_171 (by repeat' (first | assumption | exact rF_eq | (apply rF_nj; focus decide) | (apply rF_nk; focus omega) | refine rF_a ?_ | exact rA_eq | refine rA_ne (by omega) ?_ | refine rA_f ?_)) (by repeat' (first | assumption | exact rF_eq | (apply rF_nj; focus decide) | (apply rF_nk; focus omega) | refine rF_a ?_ | exact rA_eq | refine rA_ne (by omega) ?_ | refine rA_f ?_)) ?_
          refine g_imul dX8_sign_81 ?_
          refine g_iload_n (i := 1) dX8_sign_82 rfl rfl ?_
          refine g_iadd dX8_sign_83 ?_
          rw [ix_lo]
          refine g_iald dX8_sign_84 (by repeat' (first | assumption | exact rF_eq | (apply rF_nj; focus decide) | (apply rF_nk; focus omega) | refine rF_a ?_ | exact rA_eq | refine rA_ne (by omega) ?_ | refine rA_f ?_)) (nT (by omega)) (by omega) ?_
          rw [l2]
          refine g_imul dX8_sign_85 ?_
          refine g_iadd dX8_sign_86 ?_
          refine g_iload_n (i := 2) dX8_sign_87 rfl rfl ?_
          refine g_iadd dX8_sign_88 ?_
          rw [ix_s2]
          refine g_iald dX8_sign_89 (by repeat' (first | assumption | exact rF_eq | (apply rF_nj; focus decide) | (apply rF_nk; focus omega) | refine rF_a ?_ | exact rA_eq | refine rA_ne (by omega) ?_ | refine rA_f ?_)) (nT (by omega)) (by omega) ?_
          refine g_iret dX8_sign_90 rfl (rfl) (hQ _ _ ?_)
          rw [hop]; exact ⟨rfl, rfl⟩
        · replace hc51 := bI_0.mp hc51
          (try simp (disch := omega) only [nT, t_m1000100, t_m1000010, t_m1000003, t_m1000002, t_m1000001, t_m1000000, t_m65535, t_m1000, t_m3, t_m1, t_0, t_1, t_2, t_3, t_4, t_5, t_6, t_7, t_8, t_9, t_10, t_11, t_12, t_13, t_15, t_16, t_20, t_21, t_22, t_32, t_40, t_41, t_48, t_49, t_57, t_59, t_60, t_63, t_72, t_76, t_88, t_100, t_144, t_200, t_255, t_288, t_400, t_800, t_999, t_1000, t_1024, t_1200, t_1600, t_3200, t_100000, t_200000, t_252645135, t_858993459, t_1431655765, u_m1000002, u_m1000001, u_m1000, u_m3, u_m1, u_0, u_1, u_2, u_3, u_4, u_5, u_7, u_8, u_10, u_11, u_15, u_60, u_100, u_255, u_999, u_1000, u_100000, u_4294967295] at hc51)
          refine g_ldc dX8_sign_54 kc_X8_142 ?_
          refine g_iret dX8_sign_56 rfl (rfl) (hQ _ _ ?_)
          refine ⟨?_, rfl⟩
          unfold opSign
          rw [if_neg (by omega)]
def StC (n : Nat) (fi pi : Int32) (R F : Option (Nat × Nat)) : Prop := (n = 0 ∧ fi = -1000000 ∧ pi = -1000000 ∧ R = F) ∨ (0 < n ∧ ∃ x, F = some x ∧ fi = nI x.1 ∧ pi = nI x.2)
def inF (W : Nat → Bool) (c m p : Nat) (R : Option (Nat × Nat)) : Option (Nat × Nat) := match fsB W m p with
  | some j => some (c, j)
  | none => R
theorem inF_t {W : Nat → Bool} {c m p : Nat} {R : Option (Nat × Nat)} (h : W p = true) : inF W c (m + 1) p R = some (c, p) := by unfold inF; rw [fsB_t h]
theorem inF_f {W : Nat → Bool} {c m p : Nat} {R : Option (Nat × Nat)} (h : ¬ W p = true) : inF W c (m + 1) p R = inF W c m p.succ R := by unfold inF; rw [fsB_f h]
theorem drop_s {M : List Nat} {c q : Nat} (h : M[c]? = some q) : M.drop c = q :: M.drop (c + 1) := by
  obtain ⟨hlt, e⟩ := List.getElem?_eq_some_iff.mp h
  rw [List.drop_eq_getElem_cons hlt, e]
theorem m_compare {w : SH} {pt : PT} {fl : Int32} (hw : WfS w) (hp : WfP pt) {h : HH} (hg : GSM w h) (gq : GQM pt fl h) (s a : Int32) : CT mX8_compare 2 0 0 [.ref 44, .int s, .int a] h (fun r h' => r = some (.int (opCmp w pt s a).1) ∧ ∃ th, h' = sF (sF h 44 0 th) 44 1 (.int (opCmp w pt s a).2)) := by
  obtain ⟨st, lo0, so, io⟩ := w
  obtain ⟨ln, sz, it, h2, hs, hE⟩ := hg
  obtain ⟨e1, e2, e3, e4, e5, e6, e7⟩ := hs
  dsimp only at h2
  obtain ⟨-, q7, ⟨q14, q15, q16, q17, q18, q19, q20, q21⟩, sd, th, A, op, ot, ins, hsd, q12, q13, ⟨b1, b2, b3, b4, b5, b6, b7, b8⟩, z0, z1⟩ := gq
  obtain ⟨w1, w2, w3⟩ := hp
  refine CT.go [.ref 44, .int s, .int a, hU, hU, hU, hU, hU, hU, hU] (by decide +kernel) rfl rfl (fun Q' hQ => ?_)
  by_cases hth : th = 0
  · have hM : pt.2.2.1.length = 0 := by rw [(z0 hth).2.2]; rfl
    subst hth
    refine g_aload_n (i := 0) dX8_compare_0 rfl rfl ?_
    refine g_iconst (v := 0) dX8_compare_1 (by decide) ?_
    refine g_put dX8_compare_2 pl_X8_107 (by repeat' (first | assumption | exact rF_eq | (apply rF_nj; focus decide) | (apply rF_nk; focus omega) | refine rF_a ?_ | exact rA_eq | refine rA_ne (by omega) ?_ | refine rA_f ?_)) (fun _ => ⟨rfl, rfl⟩) ?_
    refine g_iload_n (i := 1) dX8_compare_5 rfl rfl ?_
    refine g_callS (M' := mX8_isSheet) dX8_compare_6 lc_X8_isSheet ml_X8_120 (c_isSheet _ s) rfl rfl ⟨Nat.le_of_ble_eq_true rfl, Nat.le_of_ble_eq_true rfl, Nat.le_of_ble_eq_true rfl, Nat.le_of_ble_eq_true rfl⟩ (Nat.le_of_ble_eq_true rfl) ?_
    intro r_ h_ q_; obtain ⟨q1_, q2_⟩ := q_; have q2_ := q2_.symm; subst q1_; subst q2_
    refine g_if_eq (tgt := 24) dX8_compare_9 (by decide) (fun hc9 => ?_) (fun hc9 => ?_)
    · replace hc9 := bI_0.mp hc9
      (try simp (disch := omega) only [nT, t_m1000100, t_m1000010, t_m1000003, t_m1000002, t_m1000001, t_m1000000, t_m65535, t_m1000, t_m3, t_m1, t_0, t_1, t_2, t_3, t_4, t_5, t_6, t_7, t_8, t_9, t_10, t_11, t_12, t_13, t_15, t_16, t_20, t_21, t_22, t_32, t_40, t_41, t_48, t_49, t_57, t_59, t_60, t_63, t_72, t_76, t_88, t_100, t_144, t_200, t_255, t_288, t_400, t_800, t_999, t_1000, t_1024, t_1200, t_1600, t_3200, t_100000, t_200000, t_252645135, t_858993459, t_1431655765, u_m1000002, u_m1000001, u_m1000, u_m3, u_m1, u_0, u_1, u_2, u_3, u_4, u_5, u_7, u_8, u_10, u_11, u_15, u_60, u_100, u_255, u_999, u_1000, u_100000, u_4294967295] at hc9)
      refine g_ldc dX8_compare_24 kc_X8_126 ?_
      refine g_iret dX8_compare_26 rfl (rfl) (hQ _ _ ?_)
      have e : opCmp (st, lo0, so, io) pt s a = _ := if_pos (by omega)
      rw [e]; exact ⟨rfl, _, (sF_self (show gF (sF h 44 0 (.int 0)) 44 1 = .int st from h2)).symm⟩
    · replace hc9 := bI_n0.mp hc9
      (try simp (disch := omega) only [nT, t_m1000100, t_m1000010, t_m1000003, t_m1000002, t_m1000001, t_m1000000, t_m65535, t_m1000, t_m3, t_m1, t_0, t_1, t_2, t_3, t_4, t_5, t_6, t_7, t_8, t_9, t_10, t_11, t_12, t_13, t_15, t_16, t_20, t_21, t_22, t_32, t_40, t_41, t_48, t_49, t_57, t_59, t_60, t_63, t_72, t_76, t_88, t_100, t_144, t_200, t_255, t_288, t_400, t_800, t_999, t_1000, t_1024, t_1200, t_1600, t_3200, t_100000, t_200000, t_252645135, t_858993459, t_1431655765, u_m1000002, u_m1000001, u_m1000, u_m3, u_m1, u_0, u_1, u_2, u_3, u_4, u_5, u_7, u_8, u_10, u_11, u_15, u_60, u_100, u_255, u_999, u_1000, u_100000, u_4294967295] at hc9)
      refine g_iload_n (i := 2) dX8_compare_12 rfl rfl ?_
      refine g_i2l dX8_compare_13 ?_
      refine g_lconst (v := 0) dX8_compare_14 (by decide) ?_
      refine g_ldc2 dX8_compare_15 kc_X8_124 ?_
      refine g_callS (M' := mX8_in) dX8_compare_18 lc_X8_in ml_X8_116 (c_in _ a.toInt64 0 2 0 2 rfl rfl) rfl rfl ⟨Nat.le_of_ble_eq_true rfl, Nat.le_of_ble_eq_true rfl, Nat.le_of_ble_eq_true rfl, Nat.le_of_ble_eq_true rfl⟩ (Nat.le_of_ble_eq_true rfl) ?_
      intro r_ h_ q_; obtain ⟨q1_, q2_⟩ := q_; have q2_ := q2_.symm; subst q1_; subst q2_
      rw [l_i]
      refine g_if_ne (tgt := 27) dX8_compare_21 (by decide) (fun hc21 => ?_) (fun hc21 => ?_)
      · replace hc21 := bI_n0.mp hc21
        (try simp (disch := omega) only [nT, t_m1000100, t_m1000010, t_m1000003, t_m1000002, t_m1000001, t_m1000000, t_m65535, t_m1000, t_m3, t_m1, t_0, t_1, t_2, t_3, t_4, t_5, t_6, t_7, t_8, t_9, t_10, t_11, t_12, t_13, t_15, t_16, t_20, t_21, t_22, t_32, t_40, t_41, t_48, t_49, t_57, t_59, t_60, t_63, t_72, t_76, t_88, t_100, t_144, t_200, t_255, t_288, t_400, t_800, t_999, t_1000, t_1024, t_1200, t_1600, t_3200, t_100000, t_200000, t_252645135, t_858993459, t_1431655765, u_m1000002, u_m1000001, u_m1000, u_m3, u_m1, u_0, u_1, u_2, u_3, u_4, u_5, u_7, u_8, u_10, u_11, u_15, u_60, u_100, u_255, u_999, u_1000, u_100000, u_4294967295] at hc21)
        refine g_aload_n (i := 0) dX8_compare_27 rfl rfl ?_
        refine g_get dX8_compare_28 fl_X8_192 (by repeat' (first | assumption | exact rF_eq | (apply rF_nj; focus decide) | (apply rF_nk; focus omega) | refine rF_a ?_ | exact rA_eq | refine rA_ne (by omega) ?_ | refine rA_f ?_)) (by repeat' (first | assumption | exact rF_eq | (apply rF_nj; focus decide) | (apply rF_nk; focus omega) | refine rF_a ?_ | exact rA_eq | refine rA_ne (by omega) ?_ | refine rA_f ?_)) ?_
        refine g_if_eq (tgt := 46) dX8_compare_31 (by decide) (fun hc31 => ?_) (fun hc31 => ?_)
        · have hd31 := i_eq.mp hc31; (try simp (disch := omega) only [nT, t_m1000100, t_m1000010, t_m1000003, t_m1000002, t_m1000001, t_m1000000, t_m65535, t_m1000, t_m3, t_m1, t_0, t_1, t_2, t_3, t_4, t_5, t_6, t_7, t_8, t_9, t_10, t_11, t_12, t_13, t_15, t_16, t_20, t_21, t_22, t_32, t_40, t_41, t_48, t_49, t_57, t_59, t_60, t_63, t_72, t_76, t_88, t_100, t_144, t_200, t_255, t_288, t_400, t_800, t_999, t_1000, t_1024, t_1200, t_1600, t_3200, t_100000, t_200000, t_252645135, t_858993459, t_1431655765, u_m1000002, u_m1000001, u_m1000, u_m3, u_m1, u_0, u_1, u_2, u_3, u_4, u_5, u_7, u_8, u_10, u_11, u_15, u_60, u_100, u_255, u_999, u_1000, u_100000, u_4294967295] at hd31)
          refine g_ldc dX8_compare_46 kc_X8_196 ?_
          refine g_iret dX8_compare_48 rfl (rfl) (hQ _ _ ?_)
          have e : opCmp (st, lo0, so, io) pt s a = _ := (if_neg (by omega)).trans (if_pos hM)
          rw [e]; exact ⟨rfl, _, (sF_self (show gF (sF h 44 0 (.int 0)) 44 1 = .int st from h2)).symm⟩
        · have hd31 := mt i_eq.mpr hc31; (try simp (disch := omega) only [nT, t_m1000100, t_m1000010, t_m1000003, t_m1000002, t_m1000001, t_m1000000, t_m65535, t_m1000, t_m3, t_m1, t_0, t_1, t_2, t_3, t_4, t_5, t_6, t_7, t_8, t_9, t_10, t_11, t_12, t_13, t_15, t_16, t_20, t_21, t_22, t_32, t_40, t_41, t_48, t_49, t_57, t_59, t_60, t_63, t_72, t_76, t_88, t_100, t_144, t_200, t_255, t_288, t_400, t_800, t_999, t_1000, t_1024, t_1200, t_1600, t_3200, t_100000, t_200000, t_252645135, t_858993459, t_1431655765, u_m1000002, u_m1000001, u_m1000, u_m3, u_m1, u_0, u_1, u_2, u_3, u_4, u_5, u_7, u_8, u_10, u_11, u_15, u_60, u_100, u_255, u_999, u_1000, u_100000, u_4294967295] at hd31); exact absurd rfl hc31
      · replace hc21 := bI_0.mp hc21
        (try simp (disch := omega) only [nT, t_m1000100, t_m1000010, t_m1000003, t_m1000002, t_m1000001, t_m1000000, t_m65535, t_m1000, t_m3, t_m1, t_0, t_1, t_2, t_3, t_4, t_5, t_6, t_7, t_8, t_9, t_10, t_11, t_12, t_13, t_15, t_16, t_20, t_21, t_22, t_32, t_40, t_41, t_48, t_49, t_57, t_59, t_60, t_63, t_72, t_76, t_88, t_100, t_144, t_200, t_255, t_288, t_400, t_800, t_999, t_1000, t_1024, t_1200, t_1600, t_3200, t_100000, t_200000, t_252645135, t_858993459, t_1431655765, u_m1000002, u_m1000001, u_m1000, u_m3, u_m1, u_0, u_1, u_2, u_3, u_4, u_5, u_7, u_8, u_10, u_11, u_15, u_60, u_100, u_255, u_999, u_1000, u_100000, u_4294967295] at hc21)
        refine g_ldc dX8_compare_24 kc_X8_126 ?_
        refine g_iret dX8_compare_26 rfl (rfl) (hQ _ _ ?_)
        have e : opCmp (st, lo0, so, io) pt s a = _ := if_pos (by omega)
        rw [e]; exact ⟨rfl, _, (sF_self (show gF (sF h 44 0 (.int 0)) 44 1 = .int st from h2)).symm⟩
  · obtain ⟨y1, y2, y3, y4⟩ := z1 hth
    refine g_aload_n (i := 0) dX8_compare_0 rfl rfl ?_
    refine g_iconst (v := 0) dX8_compare_1 (by decide) ?_
    refine g_put dX8_compare_2 pl_X8_107 (by repeat' (first | assumption | exact rF_eq | (apply rF_nj; focus decide) | (apply rF_nk; focus omega) | refine rF_a ?_ | exact rA_eq | refine rA_ne (by omega) ?_ | refine rA_f ?_)) (fun _ => ⟨rfl, rfl⟩) ?_
    refine g_iload_n (i := 1) dX8_compare_5 rfl rfl ?_
    refine g_callS (M' := mX8_isSheet) dX8_compare_6 lc_X8_isSheet ml_X8_120 (c_isSheet _ s) rfl rfl ⟨Nat.le_of_ble_eq_true rfl, Nat.le_of_ble_eq_true rfl, Nat.le_of_ble_eq_true rfl, Nat.le_of_ble_eq_true rfl⟩ (Nat.le_of_ble_eq_true rfl) ?_
    intro r_ h_ q_; obtain ⟨q1_, q2_⟩ := q_; have q2_ := q2_.symm; subst q1_; subst q2_
    refine g_if_eq (tgt := 24) dX8_compare_9 (by decide) (fun hc9 => ?_) (fun hc9 => ?_)
    · replace hc9 := bI_0.mp hc9
      (try simp (disch := omega) only [nT, t_m1000100, t_m1000010, t_m1000003, t_m1000002, t_m1000001, t_m1000000, t_m65535, t_m1000, t_m3, t_m1, t_0, t_1, t_2, t_3, t_4, t_5, t_6, t_7, t_8, t_9, t_10, t_11, t_12, t_13, t_15, t_16, t_20, t_21, t_22, t_32, t_40, t_41, t_48, t_49, t_57, t_59, t_60, t_63, t_72, t_76, t_88, t_100, t_144, t_200, t_255, t_288, t_400, t_800, t_999, t_1000, t_1024, t_1200, t_1600, t_3200, t_100000, t_200000, t_252645135, t_858993459, t_1431655765, u_m1000002, u_m1000001, u_m1000, u_m3, u_m1, u_0, u_1, u_2, u_3, u_4, u_5, u_7, u_8, u_10, u_11, u_15, u_60, u_100, u_255, u_999, u_1000, u_100000, u_4294967295] at hc9)
      refine g_ldc dX8_compare_24 kc_X8_126 ?_
      refine g_iret dX8_compare_26 rfl (rfl) (hQ _ _ ?_)
      have e : opCmp (st, lo0, so, io) pt s a = _ := if_pos (by omega)
      rw [e]; exact ⟨rfl, _, (sF_self (show gF (sF h 44 0 (.int 0)) 44 1 = .int st from h2)).symm⟩
    · replace hc9 := bI_n0.mp hc9
      (try simp (disch := omega) only [nT, t_m1000100, t_m1000010, t_m1000003, t_m1000002, t_m1000001, t_m1000000, t_m65535, t_m1000, t_m3, t_m1, t_0, t_1, t_2, t_3, t_4, t_5, t_6, t_7, t_8, t_9, t_10, t_11, t_12, t_13, t_15, t_16, t_20, t_21, t_22, t_32, t_40, t_41, t_48, t_49, t_57, t_59, t_60, t_63, t_72, t_76, t_88, t_100, t_144, t_200, t_255, t_288, t_400, t_800, t_999, t_1000, t_1024, t_1200, t_1600, t_3200, t_100000, t_200000, t_252645135, t_858993459, t_1431655765, u_m1000002, u_m1000001, u_m1000, u_m3, u_m1, u_0, u_1, u_2, u_3, u_4, u_5, u_7, u_8, u_10, u_11, u_15, u_60, u_100, u_255, u_999, u_1000, u_100000, u_4294967295] at hc9)
      refine g_iload_n (i := 2) dX8_compare_12 rfl rfl ?_
      refine g_i2l dX8_compare_13 ?_
      refine g_lconst (v := 0) dX8_compare_14 (by decide) ?_
      refine g_ldc2 dX8_compare_15 kc_X8_124 ?_
      refine g_callS (M' := mX8_in) dX8_compare_18 lc_X8_in ml_X8_116 (c_in _ a.toInt64 0 2 0 2 rfl rfl) rfl rfl ⟨Nat.le_of_ble_eq_true rfl, Nat.le_of_ble_eq_true rfl, Nat.le_of_ble_eq_true rfl, Nat.le_of_ble_eq_true rfl⟩ (Nat.le_of_ble_eq_true rfl) ?_
      intro r_ h_ q_; obtain ⟨q1_, q2_⟩ := q_; have q2_ := q2_.symm; subst q1_; subst q2_
      rw [l_i]
      refine g_if_ne (tgt := 27) dX8_compare_21 (by decide) (fun hc21 => ?_) (fun hc21 => ?_)
      · replace hc21 := bI_n0.mp hc21
        (try simp (disch := omega) only [nT, t_m1000100, t_m1000010, t_m1000003, t_m1000002, t_m1000001, t_m1000000, t_m65535, t_m1000, t_m3, t_m1, t_0, t_1, t_2, t_3, t_4, t_5, t_6, t_7, t_8, t_9, t_10, t_11, t_12, t_13, t_15, t_16, t_20, t_21, t_22, t_32, t_40, t_41, t_48, t_49, t_57, t_59, t_60, t_63, t_72, t_76, t_88, t_100, t_144, t_200, t_255, t_288, t_400, t_800, t_999, t_1000, t_1024, t_1200, t_1600, t_3200, t_100000, t_200000, t_252645135, t_858993459, t_1431655765, u_m1000002, u_m1000001, u_m1000, u_m3, u_m1, u_0, u_1, u_2, u_3, u_4, u_5, u_7, u_8, u_10, u_11, u_15, u_60, u_100, u_255, u_999, u_1000, u_100000, u_4294967295] at hc21)
        refine g_aload_n (i := 0) dX8_compare_27 rfl rfl ?_
        refine g_get dX8_compare_28 fl_X8_192 (by repeat' (first | assumption | exact rF_eq | (apply rF_nj; focus decide) | (apply rF_nk; focus omega) | refine rF_a ?_ | exact rA_eq | refine rA_ne (by omega) ?_ | refine rA_f ?_)) (by repeat' (first | assumption | exact rF_eq | (apply rF_nj; focus decide) | (apply rF_nk; focus omega) | refine rF_a ?_ | exact rA_eq | refine rA_ne (by omega) ?_ | refine rA_f ?_)) ?_
        refine g_if_eq (tgt := 46) dX8_compare_31 (by decide) (fun hc31 => ?_) (fun hc31 => ?_)
        · have hd31 := i_eq.mp hc31; (try simp (disch := omega) only [nT, t_m1000100, t_m1000010, t_m1000003, t_m1000002, t_m1000001, t_m1000000, t_m65535, t_m1000, t_m3, t_m1, t_0, t_1, t_2, t_3, t_4, t_5, t_6, t_7, t_8, t_9, t_10, t_11, t_12, t_13, t_15, t_16, t_20, t_21, t_22, t_32, t_40, t_41, t_48, t_49, t_57, t_59, t_60, t_63, t_72, t_76, t_88, t_100, t_144, t_200, t_255, t_288, t_400, t_800, t_999, t_1000, t_1024, t_1200, t_1600, t_3200, t_100000, t_200000, t_252645135, t_858993459, t_1431655765, u_m1000002, u_m1000001, u_m1000, u_m3, u_m1, u_0, u_1, u_2, u_3, u_4, u_5, u_7, u_8, u_10, u_11, u_15, u_60, u_100, u_255, u_999, u_1000, u_100000, u_4294967295] at hd31); exact absurd hc31 hth
        · have hd31 := mt i_eq.mpr hc31; (try simp (disch := omega) only [nT, t_m1000100, t_m1000010, t_m1000003, t_m1000002, t_m1000001, t_m1000000, t_m65535, t_m1000, t_m3, t_m1, t_0, t_1, t_2, t_3, t_4, t_5, t_6, t_7, t_8, t_9, t_10, t_11, t_12, t_13, t_15, t_16, t_20, t_21, t_22, t_32, t_40, t_41, t_48, t_49, t_57, t_59, t_60, t_63, t_72, t_76, t_88, t_100, t_144, t_200, t_255, t_288, t_400, t_800, t_999, t_1000, t_1024, t_1200, t_1600, t_3200, t_100000, t_200000, t_252645135, t_858993459, t_1431655765, u_m1000002, u_m1000001, u_m1000, u_m3, u_m1, u_0, u_1, u_2, u_3, u_4, u_5, u_7, u_8, u_10, u_11, u_15, u_60, u_100, u_255, u_999, u_1000, u_100000, u_4294967295] at hd31)
          refine g_aload_n (i := 0) dX8_compare_34 rfl rfl ?_
          refine g_get dX8_compare_35 fl_X8_28 (by repeat' (first | assumption | exact rF_eq | (apply rF_nj; focus decide) | (apply rF_nk; focus omega) | refine rF_a ?_ | exact rA_eq | refine rA_ne (by omega) ?_ | refine rA_f ?_)) (by repeat' (first | assumption | exact rF_eq | (apply rF_nj; focus decide) | (apply rF_nk; focus omega) | refine rF_a ?_ | exact rA_eq | refine rA_ne (by omega) ?_ | refine rA_f ?_)) ?_
          refine g_aload_n (i := 0) dX8_compare_38 rfl rfl ?_
          refine g_get dX8_compare_39 fl_X8_171 (by repeat' (first | assumption | exact rF_eq | (apply rF_nj; focus decide) | (apply rF_nk; focus omega) | refine rF_a ?_ | exact rA_eq | refine rA_ne (by omega) ?_ | refine rA_f ?_)) (by repeat' (first | assumption | exact rF_eq | (apply rF_nj; focus decide) | (apply rF_nk; focus omega) | refine rF_a ?_ | exact rA_eq | refine rA_ne (by omega) ?_ | refine rA_f ?_)) ?_
          refine g_iald dX8_compare_42 (by repeat' (first | assumption | exact rF_eq | (apply rF_nj; focus decide) | (apply rF_nk; focus omega) | refine rF_a ?_ | exact rA_eq | refine rA_ne (by omega) ?_ | refine rA_f ?_)) (nT (by omega)) (by omega) ?_
          rw [y3]
          refine g_if_ne (tgt := 49) dX8_compare_43 (by decide) (fun hc43 => ?_) (fun hc43 => ?_)
          · have hd43 := mt i_eq.mpr hc43; (try simp (disch := omega) only [nT, t_m1000100, t_m1000010, t_m1000003, t_m1000002, t_m1000001, t_m1000000, t_m65535, t_m1000, t_m3, t_m1, t_0, t_1, t_2, t_3, t_4, t_5, t_6, t_7, t_8, t_9, t_10, t_11, t_12, t_13, t_15, t_16, t_20, t_21, t_22, t_32, t_40, t_41, t_48, t_49, t_57, t_59, t_60, t_63, t_72, t_76, t_88, t_100, t_144, t_200, t_255, t_288, t_400, t_800, t_999, t_1000, t_1024, t_1200, t_1600, t_3200, t_100000, t_200000, t_252645135, t_858993459, t_1431655765, u_m1000002, u_m1000001, u_m1000, u_m3, u_m1, u_0, u_1, u_2, u_3, u_4, u_5, u_7, u_8, u_10, u_11, u_15, u_60, u_100, u_255, u_999, u_1000, u_100000, u_4294967295] at hd43)
            obtain ⟨B, hB, rfl, hta⟩ := n_of (n := 8) (x := s) (by omega) (by omega)
            have hwa := hw B hB
            have q0 := hE.1 B hB
            have q1 := congrArg Int32.toInt q0.1
            have q2 := congrArg Int32.toInt q0.2
            dsimp only at hwa q1 q2
            have en : ∀ x, opCmp (st, lo0, so, io) pt (nI B) a = x ↔ _ = x := fun x => by rw [show opCmp (st, lo0, so, io) pt (nI B) a = _ from (if_neg (by omega)).trans (if_neg (by omega)), nTN (by omega)]
            dsimp only at en
            refine g_aload_n (i := 0) dX8_compare_49 rfl rfl ?_
            refine g_iconst (v := 0) dX8_compare_50 (by decide) ?_
            refine g_put dX8_compare_51 pl_X8_110 (by repeat' (first | assumption | exact rF_eq | (apply rF_nj; focus decide) | (apply rF_nk; focus omega) | refine rF_a ?_ | exact rA_eq | refine rA_ne (by omega) ?_ | refine rA_f ?_)) (fun _ => ⟨rfl, rfl⟩) ?_
            refine g_aload_n (i := 0) dX8_compare_54 rfl rfl ?_
            refine g_get dX8_compare_55 fl_X8_7 (by repeat' (first | assumption | exact rF_eq | (apply rF_nj; focus decide) | (apply rF_nk; focus omega) | refine rF_a ?_ | exact rA_eq | refine rA_ne (by omega) ?_ | refine rA_f ?_)) (by repeat' (first | assumption | exact rF_eq | (apply rF_nj; focus decide) | (apply rF_nk; focus omega) | refine rF_a ?_ | exact rA_eq | refine rA_ne (by omega) ?_ | refine rA_f ?_)) ?_
            refine g_iload_n (i := 1) dX8_compare_58 rfl rfl ?_
            refine g_iald dX8_compare_59 (by repeat' (first | assumption | exact rF_eq | (apply rF_nj; focus decide) | (apply rF_nk; focus omega) | refine rF_a ?_ | exact rA_eq | refine rA_ne (by omega) ?_ | refine rA_f ?_)) (hta) (hB) ?_
            refine g_if_ge (tgt := 69) dX8_compare_60 (by decide) (fun hc60 => ?_) (fun hc60 => ?_)
            · (try simp (disch := omega) only [nT, t_m1000100, t_m1000010, t_m1000003, t_m1000002, t_m1000001, t_m1000000, t_m65535, t_m1000, t_m3, t_m1, t_0, t_1, t_2, t_3, t_4, t_5, t_6, t_7, t_8, t_9, t_10, t_11, t_12, t_13, t_15, t_16, t_20, t_21, t_22, t_32, t_40, t_41, t_48, t_49, t_57, t_59, t_60, t_63, t_72, t_76, t_88, t_100, t_144, t_200, t_255, t_288, t_400, t_800, t_999, t_1000, t_1024, t_1200, t_1600, t_3200, t_100000, t_200000, t_252645135, t_858993459, t_1431655765, u_m1000002, u_m1000001, u_m1000, u_m3, u_m1, u_0, u_1, u_2, u_3, u_4, u_5, u_7, u_8, u_10, u_11, u_15, u_60, u_100, u_255, u_999, u_1000, u_100000, u_4294967295] at hc60)
              refine g_aload_n (i := 0) dX8_compare_69 rfl rfl ?_
              refine g_get dX8_compare_70 fl_X8_13 (by repeat' (first | assumption | exact rF_eq | (apply rF_nj; focus decide) | (apply rF_nk; focus omega) | refine rF_a ?_ | exact rA_eq | refine rA_ne (by omega) ?_ | refine rA_f ?_)) (by repeat' (first | assumption | exact rF_eq | (apply rF_nj; focus decide) | (apply rF_nk; focus omega) | refine rF_a ?_ | exact rA_eq | refine rA_ne (by omega) ?_ | refine rA_f ?_)) ?_
              refine g_iload_n (i := 1) dX8_compare_73 rfl rfl ?_
              refine g_iald dX8_compare_74 (by repeat' (first | assumption | exact rF_eq | (apply rF_nj; focus decide) | (apply rF_nk; focus omega) | refine rF_a ?_ | exact rA_eq | refine rA_ne (by omega) ?_ | refine rA_f ?_)) (hta) (hB) ?_
              refine g_if_ne (tgt := 84) dX8_compare_75 (by decide) (fun hc75 => ?_) (fun hc75 => ?_)
              · have hd75 := mt i_eq.mpr hc75; (try simp (disch := omega) only [nT, t_m1000100, t_m1000010, t_m1000003, t_m1000002, t_m1000001, t_m1000000, t_m65535, t_m1000, t_m3, t_m1, t_0, t_1, t_2, t_3, t_4, t_5, t_6, t_7, t_8, t_9, t_10, t_11, t_12, t_13, t_15, t_16, t_20, t_21, t_22, t_32, t_40, t_41, t_48, t_49, t_57, t_59, t_60, t_63, t_72, t_76, t_88, t_100, t_144, t_200, t_255, t_288, t_400, t_800, t_999, t_1000, t_1024, t_1200, t_1600, t_3200, t_100000, t_200000, t_252645135, t_858993459, t_1431655765, u_m1000002, u_m1000001, u_m1000, u_m3, u_m1, u_0, u_1, u_2, u_3, u_4, u_5, u_7, u_8, u_10, u_11, u_15, u_60, u_100, u_255, u_999, u_1000, u_100000, u_4294967295] at hd75)
                have e := (en _).mpr ((if_neg (by omega)).trans (if_neg (by omega)))
                obtain ⟨N, hN, hsN, htN⟩ := n_of (n := 101) (x := so B) (by omega) (by omega)
                have hszN : sz B = nI N := q0.2.trans hsN
                rw [htN, Int.toNat_natCast] at e
                have hN1 : 0 < N := by omega
                generalize hS : cmS pt.2.2.2 (fun c => io (100 * B + c % N)) pt.2.1 pt.2.2.1 0 = S at e
                generalize hF : cmF pt.2.2.2 (fun c => io (100 * B + c % N)) pt.2.1 pt.2.2.1 0 = F at e
                have hSle : S ≤ 8 * 100000 := by
                  have h1 := cmS_le pt.2.2.2 (fun c => io (100 * B + c % N)) pt.2.1 pt.2.2.1 0
                  have h2 : pt.2.1 * pt.2.2.1.length ≤ 8 * 100000 := Nat.mul_le_mul w1 w2
                  omega
                have hout : ∀ (m c n : Nat) (fi pi : Int32) (v7 v8 v9 : Value), c + m = pt.2.2.1.length → n + cmS pt.2.2.2 (fun c => io (100 * B + c % N)) pt.2.1 (pt.2.2.1.drop c) c = S → StC n fi pi (cmF pt.2.2.2 (fun c => io (100 * B + c % N)) pt.2.1 (pt.2.2.1.drop c) c) F → GG (EM mX8_compare 2 0 0 Q') 0 0 97 [.ref 44, .int (nI B), .int a, .int fi, .int pi, .int (nI n), .int (nI c), v7, v8, v9] [] (sF (sF h 44 0 (.int 0)) 44 1 (.int 0)) := by
                  intro m
                  induction m with
                  | zero =>
                    intro c n fi pi v7 v8 v9 hcm hnS hst
                    have hd : pt.2.2.1.drop c = [] := List.drop_eq_nil_of_le (by omega)
                    rw [hd] at hnS hst
                    obtain rfl : n = S := hnS
                    have hst2 : StC n fi pi none F := hst
                    have hfp : fi = oC false F ∧ pi = oC true F := by
                      rcases hst2 with ⟨-, f1, f2, f3⟩ | ⟨-, x, f3, f1, f2⟩
                      · subst f3; exact ⟨f1, f2⟩
                      · subst f3; exact ⟨f1, f2⟩
                    refine g_iload dX8_compare_97 rfl ?_
                    refine g_aload_n (i := 0) dX8_compare_99 rfl rfl ?_
                    refine g_get dX8_compare_100 fl_X8_28 (by repeat' (first | assumption | exact rF_eq | (apply rF_nj; focus decide) | (apply rF_nk; focus omega) | refine rF_a ?_ | exact rA_eq | refine rA_ne (by omega) ?_ | refine rA_f ?_)) (by repeat' (first | assumption | exact rF_eq | (apply rF_nj; focus decide) | (apply rF_nk; focus omega) | refine rF_a ?_ | exact rA_eq | refine rA_ne (by omega) ?_ | refine rA_f ?_)) ?_
                    refine g_aload_n (i := 0) dX8_compare_103 rfl rfl ?_
                    refine g_get dX8_compare_104 fl_X8_171 (by repeat' (first | assumption | exact rF_eq | (apply rF_nj; focus decide) | (apply rF_nk; focus omega) | refine rF_a ?_ | exact rA_eq | refine rA_ne (by omega) ?_ | refine rA_f ?_)) (by repeat' (first | assumption | exact rF_eq | (apply rF_nj; focus decide) | (apply rF_nk; focus omega) | refine rF_a ?_ | exact rA_eq | refine rA_ne (by omega) ?_ | refine rA_f ?_)) ?_
                    refine g_iald dX8_compare_107 (by repeat' (first | assumption | exact rF_eq | (apply rF_nj; focus decide) | (apply rF_nk; focus omega) | refine rF_a ?_ | exact rA_eq | refine rA_ne (by omega) ?_ | refine rA_f ?_)) (nT (by omega)) (by omega) ?_
                    rw [y3]
                    refine g_icmp_ge (tgt := 243) dX8_compare_108 (by decide) (fun hc108 => ?_) (fun hc108 => ?_)
                    · (try simp (disch := omega) only [nT, t_m1000100, t_m1000010, t_m1000003, t_m1000002, t_m1000001, t_m1000000, t_m65535, t_m1000, t_m3, t_m1, t_0, t_1, t_2, t_3, t_4, t_5, t_6, t_7, t_8, t_9, t_10, t_11, t_12, t_13, t_15, t_16, t_20, t_21, t_22, t_32, t_40, t_41, t_48, t_49, t_57, t_59, t_60, t_63, t_72, t_76, t_88, t_100, t_144, t_200, t_255, t_288, t_400, t_800, t_999, t_1000, t_1024, t_1200, t_1600, t_3200, t_100000, t_200000, t_252645135, t_858993459, t_1431655765, u_m1000002, u_m1000001, u_m1000, u_m3, u_m1, u_0, u_1, u_2, u_3, u_4, u_5, u_7, u_8, u_10, u_11, u_15, u_60, u_100, u_255, u_999, u_1000, u_100000, u_4294967295] at hc108)
                      refine g_iload_n (i := 2) dX8_compare_243 rfl rfl ?_
                      refine g_if_ne (tgt := 251) dX8_compare_244 (by decide) (fun hc244 => ?_) (fun hc244 => ?_)
                      · have hd244 := mt i_eq.mpr hc244; (try simp (disch := omega) only [nT, t_m1000100, t_m1000010, t_m1000003, t_m1000002, t_m1000001, t_m1000000, t_m65535, t_m1000, t_m3, t_m1, t_0, t_1, t_2, t_3, t_4, t_5, t_6, t_7, t_8, t_9, t_10, t_11, t_12, t_13, t_15, t_16, t_20, t_21, t_22, t_32, t_40, t_41, t_48, t_49, t_57, t_59, t_60, t_63, t_72, t_76, t_88, t_100, t_144, t_200, t_255, t_288, t_400, t_800, t_999, t_1000, t_1024, t_1200, t_1600, t_3200, t_100000, t_200000, t_252645135, t_858993459, t_1431655765, u_m1000002, u_m1000001, u_m1000, u_m3, u_m1, u_0, u_1, u_2, u_3, u_4, u_5, u_7, u_8, u_10, u_11, u_15, u_60, u_100, u_255, u_999, u_1000, u_100000, u_4294967295] at hd244)
                        refine g_iload_n (i := 2) dX8_compare_251 rfl rfl ?_
                        refine g_iconst (v := 1) dX8_compare_252 (by decide) ?_
                        refine g_icmp_ne (tgt := 261) dX8_compare_253 (by decide) (fun hc253 => ?_) (fun hc253 => ?_)
                        · have hd253 := mt i_eq.mpr hc253; (try simp (disch := omega) only [nT, t_m1000100, t_m1000010, t_m1000003, t_m1000002, t_m1000001, t_m1000000, t_m65535, t_m1000, t_m3, t_m1, t_0, t_1, t_2, t_3, t_4, t_5, t_6, t_7, t_8, t_9, t_10, t_11, t_12, t_13, t_15, t_16, t_20, t_21, t_22, t_32, t_40, t_41, t_48, t_49, t_57, t_59, t_60, t_63, t_72, t_76, t_88, t_100, t_144, t_200, t_255, t_288, t_400, t_800, t_999, t_1000, t_1024, t_1200, t_1600, t_3200, t_100000, t_200000, t_252645135, t_858993459, t_1431655765, u_m1000002, u_m1000001, u_m1000, u_m3, u_m1, u_0, u_1, u_2, u_3, u_4, u_5, u_7, u_8, u_10, u_11, u_15, u_60, u_100, u_255, u_999, u_1000, u_100000, u_4294967295] at hd253)
                          refine g_iload dX8_compare_261 rfl ?_
                          refine g_iret dX8_compare_263 rfl (rfl) (hQ _ _ ?_)
                          rw [e]
                          refine ⟨?_, _, rfl⟩
                          dsimp only
                          first
                          | (rw [if_pos (by omega)])
                          | (rw [if_neg (by omega), show decide (a.toInt = 1) = false from decide_eq_false (by omega), hfp.1])
                          | (rw [if_neg (by omega), show decide (a.toInt = 1) = true from decide_eq_true (by omega), hfp.2])
                        · have hd253 := i_eq.mp hc253; (try simp (disch := omega) only [nT, t_m1000100, t_m1000010, t_m1000003, t_m1000002, t_m1000001, t_m1000000, t_m65535, t_m1000, t_m3, t_m1, t_0, t_1, t_2, t_3, t_4, t_5, t_6, t_7, t_8, t_9, t_10, t_11, t_12, t_13, t_15, t_16, t_20, t_21, t_22, t_32, t_40, t_41, t_48, t_49, t_57, t_59, t_60, t_63, t_72, t_76, t_88, t_100, t_144, t_200, t_255, t_288, t_400, t_800, t_999, t_1000, t_1024, t_1200, t_1600, t_3200, t_100000, t_200000, t_252645135, t_858993459, t_1431655765, u_m1000002, u_m1000001, u_m1000, u_m3, u_m1, u_0, u_1, u_2, u_3, u_4, u_5, u_7, u_8, u_10, u_11, u_15, u_60, u_100, u_255, u_999, u_1000, u_100000, u_4294967295] at hd253)
                          refine g_iload dX8_compare_256 rfl ?_
                          refine g_goto (tgt := 263) dX8_compare_258 (by decide) ?_
                          refine g_iret dX8_compare_263 rfl (rfl) (hQ _ _ ?_)
                          rw [e]
                          refine ⟨?_, _, rfl⟩
                          dsimp only
                          first
                          | (rw [if_pos (by omega)])
                          | (rw [if_neg (by omega), show decide (a.toInt = 1) = false from decide_eq_false (by omega), hfp.1])
                          | (rw [if_neg (by omega), show decide (a.toInt = 1) = true from decide_eq_true (by omega), hfp.2])
                      · have hd244 := i_eq.mp hc244; (try simp (disch := omega) only [nT, t_m1000100, t_m1000010, t_m1000003, t_m1000002, t_m1000001, t_m1000000, t_m65535, t_m1000, t_m3, t_m1, t_0, t_1, t_2, t_3, t_4, t_5, t_6, t_7, t_8, t_9, t_10, t_11, t_12, t_13, t_15, t_16, t_20, t_21, t_22, t_32, t_40, t_41, t_48, t_49, t_57, t_59, t_60, t_63, t_72, t_76, t_88, t_100, t_144, t_200, t_255, t_288, t_400, t_800, t_999, t_1000, t_1024, t_1200, t_1600, t_3200, t_100000, t_200000, t_252645135, t_858993459, t_1431655765, u_m1000002, u_m1000001, u_m1000, u_m3, u_m1, u_0, u_1, u_2, u_3, u_4, u_5, u_7, u_8, u_10, u_11, u_15, u_60, u_100, u_255, u_999, u_1000, u_100000, u_4294967295] at hd244)
                        refine g_iload_n (i := 3) dX8_compare_247 rfl rfl ?_
                        refine g_goto (tgt := 263) dX8_compare_248 (by decide) ?_
                        refine g_iret dX8_compare_263 rfl (rfl) (hQ _ _ ?_)
                        rw [e]
                        refine ⟨?_, _, rfl⟩
                        dsimp only
                        first
                        | (rw [if_pos (by omega)])
                        | (rw [if_neg (by omega), show decide (a.toInt = 1) = false from decide_eq_false (by omega), hfp.1])
                        | (rw [if_neg (by omega), show decide (a.toInt = 1) = true from decide_eq_true (by omega), hfp.2])
                    · (try simp (disch := omega) only [nT, t_m1000100, t_m1000010, t_m1000003, t_m1000002, t_m1000001, t_m1000000, t_m65535, t_m1000, t_m3, t_m1, t_0, t_1, t_2, t_3, t_4, t_5, t_6, t_7, t_8, t_9, t_10, t_11, t_12, t_13, t_15, t_16, t_20, t_21, t_22, t_32, t_40, t_41, t_48, t_49, t_57, t_59, t_60, t_63, t_72, t_76, t_88, t_100, t_144, t_200, t_255, t_288, t_400, t_800, t_999, t_1000, t_1024, t_1200, t_1600, t_3200, t_100000, t_200000, t_252645135, t_858993459, t_1431655765, u_m1000002, u_m1000001, u_m1000, u_m3, u_m1, u_0, u_1, u_2, u_3, u_4, u_5, u_7, u_8, u_10, u_11, u_15, u_60, u_100, u_255, u_999, u_1000, u_100000, u_4294967295] at hc108); omega
                  | succ m ih =>
                    intro c n fi pi v7 v8 v9 hcm hnS hst
                    have hcq : pt.2.2.1[c]? = some (pt.2.2.1[c]'(by omega)) := List.getElem?_eq_getElem (by omega)
                    generalize pt.2.2.1[c]'(by omega) = q at hcq
                    obtain ⟨l, l1, l2, l3⟩ := y4 c q hcq
                    rw [drop_s hcq] at hnS hst
                    rw [show cmS pt.2.2.2 (fun c => io (100 * B + c % N)) pt.2.1 (q :: pt.2.2.1.drop (c + 1)) c = cnt (wrB pt.2.2.2 (io (100 * B + c % N)) q) pt.2.1 0 + cmS pt.2.2.2 (fun c => io (100 * B + c % N)) pt.2.1 (pt.2.2.1.drop (c + 1)) (c + 1) from rfl] at hnS
                    rw [show cmF pt.2.2.2 (fun c => io (100 * B + c % N)) pt.2.1 (q :: pt.2.2.1.drop (c + 1)) c = inF (wrB pt.2.2.2 (io (100 * B + c % N)) q) c pt.2.1 0 (cmF pt.2.2.2 (fun c => io (100 * B + c % N)) pt.2.1 (pt.2.2.1.drop (c + 1)) (c + 1)) from rfl] at hst
                    have hmod := Nat.mod_lt c hN1
                    have hio : it (100 * B + c % N) = io (100 * B + c % N) := hE.2 B (c % N) hB (by dsimp only; omega)
                    generalize hV : io (100 * B + c % N) = V at hnS hst hio
                    generalize hR : cmF pt.2.2.2 (fun c => io (100 * B + c % N)) pt.2.1 (pt.2.2.1.drop (c + 1)) (c + 1) = R at hst ih
                    have hin : ∀ (r p n : Nat) (fi pi : Int32) (v8 v9 : Value), p + r = pt.2.1 → n + (cnt (wrB pt.2.2.2 V q) r p + cmS pt.2.2.2 (fun c => io (100 * B + c % N)) pt.2.1 (pt.2.2.1.drop (c + 1)) (c + 1)) = S → StC n fi pi (inF (wrB pt.2.2.2 V q) c r p R) F → GG (EM mX8_compare 2 0 0 Q') 0 0 114 [.ref 44, .int (nI B), .int a, .int fi, .int pi, .int (nI n), .int (nI c), .int (nI p), v8, v9] [] (sF (sF h 44 0 (.int 0)) 44 1 (.int 0)) := by
                      intro r
                      induction r with
                      | zero =>
                        intro p n fi pi v8 v9 hpr hnS hst
                        refine g_iload dX8_compare_114 rfl ?_
                        refine g_aload_n (i := 0) dX8_compare_116 rfl rfl ?_
                        refine g_get dX8_compare_117 fl_X8_25 (by repeat' (first | assumption | exact rF_eq | (apply rF_nj; focus decide) | (apply rF_nk; focus omega) | refine rF_a ?_ | exact rA_eq | refine rA_ne (by omega) ?_ | refine rA_f ?_)) (by repeat' (first | assumption | exact rF_eq | (apply rF_nj; focus decide) | (apply rF_nk; focus omega) | refine rF_a ?_ | exact rA_eq | refine rA_ne (by omega) ?_ | refine rA_f ?_)) ?_
                        refine g_aload_n (i := 0) dX8_compare_120 rfl rfl ?_
                        refine g_get dX8_compare_121 fl_X8_171 (by repeat' (first | assumption | exact rF_eq | (apply rF_nj; focus decide) | (apply rF_nk; focus omega) | refine rF_a ?_ | exact rA_eq | refine rA_ne (by omega) ?_ | refine rA_f ?_)) (by repeat' (first | assumption | exact rF_eq | (apply rF_nj; focus decide) | (apply rF_nk; focus omega) | refine rF_a ?_ | exact rA_eq | refine rA_ne (by omega) ?_ | refine rA_f ?_)) ?_
                        refine g_iald dX8_compare_124 (by repeat' (first | assumption | exact rF_eq | (apply rF_nj; focus decide) | (apply rF_nk; focus omega) | refine rF_a ?_ | exact rA_eq | refine rA_ne (by omega) ?_ | refine rA_f ?_)) (nT (by omega)) (by omega) ?_
                        rw [y2]
                        refine g_icmp_ge (tgt := 237) dX8_compare_125 (by decide) (fun hc125 => ?_) (fun hc125 => ?_)
                        · (try simp (disch := omega) only [nT, t_m1000100, t_m1000010, t_m1000003, t_m1000002, t_m1000001, t_m1000000, t_m65535, t_m1000, t_m3, t_m1, t_0, t_1, t_2, t_3, t_4, t_5, t_6, t_7, t_8, t_9, t_10, t_11, t_12, t_13, t_15, t_16, t_20, t_21, t_22, t_32, t_40, t_41, t_48, t_49, t_57, t_59, t_60, t_63, t_72, t_76, t_88, t_100, t_144, t_200, t_255, t_288, t_400, t_800, t_999, t_1000, t_1024, t_1200, t_1600, t_3200, t_100000, t_200000, t_252645135, t_858993459, t_1431655765, u_m1000002, u_m1000001, u_m1000, u_m3, u_m1, u_0, u_1, u_2, u_3, u_4, u_5, u_7, u_8, u_10, u_11, u_15, u_60, u_100, u_255, u_999, u_1000, u_100000, u_4294967295] at hc125)
                          refine g_iinc dX8_compare_237 rfl (Nat.le_of_ble_eq_true rfl) rfl ?_
                          refine g_goto (tgt := 97) dX8_compare_240 (by decide) ?_
                          rw [ni_incO]
                          exact ih (c + 1) n fi pi _ _ _ (by omega) (by rw [← hnS, show cnt (wrB pt.2.2.2 V q) 0 p = 0 from rfl, Nat.zero_add]) (by rw [hR]; exact hst)
                        · (try simp (disch := omega) only [nT, t_m1000100, t_m1000010, t_m1000003, t_m1000002, t_m1000001, t_m1000000, t_m65535, t_m1000, t_m3, t_m1, t_0, t_1, t_2, t_3, t_4, t_5, t_6, t_7, t_8, t_9, t_10, t_11, t_12, t_13, t_15, t_16, t_20, t_21, t_22, t_32, t_40, t_41, t_48, t_49, t_57, t_59, t_60, t_63, t_72, t_76, t_88, t_100, t_144, t_200, t_255, t_288, t_400, t_800, t_999, t_1000, t_1024, t_1200, t_1600, t_3200, t_100000, t_200000, t_252645135, t_858993459, t_1431655765, u_m1000002, u_m1000001, u_m1000, u_m3, u_m1, u_0, u_1, u_2, u_3, u_4, u_5, u_7, u_8, u_10, u_11, u_15, u_60, u_100, u_255, u_999, u_1000, u_100000, u_4294967295] at hc125); omega
                      | succ r ihr =>
                        intro p n fi pi v8 v9 hpr hnS hst
                        have hsg := l3 p (by omega)
                        have hwr : wrB pt.2.2.2 V q p = true ↔ (pt.2.2.2 (q + p) = 76 ∧ bitI V p = 1) ∨ (pt.2.2.2 (q + p) = 72 ∧ bitI V p = 0) := decide_eq_true_iff
                        have hbit : (it (100 * B + c % N) >>> (nI p &&& 31)) &&& 1 = bitI V p := by rw [hio]; rfl
                        have wrong : wrB pt.2.2.2 V q p = true → ∀ v8 v9 : Value, GG (EM mX8_compare 2 0 0 Q') 0 0 216 [.ref 44, .int (nI B), .int a, .int fi, .int pi, .int (nI n), .int (nI c), .int (nI p), v8, v9] [] (sF (sF h 44 0 (.int 0)) 44 1 (.int 0)) := by
                          intro hwp v8 v9
                          rw [cnt_t hwp] at hnS
                          rw [inF_t hwp] at hst
                          refine g_iload dX8_compare_216 rfl ?_
                          refine g_if_ne (tgt := 228) dX8_compare_218 (by decide) (fun hc218 => ?_) (fun hc218 => ?_)
                          · have hd218 := mt i_eq.mpr hc218; (try simp (disch := omega) only [nT, t_m1000100, t_m1000010, t_m1000003, t_m1000002, t_m1000001, t_m1000000, t_m65535, t_m1000, t_m3, t_m1, t_0, t_1, t_2, t_3, t_4, t_5, t_6, t_7, t_8, t_9, t_10, t_11, t_12, t_13, t_15, t_16, t_20, t_21, t_22, t_32, t_40, t_41, t_48, t_49, t_57, t_59, t_60, t_63, t_72, t_76, t_88, t_100, t_144, t_200, t_255, t_288, t_400, t_800, t_999, t_1000, t_1024, t_1200, t_1600, t_3200, t_100000, t_200000, t_252645135, t_858993459, t_1431655765, u_m1000002, u_m1000001, u_m1000, u_m3, u_m1, u_0, u_1, u_2, u_3, u_4, u_5, u_7, u_8, u_10, u_11, u_15, u_60, u_100, u_255, u_999, u_1000, u_100000, u_4294967295] at hd218)
                            refine g_iinc dX8_compare_228 rfl (Nat.le_of_ble_eq_true rfl) rfl ?_
                            refine g_iinc dX8_compare_231 rfl (Nat.le_of_ble_eq_true rfl) rfl ?_
                            refine g_goto (tgt := 114) dX8_compare_234 (by decide) ?_
                            rw [ni_incO, ni_incO]
                            first
                            | (rcases hst with ⟨f0, f1, f2, f3⟩ | ⟨f0, f1⟩
                               · exact absurd (show nI n = 0 by rw [f0]; rfl) (by assumption)
                               · exact ihr (p + 1) (n + 1) _ _ _ _ (by omega) (by omega) (Or.inr ⟨by omega, f1⟩))
                            | (rcases hst with ⟨f0, f1, f2, f3⟩ | ⟨f0, f1⟩
                               · exact ihr (p + 1) (n + 1) _ _ _ _ (by omega) (by omega) (Or.inr ⟨by omega, (c, p), f3.symm, rfl, rfl⟩)
                               · exact absurd (by assumption) (nI_ne0 f0 (by omega)))
                          · have hd218 := i_eq.mp hc218; (try simp (disch := omega) only [nT, t_m1000100, t_m1000010, t_m1000003, t_m1000002, t_m1000001, t_m1000000, t_m65535, t_m1000, t_m3, t_m1, t_0, t_1, t_2, t_3, t_4, t_5, t_6, t_7, t_8, t_9, t_10, t_11, t_12, t_13, t_15, t_16, t_20, t_21, t_22, t_32, t_40, t_41, t_48, t_49, t_57, t_59, t_60, t_63, t_72, t_76, t_88, t_100, t_144, t_200, t_255, t_288, t_400, t_800, t_999, t_1000, t_1024, t_1200, t_1600, t_3200, t_100000, t_200000, t_252645135, t_858993459, t_1431655765, u_m1000002, u_m1000001, u_m1000, u_m3, u_m1, u_0, u_1, u_2, u_3, u_4, u_5, u_7, u_8, u_10, u_11, u_15, u_60, u_100, u_255, u_999, u_1000, u_100000, u_4294967295] at hd218)
                            refine g_iload dX8_compare_221 rfl ?_
                            refine g_istore_n (i := 3) dX8_compare_223 rfl (Nat.le_of_ble_eq_true rfl) rfl ?_
                            refine g_iload dX8_compare_224 rfl ?_
                            refine g_istore dX8_compare_226 (Nat.le_of_ble_eq_true rfl) rfl ?_
                            refine g_iinc dX8_compare_228 rfl (Nat.le_of_ble_eq_true rfl) rfl ?_
                            refine g_iinc dX8_compare_231 rfl (Nat.le_of_ble_eq_true rfl) rfl ?_
                            refine g_goto (tgt := 114) dX8_compare_234 (by decide) ?_
                            rw [ni_incO, ni_incO]
                            first
                            | (rcases hst with ⟨f0, f1, f2, f3⟩ | ⟨f0, f1⟩
                               · exact absurd (show nI n = 0 by rw [f0]; rfl) (by assumption)
                               · exact ihr (p + 1) (n + 1) _ _ _ _ (by omega) (by omega) (Or.inr ⟨by omega, f1⟩))
                            | (rcases hst with ⟨f0, f1, f2, f3⟩ | ⟨f0, f1⟩
                               · exact ihr (p + 1) (n + 1) _ _ _ _ (by omega) (by omega) (Or.inr ⟨by omega, (c, p), f3.symm, rfl, rfl⟩)
                               · exact absurd (by assumption) (nI_ne0 f0 (by omega)))
                        have right : ¬ wrB pt.2.2.2 V q p = true → ∀ v8 v9 : Value, GG (EM mX8_compare 2 0 0 Q') 0 0 231 [.ref 44, .int (nI B), .int a, .int fi, .int pi, .int (nI n), .int (nI c), .int (nI p), v8, v9] [] (sF (sF h 44 0 (.int 0)) 44 1 (.int 0)) := by
                          intro hwp v8 v9
                          rw [cnt_f hwp] at hnS
                          rw [inF_f hwp] at hst
                          refine g_iinc dX8_compare_231 rfl (Nat.le_of_ble_eq_true rfl) rfl ?_
                          refine g_goto (tgt := 114) dX8_compare_234 (by decide) ?_
                          rw [ni_incO]
                          exact ihr (p + 1) n _ _ _ _ (by omega) hnS hst
                        refine g_iload dX8_compare_114 rfl ?_
                        refine g_aload_n (i := 0) dX8_compare_116 rfl rfl ?_
                        refine g_get dX8_compare_117 fl_X8_25 (by repeat' (first | assumption | exact rF_eq | (apply rF_nj; focus decide) | (apply rF_nk; focus omega) | refine rF_a ?_ | exact rA_eq | refine rA_ne (by omega) ?_ | refine rA_f ?_)) (by repeat' (first | assumption | exact rF_eq | (apply rF_nj; focus decide) | (apply rF_nk; focus omega) | refine rF_a ?_ | exact rA_eq | refine rA_ne (by omega) ?_ | refine rA_f ?_)) ?_
                        refine g_aload_n (i := 0) dX8_compare_120 rfl rfl ?_
                        refine g_get dX8_compare_121 fl_X8_171 (by repeat' (first | assumption | exact rF_eq | (apply rF_nj; focus decide) | (apply rF_nk; focus omega) | refine rF_a ?_ | exact rA_eq | refine rA_ne (by omega) ?_ | refine rA_f ?_)) (by repeat' (first | assumption | exact rF_eq | (apply rF_nj; focus decide) | (apply rF_nk; focus omega) | refine rF_a ?_ | exact rA_eq | refine rA_ne (by omega) ?_ | refine rA_f ?_)) ?_
                        refine g_iald dX8_compare_124 (by repeat' (first | assumption | exact rF_eq | (apply rF_nj; focus decide) | (apply rF_nk; focus omega) | refine rF_a ?_ | exact rA_eq | refine rA_ne (by omega) ?_ | refine rA_f ?_)) (nT (by omega)) (by omega) ?_
                        rw [y2]
                        refine g_icmp_ge (tgt := 237) dX8_compare_125 (by decide) (fun hc125 => ?_) (fun hc125 => ?_)
                        · (try simp (disch := omega) only [nT, t_m1000100, t_m1000010, t_m1000003, t_m1000002, t_m1000001, t_m1000000, t_m65535, t_m1000, t_m3, t_m1, t_0, t_1, t_2, t_3, t_4, t_5, t_6, t_7, t_8, t_9, t_10, t_11, t_12, t_13, t_15, t_16, t_20, t_21, t_22, t_32, t_40, t_41, t_48, t_49, t_57, t_59, t_60, t_63, t_72, t_76, t_88, t_100, t_144, t_200, t_255, t_288, t_400, t_800, t_999, t_1000, t_1024, t_1200, t_1600, t_3200, t_100000, t_200000, t_252645135, t_858993459, t_1431655765, u_m1000002, u_m1000001, u_m1000, u_m3, u_m1, u_0, u_1, u_2, u_3, u_4, u_5, u_7, u_8, u_10, u_11, u_15, u_60, u_100, u_255, u_999, u_1000, u_100000, u_4294967295] at hc125); omega
                        · (try simp (disch := omega) only [nT, t_m1000100, t_m1000010, t_m1000003, t_m1000002, t_m1000001, t_m1000000, t_m65535, t_m1000, t_m3, t_m1, t_0, t_1, t_2, t_3, t_4, t_5, t_6, t_7, t_8, t_9, t_10, t_11, t_12, t_13, t_15, t_16, t_20, t_21, t_22, t_32, t_40, t_41, t_48, t_49, t_57, t_59, t_60, t_63, t_72, t_76, t_88, t_100, t_144, t_200, t_255, t_288, t_400, t_800, t_999, t_1000, t_1024, t_1200, t_1600, t_3200, t_100000, t_200000, t_252645135, t_858993459, t_1431655765, u_m1000002, u_m1000001, u_m1000, u_m3, u_m1, u_0, u_1, u_2, u_3, u_4, u_5, u_7, u_8, u_10, u_11, u_15, u_60, u_100, u_255, u_999, u_1000, u_100000, u_4294967295] at hc125)
                          refine g_aload_n (i := 0) dX8_compare_128 rfl rfl ?_
                          refine g_get dX8_compare_129 fl_X8_31 (by repeat' (first | assumption | exact rF_eq | (apply rF_nj; focus decide) | (apply rF_nk; focus omega) | refine rF_a ?_ | exact rA_eq | refine rA_ne (by omega) ?_ | refine rA_f ?_)) (by repeat' (first | assumption | exact rF_eq | (apply rF_nj; focus decide) | (apply rF_nk; focus omega) | refine rF_a ?_ | exact rA_eq | refine rA_ne (by omega) ?_ | refine rA_f ?_)) ?_
                          refine g_sipush (v := 1600) dX8_compare_132 (by decide) ?_
                          refine g_aload_n (i := 0) dX8_compare_135 rfl rfl ?_
                          refine g_get dX8_compare_136 fl_X8_171 (by repeat' (first | assumption | exact rF_eq | (apply rF_nj; focus decide) | (apply rF_nk; focus omega) | refine rF_a ?_ | exact rA_eq | refine rA_ne (by omega) ?_ | refine rA_f ?_)) (by repeat' (first | assumption | exact rF_eq | (apply rF_nj; focus decide) | (apply rF_nk; focus omega) | refine rF_a ?_ | exact rA_eq | refine rA_ne (by omega) ?_ | refine rA_f ?_)) ?_
                          refine g_imul dX8_compare_139 ?_
                          refine g_bipush (v := 8) dX8_compare_140 (by decide) ?_
                          refine g_aload_n (i := 0) dX8_compare_142 rfl rfl ?_
                          refine g_get dX8_compare_143 fl_X8_35 (by repeat' (first | assumption | exact rF_eq | (apply rF_nj; focus decide) | (apply rF_nk; focus omega) | refine rF_a ?_ | exact rA_eq | refine rA_ne (by omega) ?_ | refine rA_f ?_)) (by repeat' (first | assumption | exact rF_eq | (apply rF_nj; focus decide) | (apply rF_nk; focus omega) | refine rF_a ?_ | exact rA_eq | refine rA_ne (by omega) ?_ | refine rA_f ?_)) ?_
                          refine g_ldc dX8_compare_146 kc_X8_165 ?_
                          refine g_aload_n (i := 0) dX8_compare_148 rfl rfl ?_
                          refine g_get dX8_compare_149 fl_X8_171 (by repeat' (first | assumption | exact rF_eq | (apply rF_nj; focus decide) | (apply rF_nk; focus omega) | refine rF_a ?_ | exact rA_eq | refine rA_ne (by omega) ?_ | refine rA_f ?_)) (by repeat' (first | assumption | exact rF_eq | (apply rF_nj; focus decide) | (apply rF_nk; focus omega) | refine rF_a ?_ | exact rA_eq | refine rA_ne (by omega) ?_ | refine rA_f ?_)) ?_
                          refine g_imul dX8_compare_152 ?_
                          refine g_iload dX8_compare_153 rfl ?_
                          refine g_iadd dX8_compare_155 ?_
                          rw [ix_lo]
                          refine g_iald dX8_compare_156 (by repeat' (first | assumption | exact rF_eq | (apply rF_nj; focus decide) | (apply rF_nk; focus omega) | refine rF_a ?_ | exact rA_eq | refine rA_ne (by omega) ?_ | refine rA_f ?_)) (nT (by omega)) (by omega) ?_
                          rw [l2]
                          refine g_imul dX8_compare_157 ?_
                          refine g_iadd dX8_compare_158 ?_
                          refine g_iload dX8_compare_159 rfl ?_
                          refine g_iadd dX8_compare_161 ?_
                          rw [ix_s2]
                          refine g_iald dX8_compare_162 (by repeat' (first | assumption | exact rF_eq | (apply rF_nj; focus decide) | (apply rF_nk; focus omega) | refine rF_a ?_ | exact rA_eq | refine rA_ne (by omega) ?_ | refine rA_f ?_)) (nT (by omega)) (by omega) ?_
                          rw [hsg]
                          refine g_istore dX8_compare_163 (Nat.le_of_ble_eq_true rfl) rfl ?_
                          refine g_aload_n (i := 0) dX8_compare_165 rfl rfl ?_
                          refine g_get dX8_compare_166 fl_X8_16 (by repeat' (first | assumption | exact rF_eq | (apply rF_nj; focus decide) | (apply rF_nk; focus omega) | refine rF_a ?_ | exact rA_eq | refine rA_ne (by omega) ?_ | refine rA_f ?_)) (by repeat' (first | assumption | exact rF_eq | (apply rF_nj; focus decide) | (apply rF_nk; focus omega) | refine rF_a ?_ | exact rA_eq | refine rA_ne (by omega) ?_ | refine rA_f ?_)) ?_
                          refine g_bipush (v := 100) dX8_compare_169 (by decide) ?_
                          refine g_iload_n (i := 1) dX8_compare_171 rfl rfl ?_
                          refine g_imul dX8_compare_172 ?_
                          refine g_iload dX8_compare_173 rfl ?_
                          refine g_aload_n (i := 0) dX8_compare_175 rfl rfl ?_
                          refine g_get dX8_compare_176 fl_X8_13 (by repeat' (first | assumption | exact rF_eq | (apply rF_nj; focus decide) | (apply rF_nk; focus omega) | refine rF_a ?_ | exact rA_eq | refine rA_ne (by omega) ?_ | refine rA_f ?_)) (by repeat' (first | assumption | exact rF_eq | (apply rF_nj; focus decide) | (apply rF_nk; focus omega) | refine rF_a ?_ | exact rA_eq | refine rA_ne (by omega) ?_ | refine rA_f ?_)) ?_
                          refine g_iload_n (i := 1) dX8_compare_179 rfl rfl ?_
                          refine g_iald dX8_compare_180 (by repeat' (first | assumption | exact rF_eq | (apply rF_nj; focus decide) | (apply rF_nk; focus omega) | refine rF_a ?_ | exact rA_eq | refine rA_ne (by omega) ?_ | refine rA_f ?_)) (nT (by omega)) (by omega) ?_
                          rw [hszN]
                          refine g_irem dX8_compare_181 (nI_ne0 hN1 (by omega)) ?_
                          rw [pk_rem (by omega) hN1 (by omega)]
                          refine g_iadd dX8_compare_182 ?_
                          rw [ixm]
                          refine g_iald dX8_compare_183 (by repeat' (first | assumption | exact rF_eq | (apply rF_nj; focus decide) | (apply rF_nk; focus omega) | refine rF_a ?_ | exact rA_eq | refine rA_ne (by omega) ?_ | refine rA_f ?_)) (nT (by omega)) (by omega) ?_
                          refine g_iload dX8_compare_184 rfl ?_
                          refine g_ishr dX8_compare_186 ?_
                          refine g_iconst (v := 1) dX8_compare_187 (by decide) ?_
                          refine g_iand dX8_compare_188 ?_
                          rw [hbit]
                          refine g_istore dX8_compare_189 (Nat.le_of_ble_eq_true rfl) rfl ?_
                          refine g_iload dX8_compare_191 rfl ?_
                          refine g_bipush (v := 76) dX8_compare_193 (by decide) ?_
                          refine g_icmp_ne (tgt := 204) dX8_compare_195 (by decide) (fun hc195 => ?_) (fun hc195 => ?_)
                          · have hd195 := mt i_eq.mpr hc195; (try simp (disch := omega) only [nT, t_m1000100, t_m1000010, t_m1000003, t_m1000002, t_m1000001, t_m1000000, t_m65535, t_m1000, t_m3, t_m1, t_0, t_1, t_2, t_3, t_4, t_5, t_6, t_7, t_8, t_9, t_10, t_11, t_12, t_13, t_15, t_16, t_20, t_21, t_22, t_32, t_40, t_41, t_48, t_49, t_57, t_59, t_60, t_63, t_72, t_76, t_88, t_100, t_144, t_200, t_255, t_288, t_400, t_800, t_999, t_1000, t_1024, t_1200, t_1600, t_3200, t_100000, t_200000, t_252645135, t_858993459, t_1431655765, u_m1000002, u_m1000001, u_m1000, u_m3, u_m1, u_0, u_1, u_2, u_3, u_4, u_5, u_7, u_8, u_10, u_11, u_15, u_60, u_100, u_255, u_999, u_1000, u_100000, u_4294967295] at hd195)
                            refine g_iload dX8_compare_204 rfl ?_
                            refine g_bipush (v := 72) dX8_compare_206 (by decide) ?_
                            refine g_icmp_ne (tgt := 231) dX8_compare_208 (by decide) (fun hc208 => ?_) (fun hc208 => ?_)
                            · have hd208 := mt i_eq.mpr hc208; (try simp (disch := omega) only [nT, t_m1000100, t_m1000010, t_m1000003, t_m1000002, t_m1000001, t_m1000000, t_m65535, t_m1000, t_m3, t_m1, t_0, t_1, t_2, t_3, t_4, t_5, t_6, t_7, t_8, t_9, t_10, t_11, t_12, t_13, t_15, t_16, t_20, t_21, t_22, t_32, t_40, t_41, t_48, t_49, t_57, t_59, t_60, t_63, t_72, t_76, t_88, t_100, t_144, t_200, t_255, t_288, t_400, t_800, t_999, t_1000, t_1024, t_1200, t_1600, t_3200, t_100000, t_200000, t_252645135, t_858993459, t_1431655765, u_m1000002, u_m1000001, u_m1000, u_m3, u_m1, u_0, u_1, u_2, u_3, u_4, u_5, u_7, u_8, u_10, u_11, u_15, u_60, u_100, u_255, u_999, u_1000, u_100000, u_4294967295] at hd208)
                              exact right (fun z => by rcases hwr.mp z with ⟨x1, x2⟩ | ⟨x1, x2⟩ <;> first | contradiction | (rw [x1] at hc195; exact absurd hc195 (by decide)) | (rw [x2] at hc200; exact absurd hc200 (by decide)) | (rw [x1] at *; contradiction)) _ _
                            · have hd208 := i_eq.mp hc208; (try simp (disch := omega) only [nT, t_m1000100, t_m1000010, t_m1000003, t_m1000002, t_m1000001, t_m1000000, t_m65535, t_m1000, t_m3, t_m1, t_0, t_1, t_2, t_3, t_4, t_5, t_6, t_7, t_8, t_9, t_10, t_11, t_12, t_13, t_15, t_16, t_20, t_21, t_22, t_32, t_40, t_41, t_48, t_49, t_57, t_59, t_60, t_63, t_72, t_76, t_88, t_100, t_144, t_200, t_255, t_288, t_400, t_800, t_999, t_1000, t_1024, t_1200, t_1600, t_3200, t_100000, t_200000, t_252645135, t_858993459, t_1431655765, u_m1000002, u_m1000001, u_m1000, u_m3, u_m1, u_0, u_1, u_2, u_3, u_4, u_5, u_7, u_8, u_10, u_11, u_15, u_60, u_100, u_255, u_999, u_1000, u_100000, u_4294967295] at hd208)
                              refine g_iload dX8_compare_211 rfl ?_
                              refine g_if_ne (tgt := 231) dX8_compare_213 (by decide) (fun hc213 => ?_) (fun hc213 => ?_)
                              · have hd213 := mt i_eq.mpr hc213; (try simp (disch := omega) only [nT, t_m1000100, t_m1000010, t_m1000003, t_m1000002, t_m1000001, t_m1000000, t_m65535, t_m1000, t_m3, t_m1, t_0, t_1, t_2, t_3, t_4, t_5, t_6, t_7, t_8, t_9, t_10, t_11, t_12, t_13, t_15, t_16, t_20, t_21, t_22, t_32, t_40, t_41, t_48, t_49, t_57, t_59, t_60, t_63, t_72, t_76, t_88, t_100, t_144, t_200, t_255, t_288, t_400, t_800, t_999, t_1000, t_1024, t_1200, t_1600, t_3200, t_100000, t_200000, t_252645135, t_858993459, t_1431655765, u_m1000002, u_m1000001, u_m1000, u_m3, u_m1, u_0, u_1, u_2, u_3, u_4, u_5, u_7, u_8, u_10, u_11, u_15, u_60, u_100, u_255, u_999, u_1000, u_100000, u_4294967295] at hd213)
                                exact right (fun z => by rcases hwr.mp z with ⟨x1, x2⟩ | ⟨x1, x2⟩ <;> first | contradiction | (rw [x1] at hc195; exact absurd hc195 (by decide)) | (rw [x2] at hc200; exact absurd hc200 (by decide)) | (rw [x1] at *; contradiction)) _ _
                              · have hd213 := i_eq.mp hc213; (try simp (disch := omega) only [nT, t_m1000100, t_m1000010, t_m1000003, t_m1000002, t_m1000001, t_m1000000, t_m65535, t_m1000, t_m3, t_m1, t_0, t_1, t_2, t_3, t_4, t_5, t_6, t_7, t_8, t_9, t_10, t_11, t_12, t_13, t_15, t_16, t_20, t_21, t_22, t_32, t_40, t_41, t_48, t_49, t_57, t_59, t_60, t_63, t_72, t_76, t_88, t_100, t_144, t_200, t_255, t_288, t_400, t_800, t_999, t_1000, t_1024, t_1200, t_1600, t_3200, t_100000, t_200000, t_252645135, t_858993459, t_1431655765, u_m1000002, u_m1000001, u_m1000, u_m3, u_m1, u_0, u_1, u_2, u_3, u_4, u_5, u_7, u_8, u_10, u_11, u_15, u_60, u_100, u_255, u_999, u_1000, u_100000, u_4294967295] at hd213)
                                exact wrong (hwr.mpr (by first | exact Or.inl ⟨by assumption, by assumption⟩ | exact Or.inr ⟨by assumption, by assumption⟩)) _ _
                          · have hd195 := i_eq.mp hc195; (try simp (disch := omega) only [nT, t_m1000100, t_m1000010, t_m1000003, t_m1000002, t_m1000001, t_m1000000, t_m65535, t_m1000, t_m3, t_m1, t_0, t_1, t_2, t_3, t_4, t_5, t_6, t_7, t_8, t_9, t_10, t_11, t_12, t_13, t_15, t_16, t_20, t_21, t_22, t_32, t_40, t_41, t_48, t_49, t_57, t_59, t_60, t_63, t_72, t_76, t_88, t_100, t_144, t_200, t_255, t_288, t_400, t_800, t_999, t_1000, t_1024, t_1200, t_1600, t_3200, t_100000, t_200000, t_252645135, t_858993459, t_1431655765, u_m1000002, u_m1000001, u_m1000, u_m3, u_m1, u_0, u_1, u_2, u_3, u_4, u_5, u_7, u_8, u_10, u_11, u_15, u_60, u_100, u_255, u_999, u_1000, u_100000, u_4294967295] at hd195)
                            refine g_iload dX8_compare_198 rfl ?_
                            refine g_iconst (v := 1) dX8_compare_200 (by decide) ?_
                            refine g_icmp_eq (tgt := 216) dX8_compare_201 (by decide) (fun hc201 => ?_) (fun hc201 => ?_)
                            · have hd201 := i_eq.mp hc201; (try simp (disch := omega) only [nT, t_m1000100, t_m1000010, t_m1000003, t_m1000002, t_m1000001, t_m1000000, t_m65535, t_m1000, t_m3, t_m1, t_0, t_1, t_2, t_3, t_4, t_5, t_6, t_7, t_8, t_9, t_10, t_11, t_12, t_13, t_15, t_16, t_20, t_21, t_22, t_32, t_40, t_41, t_48, t_49, t_57, t_59, t_60, t_63, t_72, t_76, t_88, t_100, t_144, t_200, t_255, t_288, t_400, t_800, t_999, t_1000, t_1024, t_1200, t_1600, t_3200, t_100000, t_200000, t_252645135, t_858993459, t_1431655765, u_m1000002, u_m1000001, u_m1000, u_m3, u_m1, u_0, u_1, u_2, u_3, u_4, u_5, u_7, u_8, u_10, u_11, u_15, u_60, u_100, u_255, u_999, u_1000, u_100000, u_4294967295] at hd201)
                              exact wrong (hwr.mpr (by first | exact Or.inl ⟨by assumption, by assumption⟩ | exact Or.inr ⟨by assumption, by assumption⟩)) _ _
                            · have hd201 := mt i_eq.mpr hc201; (try simp (disch := omega) only [nT, t_m1000100, t_m1000010, t_m1000003, t_m1000002, t_m1000001, t_m1000000, t_m65535, t_m1000, t_m3, t_m1, t_0, t_1, t_2, t_3, t_4, t_5, t_6, t_7, t_8, t_9, t_10, t_11, t_12, t_13, t_15, t_16, t_20, t_21, t_22, t_32, t_40, t_41, t_48, t_49, t_57, t_59, t_60, t_63, t_72, t_76, t_88, t_100, t_144, t_200, t_255, t_288, t_400, t_800, t_999, t_1000, t_1024, t_1200, t_1600, t_3200, t_100000, t_200000, t_252645135, t_858993459, t_1431655765, u_m1000002, u_m1000001, u_m1000, u_m3, u_m1, u_0, u_1, u_2, u_3, u_4, u_5, u_7, u_8, u_10, u_11, u_15, u_60, u_100, u_255, u_999, u_1000, u_100000, u_4294967295] at hd201)
                              refine g_iload dX8_compare_204 rfl ?_
                              refine g_bipush (v := 72) dX8_compare_206 (by decide) ?_
                              refine g_icmp_ne (tgt := 231) dX8_compare_208 (by decide) (fun hc208 => ?_) (fun hc208 => ?_)
                              · have hd208 := mt i_eq.mpr hc208; (try simp (disch := omega) only [nT, t_m1000100, t_m1000010, t_m1000003, t_m1000002, t_m1000001, t_m1000000, t_m65535, t_m1000, t_m3, t_m1, t_0, t_1, t_2, t_3, t_4, t_5, t_6, t_7, t_8, t_9, t_10, t_11, t_12, t_13, t_15, t_16, t_20, t_21, t_22, t_32, t_40, t_41, t_48, t_49, t_57, t_59, t_60, t_63, t_72, t_76, t_88, t_100, t_144, t_200, t_255, t_288, t_400, t_800, t_999, t_1000, t_1024, t_1200, t_1600, t_3200, t_100000, t_200000, t_252645135, t_858993459, t_1431655765, u_m1000002, u_m1000001, u_m1000, u_m3, u_m1, u_0, u_1, u_2, u_3, u_4, u_5, u_7, u_8, u_10, u_11, u_15, u_60, u_100, u_255, u_999, u_1000, u_100000, u_4294967295] at hd208)
                                exact right (fun z => by rcases hwr.mp z with ⟨x1, x2⟩ | ⟨x1, x2⟩ <;> first | contradiction | (rw [x1] at hc195; exact absurd hc195 (by decide)) | (rw [x2] at hc200; exact absurd hc200 (by decide)) | (rw [x1] at *; contradiction)) _ _
                              · have hd208 := i_eq.mp hc208; (try simp (disch := omega) only [nT, t_m1000100, t_m1000010, t_m1000003, t_m1000002, t_m1000001, t_m1000000, t_m65535, t_m1000, t_m3, t_m1, t_0, t_1, t_2, t_3, t_4, t_5, t_6, t_7, t_8, t_9, t_10, t_11, t_12, t_13, t_15, t_16, t_20, t_21, t_22, t_32, t_40, t_41, t_48, t_49, t_57, t_59, t_60, t_63, t_72, t_76, t_88, t_100, t_144, t_200, t_255, t_288, t_400, t_800, t_999, t_1000, t_1024, t_1200, t_1600, t_3200, t_100000, t_200000, t_252645135, t_858993459, t_1431655765, u_m1000002, u_m1000001, u_m1000, u_m3, u_m1, u_0, u_1, u_2, u_3, u_4, u_5, u_7, u_8, u_10, u_11, u_15, u_60, u_100, u_255, u_999, u_1000, u_100000, u_4294967295] at hd208)
                                refine g_iload dX8_compare_211 rfl ?_
                                refine g_if_ne (tgt := 231) dX8_compare_213 (by decide) (fun hc213 => ?_) (fun hc213 => ?_)
                                · have hd213 := mt i_eq.mpr hc213; (try simp (disch := omega) only [nT, t_m1000100, t_m1000010, t_m1000003, t_m1000002, t_m1000001, t_m1000000, t_m65535, t_m1000, t_m3, t_m1, t_0, t_1, t_2, t_3, t_4, t_5, t_6, t_7, t_8, t_9, t_10, t_11, t_12, t_13, t_15, t_16, t_20, t_21, t_22, t_32, t_40, t_41, t_48, t_49, t_57, t_59, t_60, t_63, t_72, t_76, t_88, t_100, t_144, t_200, t_255, t_288, t_400, t_800, t_999, t_1000, t_1024, t_1200, t_1600, t_3200, t_100000, t_200000, t_252645135, t_858993459, t_1431655765, u_m1000002, u_m1000001, u_m1000, u_m3, u_m1, u_0, u_1, u_2, u_3, u_4, u_5, u_7, u_8, u_10, u_11, u_15, u_60, u_100, u_255, u_999, u_1000, u_100000, u_4294967295] at hd213)
                                  exact right (fun z => by rcases hwr.mp z with ⟨x1, x2⟩ | ⟨x1, x2⟩ <;> first | contradiction | (rw [x1] at hc195; exact absurd hc195 (by decide)) | (rw [x2] at hc200; exact absurd hc200 (by decide)) | (rw [x1] at *; contradiction)) _ _
                                · have hd213 := i_eq.mp hc213; (try simp (disch := omega) only [nT, t_m1000100, t_m1000010, t_m1000003, t_m1000002, t_m1000001, t_m1000000, t_m65535, t_m1000, t_m3, t_m1, t_0, t_1, t_2, t_3, t_4, t_5, t_6, t_7, t_8, t_9, t_10, t_11, t_12, t_13, t_15, t_16, t_20, t_21, t_22, t_32, t_40, t_41, t_48, t_49, t_57, t_59, t_60, t_63, t_72, t_76, t_88, t_100, t_144, t_200, t_255, t_288, t_400, t_800, t_999, t_1000, t_1024, t_1200, t_1600, t_3200, t_100000, t_200000, t_252645135, t_858993459, t_1431655765, u_m1000002, u_m1000001, u_m1000, u_m3, u_m1, u_0, u_1, u_2, u_3, u_4, u_5, u_7, u_8, u_10, u_11, u_15, u_60, u_100, u_255, u_999, u_1000, u_100000, u_4294967295] at hd213)
                                  exact wrong (hwr.mpr (by first | exact Or.inl ⟨by assumption, by assumption⟩ | exact Or.inr ⟨by assumption, by assumption⟩)) _ _
                    refine g_iload dX8_compare_97 rfl ?_
                    refine g_aload_n (i := 0) dX8_compare_99 rfl rfl ?_
                    refine g_get dX8_compare_100 fl_X8_28 (by repeat' (first | assumption | exact rF_eq | (apply rF_nj; focus decide) | (apply rF_nk; focus omega) | refine rF_a ?_ | exact rA_eq | refine rA_ne (by omega) ?_ | refine rA_f ?_)) (by repeat' (first | assumption | exact rF_eq | (apply rF_nj; focus decide) | (apply rF_nk; focus omega) | refine rF_a ?_ | exact rA_eq | refine rA_ne (by omega) ?_ | refine rA_f ?_)) ?_
                    refine g_aload_n (i := 0) dX8_compare_103 rfl rfl ?_
                    refine g_get dX8_compare_104 fl_X8_171 (by repeat' (first | assumption | exact rF_eq | (apply rF_nj; focus decide) | (apply rF_nk; focus omega) | refine rF_a ?_ | exact rA_eq | refine rA_ne (by omega) ?_ | refine rA_f ?_)) (by repeat' (first | assumption | exact rF_eq | (apply rF_nj; focus decide) | (apply rF_nk; focus omega) | refine rF_a ?_ | exact rA_eq | refine rA_ne (by omega) ?_ | refine rA_f ?_)) ?_
                    refine g_iald dX8_compare_107 (by repeat' (first | assumption | exact rF_eq | (apply rF_nj; focus decide) | (apply rF_nk; focus omega) | refine rF_a ?_ | exact rA_eq | refine rA_ne (by omega) ?_ | refine rA_f ?_)) (nT (by omega)) (by omega) ?_
                    rw [y3]
                    refine g_icmp_ge (tgt := 243) dX8_compare_108 (by decide) (fun hc108 => ?_) (fun hc108 => ?_)
                    · (try simp (disch := omega) only [nT, t_m1000100, t_m1000010, t_m1000003, t_m1000002, t_m1000001, t_m1000000, t_m65535, t_m1000, t_m3, t_m1, t_0, t_1, t_2, t_3, t_4, t_5, t_6, t_7, t_8, t_9, t_10, t_11, t_12, t_13, t_15, t_16, t_20, t_21, t_22, t_32, t_40, t_41, t_48, t_49, t_57, t_59, t_60, t_63, t_72, t_76, t_88, t_100, t_144, t_200, t_255, t_288, t_400, t_800, t_999, t_1000, t_1024, t_1200, t_1600, t_3200, t_100000, t_200000, t_252645135, t_858993459, t_1431655765, u_m1000002, u_m1000001, u_m1000, u_m3, u_m1, u_0, u_1, u_2, u_3, u_4, u_5, u_7, u_8, u_10, u_11, u_15, u_60, u_100, u_255, u_999, u_1000, u_100000, u_4294967295] at hc108); omega
                    · (try simp (disch := omega) only [nT, t_m1000100, t_m1000010, t_m1000003, t_m1000002, t_m1000001, t_m1000000, t_m65535, t_m1000, t_m3, t_m1, t_0, t_1, t_2, t_3, t_4, t_5, t_6, t_7, t_8, t_9, t_10, t_11, t_12, t_13, t_15, t_16, t_20, t_21, t_22, t_32, t_40, t_41, t_48, t_49, t_57, t_59, t_60, t_63, t_72, t_76, t_88, t_100, t_144, t_200, t_255, t_288, t_400, t_800, t_999, t_1000, t_1024, t_1200, t_1600, t_3200, t_100000, t_200000, t_252645135, t_858993459, t_1431655765, u_m1000002, u_m1000001, u_m1000, u_m3, u_m1, u_0, u_1, u_2, u_3, u_4, u_5, u_7, u_8, u_10, u_11, u_15, u_60, u_100, u_255, u_999, u_1000, u_100000, u_4294967295] at hc108)
                      refine g_iconst (v := 0) dX8_compare_111 (by decide) ?_
                      refine g_istore dX8_compare_112 (Nat.le_of_ble_eq_true rfl) rfl ?_
                      exact hin pt.2.1 0 n fi pi _ _ (by omega) hnS hst
                refine g_ldc dX8_compare_84 kc_X8_142 ?_
                refine g_istore_n (i := 3) dX8_compare_86 rfl (Nat.le_of_ble_eq_true rfl) rfl ?_
                refine g_ldc dX8_compare_87 kc_X8_142 ?_
                refine g_istore dX8_compare_89 (Nat.le_of_ble_eq_true rfl) rfl ?_
                refine g_iconst (v := 0) dX8_compare_91 (by decide) ?_
                refine g_istore dX8_compare_92 (Nat.le_of_ble_eq_true rfl) rfl ?_
                refine g_iconst (v := 0) dX8_compare_94 (by decide) ?_
                refine g_istore dX8_compare_95 (Nat.le_of_ble_eq_true rfl) rfl ?_
                exact hout pt.2.2.1.length 0 0 _ _ _ _ _ (by omega) (by rw [List.drop_zero, Nat.zero_add]; exact hS) (Or.inl ⟨rfl, rfl, rfl, by rw [List.drop_zero]; exact hF⟩)
              · have hd75 := i_eq.mp hc75; (try simp (disch := omega) only [nT, t_m1000100, t_m1000010, t_m1000003, t_m1000002, t_m1000001, t_m1000000, t_m65535, t_m1000, t_m3, t_m1, t_0, t_1, t_2, t_3, t_4, t_5, t_6, t_7, t_8, t_9, t_10, t_11, t_12, t_13, t_15, t_16, t_20, t_21, t_22, t_32, t_40, t_41, t_48, t_49, t_57, t_59, t_60, t_63, t_72, t_76, t_88, t_100, t_144, t_200, t_255, t_288, t_400, t_800, t_999, t_1000, t_1024, t_1200, t_1600, t_3200, t_100000, t_200000, t_252645135, t_858993459, t_1431655765, u_m1000002, u_m1000001, u_m1000, u_m3, u_m1, u_0, u_1, u_2, u_3, u_4, u_5, u_7, u_8, u_10, u_11, u_15, u_60, u_100, u_255, u_999, u_1000, u_100000, u_4294967295] at hd75)
                refine g_aload_n (i := 0) dX8_compare_78 rfl rfl ?_
                refine g_iconst (v := 2) dX8_compare_79 (by decide) ?_
                refine g_callV (M' := mX8_found) dX8_compare_80 lc_X8_found ml_X8_127 (c_mfound (h := sF (sF h 44 0 (.int 0)) 44 1 (.int 0)) e1 2) rfl rfl (by repeat' (first | assumption | exact rF_eq | (apply rF_nj; focus decide) | (apply rF_nk; focus omega) | refine rF_a ?_ | exact rA_eq | refine rA_ne (by omega) ?_ | refine rA_f ?_)) rfl ⟨Nat.le_of_ble_eq_true rfl, Nat.le_of_ble_eq_true rfl, Nat.le_of_ble_eq_true rfl, Nat.le_of_ble_eq_true rfl⟩ (Nat.le_of_ble_eq_true rfl) ?_
                intro r_ h_ q_; obtain ⟨q1_, q2_⟩ := q_; have q2_ := q2_.symm; subst q1_; subst q2_
                refine g_iret dX8_compare_83 rfl (rfl) (hQ _ _ ?_)
                have e := (en _).mpr ((if_neg (by omega)).trans (if_pos (by omega)))
                rw [e, sF_sF]; exact ⟨rfl, _, rfl⟩
            · (try simp (disch := omega) only [nT, t_m1000100, t_m1000010, t_m1000003, t_m1000002, t_m1000001, t_m1000000, t_m65535, t_m1000, t_m3, t_m1, t_0, t_1, t_2, t_3, t_4, t_5, t_6, t_7, t_8, t_9, t_10, t_11, t_12, t_13, t_15, t_16, t_20, t_21, t_22, t_32, t_40, t_41, t_48, t_49, t_57, t_59, t_60, t_63, t_72, t_76, t_88, t_100, t_144, t_200, t_255, t_288, t_400, t_800, t_999, t_1000, t_1024, t_1200, t_1600, t_3200, t_100000, t_200000, t_252645135, t_858993459, t_1431655765, u_m1000002, u_m1000001, u_m1000, u_m3, u_m1, u_0, u_1, u_2, u_3, u_4, u_5, u_7, u_8, u_10, u_11, u_15, u_60, u_100, u_255, u_999, u_1000, u_100000, u_4294967295] at hc60)
              refine g_aload_n (i := 0) dX8_compare_63 rfl rfl ?_
              refine g_iconst (v := 1) dX8_compare_64 (by decide) ?_
              refine g_callV (M' := mX8_found) dX8_compare_65 lc_X8_found ml_X8_127 (c_mfound (h := sF (sF h 44 0 (.int 0)) 44 1 (.int 0)) e1 1) rfl rfl (by repeat' (first | assumption | exact rF_eq | (apply rF_nj; focus decide) | (apply rF_nk; focus omega) | refine rF_a ?_ | exact rA_eq | refine rA_ne (by omega) ?_ | refine rA_f ?_)) rfl ⟨Nat.le_of_ble_eq_true rfl, Nat.le_of_ble_eq_true rfl, Nat.le_of_ble_eq_true rfl, Nat.le_of_ble_eq_true rfl⟩ (Nat.le_of_ble_eq_true rfl) ?_
              intro r_ h_ q_; obtain ⟨q1_, q2_⟩ := q_; have q2_ := q2_.symm; subst q1_; subst q2_
              refine g_iret dX8_compare_68 rfl (rfl) (hQ _ _ ?_)
              have e := (en _).mpr (if_pos (by omega))
              rw [e, sF_sF]; exact ⟨rfl, _, rfl⟩
          · have hd43 := i_eq.mp hc43; (try simp (disch := omega) only [nT, t_m1000100, t_m1000010, t_m1000003, t_m1000002, t_m1000001, t_m1000000, t_m65535, t_m1000, t_m3, t_m1, t_0, t_1, t_2, t_3, t_4, t_5, t_6, t_7, t_8, t_9, t_10, t_11, t_12, t_13, t_15, t_16, t_20, t_21, t_22, t_32, t_40, t_41, t_48, t_49, t_57, t_59, t_60, t_63, t_72, t_76, t_88, t_100, t_144, t_200, t_255, t_288, t_400, t_800, t_999, t_1000, t_1024, t_1200, t_1600, t_3200, t_100000, t_200000, t_252645135, t_858993459, t_1431655765, u_m1000002, u_m1000001, u_m1000, u_m3, u_m1, u_0, u_1, u_2, u_3, u_4, u_5, u_7, u_8, u_10, u_11, u_15, u_60, u_100, u_255, u_999, u_1000, u_100000, u_4294967295] at hd43)
            refine g_ldc dX8_compare_46 kc_X8_196 ?_
            refine g_iret dX8_compare_48 rfl (rfl) (hQ _ _ ?_)
            have e : opCmp (st, lo0, so, io) pt s a = _ := (if_neg (by omega)).trans (if_pos (by omega))
            rw [e]; exact ⟨rfl, _, (sF_self (show gF (sF h 44 0 (.int 0)) 44 1 = .int st from h2)).symm⟩
      · replace hc21 := bI_0.mp hc21
        (try simp (disch := omega) only [nT, t_m1000100, t_m1000010, t_m1000003, t_m1000002, t_m1000001, t_m1000000, t_m65535, t_m1000, t_m3, t_m1, t_0, t_1, t_2, t_3, t_4, t_5, t_6, t_7, t_8, t_9, t_10, t_11, t_12, t_13, t_15, t_16, t_20, t_21, t_22, t_32, t_40, t_41, t_48, t_49, t_57, t_59, t_60, t_63, t_72, t_76, t_88, t_100, t_144, t_200, t_255, t_288, t_400, t_800, t_999, t_1000, t_1024, t_1200, t_1600, t_3200, t_100000, t_200000, t_252645135, t_858993459, t_1431655765, u_m1000002, u_m1000001, u_m1000, u_m3, u_m1, u_0, u_1, u_2, u_3, u_4, u_5, u_7, u_8, u_10, u_11, u_15, u_60, u_100, u_255, u_999, u_1000, u_100000, u_4294967295] at hc21)
        refine g_ldc dX8_compare_24 kc_X8_126 ?_
        refine g_iret dX8_compare_26 rfl (rfl) (hQ _ _ ?_)
        have e : opCmp (st, lo0, so, io) pt s a = _ := if_pos (by omega)
        rw [e]; exact ⟨rfl, _, (sF_self (show gF (sF h 44 0 (.int 0)) 44 1 = .int st from h2)).symm⟩
