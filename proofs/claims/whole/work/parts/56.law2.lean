/-! the law: each of its calls -/
section Calls
variable {L i : Nat} {xs : Nat → Int32} {h : HH} {w : SH} {P : TP} {E : ST2} {A : LA} {T : TS} {R : RS} {G : GL2} {W : WA} {pt : PT} {fl : Int32}
theorem lw_c_law (hi : i + 6 ≤ L) (hL : L ≤ 3072) (hf : WF w P A T R G W pt) (hx : RX w P E A T R G W pt fl h) (hm : RM w P E A T R G W pt fl h) (K : ∀ (w : SH) (P : TP) (E : ST2) (A : LA) (T : TS) (R : RS) (G : GL2) (W : WA) (pt : PT) (fl : Int32) (h' : HH), WF w P A T R G W pt → RX w P E A T R G W pt fl h' → RM w P E A T R G W pt fl h' → GG (EL L xs) 75 216376 1306 [hX, .ref 0, .ref 44, .int (nI i)] [] h') : GG (EL L xs) 75 216376 792 [hX, .ref 0, .ref 44, .int (nI i)] [] h := by
  have e0 := hx.1.1.1
  obtain ⟨fS, fP, fA, fT, fR, fG, fW, fQ⟩ := id hf
  refine g_aload_n (i := 1) dL_law_792 rfl rfl ?_
  refine g_aload_x dL_law_793 rfl rfl ?_
  refine g_iload_n (i := 3) dL_law_794 rfl rfl ?_
  refine g_iconst (v := 1) dL_law_795 (by decide) ?_
  refine g_iadd dL_law_796 ?_
  refine g_sld dL_law_797 xl_3 (ixw (k := 1) rfl (by omega)) (by omega) ?_
  refine g_aload_x dL_law_798 rfl rfl ?_
  refine g_iload_n (i := 3) dL_law_799 rfl rfl ?_
  refine g_iconst (v := 2) dL_law_800 (by decide) ?_
  refine g_iadd dL_law_801 ?_
  refine g_sld dL_law_802 xl_3 (ixw (k := 2) rfl (by omega)) (by omega) ?_
  refine g_callV (M' := mX7_law) dL_law_803 lc_X7_law ml_L_94 (xo_law hf hx _ _) rfl rfl (by repeat' (first | assumption | exact rF_eq | refine rF_ne (by decide) ?_ | refine rF_a ?_ | exact rA_eq | refine rA_ne (by decide) ?_ | refine rA_f ?_)) rfl ⟨Nat.le_of_ble_eq_true rfl, Nat.le_of_ble_eq_true rfl, Nat.le_of_ble_eq_true rfl, Nat.le_of_ble_eq_true rfl⟩ (Nat.le_of_ble_eq_true rfl) ?_
  intro r_ h_ q_; obtain ⟨rfl, x1, x2⟩ := q_
  have hm2 := rm_lo hm x2
  have e44 := hm2.2.1.1
  refine g_aload_n (i := 2) dL_law_806 rfl rfl ?_
  refine g_aload_x dL_law_807 rfl rfl ?_
  refine g_iload_n (i := 3) dL_law_808 rfl rfl ?_
  refine g_iconst (v := 1) dL_law_809 (by decide) ?_
  refine g_iadd dL_law_810 ?_
  refine g_sld dL_law_811 xl_3 (ixw (k := 1) rfl (by omega)) (by omega) ?_
  refine g_aload_x dL_law_812 rfl rfl ?_
  refine g_iload_n (i := 3) dL_law_813 rfl rfl ?_
  refine g_iconst (v := 2) dL_law_814 (by decide) ?_
  refine g_iadd dL_law_815 ?_
  refine g_sld dL_law_816 xl_3 (ixw (k := 2) rfl (by omega)) (by omega) ?_
  refine g_callV (M' := mX8_law) dL_law_817 lc_X8_law ml_L_97 (mo_law hf hm2 _ _) rfl rfl (by repeat' (first | assumption | exact rF_eq | refine rF_ne (by decide) ?_ | refine rF_a ?_ | exact rA_eq | refine rA_ne (by decide) ?_ | refine rA_f ?_)) rfl ⟨Nat.le_of_ble_eq_true rfl, Nat.le_of_ble_eq_true rfl, Nat.le_of_ble_eq_true rfl, Nat.le_of_ble_eq_true rfl⟩ (Nat.le_of_ble_eq_true rfl) ?_
  intro r_ h_ q_; obtain ⟨rfl, y1, y2⟩ := q_
  have hx2 := rx_hi x1 y2
  refine g_icmp_eq (tgt := 1306) dL_law_820 (by decide) (fun hc820 => ?_) (fun hc820 => ?_)
  · have hd820 := i_eq.mp hc820; (try simp (disch := omega) only [nT, t_m1000100, t_m1000010, t_m1000003, t_m1000002, t_m1000001, t_m1000000, t_m65535, t_m1000, t_m3, t_m1, t_0, t_1, t_2, t_3, t_4, t_5, t_6, t_7, t_8, t_9, t_10, t_11, t_12, t_13, t_15, t_16, t_20, t_21, t_22, t_32, t_40, t_41, t_48, t_49, t_57, t_59, t_60, t_63, t_72, t_76, t_88, t_100, t_144, t_200, t_255, t_288, t_400, t_800, t_999, t_1000, t_1024, t_1200, t_1600, t_3200, t_100000, t_200000, t_252645135, t_858993459, t_1431655765, u_m1000002, u_m1000001, u_m1000, u_m3, u_m1, u_0, u_1, u_2, u_3, u_4, u_5, u_7, u_8, u_10, u_11, u_15, u_60, u_100, u_255, u_999, u_1000, u_100000, u_4294967295] at hd820)
    exact K _ _ _ _ _ _ _ _ _ _ _ ⟨fS, fP, wf_law fA _ _, fT, fR, fG, fW, fQ⟩ hx2 y1
  · have hd820 := mt i_eq.mpr hc820; (try simp (disch := omega) only [nT, t_m1000100, t_m1000010, t_m1000003, t_m1000002, t_m1000001, t_m1000000, t_m65535, t_m1000, t_m3, t_m1, t_0, t_1, t_2, t_3, t_4, t_5, t_6, t_7, t_8, t_9, t_10, t_11, t_12, t_13, t_15, t_16, t_20, t_21, t_22, t_32, t_40, t_41, t_48, t_49, t_57, t_59, t_60, t_63, t_72, t_76, t_88, t_100, t_144, t_200, t_255, t_288, t_400, t_800, t_999, t_1000, t_1024, t_1200, t_1600, t_3200, t_100000, t_200000, t_252645135, t_858993459, t_1431655765, u_m1000002, u_m1000001, u_m1000, u_m3, u_m1, u_0, u_1, u_2, u_3, u_4, u_5, u_7, u_8, u_10, u_11, u_15, u_60, u_100, u_255, u_999, u_1000, u_100000, u_4294967295] at hd820); exact absurd rfl hc820
theorem lw_c_chip (hi : i + 6 ≤ L) (hL : L ≤ 3072) (hf : WF w P A T R G W pt) (hx : RX w P E A T R G W pt fl h) (hm : RM w P E A T R G W pt fl h) (K : ∀ (w : SH) (P : TP) (E : ST2) (A : LA) (T : TS) (R : RS) (G : GL2) (W : WA) (pt : PT) (fl : Int32) (h' : HH), WF w P A T R G W pt → RX w P E A T R G W pt fl h' → RM w P E A T R G W pt fl h' → GG (EL L xs) 75 216376 1306 [hX, .ref 0, .ref 44, .int (nI i)] [] h') : GG (EL L xs) 75 216376 825 [hX, .ref 0, .ref 44, .int (nI i)] [] h := by
  have e0 := hx.1.1.1
  obtain ⟨fS, fP, fA, fT, fR, fG, fW, fQ⟩ := id hf
  refine g_aload_n (i := 1) dL_law_825 rfl rfl ?_
  refine g_aload_x dL_law_826 rfl rfl ?_
  refine g_iload_n (i := 3) dL_law_827 rfl rfl ?_
  refine g_iconst (v := 1) dL_law_828 (by decide) ?_
  refine g_iadd dL_law_829 ?_
  refine g_sld dL_law_830 xl_3 (ixw (k := 1) rfl (by omega)) (by omega) ?_
  refine g_aload_x dL_law_831 rfl rfl ?_
  refine g_iload_n (i := 3) dL_law_832 rfl rfl ?_
  refine g_iconst (v := 2) dL_law_833 (by decide) ?_
  refine g_iadd dL_law_834 ?_
  refine g_sld dL_law_835 xl_3 (ixw (k := 2) rfl (by omega)) (by omega) ?_
  refine g_callV (M' := mX7_chip) dL_law_836 lc_X7_chip ml_L_98 (xo_chip hf hx _ _) rfl rfl (by repeat' (first | assumption | exact rF_eq | refine rF_ne (by decide) ?_ | refine rF_a ?_ | exact rA_eq | refine rA_ne (by decide) ?_ | refine rA_f ?_)) rfl ⟨Nat.le_of_ble_eq_true rfl, Nat.le_of_ble_eq_true rfl, Nat.le_of_ble_eq_true rfl, Nat.le_of_ble_eq_true rfl⟩ (Nat.le_of_ble_eq_true rfl) ?_
  intro r_ h_ q_; obtain ⟨rfl, x1, x2⟩ := q_
  have hm2 := rm_lo hm x2
  have e44 := hm2.2.1.1
  refine g_aload_n (i := 2) dL_law_839 rfl rfl ?_
  refine g_aload_x dL_law_840 rfl rfl ?_
  refine g_iload_n (i := 3) dL_law_841 rfl rfl ?_
  refine g_iconst (v := 1) dL_law_842 (by decide) ?_
  refine g_iadd dL_law_843 ?_
  refine g_sld dL_law_844 xl_3 (ixw (k := 1) rfl (by omega)) (by omega) ?_
  refine g_aload_x dL_law_845 rfl rfl ?_
  refine g_iload_n (i := 3) dL_law_846 rfl rfl ?_
  refine g_iconst (v := 2) dL_law_847 (by decide) ?_
  refine g_iadd dL_law_848 ?_
  refine g_sld dL_law_849 xl_3 (ixw (k := 2) rfl (by omega)) (by omega) ?_
  refine g_callV (M' := mX8_chip) dL_law_850 lc_X8_chip ml_L_101 (mo_chip hf hm2 _ _) rfl rfl (by repeat' (first | assumption | exact rF_eq | refine rF_ne (by decide) ?_ | refine rF_a ?_ | exact rA_eq | refine rA_ne (by decide) ?_ | refine rA_f ?_)) rfl ⟨Nat.le_of_ble_eq_true rfl, Nat.le_of_ble_eq_true rfl, Nat.le_of_ble_eq_true rfl, Nat.le_of_ble_eq_true rfl⟩ (Nat.le_of_ble_eq_true rfl) ?_
  intro r_ h_ q_; obtain ⟨rfl, y1, y2⟩ := q_
  have hx2 := rx_hi x1 y2
  refine g_icmp_eq (tgt := 1306) dL_law_853 (by decide) (fun hc853 => ?_) (fun hc853 => ?_)
  · have hd853 := i_eq.mp hc853; (try simp (disch := omega) only [nT, t_m1000100, t_m1000010, t_m1000003, t_m1000002, t_m1000001, t_m1000000, t_m65535, t_m1000, t_m3, t_m1, t_0, t_1, t_2, t_3, t_4, t_5, t_6, t_7, t_8, t_9, t_10, t_11, t_12, t_13, t_15, t_16, t_20, t_21, t_22, t_32, t_40, t_41, t_48, t_49, t_57, t_59, t_60, t_63, t_72, t_76, t_88, t_100, t_144, t_200, t_255, t_288, t_400, t_800, t_999, t_1000, t_1024, t_1200, t_1600, t_3200, t_100000, t_200000, t_252645135, t_858993459, t_1431655765, u_m1000002, u_m1000001, u_m1000, u_m3, u_m1, u_0, u_1, u_2, u_3, u_4, u_5, u_7, u_8, u_10, u_11, u_15, u_60, u_100, u_255, u_999, u_1000, u_100000, u_4294967295] at hd853)
    exact K _ _ _ _ _ _ _ _ _ _ _ ⟨wfs_st fS _, fP, fA, fT, fR, wf_chip fG _ _, fW, fQ⟩ hx2 y1
  · have hd853 := mt i_eq.mpr hc853; (try simp (disch := omega) only [nT, t_m1000100, t_m1000010, t_m1000003, t_m1000002, t_m1000001, t_m1000000, t_m65535, t_m1000, t_m3, t_m1, t_0, t_1, t_2, t_3, t_4, t_5, t_6, t_7, t_8, t_9, t_10, t_11, t_12, t_13, t_15, t_16, t_20, t_21, t_22, t_32, t_40, t_41, t_48, t_49, t_57, t_59, t_60, t_63, t_72, t_76, t_88, t_100, t_144, t_200, t_255, t_288, t_400, t_800, t_999, t_1000, t_1024, t_1200, t_1600, t_3200, t_100000, t_200000, t_252645135, t_858993459, t_1431655765, u_m1000002, u_m1000001, u_m1000, u_m3, u_m1, u_0, u_1, u_2, u_3, u_4, u_5, u_7, u_8, u_10, u_11, u_15, u_60, u_100, u_255, u_999, u_1000, u_100000, u_4294967295] at hd853); exact absurd rfl hc853
theorem lw_c_told (hi : i + 6 ≤ L) (hL : L ≤ 3072) (hf : WF w P A T R G W pt) (hx : RX w P E A T R G W pt fl h) (hm : RM w P E A T R G W pt fl h) (K : ∀ (w : SH) (P : TP) (E : ST2) (A : LA) (T : TS) (R : RS) (G : GL2) (W : WA) (pt : PT) (fl : Int32) (h' : HH), WF w P A T R G W pt → RX w P E A T R G W pt fl h' → RM w P E A T R G W pt fl h' → GG (EL L xs) 75 216376 1306 [hX, .ref 0, .ref 44, .int (nI i)] [] h') : GG (EL L xs) 75 216376 858 [hX, .ref 0, .ref 44, .int (nI i)] [] h := by
  have e0 := hx.1.1.1
  obtain ⟨fS, fP, fA, fT, fR, fG, fW, fQ⟩ := id hf
  refine g_aload_n (i := 1) dL_law_858 rfl rfl ?_
  refine g_aload_x dL_law_859 rfl rfl ?_
  refine g_iload_n (i := 3) dL_law_860 rfl rfl ?_
  refine g_iconst (v := 1) dL_law_861 (by decide) ?_
  refine g_iadd dL_law_862 ?_
  refine g_sld dL_law_863 xl_3 (ixw (k := 1) rfl (by omega)) (by omega) ?_
  refine g_aload_x dL_law_864 rfl rfl ?_
  refine g_iload_n (i := 3) dL_law_865 rfl rfl ?_
  refine g_iconst (v := 2) dL_law_866 (by decide) ?_
  refine g_iadd dL_law_867 ?_
  refine g_sld dL_law_868 xl_3 (ixw (k := 2) rfl (by omega)) (by omega) ?_
  refine g_callV (M' := mX7_told) dL_law_869 lc_X7_told ml_L_102 (xo_told hf hx _ _) rfl rfl (by repeat' (first | assumption | exact rF_eq | refine rF_ne (by decide) ?_ | refine rF_a ?_ | exact rA_eq | refine rA_ne (by decide) ?_ | refine rA_f ?_)) rfl ⟨Nat.le_of_ble_eq_true rfl, Nat.le_of_ble_eq_true rfl, Nat.le_of_ble_eq_true rfl, Nat.le_of_ble_eq_true rfl⟩ (Nat.le_of_ble_eq_true rfl) ?_
  intro r_ h_ q_; obtain ⟨rfl, x1, x2⟩ := q_
  have hm2 := rm_lo hm x2
  have e44 := hm2.2.1.1
  refine g_aload_n (i := 2) dL_law_872 rfl rfl ?_
  refine g_aload_x dL_law_873 rfl rfl ?_
  refine g_iload_n (i := 3) dL_law_874 rfl rfl ?_
  refine g_iconst (v := 1) dL_law_875 (by decide) ?_
  refine g_iadd dL_law_876 ?_
  refine g_sld dL_law_877 xl_3 (ixw (k := 1) rfl (by omega)) (by omega) ?_
  refine g_aload_x dL_law_878 rfl rfl ?_
  refine g_iload_n (i := 3) dL_law_879 rfl rfl ?_
  refine g_iconst (v := 2) dL_law_880 (by decide) ?_
  refine g_iadd dL_law_881 ?_
  refine g_sld dL_law_882 xl_3 (ixw (k := 2) rfl (by omega)) (by omega) ?_
  refine g_callV (M' := mX8_told) dL_law_883 lc_X8_told ml_L_105 (mo_told hf hm2 _ _) rfl rfl (by repeat' (first | assumption | exact rF_eq | refine rF_ne (by decide) ?_ | refine rF_a ?_ | exact rA_eq | refine rA_ne (by decide) ?_ | refine rA_f ?_)) rfl ⟨Nat.le_of_ble_eq_true rfl, Nat.le_of_ble_eq_true rfl, Nat.le_of_ble_eq_true rfl, Nat.le_of_ble_eq_true rfl⟩ (Nat.le_of_ble_eq_true rfl) ?_
  intro r_ h_ q_; obtain ⟨rfl, y1, y2⟩ := q_
  have hx2 := rx_hi x1 y2
  refine g_icmp_eq (tgt := 1306) dL_law_886 (by decide) (fun hc886 => ?_) (fun hc886 => ?_)
  · have hd886 := i_eq.mp hc886; (try simp (disch := omega) only [nT, t_m1000100, t_m1000010, t_m1000003, t_m1000002, t_m1000001, t_m1000000, t_m65535, t_m1000, t_m3, t_m1, t_0, t_1, t_2, t_3, t_4, t_5, t_6, t_7, t_8, t_9, t_10, t_11, t_12, t_13, t_15, t_16, t_20, t_21, t_22, t_32, t_40, t_41, t_48, t_49, t_57, t_59, t_60, t_63, t_72, t_76, t_88, t_100, t_144, t_200, t_255, t_288, t_400, t_800, t_999, t_1000, t_1024, t_1200, t_1600, t_3200, t_100000, t_200000, t_252645135, t_858993459, t_1431655765, u_m1000002, u_m1000001, u_m1000, u_m3, u_m1, u_0, u_1, u_2, u_3, u_4, u_5, u_7, u_8, u_10, u_11, u_15, u_60, u_100, u_255, u_999, u_1000, u_100000, u_4294967295] at hd886)
    exact K _ _ _ _ _ _ _ _ _ _ _ ⟨fS, fP, fA, fT, fR, fG, fW, fQ⟩ hx2 y1
  · have hd886 := mt i_eq.mpr hc886; (try simp (disch := omega) only [nT, t_m1000100, t_m1000010, t_m1000003, t_m1000002, t_m1000001, t_m1000000, t_m65535, t_m1000, t_m3, t_m1, t_0, t_1, t_2, t_3, t_4, t_5, t_6, t_7, t_8, t_9, t_10, t_11, t_12, t_13, t_15, t_16, t_20, t_21, t_22, t_32, t_40, t_41, t_48, t_49, t_57, t_59, t_60, t_63, t_72, t_76, t_88, t_100, t_144, t_200, t_255, t_288, t_400, t_800, t_999, t_1000, t_1024, t_1200, t_1600, t_3200, t_100000, t_200000, t_252645135, t_858993459, t_1431655765, u_m1000002, u_m1000001, u_m1000, u_m3, u_m1, u_0, u_1, u_2, u_3, u_4, u_5, u_7, u_8, u_10, u_11, u_15, u_60, u_100, u_255, u_999, u_1000, u_100000, u_4294967295] at hd886); exact absurd rfl hc886
theorem lw_c_share (hi : i + 6 ≤ L) (hL : L ≤ 3072) (hf : WF w P A T R G W pt) (hx : RX w P E A T R G W pt fl h) (hm : RM w P E A T R G W pt fl h) (K : ∀ (w : SH) (P : TP) (E : ST2) (A : LA) (T : TS) (R : RS) (G : GL2) (W : WA) (pt : PT) (fl : Int32) (h' : HH), WF w P A T R G W pt → RX w P E A T R G W pt fl h' → RM w P E A T R G W pt fl h' → GG (EL L xs) 75 216376 1306 [hX, .ref 0, .ref 44, .int (nI i)] [] h') : GG (EL L xs) 75 216376 891 [hX, .ref 0, .ref 44, .int (nI i)] [] h := by
  have e0 := hx.1.1.1
  obtain ⟨fS, fP, fA, fT, fR, fG, fW, fQ⟩ := id hf
  refine g_aload_n (i := 1) dL_law_891 rfl rfl ?_
  refine g_aload_x dL_law_892 rfl rfl ?_
  refine g_iload_n (i := 3) dL_law_893 rfl rfl ?_
  refine g_iconst (v := 1) dL_law_894 (by decide) ?_
  refine g_iadd dL_law_895 ?_
  refine g_sld dL_law_896 xl_3 (ixw (k := 1) rfl (by omega)) (by omega) ?_
  refine g_aload_x dL_law_897 rfl rfl ?_
  refine g_iload_n (i := 3) dL_law_898 rfl rfl ?_
  refine g_iconst (v := 2) dL_law_899 (by decide) ?_
  refine g_iadd dL_law_900 ?_
  refine g_sld dL_law_901 xl_3 (ixw (k := 2) rfl (by omega)) (by omega) ?_
  refine g_callV (M' := mX7_share) dL_law_902 lc_X7_share ml_L_106 (xo_share hf hx _ _) rfl rfl (by repeat' (first | assumption | exact rF_eq | refine rF_ne (by decide) ?_ | refine rF_a ?_ | exact rA_eq | refine rA_ne (by decide) ?_ | refine rA_f ?_)) rfl ⟨Nat.le_of_ble_eq_true rfl, Nat.le_of_ble_eq_true rfl, Nat.le_of_ble_eq_true rfl, Nat.le_of_ble_eq_true rfl⟩ (Nat.le_of_ble_eq_true rfl) ?_
  intro r_ h_ q_; obtain ⟨rfl, x1, x2⟩ := q_
  have hm2 := rm_lo hm x2
  have e44 := hm2.2.1.1
  refine g_aload_n (i := 2) dL_law_905 rfl rfl ?_
  refine g_aload_x dL_law_906 rfl rfl ?_
  refine g_iload_n (i := 3) dL_law_907 rfl rfl ?_
  refine g_iconst (v := 1) dL_law_908 (by decide) ?_
  refine g_iadd dL_law_909 ?_
  refine g_sld dL_law_910 xl_3 (ixw (k := 1) rfl (by omega)) (by omega) ?_
  refine g_aload_x dL_law_911 rfl rfl ?_
  refine g_iload_n (i := 3) dL_law_912 rfl rfl ?_
  refine g_iconst (v := 2) dL_law_913 (by decide) ?_
  refine g_iadd dL_law_914 ?_
  refine g_sld dL_law_915 xl_3 (ixw (k := 2) rfl (by omega)) (by omega) ?_
  refine g_callV (M' := mX8_share) dL_law_916 lc_X8_share ml_L_109 (mo_share hf hm2 _ _) rfl rfl (by repeat' (first | assumption | exact rF_eq | refine rF_ne (by decide) ?_ | refine rF_a ?_ | exact rA_eq | refine rA_ne (by decide) ?_ | refine rA_f ?_)) rfl ⟨Nat.le_of_ble_eq_true rfl, Nat.le_of_ble_eq_true rfl, Nat.le_of_ble_eq_true rfl, Nat.le_of_ble_eq_true rfl⟩ (Nat.le_of_ble_eq_true rfl) ?_
  intro r_ h_ q_; obtain ⟨rfl, y1, y2⟩ := q_
  have hx2 := rx_hi x1 y2
  refine g_icmp_eq (tgt := 1306) dL_law_919 (by decide) (fun hc919 => ?_) (fun hc919 => ?_)
  · have hd919 := i_eq.mp hc919; (try simp (disch := omega) only [nT, t_m1000100, t_m1000010, t_m1000003, t_m1000002, t_m1000001, t_m1000000, t_m65535, t_m1000, t_m3, t_m1, t_0, t_1, t_2, t_3, t_4, t_5, t_6, t_7, t_8, t_9, t_10, t_11, t_12, t_13, t_15, t_16, t_20, t_21, t_22, t_32, t_40, t_41, t_48, t_49, t_57, t_59, t_60, t_63, t_72, t_76, t_88, t_100, t_144, t_200, t_255, t_288, t_400, t_800, t_999, t_1000, t_1024, t_1200, t_1600, t_3200, t_100000, t_200000, t_252645135, t_858993459, t_1431655765, u_m1000002, u_m1000001, u_m1000, u_m3, u_m1, u_0, u_1, u_2, u_3, u_4, u_5, u_7, u_8, u_10, u_11, u_15, u_60, u_100, u_255, u_999, u_1000, u_100000, u_4294967295] at hd919)
    exact K _ _ _ _ _ _ _ _ _ _ _ ⟨fS, fP, fA, wf_share fT _ _, fR, fG, fW, fQ⟩ hx2 y1
  · have hd919 := mt i_eq.mpr hc919; (try simp (disch := omega) only [nT, t_m1000100, t_m1000010, t_m1000003, t_m1000002, t_m1000001, t_m1000000, t_m65535, t_m1000, t_m3, t_m1, t_0, t_1, t_2, t_3, t_4, t_5, t_6, t_7, t_8, t_9, t_10, t_11, t_12, t_13, t_15, t_16, t_20, t_21, t_22, t_32, t_40, t_41, t_48, t_49, t_57, t_59, t_60, t_63, t_72, t_76, t_88, t_100, t_144, t_200, t_255, t_288, t_400, t_800, t_999, t_1000, t_1024, t_1200, t_1600, t_3200, t_100000, t_200000, t_252645135, t_858993459, t_1431655765, u_m1000002, u_m1000001, u_m1000, u_m3, u_m1, u_0, u_1, u_2, u_3, u_4, u_5, u_7, u_8, u_10, u_11, u_15, u_60, u_100, u_255, u_999, u_1000, u_100000, u_4294967295] at hd919); exact absurd rfl hc919
theorem lw_c_mean (hi : i + 6 ≤ L) (hL : L ≤ 3072) (hf : WF w P A T R G W pt) (hx : RX w P E A T R G W pt fl h) (hm : RM w P E A T R G W pt fl h) (K : ∀ (w : SH) (P : TP) (E : ST2) (A : LA) (T : TS) (R : RS) (G : GL2) (W : WA) (pt : PT) (fl : Int32) (h' : HH), WF w P A T R G W pt → RX w P E A T R G W pt fl h' → RM w P E A T R G W pt fl h' → GG (EL L xs) 75 216376 1306 [hX, .ref 0, .ref 44, .int (nI i)] [] h') : GG (EL L xs) 75 216376 924 [hX, .ref 0, .ref 44, .int (nI i)] [] h := by
  have e0 := hx.1.1.1
  obtain ⟨fS, fP, fA, fT, fR, fG, fW, fQ⟩ := id hf
  refine g_aload_n (i := 1) dL_law_924 rfl rfl ?_
  refine g_callV (M' := mX7_mean) dL_law_925 lc_X7_mean ml_L_110 (xo_mean hf hx) rfl rfl (by repeat' (first | assumption | exact rF_eq | refine rF_ne (by decide) ?_ | refine rF_a ?_ | exact rA_eq | refine rA_ne (by decide) ?_ | refine rA_f ?_)) rfl ⟨Nat.le_of_ble_eq_true rfl, Nat.le_of_ble_eq_true rfl, Nat.le_of_ble_eq_true rfl, Nat.le_of_ble_eq_true rfl⟩ (Nat.le_of_ble_eq_true rfl) ?_
  intro r_ h_ q_; obtain ⟨rfl, x1, x2⟩ := q_
  have hm2 := rm_lo hm x2
  have e44 := hm2.2.1.1
  refine g_aload_n (i := 2) dL_law_928 rfl rfl ?_
  refine g_callV (M' := mX8_mean) dL_law_929 lc_X8_mean ml_L_114 (mo_mean hf hm2) rfl rfl (by repeat' (first | assumption | exact rF_eq | refine rF_ne (by decide) ?_ | refine rF_a ?_ | exact rA_eq | refine rA_ne (by decide) ?_ | refine rA_f ?_)) rfl ⟨Nat.le_of_ble_eq_true rfl, Nat.le_of_ble_eq_true rfl, Nat.le_of_ble_eq_true rfl, Nat.le_of_ble_eq_true rfl⟩ (Nat.le_of_ble_eq_true rfl) ?_
  intro r_ h_ q_; obtain ⟨rfl, y1, y2⟩ := q_
  have hx2 := rx_hi x1 y2
  refine g_lcmp dL_law_932 ?_
  refine g_if_eq (tgt := 1306) dL_law_933 (by decide) (fun hc933 => ?_) (fun hc933 => ?_)
  · replace hc933 := lc_eq.mp hc933; (try simp only [l_add32, l_i] at hc933)
    (try simp (disch := omega) only [nT, t_m1000100, t_m1000010, t_m1000003, t_m1000002, t_m1000001, t_m1000000, t_m65535, t_m1000, t_m3, t_m1, t_0, t_1, t_2, t_3, t_4, t_5, t_6, t_7, t_8, t_9, t_10, t_11, t_12, t_13, t_15, t_16, t_20, t_21, t_22, t_32, t_40, t_41, t_48, t_49, t_57, t_59, t_60, t_63, t_72, t_76, t_88, t_100, t_144, t_200, t_255, t_288, t_400, t_800, t_999, t_1000, t_1024, t_1200, t_1600, t_3200, t_100000, t_200000, t_252645135, t_858993459, t_1431655765, u_m1000002, u_m1000001, u_m1000, u_m3, u_m1, u_0, u_1, u_2, u_3, u_4, u_5, u_7, u_8, u_10, u_11, u_15, u_60, u_100, u_255, u_999, u_1000, u_100000, u_4294967295] at hc933)
    exact K _ _ _ _ _ _ _ _ _ _ _ ⟨fS, fP, fA, fT, fR, fG, fW, fQ⟩ hx2 y1
  · replace hc933 := lc_ne.mp hc933; (try simp only [l_add32, l_i] at hc933); (try simp (disch := omega) only [nT, t_m1000100, t_m1000010, t_m1000003, t_m1000002, t_m1000001, t_m1000000, t_m65535, t_m1000, t_m3, t_m1, t_0, t_1, t_2, t_3, t_4, t_5, t_6, t_7, t_8, t_9, t_10, t_11, t_12, t_13, t_15, t_16, t_20, t_21, t_22, t_32, t_40, t_41, t_48, t_49, t_57, t_59, t_60, t_63, t_72, t_76, t_88, t_100, t_144, t_200, t_255, t_288, t_400, t_800, t_999, t_1000, t_1024, t_1200, t_1600, t_3200, t_100000, t_200000, t_252645135, t_858993459, t_1431655765, u_m1000002, u_m1000001, u_m1000, u_m3, u_m1, u_0, u_1, u_2, u_3, u_4, u_5, u_7, u_8, u_10, u_11, u_15, u_60, u_100, u_255, u_999, u_1000, u_100000, u_4294967295] at hc933); exact (hc933 trivial).elim
theorem lw_c_order (hi : i + 6 ≤ L) (hL : L ≤ 3072) (hf : WF w P A T R G W pt) (hx : RX w P E A T R G W pt fl h) (hm : RM w P E A T R G W pt fl h) (K : ∀ (w : SH) (P : TP) (E : ST2) (A : LA) (T : TS) (R : RS) (G : GL2) (W : WA) (pt : PT) (fl : Int32) (h' : HH), WF w P A T R G W pt → RX w P E A T R G W pt fl h' → RM w P E A T R G W pt fl h' → GG (EL L xs) 75 216376 1306 [hX, .ref 0, .ref 44, .int (nI i)] [] h') : GG (EL L xs) 75 216376 938 [hX, .ref 0, .ref 44, .int (nI i)] [] h := by
  have e0 := hx.1.1.1
  obtain ⟨fS, fP, fA, fT, fR, fG, fW, fQ⟩ := id hf
  refine g_aload_n (i := 1) dL_law_938 rfl rfl ?_
  refine g_callV (M' := mX7_order) dL_law_939 lc_X7_order ml_L_115 (xo_order hf hx) rfl rfl (by repeat' (first | assumption | exact rF_eq | refine rF_ne (by decide) ?_ | refine rF_a ?_ | exact rA_eq | refine rA_ne (by decide) ?_ | refine rA_f ?_)) rfl ⟨Nat.le_of_ble_eq_true rfl, Nat.le_of_ble_eq_true rfl, Nat.le_of_ble_eq_true rfl, Nat.le_of_ble_eq_true rfl⟩ (Nat.le_of_ble_eq_true rfl) ?_
  intro r_ h_ q_; obtain ⟨rfl, x1, x2⟩ := q_
  have hm2 := rm_lo hm x2
  have e44 := hm2.2.1.1
  refine g_aload_n (i := 2) dL_law_942 rfl rfl ?_
  refine g_callV (M' := mX8_order) dL_law_943 lc_X8_order ml_L_118 (mo_order hf hm2) rfl rfl (by repeat' (first | assumption | exact rF_eq | refine rF_ne (by decide) ?_ | refine rF_a ?_ | exact rA_eq | refine rA_ne (by decide) ?_ | refine rA_f ?_)) rfl ⟨Nat.le_of_ble_eq_true rfl, Nat.le_of_ble_eq_true rfl, Nat.le_of_ble_eq_true rfl, Nat.le_of_ble_eq_true rfl⟩ (Nat.le_of_ble_eq_true rfl) ?_
  intro r_ h_ q_; obtain ⟨rfl, y1, y2⟩ := q_
  have hx2 := rx_hi x1 y2
  refine g_lcmp dL_law_946 ?_
  refine g_if_eq (tgt := 1306) dL_law_947 (by decide) (fun hc947 => ?_) (fun hc947 => ?_)
  · replace hc947 := lc_eq.mp hc947; (try simp only [l_add32, l_i] at hc947)
    (try simp (disch := omega) only [nT, t_m1000100, t_m1000010, t_m1000003, t_m1000002, t_m1000001, t_m1000000, t_m65535, t_m1000, t_m3, t_m1, t_0, t_1, t_2, t_3, t_4, t_5, t_6, t_7, t_8, t_9, t_10, t_11, t_12, t_13, t_15, t_16, t_20, t_21, t_22, t_32, t_40, t_41, t_48, t_49, t_57, t_59, t_60, t_63, t_72, t_76, t_88, t_100, t_144, t_200, t_255, t_288, t_400, t_800, t_999, t_1000, t_1024, t_1200, t_1600, t_3200, t_100000, t_200000, t_252645135, t_858993459, t_1431655765, u_m1000002, u_m1000001, u_m1000, u_m3, u_m1, u_0, u_1, u_2, u_3, u_4, u_5, u_7, u_8, u_10, u_11, u_15, u_60, u_100, u_255, u_999, u_1000, u_100000, u_4294967295] at hc947)
    exact K _ _ _ _ _ _ _ _ _ _ _ ⟨fS, fP, fA, opOrd_wf fT, fR, fG, fW, fQ⟩ hx2 y1
  · replace hc947 := lc_ne.mp hc947; (try simp only [l_add32, l_i] at hc947); (try simp (disch := omega) only [nT, t_m1000100, t_m1000010, t_m1000003, t_m1000002, t_m1000001, t_m1000000, t_m65535, t_m1000, t_m3, t_m1, t_0, t_1, t_2, t_3, t_4, t_5, t_6, t_7, t_8, t_9, t_10, t_11, t_12, t_13, t_15, t_16, t_20, t_21, t_22, t_32, t_40, t_41, t_48, t_49, t_57, t_59, t_60, t_63, t_72, t_76, t_88, t_100, t_144, t_200, t_255, t_288, t_400, t_800, t_999, t_1000, t_1024, t_1200, t_1600, t_3200, t_100000, t_200000, t_252645135, t_858993459, t_1431655765, u_m1000002, u_m1000001, u_m1000, u_m3, u_m1, u_0, u_1, u_2, u_3, u_4, u_5, u_7, u_8, u_10, u_11, u_15, u_60, u_100, u_255, u_999, u_1000, u_100000, u_4294967295] at hc947); exact (hc947 trivial).elim
theorem lw_c_edge (hi : i + 6 ≤ L) (hL : L ≤ 3072) (hf : WF w P A T R G W pt) (hx : RX w P E A T R G W pt fl h) (hm : RM w P E A T R G W pt fl h) (K : ∀ (w : SH) (P : TP) (E : ST2) (A : LA) (T : TS) (R : RS) (G : GL2) (W : WA) (pt : PT) (fl : Int32) (h' : HH), WF w P A T R G W pt → RX w P E A T R G W pt fl h' → RM w P E A T R G W pt fl h' → GG (EL L xs) 75 216376 1306 [hX, .ref 0, .ref 44, .int (nI i)] [] h') : GG (EL L xs) 75 216376 952 [hX, .ref 0, .ref 44, .int (nI i)] [] h := by
  have e0 := hx.1.1.1
  obtain ⟨fS, fP, fA, fT, fR, fG, fW, fQ⟩ := id hf
  refine g_aload_n (i := 1) dL_law_952 rfl rfl ?_
  refine g_aload_x dL_law_953 rfl rfl ?_
  refine g_iload_n (i := 3) dL_law_954 rfl rfl ?_
  refine g_iconst (v := 1) dL_law_955 (by decide) ?_
  refine g_iadd dL_law_956 ?_
  refine g_sld dL_law_957 xl_3 (ixw (k := 1) rfl (by omega)) (by omega) ?_
  refine g_aload_x dL_law_958 rfl rfl ?_
  refine g_iload_n (i := 3) dL_law_959 rfl rfl ?_
  refine g_iconst (v := 2) dL_law_960 (by decide) ?_
  refine g_iadd dL_law_961 ?_
  refine g_sld dL_law_962 xl_3 (ixw (k := 2) rfl (by omega)) (by omega) ?_
  refine g_aload_x dL_law_963 rfl rfl ?_
  refine g_iload_n (i := 3) dL_law_964 rfl rfl ?_
  refine g_iconst (v := 3) dL_law_965 (by decide) ?_
  refine g_iadd dL_law_966 ?_
  refine g_sld dL_law_967 xl_3 (ixw (k := 3) rfl (by omega)) (by omega) ?_
  refine g_aload_x dL_law_968 rfl rfl ?_
  refine g_iload_n (i := 3) dL_law_969 rfl rfl ?_
  refine g_iconst (v := 4) dL_law_970 (by decide) ?_
  refine g_iadd dL_law_971 ?_
  refine g_sld dL_law_972 xl_3 (ixw (k := 4) rfl (by omega)) (by omega) ?_
  refine g_callV (M' := mX7_edge) dL_law_973 lc_X7_edge ml_L_119 (xo_edge hf hx _ _ _ _) rfl rfl (by repeat' (first | assumption | exact rF_eq | refine rF_ne (by decide) ?_ | refine rF_a ?_ | exact rA_eq | refine rA_ne (by decide) ?_ | refine rA_f ?_)) rfl ⟨Nat.le_of_ble_eq_true rfl, Nat.le_of_ble_eq_true rfl, Nat.le_of_ble_eq_true rfl, Nat.le_of_ble_eq_true rfl⟩ (Nat.le_of_ble_eq_true rfl) ?_
  intro r_ h_ q_; obtain ⟨rfl, x1, x2⟩ := q_
  have hm2 := rm_lo hm x2
  have e44 := hm2.2.1.1
  refine g_aload_n (i := 2) dL_law_976 rfl rfl ?_
  refine g_aload_x dL_law_977 rfl rfl ?_
  refine g_iload_n (i := 3) dL_law_978 rfl rfl ?_
  refine g_iconst (v := 1) dL_law_979 (by decide) ?_
  refine g_iadd dL_law_980 ?_
  refine g_sld dL_law_981 xl_3 (ixw (k := 1) rfl (by omega)) (by omega) ?_
  refine g_aload_x dL_law_982 rfl rfl ?_
  refine g_iload_n (i := 3) dL_law_983 rfl rfl ?_
  refine g_iconst (v := 2) dL_law_984 (by decide) ?_
  refine g_iadd dL_law_985 ?_
  refine g_sld dL_law_986 xl_3 (ixw (k := 2) rfl (by omega)) (by omega) ?_
  refine g_aload_x dL_law_987 rfl rfl ?_
  refine g_iload_n (i := 3) dL_law_988 rfl rfl ?_
  refine g_iconst (v := 3) dL_law_989 (by decide) ?_
  refine g_iadd dL_law_990 ?_
  refine g_sld dL_law_991 xl_3 (ixw (k := 3) rfl (by omega)) (by omega) ?_
  refine g_aload_x dL_law_992 rfl rfl ?_
  refine g_iload_n (i := 3) dL_law_993 rfl rfl ?_
  refine g_iconst (v := 4) dL_law_994 (by decide) ?_
  refine g_iadd dL_law_995 ?_
  refine g_sld dL_law_996 xl_3 (ixw (k := 4) rfl (by omega)) (by omega) ?_
  refine g_callV (M' := mX8_edge) dL_law_997 lc_X8_edge ml_L_122 (mo_edge hf hm2 _ _ _ _) rfl rfl (by repeat' (first | assumption | exact rF_eq | refine rF_ne (by decide) ?_ | refine rF_a ?_ | exact rA_eq | refine rA_ne (by decide) ?_ | refine rA_f ?_)) rfl ⟨Nat.le_of_ble_eq_true rfl, Nat.le_of_ble_eq_true rfl, Nat.le_of_ble_eq_true rfl, Nat.le_of_ble_eq_true rfl⟩ (Nat.le_of_ble_eq_true rfl) ?_
  intro r_ h_ q_; obtain ⟨rfl, y1, y2⟩ := q_
  have hx2 := rx_hi x1 y2
  refine g_icmp_eq (tgt := 1306) dL_law_1000 (by decide) (fun hc1000 => ?_) (fun hc1000 => ?_)
  · have hd1000 := i_eq.mp hc1000; (try simp (disch := omega) only [nT, t_m1000100, t_m1000010, t_m1000003, t_m1000002, t_m1000001, t_m1000000, t_m65535, t_m1000, t_m3, t_m1, t_0, t_1, t_2, t_3, t_4, t_5, t_6, t_7, t_8, t_9, t_10, t_11, t_12, t_13, t_15, t_16, t_20, t_21, t_22, t_32, t_40, t_41, t_48, t_49, t_57, t_59, t_60, t_63, t_72, t_76, t_88, t_100, t_144, t_200, t_255, t_288, t_400, t_800, t_999, t_1000, t_1024, t_1200, t_1600, t_3200, t_100000, t_200000, t_252645135, t_858993459, t_1431655765, u_m1000002, u_m1000001, u_m1000, u_m3, u_m1, u_0, u_1, u_2, u_3, u_4, u_5, u_7, u_8, u_10, u_11, u_15, u_60, u_100, u_255, u_999, u_1000, u_100000, u_4294967295] at hd1000)
    exact K _ _ _ _ _ _ _ _ _ _ _ ⟨wfs_st fS _, fP, fA, fT, fR, fG, fW, fQ⟩ hx2 y1
  · have hd1000 := mt i_eq.mpr hc1000; (try simp (disch := omega) only [nT, t_m1000100, t_m1000010, t_m1000003, t_m1000002, t_m1000001, t_m1000000, t_m65535, t_m1000, t_m3, t_m1, t_0, t_1, t_2, t_3, t_4, t_5, t_6, t_7, t_8, t_9, t_10, t_11, t_12, t_13, t_15, t_16, t_20, t_21, t_22, t_32, t_40, t_41, t_48, t_49, t_57, t_59, t_60, t_63, t_72, t_76, t_88, t_100, t_144, t_200, t_255, t_288, t_400, t_800, t_999, t_1000, t_1024, t_1200, t_1600, t_3200, t_100000, t_200000, t_252645135, t_858993459, t_1431655765, u_m1000002, u_m1000001, u_m1000, u_m3, u_m1, u_0, u_1, u_2, u_3, u_4, u_5, u_7, u_8, u_10, u_11, u_15, u_60, u_100, u_255, u_999, u_1000, u_100000, u_4294967295] at hd1000); exact absurd rfl hc1000
theorem lw_c_die (hi : i + 6 ≤ L) (hL : L ≤ 3072) (hf : WF w P A T R G W pt) (hx : RX w P E A T R G W pt fl h) (hm : RM w P E A T R G W pt fl h) (K : ∀ (w : SH) (P : TP) (E : ST2) (A : LA) (T : TS) (R : RS) (G : GL2) (W : WA) (pt : PT) (fl : Int32) (h' : HH), WF w P A T R G W pt → RX w P E A T R G W pt fl h' → RM w P E A T R G W pt fl h' → GG (EL L xs) 75 216376 1306 [hX, .ref 0, .ref 44, .int (nI i)] [] h') : GG (EL L xs) 75 216376 1005 [hX, .ref 0, .ref 44, .int (nI i)] [] h := by
  have e0 := hx.1.1.1
  obtain ⟨fS, fP, fA, fT, fR, fG, fW, fQ⟩ := id hf
  refine g_aload_n (i := 1) dL_law_1005 rfl rfl ?_
  refine g_aload_x dL_law_1006 rfl rfl ?_
  refine g_iload_n (i := 3) dL_law_1007 rfl rfl ?_
  refine g_iconst (v := 1) dL_law_1008 (by decide) ?_
  refine g_iadd dL_law_1009 ?_
  refine g_sld dL_law_1010 xl_3 (ixw (k := 1) rfl (by omega)) (by omega) ?_
  refine g_aload_x dL_law_1011 rfl rfl ?_
  refine g_iload_n (i := 3) dL_law_1012 rfl rfl ?_
  refine g_iconst (v := 2) dL_law_1013 (by decide) ?_
  refine g_iadd dL_law_1014 ?_
  refine g_sld dL_law_1015 xl_3 (ixw (k := 2) rfl (by omega)) (by omega) ?_
  refine g_aload_x dL_law_1016 rfl rfl ?_
  refine g_iload_n (i := 3) dL_law_1017 rfl rfl ?_
  refine g_iconst (v := 3) dL_law_1018 (by decide) ?_
  refine g_iadd dL_law_1019 ?_
  refine g_sld dL_law_1020 xl_3 (ixw (k := 3) rfl (by omega)) (by omega) ?_
  refine g_aload_x dL_law_1021 rfl rfl ?_
  refine g_iload_n (i := 3) dL_law_1022 rfl rfl ?_
  refine g_iconst (v := 4) dL_law_1023 (by decide) ?_
  refine g_iadd dL_law_1024 ?_
  refine g_sld dL_law_1025 xl_3 (ixw (k := 4) rfl (by omega)) (by omega) ?_
  refine g_callV (M' := mX7_die) dL_law_1026 lc_X7_die ml_L_123 (xo_die hf hx _ _ _ _) rfl rfl (by repeat' (first | assumption | exact rF_eq | refine rF_ne (by decide) ?_ | refine rF_a ?_ | exact rA_eq | refine rA_ne (by decide) ?_ | refine rA_f ?_)) rfl ⟨Nat.le_of_ble_eq_true rfl, Nat.le_of_ble_eq_true rfl, Nat.le_of_ble_eq_true rfl, Nat.le_of_ble_eq_true rfl⟩ (Nat.le_of_ble_eq_true rfl) ?_
  intro r_ h_ q_; obtain ⟨rfl, x1, x2⟩ := q_
  have hm2 := rm_lo hm x2
  have e44 := hm2.2.1.1
  refine g_aload_n (i := 2) dL_law_1029 rfl rfl ?_
  refine g_aload_x dL_law_1030 rfl rfl ?_
  refine g_iload_n (i := 3) dL_law_1031 rfl rfl ?_
  refine g_iconst (v := 1) dL_law_1032 (by decide) ?_
  refine g_iadd dL_law_1033 ?_
  refine g_sld dL_law_1034 xl_3 (ixw (k := 1) rfl (by omega)) (by omega) ?_
  refine g_aload_x dL_law_1035 rfl rfl ?_
  refine g_iload_n (i := 3) dL_law_1036 rfl rfl ?_
  refine g_iconst (v := 2) dL_law_1037 (by decide) ?_
  refine g_iadd dL_law_1038 ?_
  refine g_sld dL_law_1039 xl_3 (ixw (k := 2) rfl (by omega)) (by omega) ?_
  refine g_aload_x dL_law_1040 rfl rfl ?_
  refine g_iload_n (i := 3) dL_law_1041 rfl rfl ?_
  refine g_iconst (v := 3) dL_law_1042 (by decide) ?_
  refine g_iadd dL_law_1043 ?_
  refine g_sld dL_law_1044 xl_3 (ixw (k := 3) rfl (by omega)) (by omega) ?_
  refine g_aload_x dL_law_1045 rfl rfl ?_
  refine g_iload_n (i := 3) dL_law_1046 rfl rfl ?_
  refine g_iconst (v := 4) dL_law_1047 (by decide) ?_
  refine g_iadd dL_law_1048 ?_
  refine g_sld dL_law_1049 xl_3 (ixw (k := 4) rfl (by omega)) (by omega) ?_
  refine g_callV (M' := mX8_die) dL_law_1050 lc_X8_die ml_L_126 (mo_die hf hm2 _ _ _ _) rfl rfl (by repeat' (first | assumption | exact rF_eq | refine rF_ne (by decide) ?_ | refine rF_a ?_ | exact rA_eq | refine rA_ne (by decide) ?_ | refine rA_f ?_)) rfl ⟨Nat.le_of_ble_eq_true rfl, Nat.le_of_ble_eq_true rfl, Nat.le_of_ble_eq_true rfl, Nat.le_of_ble_eq_true rfl⟩ (Nat.le_of_ble_eq_true rfl) ?_
  intro r_ h_ q_; obtain ⟨rfl, y1, y2⟩ := q_
  have hx2 := rx_hi x1 y2
  refine g_icmp_eq (tgt := 1306) dL_law_1053 (by decide) (fun hc1053 => ?_) (fun hc1053 => ?_)
  · have hd1053 := i_eq.mp hc1053; (try simp (disch := omega) only [nT, t_m1000100, t_m1000010, t_m1000003, t_m1000002, t_m1000001, t_m1000000, t_m65535, t_m1000, t_m3, t_m1, t_0, t_1, t_2, t_3, t_4, t_5, t_6, t_7, t_8, t_9, t_10, t_11, t_12, t_13, t_15, t_16, t_20, t_21, t_22, t_32, t_40, t_41, t_48, t_49, t_57, t_59, t_60, t_63, t_72, t_76, t_88, t_100, t_144, t_200, t_255, t_288, t_400, t_800, t_999, t_1000, t_1024, t_1200, t_1600, t_3200, t_100000, t_200000, t_252645135, t_858993459, t_1431655765, u_m1000002, u_m1000001, u_m1000, u_m3, u_m1, u_0, u_1, u_2, u_3, u_4, u_5, u_7, u_8, u_10, u_11, u_15, u_60, u_100, u_255, u_999, u_1000, u_100000, u_4294967295] at hd1053)
    exact K _ _ _ _ _ _ _ _ _ _ _ ⟨fS, fP, fA, fT, fR, fG, wf_die fW _ _ _ _, fQ⟩ hx2 y1
  · have hd1053 := mt i_eq.mpr hc1053; (try simp (disch := omega) only [nT, t_m1000100, t_m1000010, t_m1000003, t_m1000002, t_m1000001, t_m1000000, t_m65535, t_m1000, t_m3, t_m1, t_0, t_1, t_2, t_3, t_4, t_5, t_6, t_7, t_8, t_9, t_10, t_11, t_12, t_13, t_15, t_16, t_20, t_21, t_22, t_32, t_40, t_41, t_48, t_49, t_57, t_59, t_60, t_63, t_72, t_76, t_88, t_100, t_144, t_200, t_255, t_288, t_400, t_800, t_999, t_1000, t_1024, t_1200, t_1600, t_3200, t_100000, t_200000, t_252645135, t_858993459, t_1431655765, u_m1000002, u_m1000001, u_m1000, u_m3, u_m1, u_0, u_1, u_2, u_3, u_4, u_5, u_7, u_8, u_10, u_11, u_15, u_60, u_100, u_255, u_999, u_1000, u_100000, u_4294967295] at hd1053); exact absurd rfl hc1053
theorem lw_c_odd (hi : i + 6 ≤ L) (hL : L ≤ 3072) (hf : WF w P A T R G W pt) (hx : RX w P E A T R G W pt fl h) (hm : RM w P E A T R G W pt fl h) (K : ∀ (w : SH) (P : TP) (E : ST2) (A : LA) (T : TS) (R : RS) (G : GL2) (W : WA) (pt : PT) (fl : Int32) (h' : HH), WF w P A T R G W pt → RX w P E A T R G W pt fl h' → RM w P E A T R G W pt fl h' → GG (EL L xs) 75 216376 1306 [hX, .ref 0, .ref 44, .int (nI i)] [] h') : GG (EL L xs) 75 216376 1058 [hX, .ref 0, .ref 44, .int (nI i)] [] h := by
  have e0 := hx.1.1.1
  obtain ⟨fS, fP, fA, fT, fR, fG, fW, fQ⟩ := id hf
  refine g_aload_n (i := 1) dL_law_1058 rfl rfl ?_
  refine g_aload_x dL_law_1059 rfl rfl ?_
  refine g_iload_n (i := 3) dL_law_1060 rfl rfl ?_
  refine g_iconst (v := 1) dL_law_1061 (by decide) ?_
  refine g_iadd dL_law_1062 ?_
  refine g_sld dL_law_1063 xl_3 (ixw (k := 1) rfl (by omega)) (by omega) ?_
  refine g_aload_x dL_law_1064 rfl rfl ?_
  refine g_iload_n (i := 3) dL_law_1065 rfl rfl ?_
  refine g_iconst (v := 2) dL_law_1066 (by decide) ?_
  refine g_iadd dL_law_1067 ?_
  refine g_sld dL_law_1068 xl_3 (ixw (k := 2) rfl (by omega)) (by omega) ?_
  refine g_aload_x dL_law_1069 rfl rfl ?_
  refine g_iload_n (i := 3) dL_law_1070 rfl rfl ?_
  refine g_iconst (v := 3) dL_law_1071 (by decide) ?_
  refine g_iadd dL_law_1072 ?_
  refine g_sld dL_law_1073 xl_3 (ixw (k := 3) rfl (by omega)) (by omega) ?_
  refine g_callV (M' := mX7_odd) dL_law_1074 lc_X7_odd ml_L_127 (xo_odd hf hx _ _ _) rfl rfl (by repeat' (first | assumption | exact rF_eq | refine rF_ne (by decide) ?_ | refine rF_a ?_ | exact rA_eq | refine rA_ne (by decide) ?_ | refine rA_f ?_)) rfl ⟨Nat.le_of_ble_eq_true rfl, Nat.le_of_ble_eq_true rfl, Nat.le_of_ble_eq_true rfl, Nat.le_of_ble_eq_true rfl⟩ (Nat.le_of_ble_eq_true rfl) ?_
  intro r_ h_ q_; obtain ⟨rfl, x1, x2⟩ := q_
  have hm2 := rm_lo hm x2
  have e44 := hm2.2.1.1
  refine g_aload_n (i := 2) dL_law_1077 rfl rfl ?_
  refine g_aload_x dL_law_1078 rfl rfl ?_
  refine g_iload_n (i := 3) dL_law_1079 rfl rfl ?_
  refine g_iconst (v := 1) dL_law_1080 (by decide) ?_
  refine g_iadd dL_law_1081 ?_
  refine g_sld dL_law_1082 xl_3 (ixw (k := 1) rfl (by omega)) (by omega) ?_
  refine g_aload_x dL_law_1083 rfl rfl ?_
  refine g_iload_n (i := 3) dL_law_1084 rfl rfl ?_
  refine g_iconst (v := 2) dL_law_1085 (by decide) ?_
  refine g_iadd dL_law_1086 ?_
  refine g_sld dL_law_1087 xl_3 (ixw (k := 2) rfl (by omega)) (by omega) ?_
  refine g_aload_x dL_law_1088 rfl rfl ?_
  refine g_iload_n (i := 3) dL_law_1089 rfl rfl ?_
  refine g_iconst (v := 3) dL_law_1090 (by decide) ?_
  refine g_iadd dL_law_1091 ?_
  refine g_sld dL_law_1092 xl_3 (ixw (k := 3) rfl (by omega)) (by omega) ?_
  refine g_callV (M' := mX8_odd) dL_law_1093 lc_X8_odd ml_L_130 (mo_odd hf hm2 _ _ _) rfl rfl (by repeat' (first | assumption | exact rF_eq | refine rF_ne (by decide) ?_ | refine rF_a ?_ | exact rA_eq | refine rA_ne (by decide) ?_ | refine rA_f ?_)) rfl ⟨Nat.le_of_ble_eq_true rfl, Nat.le_of_ble_eq_true rfl, Nat.le_of_ble_eq_true rfl, Nat.le_of_ble_eq_true rfl⟩ (Nat.le_of_ble_eq_true rfl) ?_
  intro r_ h_ q_; obtain ⟨rfl, y1, y2⟩ := q_
  have hx2 := rx_hi x1 y2
  refine g_icmp_eq (tgt := 1306) dL_law_1096 (by decide) (fun hc1096 => ?_) (fun hc1096 => ?_)
  · have hd1096 := i_eq.mp hc1096; (try simp (disch := omega) only [nT, t_m1000100, t_m1000010, t_m1000003, t_m1000002, t_m1000001, t_m1000000, t_m65535, t_m1000, t_m3, t_m1, t_0, t_1, t_2, t_3, t_4, t_5, t_6, t_7, t_8, t_9, t_10, t_11, t_12, t_13, t_15, t_16, t_20, t_21, t_22, t_32, t_40, t_41, t_48, t_49, t_57, t_59, t_60, t_63, t_72, t_76, t_88, t_100, t_144, t_200, t_255, t_288, t_400, t_800, t_999, t_1000, t_1024, t_1200, t_1600, t_3200, t_100000, t_200000, t_252645135, t_858993459, t_1431655765, u_m1000002, u_m1000001, u_m1000, u_m3, u_m1, u_0, u_1, u_2, u_3, u_4, u_5, u_7, u_8, u_10, u_11, u_15, u_60, u_100, u_255, u_999, u_1000, u_100000, u_4294967295] at hd1096)
    exact K _ _ _ _ _ _ _ _ _ _ _ ⟨fS, fP, fA, fT, fR, fG, fW, fQ⟩ hx2 y1
  · have hd1096 := mt i_eq.mpr hc1096; (try simp (disch := omega) only [nT, t_m1000100, t_m1000010, t_m1000003, t_m1000002, t_m1000001, t_m1000000, t_m65535, t_m1000, t_m3, t_m1, t_0, t_1, t_2, t_3, t_4, t_5, t_6, t_7, t_8, t_9, t_10, t_11, t_12, t_13, t_15, t_16, t_20, t_21, t_22, t_32, t_40, t_41, t_48, t_49, t_57, t_59, t_60, t_63, t_72, t_76, t_88, t_100, t_144, t_200, t_255, t_288, t_400, t_800, t_999, t_1000, t_1024, t_1200, t_1600, t_3200, t_100000, t_200000, t_252645135, t_858993459, t_1431655765, u_m1000002, u_m1000001, u_m1000, u_m3, u_m1, u_0, u_1, u_2, u_3, u_4, u_5, u_7, u_8, u_10, u_11, u_15, u_60, u_100, u_255, u_999, u_1000, u_100000, u_4294967295] at hd1096); exact absurd rfl hc1096
theorem lw_c_join (hi : i + 6 ≤ L) (hL : L ≤ 3072) (hf : WF w P A T R G W pt) (hx : RX w P E A T R G W pt fl h) (hm : RM w P E A T R G W pt fl h) (K : ∀ (w : SH) (P : TP) (E : ST2) (A : LA) (T : TS) (R : RS) (G : GL2) (W : WA) (pt : PT) (fl : Int32) (h' : HH), WF w P A T R G W pt → RX w P E A T R G W pt fl h' → RM w P E A T R G W pt fl h' → GG (EL L xs) 75 216376 1306 [hX, .ref 0, .ref 44, .int (nI i)] [] h') : GG (EL L xs) 75 216376 1101 [hX, .ref 0, .ref 44, .int (nI i)] [] h := by
  have e0 := hx.1.1.1
  obtain ⟨fS, fP, fA, fT, fR, fG, fW, fQ⟩ := id hf
  refine g_aload_n (i := 1) dL_law_1101 rfl rfl ?_
  refine g_aload_x dL_law_1102 rfl rfl ?_
  refine g_iload_n (i := 3) dL_law_1103 rfl rfl ?_
  refine g_iconst (v := 1) dL_law_1104 (by decide) ?_
  refine g_iadd dL_law_1105 ?_
  refine g_sld dL_law_1106 xl_3 (ixw (k := 1) rfl (by omega)) (by omega) ?_
  refine g_aload_x dL_law_1107 rfl rfl ?_
  refine g_iload_n (i := 3) dL_law_1108 rfl rfl ?_
  refine g_iconst (v := 2) dL_law_1109 (by decide) ?_
  refine g_iadd dL_law_1110 ?_
  refine g_sld dL_law_1111 xl_3 (ixw (k := 2) rfl (by omega)) (by omega) ?_
  refine g_aload_x dL_law_1112 rfl rfl ?_
  refine g_iload_n (i := 3) dL_law_1113 rfl rfl ?_
  refine g_iconst (v := 3) dL_law_1114 (by decide) ?_
  refine g_iadd dL_law_1115 ?_
  refine g_sld dL_law_1116 xl_3 (ixw (k := 3) rfl (by omega)) (by omega) ?_
  refine g_callV (M' := mX7_join) dL_law_1117 lc_X7_join ml_L_131 (xo_join hf hx _ _ _) rfl rfl (by repeat' (first | assumption | exact rF_eq | refine rF_ne (by decide) ?_ | refine rF_a ?_ | exact rA_eq | refine rA_ne (by decide) ?_ | refine rA_f ?_)) rfl ⟨Nat.le_of_ble_eq_true rfl, Nat.le_of_ble_eq_true rfl, Nat.le_of_ble_eq_true rfl, Nat.le_of_ble_eq_true rfl⟩ (Nat.le_of_ble_eq_true rfl) ?_
  intro r_ h_ q_; obtain ⟨rfl, x1, x2⟩ := q_
  have hm2 := rm_lo hm x2
  have e44 := hm2.2.1.1
  refine g_aload_n (i := 2) dL_law_1120 rfl rfl ?_
  refine g_aload_x dL_law_1121 rfl rfl ?_
  refine g_iload_n (i := 3) dL_law_1122 rfl rfl ?_
  refine g_iconst (v := 1) dL_law_1123 (by decide) ?_
  refine g_iadd dL_law_1124 ?_
  refine g_sld dL_law_1125 xl_3 (ixw (k := 1) rfl (by omega)) (by omega) ?_
  refine g_aload_x dL_law_1126 rfl rfl ?_
  refine g_iload_n (i := 3) dL_law_1127 rfl rfl ?_
  refine g_iconst (v := 2) dL_law_1128 (by decide) ?_
  refine g_iadd dL_law_1129 ?_
  refine g_sld dL_law_1130 xl_3 (ixw (k := 2) rfl (by omega)) (by omega) ?_
  refine g_aload_x dL_law_1131 rfl rfl ?_
  refine g_iload_n (i := 3) dL_law_1132 rfl rfl ?_
  refine g_iconst (v := 3) dL_law_1133 (by decide) ?_
  refine g_iadd dL_law_1134 ?_
  refine g_sld dL_law_1135 xl_3 (ixw (k := 3) rfl (by omega)) (by omega) ?_
  refine g_callV (M' := mX8_join) dL_law_1136 lc_X8_join ml_L_134 (mo_join hf hm2 _ _ _) rfl rfl (by repeat' (first | assumption | exact rF_eq | refine rF_ne (by decide) ?_ | refine rF_a ?_ | exact rA_eq | refine rA_ne (by decide) ?_ | refine rA_f ?_)) rfl ⟨Nat.le_of_ble_eq_true rfl, Nat.le_of_ble_eq_true rfl, Nat.le_of_ble_eq_true rfl, Nat.le_of_ble_eq_true rfl⟩ (Nat.le_of_ble_eq_true rfl) ?_
  intro r_ h_ q_; obtain ⟨rfl, y1, y2⟩ := q_
  have hx2 := rx_hi x1 y2
  refine g_icmp_eq (tgt := 1306) dL_law_1139 (by decide) (fun hc1139 => ?_) (fun hc1139 => ?_)
  · have hd1139 := i_eq.mp hc1139; (try simp (disch := omega) only [nT, t_m1000100, t_m1000010, t_m1000003, t_m1000002, t_m1000001, t_m1000000, t_m65535, t_m1000, t_m3, t_m1, t_0, t_1, t_2, t_3, t_4, t_5, t_6, t_7, t_8, t_9, t_10, t_11, t_12, t_13, t_15, t_16, t_20, t_21, t_22, t_32, t_40, t_41, t_48, t_49, t_57, t_59, t_60, t_63, t_72, t_76, t_88, t_100, t_144, t_200, t_255, t_288, t_400, t_800, t_999, t_1000, t_1024, t_1200, t_1600, t_3200, t_100000, t_200000, t_252645135, t_858993459, t_1431655765, u_m1000002, u_m1000001, u_m1000, u_m3, u_m1, u_0, u_1, u_2, u_3, u_4, u_5, u_7, u_8, u_10, u_11, u_15, u_60, u_100, u_255, u_999, u_1000, u_100000, u_4294967295] at hd1139)
    exact K _ _ _ _ _ _ _ _ _ _ _ ⟨fS, fP, fA, fT, fR, fG, fW, fQ⟩ hx2 y1
  · have hd1139 := mt i_eq.mpr hc1139; (try simp (disch := omega) only [nT, t_m1000100, t_m1000010, t_m1000003, t_m1000002, t_m1000001, t_m1000000, t_m65535, t_m1000, t_m3, t_m1, t_0, t_1, t_2, t_3, t_4, t_5, t_6, t_7, t_8, t_9, t_10, t_11, t_12, t_13, t_15, t_16, t_20, t_21, t_22, t_32, t_40, t_41, t_48, t_49, t_57, t_59, t_60, t_63, t_72, t_76, t_88, t_100, t_144, t_200, t_255, t_288, t_400, t_800, t_999, t_1000, t_1024, t_1200, t_1600, t_3200, t_100000, t_200000, t_252645135, t_858993459, t_1431655765, u_m1000002, u_m1000001, u_m1000, u_m3, u_m1, u_0, u_1, u_2, u_3, u_4, u_5, u_7, u_8, u_10, u_11, u_15, u_60, u_100, u_255, u_999, u_1000, u_100000, u_4294967295] at hd1139); exact absurd rfl hc1139
theorem lw_c_best (hi : i + 6 ≤ L) (hL : L ≤ 3072) (hf : WF w P A T R G W pt) (hx : RX w P E A T R G W pt fl h) (hm : RM w P E A T R G W pt fl h) (K : ∀ (w : SH) (P : TP) (E : ST2) (A : LA) (T : TS) (R : RS) (G : GL2) (W : WA) (pt : PT) (fl : Int32) (h' : HH), WF w P A T R G W pt → RX w P E A T R G W pt fl h' → RM w P E A T R G W pt fl h' → GG (EL L xs) 75 216376 1306 [hX, .ref 0, .ref 44, .int (nI i)] [] h') : GG (EL L xs) 75 216376 1144 [hX, .ref 0, .ref 44, .int (nI i)] [] h := by
  have e0 := hx.1.1.1
  obtain ⟨fS, fP, fA, fT, fR, fG, fW, fQ⟩ := id hf
  refine g_aload_n (i := 1) dL_law_1144 rfl rfl ?_
  refine g_aload_x dL_law_1145 rfl rfl ?_
  refine g_iload_n (i := 3) dL_law_1146 rfl rfl ?_
  refine g_iconst (v := 1) dL_law_1147 (by decide) ?_
  refine g_iadd dL_law_1148 ?_
  refine g_sld dL_law_1149 xl_3 (ixw (k := 1) rfl (by omega)) (by omega) ?_
  refine g_callV (M' := mX7_best) dL_law_1150 lc_X7_best ml_L_135 (xo_best hf hx _) rfl rfl (by repeat' (first | assumption | exact rF_eq | refine rF_ne (by decide) ?_ | refine rF_a ?_ | exact rA_eq | refine rA_ne (by decide) ?_ | refine rA_f ?_)) rfl ⟨Nat.le_of_ble_eq_true rfl, Nat.le_of_ble_eq_true rfl, Nat.le_of_ble_eq_true rfl, Nat.le_of_ble_eq_true rfl⟩ (Nat.le_of_ble_eq_true rfl) ?_
  intro r_ h_ q_; obtain ⟨rfl, x1, x2⟩ := q_
  have hm2 := rm_lo hm x2
  have e44 := hm2.2.1.1
  refine g_aload_n (i := 2) dL_law_1153 rfl rfl ?_
  refine g_aload_x dL_law_1154 rfl rfl ?_
  refine g_iload_n (i := 3) dL_law_1155 rfl rfl ?_
  refine g_iconst (v := 1) dL_law_1156 (by decide) ?_
  refine g_iadd dL_law_1157 ?_
  refine g_sld dL_law_1158 xl_3 (ixw (k := 1) rfl (by omega)) (by omega) ?_
  refine g_callV (M' := mX8_best) dL_law_1159 lc_X8_best ml_L_138 (mo_best hf hm2 _) rfl rfl (by repeat' (first | assumption | exact rF_eq | refine rF_ne (by decide) ?_ | refine rF_a ?_ | exact rA_eq | refine rA_ne (by decide) ?_ | refine rA_f ?_)) rfl ⟨Nat.le_of_ble_eq_true rfl, Nat.le_of_ble_eq_true rfl, Nat.le_of_ble_eq_true rfl, Nat.le_of_ble_eq_true rfl⟩ (Nat.le_of_ble_eq_true rfl) ?_
  intro r_ h_ q_; obtain ⟨rfl, y1, y2⟩ := q_
  have hx2 := rx_hi x1 y2
  refine g_icmp_eq (tgt := 1306) dL_law_1162 (by decide) (fun hc1162 => ?_) (fun hc1162 => ?_)
  · have hd1162 := i_eq.mp hc1162; (try simp (disch := omega) only [nT, t_m1000100, t_m1000010, t_m1000003, t_m1000002, t_m1000001, t_m1000000, t_m65535, t_m1000, t_m3, t_m1, t_0, t_1, t_2, t_3, t_4, t_5, t_6, t_7, t_8, t_9, t_10, t_11, t_12, t_13, t_15, t_16, t_20, t_21, t_22, t_32, t_40, t_41, t_48, t_49, t_57, t_59, t_60, t_63, t_72, t_76, t_88, t_100, t_144, t_200, t_255, t_288, t_400, t_800, t_999, t_1000, t_1024, t_1200, t_1600, t_3200, t_100000, t_200000, t_252645135, t_858993459, t_1431655765, u_m1000002, u_m1000001, u_m1000, u_m3, u_m1, u_0, u_1, u_2, u_3, u_4, u_5, u_7, u_8, u_10, u_11, u_15, u_60, u_100, u_255, u_999, u_1000, u_100000, u_4294967295] at hd1162)
    exact K _ _ _ _ _ _ _ _ _ _ _ ⟨fS, fP, fA, fT, fR, fG, fW, fQ⟩ hx2 y1
  · have hd1162 := mt i_eq.mpr hc1162; (try simp (disch := omega) only [nT, t_m1000100, t_m1000010, t_m1000003, t_m1000002, t_m1000001, t_m1000000, t_m65535, t_m1000, t_m3, t_m1, t_0, t_1, t_2, t_3, t_4, t_5, t_6, t_7, t_8, t_9, t_10, t_11, t_12, t_13, t_15, t_16, t_20, t_21, t_22, t_32, t_40, t_41, t_48, t_49, t_57, t_59, t_60, t_63, t_72, t_76, t_88, t_100, t_144, t_200, t_255, t_288, t_400, t_800, t_999, t_1000, t_1024, t_1200, t_1600, t_3200, t_100000, t_200000, t_252645135, t_858993459, t_1431655765, u_m1000002, u_m1000001, u_m1000, u_m3, u_m1, u_0, u_1, u_2, u_3, u_4, u_5, u_7, u_8, u_10, u_11, u_15, u_60, u_100, u_255, u_999, u_1000, u_100000, u_4294967295] at hd1162); exact absurd rfl hc1162
theorem lw_c_lot (hi : i + 6 ≤ L) (hL : L ≤ 3072) (hf : WF w P A T R G W pt) (hx : RX w P E A T R G W pt fl h) (hm : RM w P E A T R G W pt fl h) (K : ∀ (w : SH) (P : TP) (E : ST2) (A : LA) (T : TS) (R : RS) (G : GL2) (W : WA) (pt : PT) (fl : Int32) (h' : HH), WF w P A T R G W pt → RX w P E A T R G W pt fl h' → RM w P E A T R G W pt fl h' → GG (EL L xs) 75 216376 1306 [hX, .ref 0, .ref 44, .int (nI i)] [] h') : GG (EL L xs) 75 216376 1167 [hX, .ref 0, .ref 44, .int (nI i)] [] h := by
  have e0 := hx.1.1.1
  obtain ⟨fS, fP, fA, fT, fR, fG, fW, fQ⟩ := id hf
  refine g_aload_n (i := 1) dL_law_1167 rfl rfl ?_
  refine g_callV (M' := mX7_lot) dL_law_1168 lc_X7_lot ml_L_139 (xo_lot hf hx) rfl rfl (by repeat' (first | assumption | exact rF_eq | refine rF_ne (by decide) ?_ | refine rF_a ?_ | exact rA_eq | refine rA_ne (by decide) ?_ | refine rA_f ?_)) rfl ⟨Nat.le_of_ble_eq_true rfl, Nat.le_of_ble_eq_true rfl, Nat.le_of_ble_eq_true rfl, Nat.le_of_ble_eq_true rfl⟩ (Nat.le_of_ble_eq_true rfl) ?_
  intro r_ h_ q_; obtain ⟨rfl, x1, x2⟩ := q_
  have hm2 := rm_lo hm x2
  have e44 := hm2.2.1.1
  refine g_aload_n (i := 2) dL_law_1171 rfl rfl ?_
  refine g_callV (M' := mX8_lot) dL_law_1172 lc_X8_lot ml_L_142 (mo_lot hf hm2) rfl rfl (by repeat' (first | assumption | exact rF_eq | refine rF_ne (by decide) ?_ | refine rF_a ?_ | exact rA_eq | refine rA_ne (by decide) ?_ | refine rA_f ?_)) rfl ⟨Nat.le_of_ble_eq_true rfl, Nat.le_of_ble_eq_true rfl, Nat.le_of_ble_eq_true rfl, Nat.le_of_ble_eq_true rfl⟩ (Nat.le_of_ble_eq_true rfl) ?_
  intro r_ h_ q_; obtain ⟨rfl, y1, y2⟩ := q_
  have hx2 := rx_hi x1 y2
  refine g_icmp_eq (tgt := 1306) dL_law_1175 (by decide) (fun hc1175 => ?_) (fun hc1175 => ?_)
  · have hd1175 := i_eq.mp hc1175; (try simp (disch := omega) only [nT, t_m1000100, t_m1000010, t_m1000003, t_m1000002, t_m1000001, t_m1000000, t_m65535, t_m1000, t_m3, t_m1, t_0, t_1, t_2, t_3, t_4, t_5, t_6, t_7, t_8, t_9, t_10, t_11, t_12, t_13, t_15, t_16, t_20, t_21, t_22, t_32, t_40, t_41, t_48, t_49, t_57, t_59, t_60, t_63, t_72, t_76, t_88, t_100, t_144, t_200, t_255, t_288, t_400, t_800, t_999, t_1000, t_1024, t_1200, t_1600, t_3200, t_100000, t_200000, t_252645135, t_858993459, t_1431655765, u_m1000002, u_m1000001, u_m1000, u_m3, u_m1, u_0, u_1, u_2, u_3, u_4, u_5, u_7, u_8, u_10, u_11, u_15, u_60, u_100, u_255, u_999, u_1000, u_100000, u_4294967295] at hd1175)
    exact K _ _ _ _ _ _ _ _ _ _ _ ⟨fS, fP, fA, fT, fR, (show WfG (G.1, G.1, G.2.2) from ⟨fG.1, Nat.le_refl _⟩), fW, fQ⟩ hx2 y1
  · have hd1175 := mt i_eq.mpr hc1175; (try simp (disch := omega) only [nT, t_m1000100, t_m1000010, t_m1000003, t_m1000002, t_m1000001, t_m1000000, t_m65535, t_m1000, t_m3, t_m1, t_0, t_1, t_2, t_3, t_4, t_5, t_6, t_7, t_8, t_9, t_10, t_11, t_12, t_13, t_15, t_16, t_20, t_21, t_22, t_32, t_40, t_41, t_48, t_49, t_57, t_59, t_60, t_63, t_72, t_76, t_88, t_100, t_144, t_200, t_255, t_288, t_400, t_800, t_999, t_1000, t_1024, t_1200, t_1600, t_3200, t_100000, t_200000, t_252645135, t_858993459, t_1431655765, u_m1000002, u_m1000001, u_m1000, u_m3, u_m1, u_0, u_1, u_2, u_3, u_4, u_5, u_7, u_8, u_10, u_11, u_15, u_60, u_100, u_255, u_999, u_1000, u_100000, u_4294967295] at hd1175); exact absurd rfl hc1175
theorem lw_c_bins (hi : i + 6 ≤ L) (hL : L ≤ 3072) (hf : WF w P A T R G W pt) (hx : RX w P E A T R G W pt fl h) (hm : RM w P E A T R G W pt fl h) (K : ∀ (w : SH) (P : TP) (E : ST2) (A : LA) (T : TS) (R : RS) (G : GL2) (W : WA) (pt : PT) (fl : Int32) (h' : HH), WF w P A T R G W pt → RX w P E A T R G W pt fl h' → RM w P E A T R G W pt fl h' → GG (EL L xs) 75 216376 1306 [hX, .ref 0, .ref 44, .int (nI i)] [] h') : GG (EL L xs) 75 216376 1180 [hX, .ref 0, .ref 44, .int (nI i)] [] h := by
  have e0 := hx.1.1.1
  obtain ⟨fS, fP, fA, fT, fR, fG, fW, fQ⟩ := id hf
  refine g_aload_n (i := 1) dL_law_1180 rfl rfl ?_
  refine g_aload_x dL_law_1181 rfl rfl ?_
  refine g_iload_n (i := 3) dL_law_1182 rfl rfl ?_
  refine g_iconst (v := 1) dL_law_1183 (by decide) ?_
  refine g_iadd dL_law_1184 ?_
  refine g_sld dL_law_1185 xl_3 (ixw (k := 1) rfl (by omega)) (by omega) ?_
  refine g_callV (M' := mX7_bins) dL_law_1186 lc_X7_bins ml_L_143 (xo_bins hf hx _) rfl rfl (by repeat' (first | assumption | exact rF_eq | refine rF_ne (by decide) ?_ | refine rF_a ?_ | exact rA_eq | refine rA_ne (by decide) ?_ | refine rA_f ?_)) rfl ⟨Nat.le_of_ble_eq_true rfl, Nat.le_of_ble_eq_true rfl, Nat.le_of_ble_eq_true rfl, Nat.le_of_ble_eq_true rfl⟩ (Nat.le_of_ble_eq_true rfl) ?_
  intro r_ h_ q_; obtain ⟨rfl, x1, x2⟩ := q_
  have hm2 := rm_lo hm x2
  have e44 := hm2.2.1.1
  refine g_aload_n (i := 2) dL_law_1189 rfl rfl ?_
  refine g_aload_x dL_law_1190 rfl rfl ?_
  refine g_iload_n (i := 3) dL_law_1191 rfl rfl ?_
  refine g_iconst (v := 1) dL_law_1192 (by decide) ?_
  refine g_iadd dL_law_1193 ?_
  refine g_sld dL_law_1194 xl_3 (ixw (k := 1) rfl (by omega)) (by omega) ?_
  refine g_callV (M' := mX8_bins) dL_law_1195 lc_X8_bins ml_L_146 (mo_bins hf hm2 _) rfl rfl (by repeat' (first | assumption | exact rF_eq | refine rF_ne (by decide) ?_ | refine rF_a ?_ | exact rA_eq | refine rA_ne (by decide) ?_ | refine rA_f ?_)) rfl ⟨Nat.le_of_ble_eq_true rfl, Nat.le_of_ble_eq_true rfl, Nat.le_of_ble_eq_true rfl, Nat.le_of_ble_eq_true rfl⟩ (Nat.le_of_ble_eq_true rfl) ?_
  intro r_ h_ q_; obtain ⟨rfl, y1, y2⟩ := q_
  have hx2 := rx_hi x1 y2
  refine g_icmp_eq (tgt := 1306) dL_law_1198 (by decide) (fun hc1198 => ?_) (fun hc1198 => ?_)
  · have hd1198 := i_eq.mp hc1198; (try simp (disch := omega) only [nT, t_m1000100, t_m1000010, t_m1000003, t_m1000002, t_m1000001, t_m1000000, t_m65535, t_m1000, t_m3, t_m1, t_0, t_1, t_2, t_3, t_4, t_5, t_6, t_7, t_8, t_9, t_10, t_11, t_12, t_13, t_15, t_16, t_20, t_21, t_22, t_32, t_40, t_41, t_48, t_49, t_57, t_59, t_60, t_63, t_72, t_76, t_88, t_100, t_144, t_200, t_255, t_288, t_400, t_800, t_999, t_1000, t_1024, t_1200, t_1600, t_3200, t_100000, t_200000, t_252645135, t_858993459, t_1431655765, u_m1000002, u_m1000001, u_m1000, u_m3, u_m1, u_0, u_1, u_2, u_3, u_4, u_5, u_7, u_8, u_10, u_11, u_15, u_60, u_100, u_255, u_999, u_1000, u_100000, u_4294967295] at hd1198)
    exact K _ _ _ _ _ _ _ _ _ _ _ ⟨fS, fP, fA, fT, fR, fG, fW, fQ⟩ hx2 y1
  · have hd1198 := mt i_eq.mpr hc1198; (try simp (disch := omega) only [nT, t_m1000100, t_m1000010, t_m1000003, t_m1000002, t_m1000001, t_m1000000, t_m65535, t_m1000, t_m3, t_m1, t_0, t_1, t_2, t_3, t_4, t_5, t_6, t_7, t_8, t_9, t_10, t_11, t_12, t_13, t_15, t_16, t_20, t_21, t_22, t_32, t_40, t_41, t_48, t_49, t_57, t_59, t_60, t_63, t_72, t_76, t_88, t_100, t_144, t_200, t_255, t_288, t_400, t_800, t_999, t_1000, t_1024, t_1200, t_1600, t_3200, t_100000, t_200000, t_252645135, t_858993459, t_1431655765, u_m1000002, u_m1000001, u_m1000, u_m3, u_m1, u_0, u_1, u_2, u_3, u_4, u_5, u_7, u_8, u_10, u_11, u_15, u_60, u_100, u_255, u_999, u_1000, u_100000, u_4294967295] at hd1198); exact absurd rfl hc1198
theorem lw_c_held (hi : i + 6 ≤ L) (hL : L ≤ 3072) (hf : WF w P A T R G W pt) (hx : RX w P E A T R G W pt fl h) (hm : RM w P E A T R G W pt fl h) (K : ∀ (w : SH) (P : TP) (E : ST2) (A : LA) (T : TS) (R : RS) (G : GL2) (W : WA) (pt : PT) (fl : Int32) (h' : HH), WF w P A T R G W pt → RX w P E A T R G W pt fl h' → RM w P E A T R G W pt fl h' → GG (EL L xs) 75 216376 1306 [hX, .ref 0, .ref 44, .int (nI i)] [] h') : GG (EL L xs) 75 216376 1203 [hX, .ref 0, .ref 44, .int (nI i)] [] h := by
  have e0 := hx.1.1.1
  obtain ⟨fS, fP, fA, fT, fR, fG, fW, fQ⟩ := id hf
  refine g_aload_n (i := 1) dL_law_1203 rfl rfl ?_
  refine g_aload_x dL_law_1204 rfl rfl ?_
  refine g_iload_n (i := 3) dL_law_1205 rfl rfl ?_
  refine g_iconst (v := 1) dL_law_1206 (by decide) ?_
  refine g_iadd dL_law_1207 ?_
  refine g_sld dL_law_1208 xl_3 (ixw (k := 1) rfl (by omega)) (by omega) ?_
  refine g_aload_x dL_law_1209 rfl rfl ?_
  refine g_iload_n (i := 3) dL_law_1210 rfl rfl ?_
  refine g_iconst (v := 2) dL_law_1211 (by decide) ?_
  refine g_iadd dL_law_1212 ?_
  refine g_sld dL_law_1213 xl_3 (ixw (k := 2) rfl (by omega)) (by omega) ?_
  refine g_callV (M' := mX7_held) dL_law_1214 lc_X7_held ml_L_147 (xo_held hf hx _ _) rfl rfl (by repeat' (first | assumption | exact rF_eq | refine rF_ne (by decide) ?_ | refine rF_a ?_ | exact rA_eq | refine rA_ne (by decide) ?_ | refine rA_f ?_)) rfl ⟨Nat.le_of_ble_eq_true rfl, Nat.le_of_ble_eq_true rfl, Nat.le_of_ble_eq_true rfl, Nat.le_of_ble_eq_true rfl⟩ (Nat.le_of_ble_eq_true rfl) ?_
  intro r_ h_ q_; obtain ⟨rfl, x1, x2⟩ := q_
  have hm2 := rm_lo hm x2
  have e44 := hm2.2.1.1
  refine g_aload_n (i := 2) dL_law_1217 rfl rfl ?_
  refine g_aload_x dL_law_1218 rfl rfl ?_
  refine g_iload_n (i := 3) dL_law_1219 rfl rfl ?_
  refine g_iconst (v := 1) dL_law_1220 (by decide) ?_
  refine g_iadd dL_law_1221 ?_
  refine g_sld dL_law_1222 xl_3 (ixw (k := 1) rfl (by omega)) (by omega) ?_
  refine g_aload_x dL_law_1223 rfl rfl ?_
  refine g_iload_n (i := 3) dL_law_1224 rfl rfl ?_
  refine g_iconst (v := 2) dL_law_1225 (by decide) ?_
  refine g_iadd dL_law_1226 ?_
  refine g_sld dL_law_1227 xl_3 (ixw (k := 2) rfl (by omega)) (by omega) ?_
  refine g_callV (M' := mX8_held) dL_law_1228 lc_X8_held ml_L_150 (mo_held hf hm2 _ _) rfl rfl (by repeat' (first | assumption | exact rF_eq | refine rF_ne (by decide) ?_ | refine rF_a ?_ | exact rA_eq | refine rA_ne (by decide) ?_ | refine rA_f ?_)) rfl ⟨Nat.le_of_ble_eq_true rfl, Nat.le_of_ble_eq_true rfl, Nat.le_of_ble_eq_true rfl, Nat.le_of_ble_eq_true rfl⟩ (Nat.le_of_ble_eq_true rfl) ?_
  intro r_ h_ q_; obtain ⟨rfl, y1, y2⟩ := q_
  have hx2 := rx_hi x1 y2
  refine g_icmp_eq (tgt := 1306) dL_law_1231 (by decide) (fun hc1231 => ?_) (fun hc1231 => ?_)
  · have hd1231 := i_eq.mp hc1231; (try simp (disch := omega) only [nT, t_m1000100, t_m1000010, t_m1000003, t_m1000002, t_m1000001, t_m1000000, t_m65535, t_m1000, t_m3, t_m1, t_0, t_1, t_2, t_3, t_4, t_5, t_6, t_7, t_8, t_9, t_10, t_11, t_12, t_13, t_15, t_16, t_20, t_21, t_22, t_32, t_40, t_41, t_48, t_49, t_57, t_59, t_60, t_63, t_72, t_76, t_88, t_100, t_144, t_200, t_255, t_288, t_400, t_800, t_999, t_1000, t_1024, t_1200, t_1600, t_3200, t_100000, t_200000, t_252645135, t_858993459, t_1431655765, u_m1000002, u_m1000001, u_m1000, u_m3, u_m1, u_0, u_1, u_2, u_3, u_4, u_5, u_7, u_8, u_10, u_11, u_15, u_60, u_100, u_255, u_999, u_1000, u_100000, u_4294967295] at hd1231)
    exact K _ _ _ _ _ _ _ _ _ _ _ ⟨fS, fP, fA, fT, fR, fG, fW, fQ⟩ hx2 y1
  · have hd1231 := mt i_eq.mpr hc1231; (try simp (disch := omega) only [nT, t_m1000100, t_m1000010, t_m1000003, t_m1000002, t_m1000001, t_m1000000, t_m65535, t_m1000, t_m3, t_m1, t_0, t_1, t_2, t_3, t_4, t_5, t_6, t_7, t_8, t_9, t_10, t_11, t_12, t_13, t_15, t_16, t_20, t_21, t_22, t_32, t_40, t_41, t_48, t_49, t_57, t_59, t_60, t_63, t_72, t_76, t_88, t_100, t_144, t_200, t_255, t_288, t_400, t_800, t_999, t_1000, t_1024, t_1200, t_1600, t_3200, t_100000, t_200000, t_252645135, t_858993459, t_1431655765, u_m1000002, u_m1000001, u_m1000, u_m3, u_m1, u_0, u_1, u_2, u_3, u_4, u_5, u_7, u_8, u_10, u_11, u_15, u_60, u_100, u_255, u_999, u_1000, u_100000, u_4294967295] at hd1231); exact absurd rfl hc1231
theorem lw_c_chance (hi : i + 6 ≤ L) (hL : L ≤ 3072) (hf : WF w P A T R G W pt) (hx : RX w P E A T R G W pt fl h) (hm : RM w P E A T R G W pt fl h) (K : ∀ (w : SH) (P : TP) (E : ST2) (A : LA) (T : TS) (R : RS) (G : GL2) (W : WA) (pt : PT) (fl : Int32) (h' : HH), WF w P A T R G W pt → RX w P E A T R G W pt fl h' → RM w P E A T R G W pt fl h' → GG (EL L xs) 75 216376 1306 [hX, .ref 0, .ref 44, .int (nI i)] [] h') : GG (EL L xs) 75 216376 1236 [hX, .ref 0, .ref 44, .int (nI i)] [] h := by
  have e0 := hx.1.1.1
  obtain ⟨fS, fP, fA, fT, fR, fG, fW, fQ⟩ := id hf
  refine g_aload_n (i := 1) dL_law_1236 rfl rfl ?_
  refine g_aload_x dL_law_1237 rfl rfl ?_
  refine g_iload_n (i := 3) dL_law_1238 rfl rfl ?_
  refine g_iconst (v := 1) dL_law_1239 (by decide) ?_
  refine g_iadd dL_law_1240 ?_
  refine g_sld dL_law_1241 xl_3 (ixw (k := 1) rfl (by omega)) (by omega) ?_
  refine g_aload_x dL_law_1242 rfl rfl ?_
  refine g_iload_n (i := 3) dL_law_1243 rfl rfl ?_
  refine g_iconst (v := 2) dL_law_1244 (by decide) ?_
  refine g_iadd dL_law_1245 ?_
  refine g_sld dL_law_1246 xl_3 (ixw (k := 2) rfl (by omega)) (by omega) ?_
  refine g_callV (M' := mX7_chance) dL_law_1247 lc_X7_chance ml_L_151 (xo_chance hf hx _ _) rfl rfl (by repeat' (first | assumption | exact rF_eq | refine rF_ne (by decide) ?_ | refine rF_a ?_ | exact rA_eq | refine rA_ne (by decide) ?_ | refine rA_f ?_)) rfl ⟨Nat.le_of_ble_eq_true rfl, Nat.le_of_ble_eq_true rfl, Nat.le_of_ble_eq_true rfl, Nat.le_of_ble_eq_true rfl⟩ (Nat.le_of_ble_eq_true rfl) ?_
  intro r_ h_ q_; obtain ⟨rfl, x1, x2⟩ := q_
  have hm2 := rm_lo hm x2
  have e44 := hm2.2.1.1
  refine g_aload_n (i := 2) dL_law_1250 rfl rfl ?_
  refine g_aload_x dL_law_1251 rfl rfl ?_
  refine g_iload_n (i := 3) dL_law_1252 rfl rfl ?_
  refine g_iconst (v := 1) dL_law_1253 (by decide) ?_
  refine g_iadd dL_law_1254 ?_
  refine g_sld dL_law_1255 xl_3 (ixw (k := 1) rfl (by omega)) (by omega) ?_
  refine g_aload_x dL_law_1256 rfl rfl ?_
  refine g_iload_n (i := 3) dL_law_1257 rfl rfl ?_
  refine g_iconst (v := 2) dL_law_1258 (by decide) ?_
  refine g_iadd dL_law_1259 ?_
  refine g_sld dL_law_1260 xl_3 (ixw (k := 2) rfl (by omega)) (by omega) ?_
  refine g_callV (M' := mX8_chance) dL_law_1261 lc_X8_chance ml_L_155 (mo_chance hf hm2 _ _) rfl rfl (by repeat' (first | assumption | exact rF_eq | refine rF_ne (by decide) ?_ | refine rF_a ?_ | exact rA_eq | refine rA_ne (by decide) ?_ | refine rA_f ?_)) rfl ⟨Nat.le_of_ble_eq_true rfl, Nat.le_of_ble_eq_true rfl, Nat.le_of_ble_eq_true rfl, Nat.le_of_ble_eq_true rfl⟩ (Nat.le_of_ble_eq_true rfl) ?_
  intro r_ h_ q_; obtain ⟨rfl, y1, y2⟩ := q_
  have hx2 := rx_hi x1 y2
  refine g_lcmp dL_law_1264 ?_
  refine g_if_eq (tgt := 1306) dL_law_1265 (by decide) (fun hc1265 => ?_) (fun hc1265 => ?_)
  · replace hc1265 := lc_eq.mp hc1265; (try simp only [l_add32, l_i] at hc1265)
    (try simp (disch := omega) only [nT, t_m1000100, t_m1000010, t_m1000003, t_m1000002, t_m1000001, t_m1000000, t_m65535, t_m1000, t_m3, t_m1, t_0, t_1, t_2, t_3, t_4, t_5, t_6, t_7, t_8, t_9, t_10, t_11, t_12, t_13, t_15, t_16, t_20, t_21, t_22, t_32, t_40, t_41, t_48, t_49, t_57, t_59, t_60, t_63, t_72, t_76, t_88, t_100, t_144, t_200, t_255, t_288, t_400, t_800, t_999, t_1000, t_1024, t_1200, t_1600, t_3200, t_100000, t_200000, t_252645135, t_858993459, t_1431655765, u_m1000002, u_m1000001, u_m1000, u_m3, u_m1, u_0, u_1, u_2, u_3, u_4, u_5, u_7, u_8, u_10, u_11, u_15, u_60, u_100, u_255, u_999, u_1000, u_100000, u_4294967295] at hc1265)
    exact K _ _ _ _ _ _ _ _ _ _ _ ⟨fS, fP, fA, fT, fR, fG, fW, fQ⟩ hx2 y1
  · replace hc1265 := lc_ne.mp hc1265; (try simp only [l_add32, l_i] at hc1265); (try simp (disch := omega) only [nT, t_m1000100, t_m1000010, t_m1000003, t_m1000002, t_m1000001, t_m1000000, t_m65535, t_m1000, t_m3, t_m1, t_0, t_1, t_2, t_3, t_4, t_5, t_6, t_7, t_8, t_9, t_10, t_11, t_12, t_13, t_15, t_16, t_20, t_21, t_22, t_32, t_40, t_41, t_48, t_49, t_57, t_59, t_60, t_63, t_72, t_76, t_88, t_100, t_144, t_200, t_255, t_288, t_400, t_800, t_999, t_1000, t_1024, t_1200, t_1600, t_3200, t_100000, t_200000, t_252645135, t_858993459, t_1431655765, u_m1000002, u_m1000001, u_m1000, u_m3, u_m1, u_0, u_1, u_2, u_3, u_4, u_5, u_7, u_8, u_10, u_11, u_15, u_60, u_100, u_255, u_999, u_1000, u_100000, u_4294967295] at hc1265); exact (hc1265 trivial).elim
theorem lw_c_count (hi : i + 6 ≤ L) (hL : L ≤ 3072) (hf : WF w P A T R G W pt) (hx : RX w P E A T R G W pt fl h) (hm : RM w P E A T R G W pt fl h) (K : ∀ (w : SH) (P : TP) (E : ST2) (A : LA) (T : TS) (R : RS) (G : GL2) (W : WA) (pt : PT) (fl : Int32) (h' : HH), WF w P A T R G W pt → RX w P E A T R G W pt fl h' → RM w P E A T R G W pt fl h' → GG (EL L xs) 75 216376 1306 [hX, .ref 0, .ref 44, .int (nI i)] [] h') : GG (EL L xs) 75 216376 1270 [hX, .ref 0, .ref 44, .int (nI i)] [] h := by
  have e0 := hx.1.1.1
  obtain ⟨fS, fP, fA, fT, fR, fG, fW, fQ⟩ := id hf
  refine g_aload_n (i := 1) dL_law_1270 rfl rfl ?_
  refine g_aload_x dL_law_1271 rfl rfl ?_
  refine g_iload_n (i := 3) dL_law_1272 rfl rfl ?_
  refine g_iconst (v := 1) dL_law_1273 (by decide) ?_
  refine g_iadd dL_law_1274 ?_
  refine g_sld dL_law_1275 xl_3 (ixw (k := 1) rfl (by omega)) (by omega) ?_
  refine g_callV (M' := mX7_count) dL_law_1276 lc_X7_count ml_L_156 (xo_count hf hx _) rfl rfl (by repeat' (first | assumption | exact rF_eq | refine rF_ne (by decide) ?_ | refine rF_a ?_ | exact rA_eq | refine rA_ne (by decide) ?_ | refine rA_f ?_)) rfl ⟨Nat.le_of_ble_eq_true rfl, Nat.le_of_ble_eq_true rfl, Nat.le_of_ble_eq_true rfl, Nat.le_of_ble_eq_true rfl⟩ (Nat.le_of_ble_eq_true rfl) ?_
  intro r_ h_ q_; obtain ⟨rfl, x1, x2⟩ := q_
  have hm2 := rm_lo hm x2
  have e44 := hm2.2.1.1
  refine g_aload_n (i := 2) dL_law_1279 rfl rfl ?_
  refine g_aload_x dL_law_1280 rfl rfl ?_
  refine g_iload_n (i := 3) dL_law_1281 rfl rfl ?_
  refine g_iconst (v := 1) dL_law_1282 (by decide) ?_
  refine g_iadd dL_law_1283 ?_
  refine g_sld dL_law_1284 xl_3 (ixw (k := 1) rfl (by omega)) (by omega) ?_
  refine g_callV (M' := mX8_count) dL_law_1285 lc_X8_count ml_L_159 (mo_count hf hm2 _) rfl rfl (by repeat' (first | assumption | exact rF_eq | refine rF_ne (by decide) ?_ | refine rF_a ?_ | exact rA_eq | refine rA_ne (by decide) ?_ | refine rA_f ?_)) rfl ⟨Nat.le_of_ble_eq_true rfl, Nat.le_of_ble_eq_true rfl, Nat.le_of_ble_eq_true rfl, Nat.le_of_ble_eq_true rfl⟩ (Nat.le_of_ble_eq_true rfl) ?_
  intro r_ h_ q_; obtain ⟨rfl, y1, y2⟩ := q_
  have hx2 := rx_hi x1 y2
  refine g_icmp_eq (tgt := 1306) dL_law_1288 (by decide) (fun hc1288 => ?_) (fun hc1288 => ?_)
  · have hd1288 := i_eq.mp hc1288; (try simp (disch := omega) only [nT, t_m1000100, t_m1000010, t_m1000003, t_m1000002, t_m1000001, t_m1000000, t_m65535, t_m1000, t_m3, t_m1, t_0, t_1, t_2, t_3, t_4, t_5, t_6, t_7, t_8, t_9, t_10, t_11, t_12, t_13, t_15, t_16, t_20, t_21, t_22, t_32, t_40, t_41, t_48, t_49, t_57, t_59, t_60, t_63, t_72, t_76, t_88, t_100, t_144, t_200, t_255, t_288, t_400, t_800, t_999, t_1000, t_1024, t_1200, t_1600, t_3200, t_100000, t_200000, t_252645135, t_858993459, t_1431655765, u_m1000002, u_m1000001, u_m1000, u_m3, u_m1, u_0, u_1, u_2, u_3, u_4, u_5, u_7, u_8, u_10, u_11, u_15, u_60, u_100, u_255, u_999, u_1000, u_100000, u_4294967295] at hd1288)
    exact K _ _ _ _ _ _ _ _ _ _ _ ⟨fS, fP, fA, fT, fR, fG, fW, fQ⟩ hx2 y1
  · have hd1288 := mt i_eq.mpr hc1288; (try simp (disch := omega) only [nT, t_m1000100, t_m1000010, t_m1000003, t_m1000002, t_m1000001, t_m1000000, t_m65535, t_m1000, t_m3, t_m1, t_0, t_1, t_2, t_3, t_4, t_5, t_6, t_7, t_8, t_9, t_10, t_11, t_12, t_13, t_15, t_16, t_20, t_21, t_22, t_32, t_40, t_41, t_48, t_49, t_57, t_59, t_60, t_63, t_72, t_76, t_88, t_100, t_144, t_200, t_255, t_288, t_400, t_800, t_999, t_1000, t_1024, t_1200, t_1600, t_3200, t_100000, t_200000, t_252645135, t_858993459, t_1431655765, u_m1000002, u_m1000001, u_m1000, u_m3, u_m1, u_0, u_1, u_2, u_3, u_4, u_5, u_7, u_8, u_10, u_11, u_15, u_60, u_100, u_255, u_999, u_1000, u_100000, u_4294967295] at hd1288); exact absurd rfl hc1288
theorem lw_c_status (hi : i + 6 ≤ L) (hL : L ≤ 3072) (hf : WF w P A T R G W pt) (hx : RX w P E A T R G W pt fl h) (hm : RM w P E A T R G W pt fl h) (K : ∀ (w : SH) (P : TP) (E : ST2) (A : LA) (T : TS) (R : RS) (G : GL2) (W : WA) (pt : PT) (fl : Int32) (h' : HH), WF w P A T R G W pt → RX w P E A T R G W pt fl h' → RM w P E A T R G W pt fl h' → GG (EL L xs) 75 216376 1306 [hX, .ref 0, .ref 44, .int (nI i)] [] h') : GG (EL L xs) 75 216376 1293 [hX, .ref 0, .ref 44, .int (nI i)] [] h := by
  have e0 := hx.1.1.1
  obtain ⟨fS, fP, fA, fT, fR, fG, fW, fQ⟩ := id hf
  refine g_aload_n (i := 1) dL_law_1293 rfl rfl ?_
  refine g_callV (M' := mX7_status) dL_law_1294 lc_X7_status ml_L_160 (xo_status hf hx) rfl rfl (by repeat' (first | assumption | exact rF_eq | refine rF_ne (by decide) ?_ | refine rF_a ?_ | exact rA_eq | refine rA_ne (by decide) ?_ | refine rA_f ?_)) rfl ⟨Nat.le_of_ble_eq_true rfl, Nat.le_of_ble_eq_true rfl, Nat.le_of_ble_eq_true rfl, Nat.le_of_ble_eq_true rfl⟩ (Nat.le_of_ble_eq_true rfl) ?_
  intro r_ h_ q_; obtain ⟨rfl, x1, x2⟩ := q_
  have hm2 := rm_lo hm x2
  have e44 := hm2.2.1.1
  refine g_aload_n (i := 2) dL_law_1297 rfl rfl ?_
  refine g_callV (M' := mX8_status) dL_law_1298 lc_X8_status ml_L_163 (mo_status hf hm2) rfl rfl (by repeat' (first | assumption | exact rF_eq | refine rF_ne (by decide) ?_ | refine rF_a ?_ | exact rA_eq | refine rA_ne (by decide) ?_ | refine rA_f ?_)) rfl ⟨Nat.le_of_ble_eq_true rfl, Nat.le_of_ble_eq_true rfl, Nat.le_of_ble_eq_true rfl, Nat.le_of_ble_eq_true rfl⟩ (Nat.le_of_ble_eq_true rfl) ?_
  intro r_ h_ q_; obtain ⟨rfl, y1, y2⟩ := q_
  have hx2 := rx_hi x1 y2
  refine g_icmp_eq (tgt := 1306) dL_law_1301 (by decide) (fun hc1301 => ?_) (fun hc1301 => ?_)
  · have hd1301 := i_eq.mp hc1301; (try simp (disch := omega) only [nT, t_m1000100, t_m1000010, t_m1000003, t_m1000002, t_m1000001, t_m1000000, t_m65535, t_m1000, t_m3, t_m1, t_0, t_1, t_2, t_3, t_4, t_5, t_6, t_7, t_8, t_9, t_10, t_11, t_12, t_13, t_15, t_16, t_20, t_21, t_22, t_32, t_40, t_41, t_48, t_49, t_57, t_59, t_60, t_63, t_72, t_76, t_88, t_100, t_144, t_200, t_255, t_288, t_400, t_800, t_999, t_1000, t_1024, t_1200, t_1600, t_3200, t_100000, t_200000, t_252645135, t_858993459, t_1431655765, u_m1000002, u_m1000001, u_m1000, u_m3, u_m1, u_0, u_1, u_2, u_3, u_4, u_5, u_7, u_8, u_10, u_11, u_15, u_60, u_100, u_255, u_999, u_1000, u_100000, u_4294967295] at hd1301)
    exact K _ _ _ _ _ _ _ _ _ _ _ ⟨fS, fP, fA, fT, fR, fG, fW, fQ⟩ hx2 y1
  · have hd1301 := mt i_eq.mpr hc1301; (try simp (disch := omega) only [nT, t_m1000100, t_m1000010, t_m1000003, t_m1000002, t_m1000001, t_m1000000, t_m65535, t_m1000, t_m3, t_m1, t_0, t_1, t_2, t_3, t_4, t_5, t_6, t_7, t_8, t_9, t_10, t_11, t_12, t_13, t_15, t_16, t_20, t_21, t_22, t_32, t_40, t_41, t_48, t_49, t_57, t_59, t_60, t_63, t_72, t_76, t_88, t_100, t_144, t_200, t_255, t_288, t_400, t_800, t_999, t_1000, t_1024, t_1200, t_1600, t_3200, t_100000, t_200000, t_252645135, t_858993459, t_1431655765, u_m1000002, u_m1000001, u_m1000, u_m3, u_m1, u_0, u_1, u_2, u_3, u_4, u_5, u_7, u_8, u_10, u_11, u_15, u_60, u_100, u_255, u_999, u_1000, u_100000, u_4294967295] at hd1301); exact absurd rfl hc1301
end Calls
