/-! MEAN TIME -/
def tAt (T : TS) (k : Nat) : Nat := (T.2.2.2.2.2.2 k).toInt.toNat
def mnr (T : TS) : Nat → Int64 → Int64 → Int64
  | 0, s, _ => s
  | k + 1, s, p => mnr T k ((T.2.2.2.1 (tAt T k)).toInt64 * (p * 10) + (10 - T.2.2.2.2.2.1 (tAt T k)).toInt64 * s) (p * 10)
def opMean (T : TS) : Int64 := mnr T T.1 0 1
theorem c_meanTime {T : TS} (hw : WfT T) {h : HH} (hs : TX' h T) : CT mX5_meanTime 0 0 0 [.ref 27] h (fun r h' => r = some (.long (opMean T)) ∧ h' = h) := by
  obtain ⟨e1, e2, e3, e4, e5, e6, e7, e8, e9, e10, e11, e12, e13, e14⟩ := hs
  obtain ⟨hw1, hw2, -⟩ := hw
  refine CT.go [.ref 27, hU, hU, hU, hU, hU, hU] (by decide +kernel) rfl rfl (fun Q' hQ => ?_)
  have key : ∀ (k : Nat) (s p : Int64) (x6 : Value), k ≤ T.1 → mnr T k s p = opMean T → GG (EM mX5_meanTime 0 0 0 Q') 0 0 12 [.ref 27, .long s, hU, .long p, hU, .int (nI k - 1), x6] [] h := by
    intro k
    induction k with
    | zero =>
      intro s p x6 _ hm
      refine g_iload dX5_meanTime_12 rfl ?_
      refine g_if_lt (tgt := 63) dX5_meanTime_14 (by decide) (fun hc14 => ?_) (fun hc14 => ?_)
      · (try simp (disch := omega) only [nT, t_m1000100, t_m1000010, t_m1000003, t_m1000002, t_m1000001, t_m1000000, t_m65535, t_m1000, t_m3, t_m1, t_0, t_1, t_2, t_3, t_4, t_5, t_6, t_7, t_8, t_9, t_10, t_11, t_12, t_13, t_15, t_16, t_20, t_21, t_22, t_32, t_40, t_41, t_48, t_49, t_57, t_59, t_60, t_63, t_72, t_76, t_88, t_100, t_144, t_200, t_255, t_288, t_400, t_800, t_999, t_1000, t_1024, t_1200, t_1600, t_3200, t_100000, t_200000, t_252645135, t_858993459, t_1431655765, u_m1000002, u_m1000001, u_m1000, u_m3, u_m1, u_0, u_1, u_2, u_3, u_4, u_5, u_7, u_8, u_10, u_11, u_15, u_60, u_100, u_255, u_999, u_1000, u_100000, u_4294967295] at hc14)
        refine g_lload_n (i := 1) dX5_meanTime_63 rfl rfl ?_
        refine g_lret dX5_meanTime_64 rfl (hQ _ _ ?_)
        exact ⟨by rw [← hm]; rfl, rfl⟩
      · (try simp (disch := omega) only [nT, t_m1000100, t_m1000010, t_m1000003, t_m1000002, t_m1000001, t_m1000000, t_m65535, t_m1000, t_m3, t_m1, t_0, t_1, t_2, t_3, t_4, t_5, t_6, t_7, t_8, t_9, t_10, t_11, t_12, t_13, t_15, t_16, t_20, t_21, t_22, t_32, t_40, t_41, t_48, t_49, t_57, t_59, t_60, t_63, t_72, t_76, t_88, t_100, t_144, t_200, t_255, t_288, t_400, t_800, t_999, t_1000, t_1024, t_1200, t_1600, t_3200, t_100000, t_200000, t_252645135, t_858993459, t_1431655765, u_m1000002, u_m1000001, u_m1000, u_m3, u_m1, u_0, u_1, u_2, u_3, u_4, u_5, u_7, u_8, u_10, u_11, u_15, u_60, u_100, u_255, u_999, u_1000, u_100000, u_4294967295] at hc14); rw [nm1T (by omega)] at hc14; omega
    | succ k ih =>
      intro s p x6 hk hm
      rw [n_m1]
      obtain ⟨t, ht, hft⟩ := hw2 k (by omega)
      have hta : tAt T k = t := by unfold tAt; rw [hft, nTN (by omega)]
      unfold mnr at hm
      rw [hta] at hm
      refine g_iload dX5_meanTime_12 rfl ?_
      refine g_if_lt (tgt := 63) dX5_meanTime_14 (by decide) (fun hc14 => ?_) (fun hc14 => ?_)
      · (try simp (disch := omega) only [nT, t_m1000100, t_m1000010, t_m1000003, t_m1000002, t_m1000001, t_m1000000, t_m65535, t_m1000, t_m3, t_m1, t_0, t_1, t_2, t_3, t_4, t_5, t_6, t_7, t_8, t_9, t_10, t_11, t_12, t_13, t_15, t_16, t_20, t_21, t_22, t_32, t_40, t_41, t_48, t_49, t_57, t_59, t_60, t_63, t_72, t_76, t_88, t_100, t_144, t_200, t_255, t_288, t_400, t_800, t_999, t_1000, t_1024, t_1200, t_1600, t_3200, t_100000, t_200000, t_252645135, t_858993459, t_1431655765, u_m1000002, u_m1000001, u_m1000, u_m3, u_m1, u_0, u_1, u_2, u_3, u_4, u_5, u_7, u_8, u_10, u_11, u_15, u_60, u_100, u_255, u_999, u_1000, u_100000, u_4294967295] at hc14); omega
      · (try simp (disch := omega) only [nT, t_m1000100, t_m1000010, t_m1000003, t_m1000002, t_m1000001, t_m1000000, t_m65535, t_m1000, t_m3, t_m1, t_0, t_1, t_2, t_3, t_4, t_5, t_6, t_7, t_8, t_9, t_10, t_11, t_12, t_13, t_15, t_16, t_20, t_21, t_22, t_32, t_40, t_41, t_48, t_49, t_57, t_59, t_60, t_63, t_72, t_76, t_88, t_100, t_144, t_200, t_255, t_288, t_400, t_800, t_999, t_1000, t_1024, t_1200, t_1600, t_3200, t_100000, t_200000, t_252645135, t_858993459, t_1431655765, u_m1000002, u_m1000001, u_m1000, u_m3, u_m1, u_0, u_1, u_2, u_3, u_4, u_5, u_7, u_8, u_10, u_11, u_15, u_60, u_100, u_255, u_999, u_1000, u_100000, u_4294967295] at hc14)
        refine g_aload_n (i := 0) dX5_meanTime_17 rfl rfl ?_
        refine g_get dX5_meanTime_18 fl_X5_31 (by repeat' (first | assumption | exact rF_eq | refine rF_ne (by decide) ?_ | refine rF_a ?_ | exact rA_eq | refine rA_ne (by decide) ?_ | refine rA_f ?_)) (by repeat' (first | assumption | exact rF_eq | refine rF_ne (by decide) ?_ | refine rF_a ?_ | exact rA_eq | refine rA_ne (by decide) ?_ | refine rA_f ?_)) ?_
        refine g_iload dX5_meanTime_21 rfl ?_
        refine g_iald dX5_meanTime_23 (by repeat' (first | assumption | exact rF_eq | refine rF_ne (by decide) ?_ | refine rF_a ?_ | exact rA_eq | refine rA_ne (by decide) ?_ | refine rA_f ?_)) (nT (by omega)) (by omega) ?_
        rw [hft]
        refine g_istore dX5_meanTime_24 (Nat.le_of_ble_eq_true rfl) rfl ?_
        refine g_lload_n (i := 3) dX5_meanTime_26 rfl rfl ?_
        refine g_ldc2 dX5_meanTime_27 kc_X5_39 ?_
        refine g_lmul dX5_meanTime_30 ?_
        refine g_lstore_n (i := 3) dX5_meanTime_31 rfl (Nat.le_of_ble_eq_true rfl) rfl ?_
        refine g_aload_n (i := 0) dX5_meanTime_32 rfl rfl ?_
        refine g_get dX5_meanTime_33 fl_X5_22 (by repeat' (first | assumption | exact rF_eq | refine rF_ne (by decide) ?_ | refine rF_a ?_ | exact rA_eq | refine rA_ne (by decide) ?_ | refine rA_f ?_)) (by repeat' (first | assumption | exact rF_eq | refine rF_ne (by decide) ?_ | refine rF_a ?_ | exact rA_eq | refine rA_ne (by decide) ?_ | refine rA_f ?_)) ?_
        refine g_iload dX5_meanTime_36 rfl ?_
        refine g_iald dX5_meanTime_38 (by repeat' (first | assumption | exact rF_eq | refine rF_ne (by decide) ?_ | refine rF_a ?_ | exact rA_eq | refine rA_ne (by decide) ?_ | refine rA_f ?_)) (nT (by omega)) (by omega) ?_
        refine g_i2l dX5_meanTime_39 ?_
        refine g_lload_n (i := 3) dX5_meanTime_40 rfl rfl ?_
        refine g_lmul dX5_meanTime_41 ?_
        refine g_bipush (v := 10) dX5_meanTime_42 (by decide) ?_
        refine g_aload_n (i := 0) dX5_meanTime_44 rfl rfl ?_
        refine g_get dX5_meanTime_45 fl_X5_28 (by repeat' (first | assumption | exact rF_eq | refine rF_ne (by decide) ?_ | refine rF_a ?_ | exact rA_eq | refine rA_ne (by decide) ?_ | refine rA_f ?_)) (by repeat' (first | assumption | exact rF_eq | refine rF_ne (by decide) ?_ | refine rF_a ?_ | exact rA_eq | refine rA_ne (by decide) ?_ | refine rA_f ?_)) ?_
        refine g_iload dX5_meanTime_48 rfl ?_
        refine g_iald dX5_meanTime_50 (by repeat' (first | assumption | exact rF_eq | refine rF_ne (by decide) ?_ | refine rF_a ?_ | exact rA_eq | refine rA_ne (by decide) ?_ | refine rA_f ?_)) (nT (by omega)) (by omega) ?_
        refine g_isub dX5_meanTime_51 ?_
        refine g_i2l dX5_meanTime_52 ?_
        refine g_lload_n (i := 1) dX5_meanTime_53 rfl rfl ?_
        refine g_lmul dX5_meanTime_54 ?_
        refine g_ladd dX5_meanTime_55 ?_
        refine g_lstore_n (i := 1) dX5_meanTime_56 rfl (Nat.le_of_ble_eq_true rfl) rfl ?_
        refine g_iinc dX5_meanTime_57 rfl (Nat.le_of_ble_eq_true rfl) rfl ?_
        refine g_goto (tgt := 12) dX5_meanTime_60 (by decide) ?_
        rw [n_dec]
        exact ih _ _ _ (by omega) hm
  refine g_lconst (v := 0) dX5_meanTime_0 (by decide) ?_
  refine g_lstore_n (i := 1) dX5_meanTime_1 rfl (Nat.le_of_ble_eq_true rfl) rfl ?_
  refine g_lconst (v := 1) dX5_meanTime_2 (by decide) ?_
  refine g_lstore_n (i := 3) dX5_meanTime_3 rfl (Nat.le_of_ble_eq_true rfl) rfl ?_
  refine g_aload_n (i := 0) dX5_meanTime_4 rfl rfl ?_
  refine g_get dX5_meanTime_5 fl_X5_9 (by repeat' (first | assumption | exact rF_eq | refine rF_ne (by decide) ?_ | refine rF_a ?_ | exact rA_eq | refine rA_ne (by decide) ?_ | refine rA_f ?_)) (by repeat' (first | assumption | exact rF_eq | refine rF_ne (by decide) ?_ | refine rF_a ?_ | exact rA_eq | refine rA_ne (by decide) ?_ | refine rA_f ?_)) ?_
  refine g_iconst (v := 1) dX5_meanTime_8 (by decide) ?_
  refine g_isub dX5_meanTime_9 ?_
  refine g_istore dX5_meanTime_10 (Nat.le_of_ble_eq_true rfl) rfl ?_
  exact key T.1 0 1 hU (Nat.le_refl _) rfl
theorem x_mean {T : TS} (hw : WfT T) {h : HH} (hg : GTX T h) : CT mX7_mean 1 0 0 [.ref 0] h (fun r h' => r = some (.long (opMean T)) ∧ h' = h) := by
  obtain ⟨⟨h0, h1⟩, hs⟩ := hg
  have d1 := hs.1
  refine CT.go [.ref 0] (by decide +kernel) rfl rfl (fun Q' hQ => ?_)
  refine g_aload_n (i := 0) dX7_mean_0 rfl rfl ?_
  refine g_get dX7_mean_1 fl_X7_47 (by repeat' (first | assumption | exact rF_eq | refine rF_ne (by decide) ?_ | refine rF_a ?_ | exact rA_eq | refine rA_ne (by decide) ?_ | refine rA_f ?_)) (by repeat' (first | assumption | exact rF_eq | refine rF_ne (by decide) ?_ | refine rF_a ?_ | exact rA_eq | refine rA_ne (by decide) ?_ | refine rA_f ?_)) ?_
  refine g_callV (M' := mX5_meanTime) dX7_mean_4 lc_X5_meanTime ml_X7_270 (c_meanTime hw hs) rfl rfl (by repeat' (first | assumption | exact rF_eq | refine rF_ne (by decide) ?_ | refine rF_a ?_ | exact rA_eq | refine rA_ne (by decide) ?_ | refine rA_f ?_)) rfl ⟨Nat.le_of_ble_eq_true rfl, Nat.le_of_ble_eq_true rfl, Nat.le_of_ble_eq_true rfl, Nat.le_of_ble_eq_true rfl⟩ (Nat.le_of_ble_eq_true rfl) ?_
  intro r_ h_ q_; obtain ⟨q1_, q2_⟩ := q_; have q2_ := q2_.symm; subst q1_; subst q2_
  refine g_lret dX7_mean_7 rfl (hQ _ _ ?_)
  exact ⟨rfl, rfl⟩
theorem c_meanFrom {T : TS} (hw : WfT T) {h : HH} (hs : TM' h T) : CT mX8_meanFrom 0 0 0 [.ref 44, .int 0] h (fun r h' => r = some (.long (opMean T)) ∧ h' = h) := by
  obtain ⟨e1, e2, e3, e4, e5, e6, e7, e8, e9, e10, e11, e12, e13, e14⟩ := hs
  obtain ⟨hw1, hw2, -⟩ := hw
  refine CT.go [.ref 44, .int 0, hU, hU, hU, hU, hU] (by decide +kernel) rfl rfl (fun Q' hQ => ?_)
  have key : ∀ (k : Nat) (s p : Int64), k ≤ T.1 → mnr T k s p = opMean T → GG (EM mX8_meanFrom 0 0 0 Q') 0 0 13 [.ref 44, .int 0, .long s, hU, .long p, hU, .int (nI k - 1)] [] h := by
    intro k
    induction k with
    | zero =>
      intro s p _ hm
      refine g_iload dX8_meanFrom_13 rfl ?_
      refine g_iload_n (i := 1) dX8_meanFrom_15 rfl rfl ?_
      refine g_icmp_lt (tgt := 69) dX8_meanFrom_16 (by decide) (fun hc16 => ?_) (fun hc16 => ?_)
      · (try simp (disch := omega) only [nT, t_m1000100, t_m1000010, t_m1000003, t_m1000002, t_m1000001, t_m1000000, t_m65535, t_m1000, t_m3, t_m1, t_0, t_1, t_2, t_3, t_4, t_5, t_6, t_7, t_8, t_9, t_10, t_11, t_12, t_13, t_15, t_16, t_20, t_21, t_22, t_32, t_40, t_41, t_48, t_49, t_57, t_59, t_60, t_63, t_72, t_76, t_88, t_100, t_144, t_200, t_255, t_288, t_400, t_800, t_999, t_1000, t_1024, t_1200, t_1600, t_3200, t_100000, t_200000, t_252645135, t_858993459, t_1431655765, u_m1000002, u_m1000001, u_m1000, u_m3, u_m1, u_0, u_1, u_2, u_3, u_4, u_5, u_7, u_8, u_10, u_11, u_15, u_60, u_100, u_255, u_999, u_1000, u_100000, u_4294967295] at hc16)
        refine g_lload_n (i := 2) dX8_meanFrom_69 rfl rfl ?_
        refine g_lret dX8_meanFrom_70 rfl (hQ _ _ ?_)
        exact ⟨by rw [← hm]; rfl, rfl⟩
      · (try simp (disch := omega) only [nT, t_m1000100, t_m1000010, t_m1000003, t_m1000002, t_m1000001, t_m1000000, t_m65535, t_m1000, t_m3, t_m1, t_0, t_1, t_2, t_3, t_4, t_5, t_6, t_7, t_8, t_9, t_10, t_11, t_12, t_13, t_15, t_16, t_20, t_21, t_22, t_32, t_40, t_41, t_48, t_49, t_57, t_59, t_60, t_63, t_72, t_76, t_88, t_100, t_144, t_200, t_255, t_288, t_400, t_800, t_999, t_1000, t_1024, t_1200, t_1600, t_3200, t_100000, t_200000, t_252645135, t_858993459, t_1431655765, u_m1000002, u_m1000001, u_m1000, u_m3, u_m1, u_0, u_1, u_2, u_3, u_4, u_5, u_7, u_8, u_10, u_11, u_15, u_60, u_100, u_255, u_999, u_1000, u_100000, u_4294967295] at hc16); rw [nm1T (by omega)] at hc16; omega
    | succ k ih =>
      intro s p hk hm
      rw [n_m1]
      obtain ⟨t, ht, hft⟩ := hw2 k (by omega)
      have hta : tAt T k = t := by unfold tAt; rw [hft, nTN (by omega)]
      unfold mnr at hm
      rw [hta] at hm
      refine g_iload dX8_meanFrom_13 rfl ?_
      refine g_iload_n (i := 1) dX8_meanFrom_15 rfl rfl ?_
      refine g_icmp_lt (tgt := 69) dX8_meanFrom_16 (by decide) (fun hc16 => ?_) (fun hc16 => ?_)
      · (try simp (disch := omega) only [nT, t_m1000100, t_m1000010, t_m1000003, t_m1000002, t_m1000001, t_m1000000, t_m65535, t_m1000, t_m3, t_m1, t_0, t_1, t_2, t_3, t_4, t_5, t_6, t_7, t_8, t_9, t_10, t_11, t_12, t_13, t_15, t_16, t_20, t_21, t_22, t_32, t_40, t_41, t_48, t_49, t_57, t_59, t_60, t_63, t_72, t_76, t_88, t_100, t_144, t_200, t_255, t_288, t_400, t_800, t_999, t_1000, t_1024, t_1200, t_1600, t_3200, t_100000, t_200000, t_252645135, t_858993459, t_1431655765, u_m1000002, u_m1000001, u_m1000, u_m3, u_m1, u_0, u_1, u_2, u_3, u_4, u_5, u_7, u_8, u_10, u_11, u_15, u_60, u_100, u_255, u_999, u_1000, u_100000, u_4294967295] at hc16); omega
      · (try simp (disch := omega) only [nT, t_m1000100, t_m1000010, t_m1000003, t_m1000002, t_m1000001, t_m1000000, t_m65535, t_m1000, t_m3, t_m1, t_0, t_1, t_2, t_3, t_4, t_5, t_6, t_7, t_8, t_9, t_10, t_11, t_12, t_13, t_15, t_16, t_20, t_21, t_22, t_32, t_40, t_41, t_48, t_49, t_57, t_59, t_60, t_63, t_72, t_76, t_88, t_100, t_144, t_200, t_255, t_288, t_400, t_800, t_999, t_1000, t_1024, t_1200, t_1600, t_3200, t_100000, t_200000, t_252645135, t_858993459, t_1431655765, u_m1000002, u_m1000001, u_m1000, u_m3, u_m1, u_0, u_1, u_2, u_3, u_4, u_5, u_7, u_8, u_10, u_11, u_15, u_60, u_100, u_255, u_999, u_1000, u_100000, u_4294967295] at hc16)
        refine g_lload dX8_meanFrom_19 rfl ?_
        refine g_ldc2 dX8_meanFrom_21 kc_X8_249 ?_
        refine g_lmul dX8_meanFrom_24 ?_
        refine g_lstore dX8_meanFrom_25 (Nat.le_of_ble_eq_true rfl) rfl ?_
        refine g_aload_n (i := 0) dX8_meanFrom_27 rfl rfl ?_
        refine g_get dX8_meanFrom_28 fl_X8_53 (by repeat' (first | assumption | exact rF_eq | refine rF_ne (by decide) ?_ | refine rF_a ?_ | exact rA_eq | refine rA_ne (by decide) ?_ | refine rA_f ?_)) (by repeat' (first | assumption | exact rF_eq | refine rF_ne (by decide) ?_ | refine rF_a ?_ | exact rA_eq | refine rA_ne (by decide) ?_ | refine rA_f ?_)) ?_
        refine g_aload_n (i := 0) dX8_meanFrom_31 rfl rfl ?_
        refine g_get dX8_meanFrom_32 fl_X8_62 (by repeat' (first | assumption | exact rF_eq | refine rF_ne (by decide) ?_ | refine rF_a ?_ | exact rA_eq | refine rA_ne (by decide) ?_ | refine rA_f ?_)) (by repeat' (first | assumption | exact rF_eq | refine rF_ne (by decide) ?_ | refine rF_a ?_ | exact rA_eq | refine rA_ne (by decide) ?_ | refine rA_f ?_)) ?_
        refine g_iload dX8_meanFrom_35 rfl ?_
        refine g_iald dX8_meanFrom_37 (by repeat' (first | assumption | exact rF_eq | refine rF_ne (by decide) ?_ | refine rF_a ?_ | exact rA_eq | refine rA_ne (by decide) ?_ | refine rA_f ?_)) (nT (by omega)) (by omega) ?_
        rw [hft]
        refine g_iald dX8_meanFrom_38 (by repeat' (first | assumption | exact rF_eq | refine rF_ne (by decide) ?_ | refine rF_a ?_ | exact rA_eq | refine rA_ne (by decide) ?_ | refine rA_f ?_)) (nT (by omega)) (by omega) ?_
        refine g_i2l dX8_meanFrom_39 ?_
        refine g_lload dX8_meanFrom_40 rfl ?_
        refine g_lmul dX8_meanFrom_42 ?_
        refine g_bipush (v := 10) dX8_meanFrom_43 (by decide) ?_
        refine g_aload_n (i := 0) dX8_meanFrom_45 rfl rfl ?_
        refine g_get dX8_meanFrom_46 fl_X8_59 (by repeat' (first | assumption | exact rF_eq | refine rF_ne (by decide) ?_ | refine rF_a ?_ | exact rA_eq | refine rA_ne (by decide) ?_ | refine rA_f ?_)) (by repeat' (first | assumption | exact rF_eq | refine rF_ne (by decide) ?_ | refine rF_a ?_ | exact rA_eq | refine rA_ne (by decide) ?_ | refine rA_f ?_)) ?_
        refine g_aload_n (i := 0) dX8_meanFrom_49 rfl rfl ?_
        refine g_get dX8_meanFrom_50 fl_X8_62 (by repeat' (first | assumption | exact rF_eq | refine rF_ne (by decide) ?_ | refine rF_a ?_ | exact rA_eq | refine rA_ne (by decide) ?_ | refine rA_f ?_)) (by repeat' (first | assumption | exact rF_eq | refine rF_ne (by decide) ?_ | refine rF_a ?_ | exact rA_eq | refine rA_ne (by decide) ?_ | refine rA_f ?_)) ?_
        refine g_iload dX8_meanFrom_53 rfl ?_
        refine g_iald dX8_meanFrom_55 (by repeat' (first | assumption | exact rF_eq | refine rF_ne (by decide) ?_ | refine rF_a ?_ | exact rA_eq | refine rA_ne (by decide) ?_ | refine rA_f ?_)) (nT (by omega)) (by omega) ?_
        rw [hft]
        refine g_iald dX8_meanFrom_56 (by repeat' (first | assumption | exact rF_eq | refine rF_ne (by decide) ?_ | refine rF_a ?_ | exact rA_eq | refine rA_ne (by decide) ?_ | refine rA_f ?_)) (nT (by omega)) (by omega) ?_
        refine g_isub dX8_meanFrom_57 ?_
        refine g_i2l dX8_meanFrom_58 ?_
        refine g_lload_n (i := 2) dX8_meanFrom_59 rfl rfl ?_
        refine g_lmul dX8_meanFrom_60 ?_
        refine g_ladd dX8_meanFrom_61 ?_
        refine g_lstore_n (i := 2) dX8_meanFrom_62 rfl (Nat.le_of_ble_eq_true rfl) rfl ?_
        refine g_iinc dX8_meanFrom_63 rfl (Nat.le_of_ble_eq_true rfl) rfl ?_
        refine g_goto (tgt := 13) dX8_meanFrom_66 (by decide) ?_
        rw [n_dec]
        exact ih _ _ (by omega) hm
  refine g_lconst (v := 0) dX8_meanFrom_0 (by decide) ?_
  refine g_lstore_n (i := 2) dX8_meanFrom_1 rfl (Nat.le_of_ble_eq_true rfl) rfl ?_
  refine g_lconst (v := 1) dX8_meanFrom_2 (by decide) ?_
  refine g_lstore dX8_meanFrom_3 (Nat.le_of_ble_eq_true rfl) rfl ?_
  refine g_aload_n (i := 0) dX8_meanFrom_5 rfl rfl ?_
  refine g_get dX8_meanFrom_6 fl_X8_197 (by repeat' (first | assumption | exact rF_eq | refine rF_ne (by decide) ?_ | refine rF_a ?_ | exact rA_eq | refine rA_ne (by decide) ?_ | refine rA_f ?_)) (by repeat' (first | assumption | exact rF_eq | refine rF_ne (by decide) ?_ | refine rF_a ?_ | exact rA_eq | refine rA_ne (by decide) ?_ | refine rA_f ?_)) ?_
  refine g_iconst (v := 1) dX8_meanFrom_9 (by decide) ?_
  refine g_isub dX8_meanFrom_10 ?_
  refine g_istore dX8_meanFrom_11 (Nat.le_of_ble_eq_true rfl) rfl ?_
  exact key T.1 0 1 (Nat.le_refl _) rfl
theorem m_mean {T : TS} (hw : WfT T) {h : HH} (hg : GTM T h) : CT mX8_mean 1 0 0 [.ref 44] h (fun r h' => r = some (.long (opMean T)) ∧ h' = sF h 44 0 (.int 0)) := by
  have e1 := hg.1
  have hs : TM' (sF h 44 0 (.int 0)) T := hg
  refine CT.go [.ref 44] (by decide +kernel) rfl rfl (fun Q' hQ => ?_)
  refine g_aload_n (i := 0) dX8_mean_0 rfl rfl ?_
  refine g_iconst (v := 0) dX8_mean_1 (by decide) ?_
  refine g_put dX8_mean_2 pl_X8_107 (by repeat' (first | assumption | exact rF_eq | refine rF_ne (by decide) ?_ | refine rF_a ?_ | exact rA_eq | refine rA_ne (by decide) ?_ | refine rA_f ?_)) (fun _ => ⟨rfl, rfl⟩) ?_
  refine g_aload_n (i := 0) dX8_mean_5 rfl rfl ?_
  refine g_iconst (v := 0) dX8_mean_6 (by decide) ?_
  refine g_callV (M' := mX8_meanFrom) dX8_mean_7 lc_X8_meanFrom ml_X8_251 (c_meanFrom hw hs) rfl rfl (by repeat' (first | assumption | exact rF_eq | refine rF_ne (by decide) ?_ | refine rF_a ?_ | exact rA_eq | refine rA_ne (by decide) ?_ | refine rA_f ?_)) rfl ⟨Nat.le_of_ble_eq_true rfl, Nat.le_of_ble_eq_true rfl, Nat.le_of_ble_eq_true rfl, Nat.le_of_ble_eq_true rfl⟩ (Nat.le_of_ble_eq_true rfl) ?_
  intro r_ h_ q_; obtain ⟨q1_, q2_⟩ := q_; have q2_ := q2_.symm; subst q1_; subst q2_
  refine g_lret dX8_mean_10 rfl (hQ _ _ ?_)
  exact ⟨rfl, rfl⟩
