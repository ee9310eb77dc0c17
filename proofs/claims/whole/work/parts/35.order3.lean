/-! order: the reference's table -/
abbrev nL (a : Nat) : Int64 := Int64.ofNat a
theorem nL_T {a : Nat} (h : a < 9223372036854775808) : (nL a).toInt = (a : Int) := Int64.toInt_ofNat_of_lt h
theorem nL_mul (a b : Nat) : nL a * nL b = nL (a * b) := (Int64.ofNat_mul a b).symm
theorem nL_add (a b : Nat) : nL a + nL b = nL (a + b) := (Int64.ofNat_add a b).symm
theorem nI_L {a : Nat} (h : a < 2147483648) : (nI a).toInt64 = nL a := by
  rw [← Int64.toInt_inj, l_i, nT h, nL_T (by omega)]
theorem c_tens (h : HH) {S : Nat} (hS : S < 1024) : CT mX8_tens 0 0 0 [.int (nI S)] h (fun r h' => r = some (.long (nL (10 ^ cnt S.testBit 10 0))) ∧ h' = h) := by
  refine CT.go [.int (nI S), hU, hU, hU] (by decide +kernel) rfl rfl (fun Q' hQ => ?_)
  generalize hz : 10 ^ cnt S.testBit 10 0 = z at hQ
  have key : ∀ m k a, k + m = 10 → a * 10 ^ cnt S.testBit m k = z → GG (EM mX8_tens 0 0 0 Q') 0 0 4 [.int (nI S), .long (nL a), hU, .int (nI k)] [] h := by
    intro m
    induction m with
    | zero =>
      intro k a hk he
      obtain rfl : a = z := by rw [← he, cnt, Nat.pow_zero, Nat.mul_one]
      refine g_iload_n (i := 3) dX8_tens_4 rfl rfl ?_
      refine g_bipush (v := 10) dX8_tens_5 (by decide) ?_
      refine g_icmp_ge (tgt := 35) dX8_tens_7 (by decide) (fun hc7 => ?_) (fun hc7 => ?_)
      · (try simp (disch := omega) only [nT, t_m1000100, t_m1000010, t_m1000003, t_m1000002, t_m1000001, t_m1000000, t_m65535, t_m1000, t_m3, t_m1, t_0, t_1, t_2, t_3, t_4, t_5, t_6, t_7, t_8, t_9, t_10, t_11, t_12, t_13, t_15, t_16, t_20, t_21, t_22, t_32, t_40, t_41, t_48, t_49, t_57, t_59, t_60, t_63, t_72, t_76, t_88, t_100, t_144, t_200, t_255, t_288, t_400, t_800, t_999, t_1000, t_1024, t_1200, t_1600, t_3200, t_100000, t_200000, t_252645135, t_858993459, t_1431655765, u_m1000002, u_m1000001, u_m1000, u_m3, u_m1, u_0, u_1, u_2, u_3, u_4, u_5, u_7, u_8, u_10, u_11, u_15, u_60, u_100, u_255, u_999, u_1000, u_100000, u_4294967295] at hc7)
        refine g_lload_n (i := 1) dX8_tens_35 rfl rfl ?_
        refine g_lret dX8_tens_36 rfl (hQ _ _ ?_)
        exact ⟨rfl, rfl⟩
      · (try simp (disch := omega) only [nT, t_m1000100, t_m1000010, t_m1000003, t_m1000002, t_m1000001, t_m1000000, t_m65535, t_m1000, t_m3, t_m1, t_0, t_1, t_2, t_3, t_4, t_5, t_6, t_7, t_8, t_9, t_10, t_11, t_12, t_13, t_15, t_16, t_20, t_21, t_22, t_32, t_40, t_41, t_48, t_49, t_57, t_59, t_60, t_63, t_72, t_76, t_88, t_100, t_144, t_200, t_255, t_288, t_400, t_800, t_999, t_1000, t_1024, t_1200, t_1600, t_3200, t_100000, t_200000, t_252645135, t_858993459, t_1431655765, u_m1000002, u_m1000001, u_m1000, u_m3, u_m1, u_0, u_1, u_2, u_3, u_4, u_5, u_7, u_8, u_10, u_11, u_15, u_60, u_100, u_255, u_999, u_1000, u_100000, u_4294967295] at hc7); omega
    | succ m ih =>
      intro k a hk he
      have hbit := mk_bit S hS k (by omega)
      by_cases hm : S.testBit k = true
      · rw [if_pos hm] at hbit
        rw [cnt_t hm, Nat.add_comm 1, Nat.pow_succ, Nat.mul_comm (10 ^ _), ← Nat.mul_assoc] at he
        refine g_iload_n (i := 3) dX8_tens_4 rfl rfl ?_
        refine g_bipush (v := 10) dX8_tens_5 (by decide) ?_
        refine g_icmp_ge (tgt := 35) dX8_tens_7 (by decide) (fun hc7 => ?_) (fun hc7 => ?_)
        · (try simp (disch := omega) only [nT, t_m1000100, t_m1000010, t_m1000003, t_m1000002, t_m1000001, t_m1000000, t_m65535, t_m1000, t_m3, t_m1, t_0, t_1, t_2, t_3, t_4, t_5, t_6, t_7, t_8, t_9, t_10, t_11, t_12, t_13, t_15, t_16, t_20, t_21, t_22, t_32, t_40, t_41, t_48, t_49, t_57, t_59, t_60, t_63, t_72, t_76, t_88, t_100, t_144, t_200, t_255, t_288, t_400, t_800, t_999, t_1000, t_1024, t_1200, t_1600, t_3200, t_100000, t_200000, t_252645135, t_858993459, t_1431655765, u_m1000002, u_m1000001, u_m1000, u_m3, u_m1, u_0, u_1, u_2, u_3, u_4, u_5, u_7, u_8, u_10, u_11, u_15, u_60, u_100, u_255, u_999, u_1000, u_100000, u_4294967295] at hc7); omega
        · (try simp (disch := omega) only [nT, t_m1000100, t_m1000010, t_m1000003, t_m1000002, t_m1000001, t_m1000000, t_m65535, t_m1000, t_m3, t_m1, t_0, t_1, t_2, t_3, t_4, t_5, t_6, t_7, t_8, t_9, t_10, t_11, t_12, t_13, t_15, t_16, t_20, t_21, t_22, t_32, t_40, t_41, t_48, t_49, t_57, t_59, t_60, t_63, t_72, t_76, t_88, t_100, t_144, t_200, t_255, t_288, t_400, t_800, t_999, t_1000, t_1024, t_1200, t_1600, t_3200, t_100000, t_200000, t_252645135, t_858993459, t_1431655765, u_m1000002, u_m1000001, u_m1000, u_m3, u_m1, u_0, u_1, u_2, u_3, u_4, u_5, u_7, u_8, u_10, u_11, u_15, u_60, u_100, u_255, u_999, u_1000, u_100000, u_4294967295] at hc7)
          refine g_lload_n (i := 1) dX8_tens_10 rfl rfl ?_
          refine g_iload_n (i := 0) dX8_tens_11 rfl rfl ?_
          refine g_iload_n (i := 3) dX8_tens_12 rfl rfl ?_
          refine g_ishr dX8_tens_13 ?_
          refine g_iconst (v := 1) dX8_tens_14 (by decide) ?_
          refine g_iand dX8_tens_15 ?_
          rw [hbit]
          refine g_iconst (v := 1) dX8_tens_16 (by decide) ?_
          refine g_icmp_ne (tgt := 26) dX8_tens_17 (by decide) (fun hc17 => ?_) (fun hc17 => ?_)
          · have hd17 := mt i_eq.mpr hc17; (try simp (disch := omega) only [nT, t_m1000100, t_m1000010, t_m1000003, t_m1000002, t_m1000001, t_m1000000, t_m65535, t_m1000, t_m3, t_m1, t_0, t_1, t_2, t_3, t_4, t_5, t_6, t_7, t_8, t_9, t_10, t_11, t_12, t_13, t_15, t_16, t_20, t_21, t_22, t_32, t_40, t_41, t_48, t_49, t_57, t_59, t_60, t_63, t_72, t_76, t_88, t_100, t_144, t_200, t_255, t_288, t_400, t_800, t_999, t_1000, t_1024, t_1200, t_1600, t_3200, t_100000, t_200000, t_252645135, t_858993459, t_1431655765, u_m1000002, u_m1000001, u_m1000, u_m3, u_m1, u_0, u_1, u_2, u_3, u_4, u_5, u_7, u_8, u_10, u_11, u_15, u_60, u_100, u_255, u_999, u_1000, u_100000, u_4294967295] at hd17); exact absurd rfl hc17
          · have hd17 := i_eq.mp hc17; (try simp (disch := omega) only [nT, t_m1000100, t_m1000010, t_m1000003, t_m1000002, t_m1000001, t_m1000000, t_m65535, t_m1000, t_m3, t_m1, t_0, t_1, t_2, t_3, t_4, t_5, t_6, t_7, t_8, t_9, t_10, t_11, t_12, t_13, t_15, t_16, t_20, t_21, t_22, t_32, t_40, t_41, t_48, t_49, t_57, t_59, t_60, t_63, t_72, t_76, t_88, t_100, t_144, t_200, t_255, t_288, t_400, t_800, t_999, t_1000, t_1024, t_1200, t_1600, t_3200, t_100000, t_200000, t_252645135, t_858993459, t_1431655765, u_m1000002, u_m1000001, u_m1000, u_m3, u_m1, u_0, u_1, u_2, u_3, u_4, u_5, u_7, u_8, u_10, u_11, u_15, u_60, u_100, u_255, u_999, u_1000, u_100000, u_4294967295] at hd17)
            refine g_ldc2 dX8_tens_20 kc_X8_249 ?_
            refine g_goto (tgt := 27) dX8_tens_23 (by decide) ?_
            refine g_lmul dX8_tens_27 ?_
            refine g_lstore_n (i := 1) dX8_tens_28 rfl (Nat.le_of_ble_eq_true rfl) rfl ?_
            refine g_iinc dX8_tens_29 rfl (Nat.le_of_ble_eq_true rfl) rfl ?_
            refine g_goto (tgt := 4) dX8_tens_32 (by decide) ?_
            rw [ni_incO, show nL a * 10 = nL (a * 10) from nL_mul a 10]
            exact ih (k + 1) (a * 10) (by omega) he
      · rw [if_neg hm] at hbit
        rw [cnt_f hm] at he
        refine g_iload_n (i := 3) dX8_tens_4 rfl rfl ?_
        refine g_bipush (v := 10) dX8_tens_5 (by decide) ?_
        refine g_icmp_ge (tgt := 35) dX8_tens_7 (by decide) (fun hc7 => ?_) (fun hc7 => ?_)
        · (try simp (disch := omega) only [nT, t_m1000100, t_m1000010, t_m1000003, t_m1000002, t_m1000001, t_m1000000, t_m65535, t_m1000, t_m3, t_m1, t_0, t_1, t_2, t_3, t_4, t_5, t_6, t_7, t_8, t_9, t_10, t_11, t_12, t_13, t_15, t_16, t_20, t_21, t_22, t_32, t_40, t_41, t_48, t_49, t_57, t_59, t_60, t_63, t_72, t_76, t_88, t_100, t_144, t_200, t_255, t_288, t_400, t_800, t_999, t_1000, t_1024, t_1200, t_1600, t_3200, t_100000, t_200000, t_252645135, t_858993459, t_1431655765, u_m1000002, u_m1000001, u_m1000, u_m3, u_m1, u_0, u_1, u_2, u_3, u_4, u_5, u_7, u_8, u_10, u_11, u_15, u_60, u_100, u_255, u_999, u_1000, u_100000, u_4294967295] at hc7); omega
        · (try simp (disch := omega) only [nT, t_m1000100, t_m1000010, t_m1000003, t_m1000002, t_m1000001, t_m1000000, t_m65535, t_m1000, t_m3, t_m1, t_0, t_1, t_2, t_3, t_4, t_5, t_6, t_7, t_8, t_9, t_10, t_11, t_12, t_13, t_15, t_16, t_20, t_21, t_22, t_32, t_40, t_41, t_48, t_49, t_57, t_59, t_60, t_63, t_72, t_76, t_88, t_100, t_144, t_200, t_255, t_288, t_400, t_800, t_999, t_1000, t_1024, t_1200, t_1600, t_3200, t_100000, t_200000, t_252645135, t_858993459, t_1431655765, u_m1000002, u_m1000001, u_m1000, u_m3, u_m1, u_0, u_1, u_2, u_3, u_4, u_5, u_7, u_8, u_10, u_11, u_15, u_60, u_100, u_255, u_999, u_1000, u_100000, u_4294967295] at hc7)
          refine g_lload_n (i := 1) dX8_tens_10 rfl rfl ?_
          refine g_iload_n (i := 0) dX8_tens_11 rfl rfl ?_
          refine g_iload_n (i := 3) dX8_tens_12 rfl rfl ?_
          refine g_ishr dX8_tens_13 ?_
          refine g_iconst (v := 1) dX8_tens_14 (by decide) ?_
          refine g_iand dX8_tens_15 ?_
          rw [hbit]
          refine g_iconst (v := 1) dX8_tens_16 (by decide) ?_
          refine g_icmp_ne (tgt := 26) dX8_tens_17 (by decide) (fun hc17 => ?_) (fun hc17 => ?_)
          · have hd17 := mt i_eq.mpr hc17; (try simp (disch := omega) only [nT, t_m1000100, t_m1000010, t_m1000003, t_m1000002, t_m1000001, t_m1000000, t_m65535, t_m1000, t_m3, t_m1, t_0, t_1, t_2, t_3, t_4, t_5, t_6, t_7, t_8, t_9, t_10, t_11, t_12, t_13, t_15, t_16, t_20, t_21, t_22, t_32, t_40, t_41, t_48, t_49, t_57, t_59, t_60, t_63, t_72, t_76, t_88, t_100, t_144, t_200, t_255, t_288, t_400, t_800, t_999, t_1000, t_1024, t_1200, t_1600, t_3200, t_100000, t_200000, t_252645135, t_858993459, t_1431655765, u_m1000002, u_m1000001, u_m1000, u_m3, u_m1, u_0, u_1, u_2, u_3, u_4, u_5, u_7, u_8, u_10, u_11, u_15, u_60, u_100, u_255, u_999, u_1000, u_100000, u_4294967295] at hd17)
            refine g_lconst (v := 1) dX8_tens_26 (by decide) ?_
            refine g_lmul dX8_tens_27 ?_
            refine g_lstore_n (i := 1) dX8_tens_28 rfl (Nat.le_of_ble_eq_true rfl) rfl ?_
            refine g_iinc dX8_tens_29 rfl (Nat.le_of_ble_eq_true rfl) rfl ?_
            refine g_goto (tgt := 4) dX8_tens_32 (by decide) ?_
            rw [ni_incO, show nL a * 1 = nL a from Int64.mul_one _]
            exact ih (k + 1) a (by omega) he
          · have hd17 := i_eq.mp hc17; (try simp (disch := omega) only [nT, t_m1000100, t_m1000010, t_m1000003, t_m1000002, t_m1000001, t_m1000000, t_m65535, t_m1000, t_m3, t_m1, t_0, t_1, t_2, t_3, t_4, t_5, t_6, t_7, t_8, t_9, t_10, t_11, t_12, t_13, t_15, t_16, t_20, t_21, t_22, t_32, t_40, t_41, t_48, t_49, t_57, t_59, t_60, t_63, t_72, t_76, t_88, t_100, t_144, t_200, t_255, t_288, t_400, t_800, t_999, t_1000, t_1024, t_1200, t_1600, t_3200, t_100000, t_200000, t_252645135, t_858993459, t_1431655765, u_m1000002, u_m1000001, u_m1000, u_m3, u_m1, u_0, u_1, u_2, u_3, u_4, u_5, u_7, u_8, u_10, u_11, u_15, u_60, u_100, u_255, u_999, u_1000, u_100000, u_4294967295] at hd17); exact absurd hc17 (by decide)
  refine g_lconst (v := 1) dX8_tens_0 (by decide) ?_
  refine g_lstore_n (i := 1) dX8_tens_1 rfl (Nat.le_of_ble_eq_true rfl) rfl ?_
  refine g_iconst (v := 0) dX8_tens_2 (by decide) ?_
  refine g_istore_n (i := 3) dX8_tens_3 rfl (Nat.le_of_ble_eq_true rfl) rfl ?_
  exact key 10 0 1 (by omega) (by rw [Nat.one_mul]; exact hz)
theorem lst_le {n : Nat} {tt ss : Nat → Nat} (h9 : ∀ t, tt t ≤ 999) : ∀ c p, lst n tt ss c p ≤ 999 * c * 10 ^ c
  | 0, p => Nat.zero_le _
  | c + 1, p => by
    unfold lst
    rcases hm : mno (fun t => tt t * 10 ^ (c + 1) + (10 - ss t) * lst n tt ss c (dlt p t)) p n 0 none with _ | x
    · exact Nat.zero_le _
    · rcases ((mno_p _ p n 0 none).1 x hm).2.2 with ⟨t, -, -, -, e⟩ | e
      · rw [Option.getD_some, e]
        have h1 := Nat.mul_le_mul_right (10 ^ (c + 1)) (h9 t)
        have h2 := Nat.mul_le_mul (show 10 - ss t ≤ 10 by omega) (lst_le (n := n) (ss := ss) h9 c (dlt p t))
        have h3 : 999 * (c + 1) * 10 ^ (c + 1) = 999 * 10 ^ (c + 1) + 10 * (999 * c * 10 ^ c) := by
          rw [Nat.mul_add, Nat.mul_one, Nat.add_mul, Nat.add_comm, Nat.pow_succ]
          congr 1
          rw [Nat.mul_comm (10 ^ c) 10, Nat.mul_left_comm]
        omega
      · cases e
theorem cnt_app (p : Nat → Bool) (r : Nat) : ∀ n k, cnt p (n + r) k = cnt p n k + cnt p r (k + n)
  | 0, k => by rw [Nat.zero_add, cnt, Nat.zero_add, Nat.add_zero]
  | n + 1, k => by rw [show n + 1 + r = (n + r) + 1 by omega, cnt, cnt, cnt_app p r n (k + 1), show k + 1 + n = k + (n + 1) by omega, Nat.add_assoc]
theorem cnt_z {p : Nat → Bool} : ∀ n k, (∀ i, k ≤ i → i < k + n → ¬ p i = true) → cnt p n k = 0
  | 0, _, _ => rfl
  | n + 1, k, h => by rw [cnt_f (h k (by omega) (by omega))]; exact cnt_z n (k + 1) (fun i h1 h2 => h i (by omega) (by omega))
theorem cnt_10 {n S : Nat} (hn : n ≤ 10) (hS : S < 2 ^ n) : cnt S.testBit 10 0 = cnt S.testBit n 0 := by
  obtain ⟨r, hr⟩ : ∃ r, 10 = n + r := ⟨10 - n, by omega⟩
  rw [hr, cnt_app, cnt_z r (0 + n) (fun i h1 h2 => ?_), Nat.add_zero]
  have h3 : S < 2 ^ i := Nat.lt_of_lt_of_le hS (Nat.pow_le_pow_right (by decide) (by omega))
  rw [Nat.testBit_lt_two_pow h3]
  decide
theorem c_withFirst {T : TS} (hT : WfT T) {h : HH} {fl : Nat → Int32} {lf : Nat → Int64} (hs : TsM h T.1 T.2.1 T.2.2.1 T.2.2.2.1 T.2.2.2.2.1 T.2.2.2.2.2.1 fl) (h45 : gF h 44 45 = .ref 72) (h72 : gA h 72 = aJ 1024 lf) {S t c : Nat} (hS : S < 2 ^ T.1) (ht : t < T.1) (hb : S.testBit t = true) (hc : cnt S.testBit T.1 0 = c + 1) (hl : lf (S ^^^ 2 ^ t) = nL (lst T.1 (ttO T) (ssO T) c (dlt S.testBit t))) : CT mX8_withFirst 1 0 0 [.ref 44, .int (nI S), .int (nI t)] h (fun r h' => r = some (.long (nL (wfs T.1 (ttO T) (ssO T) c S.testBit t))) ∧ h' = h) := by
  obtain ⟨e1, e2, e3, e4, e5, e6, e7, e8, e9, e10, e11, e12, e13, e14⟩ := id hs
  have hT1 := hT.1
  have hp := (mk_pow T.1 (by omega)).2.2
  obtain ⟨t1, t2, t3, t4⟩ := ttO_p hT t
  have q1 : T.2.2.2.1 t = nI (ttO T t) := i_eq.mpr (by rw [(t4 ht).1, nT (by omega)])
  have q2 : T.2.2.2.2.2.1 t = nI (ssO T t) := i_eq.mpr (by rw [(t4 ht).2, nT (by omega)])
  obtain ⟨d1, d2⟩ := mk_del S (by omega) t (by omega) hb
  have hc10 := (cnt_10 hT1 hS).trans hc
  refine CT.go [.ref 44, .int (nI S), .int (nI t)] (by decide +kernel) rfl rfl (fun Q' hQ => ?_)
  refine g_aload_n (i := 0) dX8_withFirst_0 rfl rfl ?_
  refine g_get dX8_withFirst_1 fl_X8_53 (by repeat' (first | assumption | exact rF_eq | refine rF_ne (by decide) ?_ | refine rF_a ?_ | exact rA_eq | refine rA_ne (by decide) ?_ | refine rA_f ?_)) (by repeat' (first | assumption | exact rF_eq | refine rF_ne (by decide) ?_ | refine rF_a ?_ | exact rA_eq | refine rA_ne (by decide) ?_ | refine rA_f ?_)) ?_
  refine g_iload_n (i := 2) dX8_withFirst_4 rfl rfl ?_
  refine g_iald dX8_withFirst_5 (by repeat' (first | assumption | exact rF_eq | refine rF_ne (by decide) ?_ | refine rF_a ?_ | exact rA_eq | refine rA_ne (by decide) ?_ | refine rA_f ?_)) (nT (by omega)) (by omega) ?_
  rw [q1]
  refine g_i2l dX8_withFirst_6 ?_
  refine g_iload_n (i := 1) dX8_withFirst_7 rfl rfl ?_
  refine g_callS (M' := mX8_tens) dX8_withFirst_8 lc_X8_tens ml_X8_255 (c_tens h (S := S) (by omega)) rfl rfl ⟨Nat.le_of_ble_eq_true rfl, Nat.le_of_ble_eq_true rfl, Nat.le_of_ble_eq_true rfl, Nat.le_of_ble_eq_true rfl⟩ (Nat.le_of_ble_eq_true rfl) ?_
  intro r_ h_ q_; obtain ⟨q1_, q2_⟩ := q_; have q2_ := q2_.symm; subst q1_; subst q2_
  rw [hc10]
  refine g_lmul dX8_withFirst_11 ?_
  refine g_bipush (v := 10) dX8_withFirst_12 (by decide) ?_
  refine g_aload_n (i := 0) dX8_withFirst_14 rfl rfl ?_
  refine g_get dX8_withFirst_15 fl_X8_59 (by repeat' (first | assumption | exact rF_eq | refine rF_ne (by decide) ?_ | refine rF_a ?_ | exact rA_eq | refine rA_ne (by decide) ?_ | refine rA_f ?_)) (by repeat' (first | assumption | exact rF_eq | refine rF_ne (by decide) ?_ | refine rF_a ?_ | exact rA_eq | refine rA_ne (by decide) ?_ | refine rA_f ?_)) ?_
  refine g_iload_n (i := 2) dX8_withFirst_18 rfl rfl ?_
  refine g_iald dX8_withFirst_19 (by repeat' (first | assumption | exact rF_eq | refine rF_ne (by decide) ?_ | refine rF_a ?_ | exact rA_eq | refine rA_ne (by decide) ?_ | refine rA_f ?_)) (nT (by omega)) (by omega) ?_
  rw [q2]
  refine g_isub dX8_withFirst_20 ?_
  refine g_i2l dX8_withFirst_21 ?_
  refine g_aload_n (i := 0) dX8_withFirst_22 rfl rfl ?_
  refine g_get dX8_withFirst_23 fl_X8_97 (by repeat' (first | assumption | exact rF_eq | refine rF_ne (by decide) ?_ | refine rF_a ?_ | exact rA_eq | refine rA_ne (by decide) ?_ | refine rA_f ?_)) (by repeat' (first | assumption | exact rF_eq | refine rF_ne (by decide) ?_ | refine rF_a ?_ | exact rA_eq | refine rA_ne (by decide) ?_ | refine rA_f ?_)) ?_
  refine g_iload_n (i := 1) dX8_withFirst_26 rfl rfl ?_
  refine g_iconst (v := 1) dX8_withFirst_27 (by decide) ?_
  refine g_iload_n (i := 2) dX8_withFirst_28 rfl rfl ?_
  refine g_ishl dX8_withFirst_29 ?_
  refine g_iconst (v := (-1)) dX8_withFirst_30 (by decide) ?_
  refine g_ixor dX8_withFirst_31 ?_
  refine g_iand dX8_withFirst_32 ?_
  rw [d1]
  refine g_lald dX8_withFirst_33 (by repeat' (first | assumption | exact rF_eq | refine rF_ne (by decide) ?_ | refine rF_a ?_ | exact rA_eq | refine rA_ne (by decide) ?_ | refine rA_f ?_)) (nT (by omega)) (by omega) ?_
  rw [hl]
  refine g_lmul dX8_withFirst_34 ?_
  refine g_ladd dX8_withFirst_35 ?_
  refine g_lret dX8_withFirst_36 rfl (hQ _ _ ?_)
  rw [wfs, nI_L (by omega), show (10 : Int32) - nI (ssO T t) = nI (10 - ssO T t) from n_sub t3, nI_L (by omega), nL_mul, nL_mul, nL_add]; exact ⟨rfl, rfl⟩
