/-! joins: the walks -/
theorem ad_T {x : Nat} {d : Int32} (hx : x < 12) (h1 : -3 ≤ d.toInt) (h2 : d.toInt ≤ 3) : (nI x + d).toInt = (x : Int) + d.toInt := by
  have := @nT x (by omega)
  rw [i_add (by omega) (by omega)]; omega
theorem sb_T {x : Nat} {d : Int32} (hx : x < 12) (h1 : -3 ≤ d.toInt) (h2 : d.toInt ≤ 3) : (nI x - d).toInt = (x : Int) - d.toInt := by
  have := @nT x (by omega)
  rw [i_sub (by omega) (by omega)]; omega
theorem bv_i {a b : Nat} (ha : a ≤ 16) (hb : b ≤ 16) : bv a = bv b ↔ a = b := by
  rw [i_eq]
  have := bv_T ha
  have := bv_T hb
  omega
theorem bv_n {a : Nat} (ha : a ≤ 16) : bv a = -1000000 ↔ a = 0 := bv_i (b := 0) ha (by omega)
theorem c_twice {W : WA} (hW : WfW W) {h : HH} (hg : GWX W h) {dx dy : Int32} (hx1 : -3 ≤ dx.toInt) (hx2 : dx.toInt ≤ 3) (hy1 : -3 ≤ dy.toInt) (hy2 : dy.toInt ≤ 3) : CT mX7_twice 3 0 0 [.ref 0, .int dx, .int dy] h (fun r h' => r = some (.int (nI (cnt (tT W dx.toInt dy.toInt) 144 0))) ∧ h' = h) := by
  obtain ⟨e1, e2, e3, e4, e5, e6, e7, e8, e9⟩ := id hg
  refine CT.go [.ref 0, .int dx, .int dy, hU, hU, hU] (by decide +kernel) rfl rfl (fun Q' hQ => ?_)
  obtain ⟨N, hN⟩ : ∃ N : Nat, N = 144 := ⟨_, rfl⟩
  rw [← hN] at hQ
  generalize hz : cnt (tT W dx.toInt dy.toInt) N 0 = z at hQ
  have key : ∀ m r acc v, r + m = 12 → acc ≤ 12 * r → acc + cnt (tT W dx.toInt dy.toInt) (12 * m) (12 * r) = z → GG (EM mX7_twice 3 0 0 Q') 0 0 5 [.ref 0, .int dx, .int dy, .int (nI acc), .int (nI r), v] [] h := by
    intro m
    induction m with
    | zero =>
      intro r acc v hr3 ha he
      obtain rfl : acc = z := he
      refine g_iload dX7_twice_5 rfl ?_
      refine g_bipush (v := 12) dX7_twice_7 (by decide) ?_
      refine g_icmp_ge (tgt := 73) dX7_twice_9 (by decide) (fun hc9 => ?_) (fun hc9 => ?_)
      · (try simp (disch := omega) only [nT, t_m1000100, t_m1000010, t_m1000003, t_m1000002, t_m1000001, t_m1000000, t_m65535, t_m1000, t_m3, t_m1, t_0, t_1, t_2, t_3, t_4, t_5, t_6, t_7, t_8, t_9, t_10, t_11, t_12, t_13, t_15, t_16, t_20, t_21, t_22, t_32, t_40, t_41, t_48, t_49, t_57, t_59, t_60, t_63, t_72, t_76, t_88, t_100, t_144, t_200, t_255, t_288, t_400, t_800, t_999, t_1000, t_1024, t_1200, t_1600, t_3200, t_100000, t_200000, t_252645135, t_858993459, t_1431655765, u_m1000002, u_m1000001, u_m1000, u_m3, u_m1, u_0, u_1, u_2, u_3, u_4, u_5, u_7, u_8, u_10, u_11, u_15, u_60, u_100, u_255, u_999, u_1000, u_100000, u_4294967295] at hc9)
        refine g_iload_n (i := 3) dX7_twice_73 rfl rfl ?_
        refine g_iret dX7_twice_74 rfl (rfl) (hQ _ _ ?_)
        exact ⟨rfl, rfl⟩
      · (try simp (disch := omega) only [nT, t_m1000100, t_m1000010, t_m1000003, t_m1000002, t_m1000001, t_m1000000, t_m65535, t_m1000, t_m3, t_m1, t_0, t_1, t_2, t_3, t_4, t_5, t_6, t_7, t_8, t_9, t_10, t_11, t_12, t_13, t_15, t_16, t_20, t_21, t_22, t_32, t_40, t_41, t_48, t_49, t_57, t_59, t_60, t_63, t_72, t_76, t_88, t_100, t_144, t_200, t_255, t_288, t_400, t_800, t_999, t_1000, t_1024, t_1200, t_1600, t_3200, t_100000, t_200000, t_252645135, t_858993459, t_1431655765, u_m1000002, u_m1000001, u_m1000, u_m3, u_m1, u_0, u_1, u_2, u_3, u_4, u_5, u_7, u_8, u_10, u_11, u_15, u_60, u_100, u_255, u_999, u_1000, u_100000, u_4294967295] at hc9); omega
    | succ m ih =>
      intro r acc v hr3 ha he
      have keyI : ∀ n k acc, k + n = 12 → acc ≤ 12 * r + k → acc + cnt (tT W dx.toInt dy.toInt) (12 * m + n) (12 * r + k) = z → GG (EM mX7_twice 3 0 0 Q') 0 0 15 [.ref 0, .int dx, .int dy, .int (nI acc), .int (nI r), .int (nI k)] [] h := by
        intro n
        induction n with
        | zero =>
          intro k acc hk ha he
          obtain rfl : k = 12 := by omega
          refine g_iload dX7_twice_15 rfl ?_
          refine g_bipush (v := 12) dX7_twice_17 (by decide) ?_
          refine g_icmp_ge (tgt := 67) dX7_twice_19 (by decide) (fun hc19 => ?_) (fun hc19 => ?_)
          · (try simp (disch := omega) only [nT, t_m1000100, t_m1000010, t_m1000003, t_m1000002, t_m1000001, t_m1000000, t_m65535, t_m1000, t_m3, t_m1, t_0, t_1, t_2, t_3, t_4, t_5, t_6, t_7, t_8, t_9, t_10, t_11, t_12, t_13, t_15, t_16, t_20, t_21, t_22, t_32, t_40, t_41, t_48, t_49, t_57, t_59, t_60, t_63, t_72, t_76, t_88, t_100, t_144, t_200, t_255, t_288, t_400, t_800, t_999, t_1000, t_1024, t_1200, t_1600, t_3200, t_100000, t_200000, t_252645135, t_858993459, t_1431655765, u_m1000002, u_m1000001, u_m1000, u_m3, u_m1, u_0, u_1, u_2, u_3, u_4, u_5, u_7, u_8, u_10, u_11, u_15, u_60, u_100, u_255, u_999, u_1000, u_100000, u_4294967295] at hc19)
            refine g_iinc dX7_twice_67 rfl (Nat.le_of_ble_eq_true rfl) rfl ?_
            refine g_goto (tgt := 5) dX7_twice_70 (by decide) ?_
            rw [ni_incO]
            exact ih (r + 1) acc _ (by omega) (by omega) he
          · (try simp (disch := omega) only [nT, t_m1000100, t_m1000010, t_m1000003, t_m1000002, t_m1000001, t_m1000000, t_m65535, t_m1000, t_m3, t_m1, t_0, t_1, t_2, t_3, t_4, t_5, t_6, t_7, t_8, t_9, t_10, t_11, t_12, t_13, t_15, t_16, t_20, t_21, t_22, t_32, t_40, t_41, t_48, t_49, t_57, t_59, t_60, t_63, t_72, t_76, t_88, t_100, t_144, t_200, t_255, t_288, t_400, t_800, t_999, t_1000, t_1024, t_1200, t_1600, t_3200, t_100000, t_200000, t_252645135, t_858993459, t_1431655765, u_m1000002, u_m1000001, u_m1000, u_m3, u_m1, u_0, u_1, u_2, u_3, u_4, u_5, u_7, u_8, u_10, u_11, u_15, u_60, u_100, u_255, u_999, u_1000, u_100000, u_4294967295] at hc19); omega
        | succ n ihn =>
          intro k acc hk ha he
          have hp : tT W dx.toInt dy.toInt (12 * r + k) = true ↔ _ := decide_eq_true_iff
          have hpa : atW W.2 (nI k).toInt (nI r).toInt = W.2 (12 * r + k) := by rw [nT (by omega), nT (by omega)]; exact atW_p (by omega) (by omega)
          rw [atB, show (12 * r + k) % 12 = k by omega, show (12 * r + k) / 12 = r by omega, ← ad_T (x := k) (by omega) hx1 hx2, ← ad_T (x := r) (by omega) hy1 hy2] at hp
          have hb := bv_n (hW (12 * r + k) (by omega)).2
          have hb2 := bv_n (atW_le (fun p hp => (hW p hp).1) (nI k + dx).toInt (nI r + dy).toInt)
          refine g_iload dX7_twice_15 rfl ?_
          refine g_bipush (v := 12) dX7_twice_17 (by decide) ?_
          refine g_icmp_ge (tgt := 67) dX7_twice_19 (by decide) (fun hc19 => ?_) (fun hc19 => ?_)
          · (try simp (disch := omega) only [nT, t_m1000100, t_m1000010, t_m1000003, t_m1000002, t_m1000001, t_m1000000, t_m65535, t_m1000, t_m3, t_m1, t_0, t_1, t_2, t_3, t_4, t_5, t_6, t_7, t_8, t_9, t_10, t_11, t_12, t_13, t_15, t_16, t_20, t_21, t_22, t_32, t_40, t_41, t_48, t_49, t_57, t_59, t_60, t_63, t_72, t_76, t_88, t_100, t_144, t_200, t_255, t_288, t_400, t_800, t_999, t_1000, t_1024, t_1200, t_1600, t_3200, t_100000, t_200000, t_252645135, t_858993459, t_1431655765, u_m1000002, u_m1000001, u_m1000, u_m3, u_m1, u_0, u_1, u_2, u_3, u_4, u_5, u_7, u_8, u_10, u_11, u_15, u_60, u_100, u_255, u_999, u_1000, u_100000, u_4294967295] at hc19); omega
          · (try simp (disch := omega) only [nT, t_m1000100, t_m1000010, t_m1000003, t_m1000002, t_m1000001, t_m1000000, t_m65535, t_m1000, t_m3, t_m1, t_0, t_1, t_2, t_3, t_4, t_5, t_6, t_7, t_8, t_9, t_10, t_11, t_12, t_13, t_15, t_16, t_20, t_21, t_22, t_32, t_40, t_41, t_48, t_49, t_57, t_59, t_60, t_63, t_72, t_76, t_88, t_100, t_144, t_200, t_255, t_288, t_400, t_800, t_999, t_1000, t_1024, t_1200, t_1600, t_3200, t_100000, t_200000, t_252645135, t_858993459, t_1431655765, u_m1000002, u_m1000001, u_m1000, u_m3, u_m1, u_0, u_1, u_2, u_3, u_4, u_5, u_7, u_8, u_10, u_11, u_15, u_60, u_100, u_255, u_999, u_1000, u_100000, u_4294967295] at hc19)
            refine g_aload_n (i := 0) dX7_twice_22 rfl rfl ?_
            refine g_get dX7_twice_23 fl_X7_87 (by repeat' (first | assumption | exact rF_eq | refine rF_ne (by decide) ?_ | refine rF_a ?_ | exact rA_eq | refine rA_ne (by decide) ?_ | refine rA_f ?_)) (by repeat' (first | assumption | exact rF_eq | refine rF_ne (by decide) ?_ | refine rF_a ?_ | exact rA_eq | refine rA_ne (by decide) ?_ | refine rA_f ?_)) ?_
            refine g_iload dX7_twice_26 rfl ?_
            refine g_iload dX7_twice_28 rfl ?_
            refine g_callV (M' := mX6_binAt) dX7_twice_30 lc_X6_binAt ml_X7_304 (c_binAt (c := 42) ⟨e6, e7, e9⟩ (nI k) (nI r)) rfl rfl (by repeat' (first | assumption | exact rF_eq | refine rF_ne (by decide) ?_ | refine rF_a ?_ | exact rA_eq | refine rA_ne (by decide) ?_ | refine rA_f ?_)) rfl ⟨Nat.le_of_ble_eq_true rfl, Nat.le_of_ble_eq_true rfl, Nat.le_of_ble_eq_true rfl, Nat.le_of_ble_eq_true rfl⟩ (Nat.le_of_ble_eq_true rfl) ?_
            intro r_ h_ q_; obtain ⟨q1_, q2_⟩ := q_; have q2_ := q2_.symm; subst q1_; subst q2_
            rw [hpa]
            refine g_ldc dX7_twice_33 kc_X7_155 ?_
            refine g_icmp_eq (tgt := 61) dX7_twice_35 (by decide) (fun hc35 => ?_) (fun hc35 => ?_)
            · have hd35 := i_eq.mp hc35; (try simp (disch := omega) only [nT, t_m1000100, t_m1000010, t_m1000003, t_m1000002, t_m1000001, t_m1000000, t_m65535, t_m1000, t_m3, t_m1, t_0, t_1, t_2, t_3, t_4, t_5, t_6, t_7, t_8, t_9, t_10, t_11, t_12, t_13, t_15, t_16, t_20, t_21, t_22, t_32, t_40, t_41, t_48, t_49, t_57, t_59, t_60, t_63, t_72, t_76, t_88, t_100, t_144, t_200, t_255, t_288, t_400, t_800, t_999, t_1000, t_1024, t_1200, t_1600, t_3200, t_100000, t_200000, t_252645135, t_858993459, t_1431655765, u_m1000002, u_m1000001, u_m1000, u_m3, u_m1, u_0, u_1, u_2, u_3, u_4, u_5, u_7, u_8, u_10, u_11, u_15, u_60, u_100, u_255, u_999, u_1000, u_100000, u_4294967295] at hd35)
              refine g_iinc dX7_twice_61 rfl (Nat.le_of_ble_eq_true rfl) rfl ?_
              refine g_goto (tgt := 15) dX7_twice_64 (by decide) ?_
              rw [ni_incO]
              first
              | (rw [← Nat.add_assoc, cnt_t (hp.mpr ⟨Nat.pos_of_ne_zero (fun q => absurd (hb.mpr q) (by assumption)), Nat.pos_of_ne_zero (fun q => absurd (hb2.mpr q) (by assumption))⟩)] at he; rw [ni_incO]; exact ihn (k + 1) (acc + 1) (by omega) (by omega) (by rw [Nat.add_assoc acc]; exact he))
              | (rw [← Nat.add_assoc, cnt_f (fun q => by have := hp.mp q; first | (have := hb2.mp (by assumption); omega) | (have := hb.mp (by assumption); omega))] at he; exact ihn (k + 1) acc (by omega) (by omega) he)
            · have hd35 := mt i_eq.mpr hc35; (try simp (disch := omega) only [nT, t_m1000100, t_m1000010, t_m1000003, t_m1000002, t_m1000001, t_m1000000, t_m65535, t_m1000, t_m3, t_m1, t_0, t_1, t_2, t_3, t_4, t_5, t_6, t_7, t_8, t_9, t_10, t_11, t_12, t_13, t_15, t_16, t_20, t_21, t_22, t_32, t_40, t_41, t_48, t_49, t_57, t_59, t_60, t_63, t_72, t_76, t_88, t_100, t_144, t_200, t_255, t_288, t_400, t_800, t_999, t_1000, t_1024, t_1200, t_1600, t_3200, t_100000, t_200000, t_252645135, t_858993459, t_1431655765, u_m1000002, u_m1000001, u_m1000, u_m3, u_m1, u_0, u_1, u_2, u_3, u_4, u_5, u_7, u_8, u_10, u_11, u_15, u_60, u_100, u_255, u_999, u_1000, u_100000, u_4294967295] at hd35)
              refine g_aload_n (i := 0) dX7_twice_38 rfl rfl ?_
              refine g_get dX7_twice_39 fl_X7_83 (by repeat' (first | assumption | exact rF_eq | refine rF_ne (by decide) ?_ | refine rF_a ?_ | exact rA_eq | refine rA_ne (by decide) ?_ | refine rA_f ?_)) (by repeat' (first | assumption | exact rF_eq | refine rF_ne (by decide) ?_ | refine rF_a ?_ | exact rA_eq | refine rA_ne (by decide) ?_ | refine rA_f ?_)) ?_
              refine g_iload dX7_twice_42 rfl ?_
              refine g_iload_n (i := 1) dX7_twice_44 rfl rfl ?_
              refine g_iadd dX7_twice_45 ?_
              refine g_iload dX7_twice_46 rfl ?_
              refine g_iload_n (i := 2) dX7_twice_48 rfl rfl ?_
              refine g_iadd dX7_twice_49 ?_
              refine g_callV (M' := mX6_binAt) dX7_twice_50 lc_X6_binAt ml_X7_304 (c_binAt (c := 40) ⟨e4, e5, e8⟩ (nI k + dx) (nI r + dy)) rfl rfl (by repeat' (first | assumption | exact rF_eq | refine rF_ne (by decide) ?_ | refine rF_a ?_ | exact rA_eq | refine rA_ne (by decide) ?_ | refine rA_f ?_)) rfl ⟨Nat.le_of_ble_eq_true rfl, Nat.le_of_ble_eq_true rfl, Nat.le_of_ble_eq_true rfl, Nat.le_of_ble_eq_true rfl⟩ (Nat.le_of_ble_eq_true rfl) ?_
              intro r_ h_ q_; obtain ⟨q1_, q2_⟩ := q_; have q2_ := q2_.symm; subst q1_; subst q2_
              refine g_ldc dX7_twice_53 kc_X7_155 ?_
              refine g_icmp_eq (tgt := 61) dX7_twice_55 (by decide) (fun hc55 => ?_) (fun hc55 => ?_)
              · have hd55 := i_eq.mp hc55; (try simp (disch := omega) only [nT, t_m1000100, t_m1000010, t_m1000003, t_m1000002, t_m1000001, t_m1000000, t_m65535, t_m1000, t_m3, t_m1, t_0, t_1, t_2, t_3, t_4, t_5, t_6, t_7, t_8, t_9, t_10, t_11, t_12, t_13, t_15, t_16, t_20, t_21, t_22, t_32, t_40, t_41, t_48, t_49, t_57, t_59, t_60, t_63, t_72, t_76, t_88, t_100, t_144, t_200, t_255, t_288, t_400, t_800, t_999, t_1000, t_1024, t_1200, t_1600, t_3200, t_100000, t_200000, t_252645135, t_858993459, t_1431655765, u_m1000002, u_m1000001, u_m1000, u_m3, u_m1, u_0, u_1, u_2, u_3, u_4, u_5, u_7, u_8, u_10, u_11, u_15, u_60, u_100, u_255, u_999, u_1000, u_100000, u_4294967295] at hd55)
                refine g_iinc dX7_twice_61 rfl (Nat.le_of_ble_eq_true rfl) rfl ?_
                refine g_goto (tgt := 15) dX7_twice_64 (by decide) ?_
                rw [ni_incO]
                first
                | (rw [← Nat.add_assoc, cnt_t (hp.mpr ⟨Nat.pos_of_ne_zero (fun q => absurd (hb.mpr q) (by assumption)), Nat.pos_of_ne_zero (fun q => absurd (hb2.mpr q) (by assumption))⟩)] at he; rw [ni_incO]; exact ihn (k + 1) (acc + 1) (by omega) (by omega) (by rw [Nat.add_assoc acc]; exact he))
                | (rw [← Nat.add_assoc, cnt_f (fun q => by have := hp.mp q; first | (have := hb2.mp (by assumption); omega) | (have := hb.mp (by assumption); omega))] at he; exact ihn (k + 1) acc (by omega) (by omega) he)
              · have hd55 := mt i_eq.mpr hc55; (try simp (disch := omega) only [nT, t_m1000100, t_m1000010, t_m1000003, t_m1000002, t_m1000001, t_m1000000, t_m65535, t_m1000, t_m3, t_m1, t_0, t_1, t_2, t_3, t_4, t_5, t_6, t_7, t_8, t_9, t_10, t_11, t_12, t_13, t_15, t_16, t_20, t_21, t_22, t_32, t_40, t_41, t_48, t_49, t_57, t_59, t_60, t_63, t_72, t_76, t_88, t_100, t_144, t_200, t_255, t_288, t_400, t_800, t_999, t_1000, t_1024, t_1200, t_1600, t_3200, t_100000, t_200000, t_252645135, t_858993459, t_1431655765, u_m1000002, u_m1000001, u_m1000, u_m3, u_m1, u_0, u_1, u_2, u_3, u_4, u_5, u_7, u_8, u_10, u_11, u_15, u_60, u_100, u_255, u_999, u_1000, u_100000, u_4294967295] at hd55)
                refine g_iinc dX7_twice_58 rfl (Nat.le_of_ble_eq_true rfl) rfl ?_
                refine g_iinc dX7_twice_61 rfl (Nat.le_of_ble_eq_true rfl) rfl ?_
                refine g_goto (tgt := 15) dX7_twice_64 (by decide) ?_
                rw [ni_incO]
                first
                | (rw [← Nat.add_assoc, cnt_t (hp.mpr ⟨Nat.pos_of_ne_zero (fun q => absurd (hb.mpr q) (by assumption)), Nat.pos_of_ne_zero (fun q => absurd (hb2.mpr q) (by assumption))⟩)] at he; rw [ni_incO]; exact ihn (k + 1) (acc + 1) (by omega) (by omega) (by rw [Nat.add_assoc acc]; exact he))
                | (rw [← Nat.add_assoc, cnt_f (fun q => by have := hp.mp q; first | (have := hb2.mp (by assumption); omega) | (have := hb.mp (by assumption); omega))] at he; exact ihn (k + 1) acc (by omega) (by omega) he)
      refine g_iload dX7_twice_5 rfl ?_
      refine g_bipush (v := 12) dX7_twice_7 (by decide) ?_
      refine g_icmp_ge (tgt := 73) dX7_twice_9 (by decide) (fun hc9 => ?_) (fun hc9 => ?_)
      · (try simp (disch := omega) only [nT, t_m1000100, t_m1000010, t_m1000003, t_m1000002, t_m1000001, t_m1000000, t_m65535, t_m1000, t_m3, t_m1, t_0, t_1, t_2, t_3, t_4, t_5, t_6, t_7, t_8, t_9, t_10, t_11, t_12, t_13, t_15, t_16, t_20, t_21, t_22, t_32, t_40, t_41, t_48, t_49, t_57, t_59, t_60, t_63, t_72, t_76, t_88, t_100, t_144, t_200, t_255, t_288, t_400, t_800, t_999, t_1000, t_1024, t_1200, t_1600, t_3200, t_100000, t_200000, t_252645135, t_858993459, t_1431655765, u_m1000002, u_m1000001, u_m1000, u_m3, u_m1, u_0, u_1, u_2, u_3, u_4, u_5, u_7, u_8, u_10, u_11, u_15, u_60, u_100, u_255, u_999, u_1000, u_100000, u_4294967295] at hc9); omega
      · (try simp (disch := omega) only [nT, t_m1000100, t_m1000010, t_m1000003, t_m1000002, t_m1000001, t_m1000000, t_m65535, t_m1000, t_m3, t_m1, t_0, t_1, t_2, t_3, t_4, t_5, t_6, t_7, t_8, t_9, t_10, t_11, t_12, t_13, t_15, t_16, t_20, t_21, t_22, t_32, t_40, t_41, t_48, t_49, t_57, t_59, t_60, t_63, t_72, t_76, t_88, t_100, t_144, t_200, t_255, t_288, t_400, t_800, t_999, t_1000, t_1024, t_1200, t_1600, t_3200, t_100000, t_200000, t_252645135, t_858993459, t_1431655765, u_m1000002, u_m1000001, u_m1000, u_m3, u_m1, u_0, u_1, u_2, u_3, u_4, u_5, u_7, u_8, u_10, u_11, u_15, u_60, u_100, u_255, u_999, u_1000, u_100000, u_4294967295] at hc9)
        refine g_iconst (v := 0) dX7_twice_12 (by decide) ?_
        refine g_istore dX7_twice_13 (Nat.le_of_ble_eq_true rfl) rfl ?_
        exact keyI 12 0 acc (by omega) (by omega) he
  refine g_iconst (v := 0) dX7_twice_0 (by decide) ?_
  refine g_istore_n (i := 3) dX7_twice_1 rfl (Nat.le_of_ble_eq_true rfl) rfl ?_
  refine g_iconst (v := 0) dX7_twice_2 (by decide) ?_
  refine g_istore dX7_twice_3 (Nat.le_of_ble_eq_true rfl) rfl ?_
  exact key 12 0 0 _ (by omega) (by omega) (by rw [Nat.zero_add, ← hz, hN])
theorem c_same {W : WA} (hW : WfW W) {h : HH} (hg : GWX W h) {dx dy : Int32} (hx1 : -3 ≤ dx.toInt) (hx2 : dx.toInt ≤ 3) (hy1 : -3 ≤ dy.toInt) (hy2 : dy.toInt ≤ 3) : CT mX7_same 3 0 0 [.ref 0, .int dx, .int dy] h (fun r h' => r = some (.int (nI (cnt (tS W dx.toInt dy.toInt) 144 0))) ∧ h' = h) := by
  obtain ⟨e1, e2, e3, e4, e5, e6, e7, e8, e9⟩ := id hg
  refine CT.go [.ref 0, .int dx, .int dy, hU, hU, hU, hU] (by decide +kernel) rfl rfl (fun Q' hQ => ?_)
  obtain ⟨N, hN⟩ : ∃ N : Nat, N = 144 := ⟨_, rfl⟩
  rw [← hN] at hQ
  generalize hz : cnt (tS W dx.toInt dy.toInt) N 0 = z at hQ
  have key : ∀ m r acc v v6, r + m = 12 → acc ≤ 12 * r → acc + cnt (tS W dx.toInt dy.toInt) (12 * m) (12 * r) = z → GG (EM mX7_same 3 0 0 Q') 0 0 5 [.ref 0, .int dx, .int dy, .int (nI acc), .int (nI r), v, v6] [] h := by
    intro m
    induction m with
    | zero =>
      intro r acc v v6 hr3 ha he
      obtain rfl : acc = z := he
      refine g_iload dX7_same_5 rfl ?_
      refine g_bipush (v := 12) dX7_same_7 (by decide) ?_
      refine g_icmp_ge (tgt := 77) dX7_same_9 (by decide) (fun hc9 => ?_) (fun hc9 => ?_)
      · (try simp (disch := omega) only [nT, t_m1000100, t_m1000010, t_m1000003, t_m1000002, t_m1000001, t_m1000000, t_m65535, t_m1000, t_m3, t_m1, t_0, t_1, t_2, t_3, t_4, t_5, t_6, t_7, t_8, t_9, t_10, t_11, t_12, t_13, t_15, t_16, t_20, t_21, t_22, t_32, t_40, t_41, t_48, t_49, t_57, t_59, t_60, t_63, t_72, t_76, t_88, t_100, t_144, t_200, t_255, t_288, t_400, t_800, t_999, t_1000, t_1024, t_1200, t_1600, t_3200, t_100000, t_200000, t_252645135, t_858993459, t_1431655765, u_m1000002, u_m1000001, u_m1000, u_m3, u_m1, u_0, u_1, u_2, u_3, u_4, u_5, u_7, u_8, u_10, u_11, u_15, u_60, u_100, u_255, u_999, u_1000, u_100000, u_4294967295] at hc9)
        refine g_iload_n (i := 3) dX7_same_77 rfl rfl ?_
        refine g_iret dX7_same_78 rfl (rfl) (hQ _ _ ?_)
        exact ⟨rfl, rfl⟩
      · (try simp (disch := omega) only [nT, t_m1000100, t_m1000010, t_m1000003, t_m1000002, t_m1000001, t_m1000000, t_m65535, t_m1000, t_m3, t_m1, t_0, t_1, t_2, t_3, t_4, t_5, t_6, t_7, t_8, t_9, t_10, t_11, t_12, t_13, t_15, t_16, t_20, t_21, t_22, t_32, t_40, t_41, t_48, t_49, t_57, t_59, t_60, t_63, t_72, t_76, t_88, t_100, t_144, t_200, t_255, t_288, t_400, t_800, t_999, t_1000, t_1024, t_1200, t_1600, t_3200, t_100000, t_200000, t_252645135, t_858993459, t_1431655765, u_m1000002, u_m1000001, u_m1000, u_m3, u_m1, u_0, u_1, u_2, u_3, u_4, u_5, u_7, u_8, u_10, u_11, u_15, u_60, u_100, u_255, u_999, u_1000, u_100000, u_4294967295] at hc9); omega
    | succ m ih =>
      intro r acc v v6 hr3 ha he
      have keyI : ∀ n k acc v6, k + n = 12 → acc ≤ 12 * r + k → acc + cnt (tS W dx.toInt dy.toInt) (12 * m + n) (12 * r + k) = z → GG (EM mX7_same 3 0 0 Q') 0 0 15 [.ref 0, .int dx, .int dy, .int (nI acc), .int (nI r), .int (nI k), v6] [] h := by
        intro n
        induction n with
        | zero =>
          intro k acc v6 hk ha he
          obtain rfl : k = 12 := by omega
          refine g_iload dX7_same_15 rfl ?_
          refine g_bipush (v := 12) dX7_same_17 (by decide) ?_
          refine g_icmp_ge (tgt := 71) dX7_same_19 (by decide) (fun hc19 => ?_) (fun hc19 => ?_)
          · (try simp (disch := omega) only [nT, t_m1000100, t_m1000010, t_m1000003, t_m1000002, t_m1000001, t_m1000000, t_m65535, t_m1000, t_m3, t_m1, t_0, t_1, t_2, t_3, t_4, t_5, t_6, t_7, t_8, t_9, t_10, t_11, t_12, t_13, t_15, t_16, t_20, t_21, t_22, t_32, t_40, t_41, t_48, t_49, t_57, t_59, t_60, t_63, t_72, t_76, t_88, t_100, t_144, t_200, t_255, t_288, t_400, t_800, t_999, t_1000, t_1024, t_1200, t_1600, t_3200, t_100000, t_200000, t_252645135, t_858993459, t_1431655765, u_m1000002, u_m1000001, u_m1000, u_m3, u_m1, u_0, u_1, u_2, u_3, u_4, u_5, u_7, u_8, u_10, u_11, u_15, u_60, u_100, u_255, u_999, u_1000, u_100000, u_4294967295] at hc19)
            refine g_iinc dX7_same_71 rfl (Nat.le_of_ble_eq_true rfl) rfl ?_
            refine g_goto (tgt := 5) dX7_same_74 (by decide) ?_
            rw [ni_incO]
            exact ih (r + 1) acc _ _ (by omega) (by omega) he
          · (try simp (disch := omega) only [nT, t_m1000100, t_m1000010, t_m1000003, t_m1000002, t_m1000001, t_m1000000, t_m65535, t_m1000, t_m3, t_m1, t_0, t_1, t_2, t_3, t_4, t_5, t_6, t_7, t_8, t_9, t_10, t_11, t_12, t_13, t_15, t_16, t_20, t_21, t_22, t_32, t_40, t_41, t_48, t_49, t_57, t_59, t_60, t_63, t_72, t_76, t_88, t_100, t_144, t_200, t_255, t_288, t_400, t_800, t_999, t_1000, t_1024, t_1200, t_1600, t_3200, t_100000, t_200000, t_252645135, t_858993459, t_1431655765, u_m1000002, u_m1000001, u_m1000, u_m3, u_m1, u_0, u_1, u_2, u_3, u_4, u_5, u_7, u_8, u_10, u_11, u_15, u_60, u_100, u_255, u_999, u_1000, u_100000, u_4294967295] at hc19); omega
        | succ n ihn =>
          intro k acc v6 hk ha he
          have hp : tS W dx.toInt dy.toInt (12 * r + k) = true ↔ _ := decide_eq_true_iff
          have hpa : atW W.2 (nI k).toInt (nI r).toInt = W.2 (12 * r + k) := by rw [nT (by omega), nT (by omega)]; exact atW_p (by omega) (by omega)
          rw [atB, show (12 * r + k) % 12 = k by omega, show (12 * r + k) / 12 = r by omega, ← ad_T (x := k) (by omega) hx1 hx2, ← ad_T (x := r) (by omega) hy1 hy2] at hp
          have hb := bv_n (hW (12 * r + k) (by omega)).2
          have hb2 := bv_i (atW_le (fun p hp => (hW p hp).1) (nI k + dx).toInt (nI r + dy).toInt) (hW (12 * r + k) (by omega)).2
          refine g_iload dX7_same_15 rfl ?_
          refine g_bipush (v := 12) dX7_same_17 (by decide) ?_
          refine g_icmp_ge (tgt := 71) dX7_same_19 (by decide) (fun hc19 => ?_) (fun hc19 => ?_)
          · (try simp (disch := omega) only [nT, t_m1000100, t_m1000010, t_m1000003, t_m1000002, t_m1000001, t_m1000000, t_m65535, t_m1000, t_m3, t_m1, t_0, t_1, t_2, t_3, t_4, t_5, t_6, t_7, t_8, t_9, t_10, t_11, t_12, t_13, t_15, t_16, t_20, t_21, t_22, t_32, t_40, t_41, t_48, t_49, t_57, t_59, t_60, t_63, t_72, t_76, t_88, t_100, t_144, t_200, t_255, t_288, t_400, t_800, t_999, t_1000, t_1024, t_1200, t_1600, t_3200, t_100000, t_200000, t_252645135, t_858993459, t_1431655765, u_m1000002, u_m1000001, u_m1000, u_m3, u_m1, u_0, u_1, u_2, u_3, u_4, u_5, u_7, u_8, u_10, u_11, u_15, u_60, u_100, u_255, u_999, u_1000, u_100000, u_4294967295] at hc19); omega
          · (try simp (disch := omega) only [nT, t_m1000100, t_m1000010, t_m1000003, t_m1000002, t_m1000001, t_m1000000, t_m65535, t_m1000, t_m3, t_m1, t_0, t_1, t_2, t_3, t_4, t_5, t_6, t_7, t_8, t_9, t_10, t_11, t_12, t_13, t_15, t_16, t_20, t_21, t_22, t_32, t_40, t_41, t_48, t_49, t_57, t_59, t_60, t_63, t_72, t_76, t_88, t_100, t_144, t_200, t_255, t_288, t_400, t_800, t_999, t_1000, t_1024, t_1200, t_1600, t_3200, t_100000, t_200000, t_252645135, t_858993459, t_1431655765, u_m1000002, u_m1000001, u_m1000, u_m3, u_m1, u_0, u_1, u_2, u_3, u_4, u_5, u_7, u_8, u_10, u_11, u_15, u_60, u_100, u_255, u_999, u_1000, u_100000, u_4294967295] at hc19)
            refine g_aload_n (i := 0) dX7_same_22 rfl rfl ?_
            refine g_get dX7_same_23 fl_X7_87 (by repeat' (first | assumption | exact rF_eq | refine rF_ne (by decide) ?_ | refine rF_a ?_ | exact rA_eq | refine rA_ne (by decide) ?_ | refine rA_f ?_)) (by repeat' (first | assumption | exact rF_eq | refine rF_ne (by decide) ?_ | refine rF_a ?_ | exact rA_eq | refine rA_ne (by decide) ?_ | refine rA_f ?_)) ?_
            refine g_iload dX7_same_26 rfl ?_
            refine g_iload dX7_same_28 rfl ?_
            refine g_callV (M' := mX6_binAt) dX7_same_30 lc_X6_binAt ml_X7_304 (c_binAt (c := 42) ⟨e6, e7, e9⟩ (nI k) (nI r)) rfl rfl (by repeat' (first | assumption | exact rF_eq | refine rF_ne (by decide) ?_ | refine rF_a ?_ | exact rA_eq | refine rA_ne (by decide) ?_ | refine rA_f ?_)) rfl ⟨Nat.le_of_ble_eq_true rfl, Nat.le_of_ble_eq_true rfl, Nat.le_of_ble_eq_true rfl, Nat.le_of_ble_eq_true rfl⟩ (Nat.le_of_ble_eq_true rfl) ?_
            intro r_ h_ q_; obtain ⟨q1_, q2_⟩ := q_; have q2_ := q2_.symm; subst q1_; subst q2_
            rw [hpa]
            refine g_istore dX7_same_33 (Nat.le_of_ble_eq_true rfl) rfl ?_
            refine g_iload dX7_same_35 rfl ?_
            refine g_ldc dX7_same_37 kc_X7_155 ?_
            refine g_icmp_eq (tgt := 65) dX7_same_39 (by decide) (fun hc39 => ?_) (fun hc39 => ?_)
            · have hd39 := i_eq.mp hc39; (try simp (disch := omega) only [nT, t_m1000100, t_m1000010, t_m1000003, t_m1000002, t_m1000001, t_m1000000, t_m65535, t_m1000, t_m3, t_m1, t_0, t_1, t_2, t_3, t_4, t_5, t_6, t_7, t_8, t_9, t_10, t_11, t_12, t_13, t_15, t_16, t_20, t_21, t_22, t_32, t_40, t_41, t_48, t_49, t_57, t_59, t_60, t_63, t_72, t_76, t_88, t_100, t_144, t_200, t_255, t_288, t_400, t_800, t_999, t_1000, t_1024, t_1200, t_1600, t_3200, t_100000, t_200000, t_252645135, t_858993459, t_1431655765, u_m1000002, u_m1000001, u_m1000, u_m3, u_m1, u_0, u_1, u_2, u_3, u_4, u_5, u_7, u_8, u_10, u_11, u_15, u_60, u_100, u_255, u_999, u_1000, u_100000, u_4294967295] at hd39)
              refine g_iinc dX7_same_65 rfl (Nat.le_of_ble_eq_true rfl) rfl ?_
              refine g_goto (tgt := 15) dX7_same_68 (by decide) ?_
              rw [ni_incO]
              first
              | (have t1 := Nat.pos_of_ne_zero (fun q => absurd (hb.mpr q) (by assumption)); have t2 := hb2.mp (by assumption); rw [← Nat.add_assoc, cnt_t (hp.mpr ⟨t1, by omega, t2⟩)] at he; rw [ni_incO]; exact ihn (k + 1) (acc + 1) _ (by omega) (by omega) (by rw [Nat.add_assoc acc]; exact he))
              | (rw [← Nat.add_assoc, cnt_f (fun q => by have := hp.mp q; first | exact absurd (hb2.mpr this.2.2) (by assumption) | (have := hb.mp (by assumption); omega))] at he; exact ihn (k + 1) acc _ (by omega) (by omega) he)
            · have hd39 := mt i_eq.mpr hc39; (try simp (disch := omega) only [nT, t_m1000100, t_m1000010, t_m1000003, t_m1000002, t_m1000001, t_m1000000, t_m65535, t_m1000, t_m3, t_m1, t_0, t_1, t_2, t_3, t_4, t_5, t_6, t_7, t_8, t_9, t_10, t_11, t_12, t_13, t_15, t_16, t_20, t_21, t_22, t_32, t_40, t_41, t_48, t_49, t_57, t_59, t_60, t_63, t_72, t_76, t_88, t_100, t_144, t_200, t_255, t_288, t_400, t_800, t_999, t_1000, t_1024, t_1200, t_1600, t_3200, t_100000, t_200000, t_252645135, t_858993459, t_1431655765, u_m1000002, u_m1000001, u_m1000, u_m3, u_m1, u_0, u_1, u_2, u_3, u_4, u_5, u_7, u_8, u_10, u_11, u_15, u_60, u_100, u_255, u_999, u_1000, u_100000, u_4294967295] at hd39)
              refine g_aload_n (i := 0) dX7_same_42 rfl rfl ?_
              refine g_get dX7_same_43 fl_X7_83 (by repeat' (first | assumption | exact rF_eq | refine rF_ne (by decide) ?_ | refine rF_a ?_ | exact rA_eq | refine rA_ne (by decide) ?_ | refine rA_f ?_)) (by repeat' (first | assumption | exact rF_eq | refine rF_ne (by decide) ?_ | refine rF_a ?_ | exact rA_eq | refine rA_ne (by decide) ?_ | refine rA_f ?_)) ?_
              refine g_iload dX7_same_46 rfl ?_
              refine g_iload_n (i := 1) dX7_same_48 rfl rfl ?_
              refine g_iadd dX7_same_49 ?_
              refine g_iload dX7_same_50 rfl ?_
              refine g_iload_n (i := 2) dX7_same_52 rfl rfl ?_
              refine g_iadd dX7_same_53 ?_
              refine g_callV (M' := mX6_binAt) dX7_same_54 lc_X6_binAt ml_X7_304 (c_binAt (c := 40) ⟨e4, e5, e8⟩ (nI k + dx) (nI r + dy)) rfl rfl (by repeat' (first | assumption | exact rF_eq | refine rF_ne (by decide) ?_ | refine rF_a ?_ | exact rA_eq | refine rA_ne (by decide) ?_ | refine rA_f ?_)) rfl ⟨Nat.le_of_ble_eq_true rfl, Nat.le_of_ble_eq_true rfl, Nat.le_of_ble_eq_true rfl, Nat.le_of_ble_eq_true rfl⟩ (Nat.le_of_ble_eq_true rfl) ?_
              intro r_ h_ q_; obtain ⟨q1_, q2_⟩ := q_; have q2_ := q2_.symm; subst q1_; subst q2_
              refine g_iload dX7_same_57 rfl ?_
              refine g_icmp_ne (tgt := 65) dX7_same_59 (by decide) (fun hc59 => ?_) (fun hc59 => ?_)
              · have hd59 := mt i_eq.mpr hc59; (try simp (disch := omega) only [nT, t_m1000100, t_m1000010, t_m1000003, t_m1000002, t_m1000001, t_m1000000, t_m65535, t_m1000, t_m3, t_m1, t_0, t_1, t_2, t_3, t_4, t_5, t_6, t_7, t_8, t_9, t_10, t_11, t_12, t_13, t_15, t_16, t_20, t_21, t_22, t_32, t_40, t_41, t_48, t_49, t_57, t_59, t_60, t_63, t_72, t_76, t_88, t_100, t_144, t_200, t_255, t_288, t_400, t_800, t_999, t_1000, t_1024, t_1200, t_1600, t_3200, t_100000, t_200000, t_252645135, t_858993459, t_1431655765, u_m1000002, u_m1000001, u_m1000, u_m3, u_m1, u_0, u_1, u_2, u_3, u_4, u_5, u_7, u_8, u_10, u_11, u_15, u_60, u_100, u_255, u_999, u_1000, u_100000, u_4294967295] at hd59)
                refine g_iinc dX7_same_65 rfl (Nat.le_of_ble_eq_true rfl) rfl ?_
                refine g_goto (tgt := 15) dX7_same_68 (by decide) ?_
                rw [ni_incO]
                first
                | (have t1 := Nat.pos_of_ne_zero (fun q => absurd (hb.mpr q) (by assumption)); have t2 := hb2.mp (by assumption); rw [← Nat.add_assoc, cnt_t (hp.mpr ⟨t1, by omega, t2⟩)] at he; rw [ni_incO]; exact ihn (k + 1) (acc + 1) _ (by omega) (by omega) (by rw [Nat.add_assoc acc]; exact he))
                | (rw [← Nat.add_assoc, cnt_f (fun q => by have := hp.mp q; first | exact absurd (hb2.mpr this.2.2) (by assumption) | (have := hb.mp (by assumption); omega))] at he; exact ihn (k + 1) acc _ (by omega) (by omega) he)
              · have hd59 := i_eq.mp hc59; (try simp (disch := omega) only [nT, t_m1000100, t_m1000010, t_m1000003, t_m1000002, t_m1000001, t_m1000000, t_m65535, t_m1000, t_m3, t_m1, t_0, t_1, t_2, t_3, t_4, t_5, t_6, t_7, t_8, t_9, t_10, t_11, t_12, t_13, t_15, t_16, t_20, t_21, t_22, t_32, t_40, t_41, t_48, t_49, t_57, t_59, t_60, t_63, t_72, t_76, t_88, t_100, t_144, t_200, t_255, t_288, t_400, t_800, t_999, t_1000, t_1024, t_1200, t_1600, t_3200, t_100000, t_200000, t_252645135, t_858993459, t_1431655765, u_m1000002, u_m1000001, u_m1000, u_m3, u_m1, u_0, u_1, u_2, u_3, u_4, u_5, u_7, u_8, u_10, u_11, u_15, u_60, u_100, u_255, u_999, u_1000, u_100000, u_4294967295] at hd59)
                refine g_iinc dX7_same_62 rfl (Nat.le_of_ble_eq_true rfl) rfl ?_
                refine g_iinc dX7_same_65 rfl (Nat.le_of_ble_eq_true rfl) rfl ?_
                refine g_goto (tgt := 15) dX7_same_68 (by decide) ?_
                rw [ni_incO]
                first
                | (have t1 := Nat.pos_of_ne_zero (fun q => absurd (hb.mpr q) (by assumption)); have t2 := hb2.mp (by assumption); rw [← Nat.add_assoc, cnt_t (hp.mpr ⟨t1, by omega, t2⟩)] at he; rw [ni_incO]; exact ihn (k + 1) (acc + 1) _ (by omega) (by omega) (by rw [Nat.add_assoc acc]; exact he))
                | (rw [← Nat.add_assoc, cnt_f (fun q => by have := hp.mp q; first | exact absurd (hb2.mpr this.2.2) (by assumption) | (have := hb.mp (by assumption); omega))] at he; exact ihn (k + 1) acc _ (by omega) (by omega) he)
      refine g_iload dX7_same_5 rfl ?_
      refine g_bipush (v := 12) dX7_same_7 (by decide) ?_
      refine g_icmp_ge (tgt := 77) dX7_same_9 (by decide) (fun hc9 => ?_) (fun hc9 => ?_)
      · (try simp (disch := omega) only [nT, t_m1000100, t_m1000010, t_m1000003, t_m1000002, t_m1000001, t_m1000000, t_m65535, t_m1000, t_m3, t_m1, t_0, t_1, t_2, t_3, t_4, t_5, t_6, t_7, t_8, t_9, t_10, t_11, t_12, t_13, t_15, t_16, t_20, t_21, t_22, t_32, t_40, t_41, t_48, t_49, t_57, t_59, t_60, t_63, t_72, t_76, t_88, t_100, t_144, t_200, t_255, t_288, t_400, t_800, t_999, t_1000, t_1024, t_1200, t_1600, t_3200, t_100000, t_200000, t_252645135, t_858993459, t_1431655765, u_m1000002, u_m1000001, u_m1000, u_m3, u_m1, u_0, u_1, u_2, u_3, u_4, u_5, u_7, u_8, u_10, u_11, u_15, u_60, u_100, u_255, u_999, u_1000, u_100000, u_4294967295] at hc9); omega
      · (try simp (disch := omega) only [nT, t_m1000100, t_m1000010, t_m1000003, t_m1000002, t_m1000001, t_m1000000, t_m65535, t_m1000, t_m3, t_m1, t_0, t_1, t_2, t_3, t_4, t_5, t_6, t_7, t_8, t_9, t_10, t_11, t_12, t_13, t_15, t_16, t_20, t_21, t_22, t_32, t_40, t_41, t_48, t_49, t_57, t_59, t_60, t_63, t_72, t_76, t_88, t_100, t_144, t_200, t_255, t_288, t_400, t_800, t_999, t_1000, t_1024, t_1200, t_1600, t_3200, t_100000, t_200000, t_252645135, t_858993459, t_1431655765, u_m1000002, u_m1000001, u_m1000, u_m3, u_m1, u_0, u_1, u_2, u_3, u_4, u_5, u_7, u_8, u_10, u_11, u_15, u_60, u_100, u_255, u_999, u_1000, u_100000, u_4294967295] at hc9)
        refine g_iconst (v := 0) dX7_same_12 (by decide) ?_
        refine g_istore dX7_same_13 (Nat.le_of_ble_eq_true rfl) rfl ?_
        exact keyI 12 0 acc _ (by omega) (by omega) he
  refine g_iconst (v := 0) dX7_same_0 (by decide) ?_
  refine g_istore_n (i := 3) dX7_same_1 rfl (Nat.le_of_ble_eq_true rfl) rfl ?_
  refine g_iconst (v := 0) dX7_same_2 (by decide) ?_
  refine g_istore dX7_same_3 (Nat.le_of_ble_eq_true rfl) rfl ?_
  exact key 12 0 0 _ _ (by omega) (by omega) (by rw [Nat.zero_add, ← hz, hN])
def opJoin (W : WA) (dx dy a : Int32) : Int32 :=
  if ¬ ((-3 ≤ dx.toInt ∧ dx.toInt ≤ 3) ∧ (-3 ≤ dy.toInt ∧ dy.toInt ≤ 3) ∧ 0 ≤ a.toInt ∧ a.toInt < 4) then -1000001
  else nI (cnt (if a = 0 then j0 W dx.toInt dy.toInt else if a = 1 then j1 W dx.toInt dy.toInt else if a = 2 then j2 W dx.toInt dy.toInt else j3 W dx.toInt dy.toInt) 144 0)
theorem opJoin_N {N : Nat} (hN : N = 144) (W : WA) (dx dy a : Int32) : opJoin W dx dy a = if ¬ ((-3 ≤ dx.toInt ∧ dx.toInt ≤ 3) ∧ (-3 ≤ dy.toInt ∧ dy.toInt ≤ 3) ∧ 0 ≤ a.toInt ∧ a.toInt < 4) then -1000001
  else nI (cnt (if a = 0 then j0 W dx.toInt dy.toInt else if a = 1 then j1 W dx.toInt dy.toInt else if a = 2 then j2 W dx.toInt dy.toInt else j3 W dx.toInt dy.toInt) N 0) := by
  subst hN; rfl
theorem x_join {W : WA} (hW : WfW W) {h : HH} (hg : GWX W h) (dx dy a : Int32) : CT mX7_join 4 0 0 [.ref 0, .int dx, .int dy, .int a] h (fun r h' => r = some (.int (opJoin W dx dy a)) ∧ h' = h) := by
  obtain ⟨e1, e2, e3, e4, e5, e6, e7, e8, e9⟩ := id hg
  have jT := j_T W dx.toInt dy.toInt
  have jS := j_S W dx.toInt dy.toInt
  have jF := j_F W dx.toInt dy.toInt
  have jG := j_G W dx.toInt dy.toInt
  obtain ⟨N, hN⟩ : ∃ N : Nat, N = 144 := ⟨_, rfl⟩
  rw [← hN] at jT jS jF jG
  have e := opJoin_N hN W dx dy a
  refine CT.go [.ref 0, .int dx, .int dy, .int a, hU] (by decide +kernel) rfl rfl (fun Q' hQ => ?_)
  have k40 : a = 2 → ¬ a = 0 → ¬ a = 1 → -3 ≤ dx.toInt → dx.toInt ≤ 3 → -3 ≤ dy.toInt → dy.toInt ≤ 3 → GG (EM mX7_join 4 0 0 Q') 0 0 76 [.ref 0, .int dx, .int dy, .int a, .int (nI (cnt (tT W dx.toInt dy.toInt) N 0))] [.ref 40] h := by
    intro a2 a0 a1 h1 h2 h3 h4
    rw [if_neg (by have := congrArg Int32.toInt a2; rw [t_2] at this; omega), if_neg a0, if_neg a1, if_pos a2] at e
    refine g_callV (M' := mX6_filled) dX7_join_76 lc_X6_filled ml_X7_301 (c_filled (c := 40) ⟨e4, e5, e8⟩ (fun p hp => (hW p hp).1)) rfl rfl (by repeat' (first | assumption | exact rF_eq | refine rF_ne (by decide) ?_ | refine rF_a ?_ | exact rA_eq | refine rA_ne (by decide) ?_ | refine rA_f ?_)) rfl ⟨Nat.le_of_ble_eq_true rfl, Nat.le_of_ble_eq_true rfl, Nat.le_of_ble_eq_true rfl, Nat.le_of_ble_eq_true rfl⟩ (Nat.le_of_ble_eq_true rfl) ?_
    intro r_ h_ q_; obtain ⟨q1_, q2_⟩ := q_; have q2_ := q2_.symm; subst q1_; subst q2_
    refine g_iload dX7_join_79 rfl ?_
    refine g_isub dX7_join_81 ?_
    refine g_iret dX7_join_82 rfl (rfl) (hQ _ _ ?_)
    rw [e, ← hN, n_sub (by omega), jF, Nat.add_sub_cancel_left]; exact ⟨rfl, rfl⟩
  have k42 : ¬ a = 2 → ¬ a = 0 → ¬ a = 1 → 0 ≤ a.toInt ∧ a.toInt < 4 → -3 ≤ dx.toInt → dx.toInt ≤ 3 → -3 ≤ dy.toInt → dy.toInt ≤ 3 → GG (EM mX7_join 4 0 0 Q') 0 0 76 [.ref 0, .int dx, .int dy, .int a, .int (nI (cnt (tT W dx.toInt dy.toInt) N 0))] [.ref 42] h := by
    intro a2 a0 a1 h0 h1 h2 h3 h4
    rw [if_neg (by omega), if_neg a0, if_neg a1, if_neg a2] at e
    refine g_callV (M' := mX6_filled) dX7_join_76 lc_X6_filled ml_X7_301 (c_filled (c := 42) ⟨e6, e7, e9⟩ (fun p hp => (hW p hp).2)) rfl rfl (by repeat' (first | assumption | exact rF_eq | refine rF_ne (by decide) ?_ | refine rF_a ?_ | exact rA_eq | refine rA_ne (by decide) ?_ | refine rA_f ?_)) rfl ⟨Nat.le_of_ble_eq_true rfl, Nat.le_of_ble_eq_true rfl, Nat.le_of_ble_eq_true rfl, Nat.le_of_ble_eq_true rfl⟩ (Nat.le_of_ble_eq_true rfl) ?_
    intro r_ h_ q_; obtain ⟨q1_, q2_⟩ := q_; have q2_ := q2_.symm; subst q1_; subst q2_
    refine g_iload dX7_join_79 rfl ?_
    refine g_isub dX7_join_81 ?_
    refine g_iret dX7_join_82 rfl (rfl) (hQ _ _ ?_)
    rw [e, ← hN, n_sub (by omega), jG, Nat.add_sub_cancel_left]; exact ⟨rfl, rfl⟩
  refine g_iload_n (i := 1) dX7_join_0 rfl rfl ?_
  refine g_bipush (v := (-3)) dX7_join_1 (by decide) ?_
  refine g_icmp_lt (tgt := 30) dX7_join_3 (by decide) (fun hc3 => ?_) (fun hc3 => ?_)
  · (try simp (disch := omega) only [nT, t_m1000100, t_m1000010, t_m1000003, t_m1000002, t_m1000001, t_m1000000, t_m65535, t_m1000, t_m3, t_m1, t_0, t_1, t_2, t_3, t_4, t_5, t_6, t_7, t_8, t_9, t_10, t_11, t_12, t_13, t_15, t_16, t_20, t_21, t_22, t_32, t_40, t_41, t_48, t_49, t_57, t_59, t_60, t_63, t_72, t_76, t_88, t_100, t_144, t_200, t_255, t_288, t_400, t_800, t_999, t_1000, t_1024, t_1200, t_1600, t_3200, t_100000, t_200000, t_252645135, t_858993459, t_1431655765, u_m1000002, u_m1000001, u_m1000, u_m3, u_m1, u_0, u_1, u_2, u_3, u_4, u_5, u_7, u_8, u_10, u_11, u_15, u_60, u_100, u_255, u_999, u_1000, u_100000, u_4294967295] at hc3)
    rw [if_pos (by omega)] at e
    refine g_ldc dX7_join_30 kc_X7_94 ?_
    refine g_iret dX7_join_32 rfl (rfl) (hQ _ _ ?_)
    rw [e]; exact ⟨rfl, rfl⟩
  · (try simp (disch := omega) only [nT, t_m1000100, t_m1000010, t_m1000003, t_m1000002, t_m1000001, t_m1000000, t_m65535, t_m1000, t_m3, t_m1, t_0, t_1, t_2, t_3, t_4, t_5, t_6, t_7, t_8, t_9, t_10, t_11, t_12, t_13, t_15, t_16, t_20, t_21, t_22, t_32, t_40, t_41, t_48, t_49, t_57, t_59, t_60, t_63, t_72, t_76, t_88, t_100, t_144, t_200, t_255, t_288, t_400, t_800, t_999, t_1000, t_1024, t_1200, t_1600, t_3200, t_100000, t_200000, t_252645135, t_858993459, t_1431655765, u_m1000002, u_m1000001, u_m1000, u_m3, u_m1, u_0, u_1, u_2, u_3, u_4, u_5, u_7, u_8, u_10, u_11, u_15, u_60, u_100, u_255, u_999, u_1000, u_100000, u_4294967295] at hc3)
    refine g_iload_n (i := 1) dX7_join_6 rfl rfl ?_
    refine g_iconst (v := 3) dX7_join_7 (by decide) ?_
    refine g_icmp_gt (tgt := 30) dX7_join_8 (by decide) (fun hc8 => ?_) (fun hc8 => ?_)
    · (try simp (disch := omega) only [nT, t_m1000100, t_m1000010, t_m1000003, t_m1000002, t_m1000001, t_m1000000, t_m65535, t_m1000, t_m3, t_m1, t_0, t_1, t_2, t_3, t_4, t_5, t_6, t_7, t_8, t_9, t_10, t_11, t_12, t_13, t_15, t_16, t_20, t_21, t_22, t_32, t_40, t_41, t_48, t_49, t_57, t_59, t_60, t_63, t_72, t_76, t_88, t_100, t_144, t_200, t_255, t_288, t_400, t_800, t_999, t_1000, t_1024, t_1200, t_1600, t_3200, t_100000, t_200000, t_252645135, t_858993459, t_1431655765, u_m1000002, u_m1000001, u_m1000, u_m3, u_m1, u_0, u_1, u_2, u_3, u_4, u_5, u_7, u_8, u_10, u_11, u_15, u_60, u_100, u_255, u_999, u_1000, u_100000, u_4294967295] at hc8)
      rw [if_pos (by omega)] at e
      refine g_ldc dX7_join_30 kc_X7_94 ?_
      refine g_iret dX7_join_32 rfl (rfl) (hQ _ _ ?_)
      rw [e]; exact ⟨rfl, rfl⟩
    · (try simp (disch := omega) only [nT, t_m1000100, t_m1000010, t_m1000003, t_m1000002, t_m1000001, t_m1000000, t_m65535, t_m1000, t_m3, t_m1, t_0, t_1, t_2, t_3, t_4, t_5, t_6, t_7, t_8, t_9, t_10, t_11, t_12, t_13, t_15, t_16, t_20, t_21, t_22, t_32, t_40, t_41, t_48, t_49, t_57, t_59, t_60, t_63, t_72, t_76, t_88, t_100, t_144, t_200, t_255, t_288, t_400, t_800, t_999, t_1000, t_1024, t_1200, t_1600, t_3200, t_100000, t_200000, t_252645135, t_858993459, t_1431655765, u_m1000002, u_m1000001, u_m1000, u_m3, u_m1, u_0, u_1, u_2, u_3, u_4, u_5, u_7, u_8, u_10, u_11, u_15, u_60, u_100, u_255, u_999, u_1000, u_100000, u_4294967295] at hc8)
      refine g_iload_n (i := 2) dX7_join_11 rfl rfl ?_
      refine g_bipush (v := (-3)) dX7_join_12 (by decide) ?_
      refine g_icmp_lt (tgt := 30) dX7_join_14 (by decide) (fun hc14 => ?_) (fun hc14 => ?_)
      · (try simp (disch := omega) only [nT, t_m1000100, t_m1000010, t_m1000003, t_m1000002, t_m1000001, t_m1000000, t_m65535, t_m1000, t_m3, t_m1, t_0, t_1, t_2, t_3, t_4, t_5, t_6, t_7, t_8, t_9, t_10, t_11, t_12, t_13, t_15, t_16, t_20, t_21, t_22, t_32, t_40, t_41, t_48, t_49, t_57, t_59, t_60, t_63, t_72, t_76, t_88, t_100, t_144, t_200, t_255, t_288, t_400, t_800, t_999, t_1000, t_1024, t_1200, t_1600, t_3200, t_100000, t_200000, t_252645135, t_858993459, t_1431655765, u_m1000002, u_m1000001, u_m1000, u_m3, u_m1, u_0, u_1, u_2, u_3, u_4, u_5, u_7, u_8, u_10, u_11, u_15, u_60, u_100, u_255, u_999, u_1000, u_100000, u_4294967295] at hc14)
        rw [if_pos (by omega)] at e
        refine g_ldc dX7_join_30 kc_X7_94 ?_
        refine g_iret dX7_join_32 rfl (rfl) (hQ _ _ ?_)
        rw [e]; exact ⟨rfl, rfl⟩
      · (try simp (disch := omega) only [nT, t_m1000100, t_m1000010, t_m1000003, t_m1000002, t_m1000001, t_m1000000, t_m65535, t_m1000, t_m3, t_m1, t_0, t_1, t_2, t_3, t_4, t_5, t_6, t_7, t_8, t_9, t_10, t_11, t_12, t_13, t_15, t_16, t_20, t_21, t_22, t_32, t_40, t_41, t_48, t_49, t_57, t_59, t_60, t_63, t_72, t_76, t_88, t_100, t_144, t_200, t_255, t_288, t_400, t_800, t_999, t_1000, t_1024, t_1200, t_1600, t_3200, t_100000, t_200000, t_252645135, t_858993459, t_1431655765, u_m1000002, u_m1000001, u_m1000, u_m3, u_m1, u_0, u_1, u_2, u_3, u_4, u_5, u_7, u_8, u_10, u_11, u_15, u_60, u_100, u_255, u_999, u_1000, u_100000, u_4294967295] at hc14)
        refine g_iload_n (i := 2) dX7_join_17 rfl rfl ?_
        refine g_iconst (v := 3) dX7_join_18 (by decide) ?_
        refine g_icmp_gt (tgt := 30) dX7_join_19 (by decide) (fun hc19 => ?_) (fun hc19 => ?_)
        · (try simp (disch := omega) only [nT, t_m1000100, t_m1000010, t_m1000003, t_m1000002, t_m1000001, t_m1000000, t_m65535, t_m1000, t_m3, t_m1, t_0, t_1, t_2, t_3, t_4, t_5, t_6, t_7, t_8, t_9, t_10, t_11, t_12, t_13, t_15, t_16, t_20, t_21, t_22, t_32, t_40, t_41, t_48, t_49, t_57, t_59, t_60, t_63, t_72, t_76, t_88, t_100, t_144, t_200, t_255, t_288, t_400, t_800, t_999, t_1000, t_1024, t_1200, t_1600, t_3200, t_100000, t_200000, t_252645135, t_858993459, t_1431655765, u_m1000002, u_m1000001, u_m1000, u_m3, u_m1, u_0, u_1, u_2, u_3, u_4, u_5, u_7, u_8, u_10, u_11, u_15, u_60, u_100, u_255, u_999, u_1000, u_100000, u_4294967295] at hc19)
          rw [if_pos (by omega)] at e
          refine g_ldc dX7_join_30 kc_X7_94 ?_
          refine g_iret dX7_join_32 rfl (rfl) (hQ _ _ ?_)
          rw [e]; exact ⟨rfl, rfl⟩
        · (try simp (disch := omega) only [nT, t_m1000100, t_m1000010, t_m1000003, t_m1000002, t_m1000001, t_m1000000, t_m65535, t_m1000, t_m3, t_m1, t_0, t_1, t_2, t_3, t_4, t_5, t_6, t_7, t_8, t_9, t_10, t_11, t_12, t_13, t_15, t_16, t_20, t_21, t_22, t_32, t_40, t_41, t_48, t_49, t_57, t_59, t_60, t_63, t_72, t_76, t_88, t_100, t_144, t_200, t_255, t_288, t_400, t_800, t_999, t_1000, t_1024, t_1200, t_1600, t_3200, t_100000, t_200000, t_252645135, t_858993459, t_1431655765, u_m1000002, u_m1000001, u_m1000, u_m3, u_m1, u_0, u_1, u_2, u_3, u_4, u_5, u_7, u_8, u_10, u_11, u_15, u_60, u_100, u_255, u_999, u_1000, u_100000, u_4294967295] at hc19)
          refine g_iload_n (i := 3) dX7_join_22 rfl rfl ?_
          refine g_iconst (v := 4) dX7_join_23 (by decide) ?_
          refine g_callS (M' := mX7_isWithin) dX7_join_24 lc_X7_isWithin ml_X7_90 (c_isWithin h a 4 4 rfl) rfl rfl ⟨Nat.le_of_ble_eq_true rfl, Nat.le_of_ble_eq_true rfl, Nat.le_of_ble_eq_true rfl, Nat.le_of_ble_eq_true rfl⟩ (Nat.le_of_ble_eq_true rfl) ?_
          intro r_ h_ q_; obtain ⟨q1_, q2_⟩ := q_; have q2_ := q2_.symm; subst q1_; subst q2_
          refine g_if_ne (tgt := 33) dX7_join_27 (by decide) (fun hc27 => ?_) (fun hc27 => ?_)
          · replace hc27 := bI_n0.mp hc27
            (try simp (disch := omega) only [nT, t_m1000100, t_m1000010, t_m1000003, t_m1000002, t_m1000001, t_m1000000, t_m65535, t_m1000, t_m3, t_m1, t_0, t_1, t_2, t_3, t_4, t_5, t_6, t_7, t_8, t_9, t_10, t_11, t_12, t_13, t_15, t_16, t_20, t_21, t_22, t_32, t_40, t_41, t_48, t_49, t_57, t_59, t_60, t_63, t_72, t_76, t_88, t_100, t_144, t_200, t_255, t_288, t_400, t_800, t_999, t_1000, t_1024, t_1200, t_1600, t_3200, t_100000, t_200000, t_252645135, t_858993459, t_1431655765, u_m1000002, u_m1000001, u_m1000, u_m3, u_m1, u_0, u_1, u_2, u_3, u_4, u_5, u_7, u_8, u_10, u_11, u_15, u_60, u_100, u_255, u_999, u_1000, u_100000, u_4294967295] at hc27)
            refine g_iload_n (i := 3) dX7_join_33 rfl rfl ?_
            refine g_iconst (v := 1) dX7_join_34 (by decide) ?_
            refine g_icmp_ne (tgt := 45) dX7_join_35 (by decide) (fun hc35 => ?_) (fun hc35 => ?_)
            · have hd35 := mt i_eq.mpr hc35; (try simp (disch := omega) only [nT, t_m1000100, t_m1000010, t_m1000003, t_m1000002, t_m1000001, t_m1000000, t_m65535, t_m1000, t_m3, t_m1, t_0, t_1, t_2, t_3, t_4, t_5, t_6, t_7, t_8, t_9, t_10, t_11, t_12, t_13, t_15, t_16, t_20, t_21, t_22, t_32, t_40, t_41, t_48, t_49, t_57, t_59, t_60, t_63, t_72, t_76, t_88, t_100, t_144, t_200, t_255, t_288, t_400, t_800, t_999, t_1000, t_1024, t_1200, t_1600, t_3200, t_100000, t_200000, t_252645135, t_858993459, t_1431655765, u_m1000002, u_m1000001, u_m1000, u_m3, u_m1, u_0, u_1, u_2, u_3, u_4, u_5, u_7, u_8, u_10, u_11, u_15, u_60, u_100, u_255, u_999, u_1000, u_100000, u_4294967295] at hd35)
              refine g_aload_n (i := 0) dX7_join_45 rfl rfl ?_
              refine g_iload_n (i := 1) dX7_join_46 rfl rfl ?_
              refine g_iload_n (i := 2) dX7_join_47 rfl rfl ?_
              refine g_callV (M' := mX7_twice) dX7_join_48 lc_X7_twice ml_X7_298 (c_twice hW hg (by omega) (by omega) (by omega) (by omega)) rfl rfl (by repeat' (first | assumption | exact rF_eq | refine rF_ne (by decide) ?_ | refine rF_a ?_ | exact rA_eq | refine rA_ne (by decide) ?_ | refine rA_f ?_)) rfl ⟨Nat.le_of_ble_eq_true rfl, Nat.le_of_ble_eq_true rfl, Nat.le_of_ble_eq_true rfl, Nat.le_of_ble_eq_true rfl⟩ (Nat.le_of_ble_eq_true rfl) ?_
              intro r_ h_ q_; obtain ⟨q1_, q2_⟩ := q_; have q2_ := q2_.symm; subst q1_; subst q2_
              rw [← hN]
              refine g_istore dX7_join_51 (Nat.le_of_ble_eq_true rfl) rfl ?_
              refine g_iload_n (i := 3) dX7_join_53 rfl rfl ?_
              refine g_if_ne (tgt := 60) dX7_join_54 (by decide) (fun hc54 => ?_) (fun hc54 => ?_)
              · have hd54 := mt i_eq.mpr hc54; (try simp (disch := omega) only [nT, t_m1000100, t_m1000010, t_m1000003, t_m1000002, t_m1000001, t_m1000000, t_m65535, t_m1000, t_m3, t_m1, t_0, t_1, t_2, t_3, t_4, t_5, t_6, t_7, t_8, t_9, t_10, t_11, t_12, t_13, t_15, t_16, t_20, t_21, t_22, t_32, t_40, t_41, t_48, t_49, t_57, t_59, t_60, t_63, t_72, t_76, t_88, t_100, t_144, t_200, t_255, t_288, t_400, t_800, t_999, t_1000, t_1024, t_1200, t_1600, t_3200, t_100000, t_200000, t_252645135, t_858993459, t_1431655765, u_m1000002, u_m1000001, u_m1000, u_m3, u_m1, u_0, u_1, u_2, u_3, u_4, u_5, u_7, u_8, u_10, u_11, u_15, u_60, u_100, u_255, u_999, u_1000, u_100000, u_4294967295] at hd54)
                refine g_iload_n (i := 3) dX7_join_60 rfl rfl ?_
                refine g_iconst (v := 2) dX7_join_61 (by decide) ?_
                refine g_icmp_ne (tgt := 72) dX7_join_62 (by decide) (fun hc62 => ?_) (fun hc62 => ?_)
                · have hd62 := mt i_eq.mpr hc62; (try simp (disch := omega) only [nT, t_m1000100, t_m1000010, t_m1000003, t_m1000002, t_m1000001, t_m1000000, t_m65535, t_m1000, t_m3, t_m1, t_0, t_1, t_2, t_3, t_4, t_5, t_6, t_7, t_8, t_9, t_10, t_11, t_12, t_13, t_15, t_16, t_20, t_21, t_22, t_32, t_40, t_41, t_48, t_49, t_57, t_59, t_60, t_63, t_72, t_76, t_88, t_100, t_144, t_200, t_255, t_288, t_400, t_800, t_999, t_1000, t_1024, t_1200, t_1600, t_3200, t_100000, t_200000, t_252645135, t_858993459, t_1431655765, u_m1000002, u_m1000001, u_m1000, u_m3, u_m1, u_0, u_1, u_2, u_3, u_4, u_5, u_7, u_8, u_10, u_11, u_15, u_60, u_100, u_255, u_999, u_1000, u_100000, u_4294967295] at hd62)
                  refine g_aload_n (i := 0) dX7_join_72 rfl rfl ?_
                  refine g_get dX7_join_73 fl_X7_87 (by repeat' (first | assumption | exact rF_eq | refine rF_ne (by decide) ?_ | refine rF_a ?_ | exact rA_eq | refine rA_ne (by decide) ?_ | refine rA_f ?_)) (by repeat' (first | assumption | exact rF_eq | refine rF_ne (by decide) ?_ | refine rF_a ?_ | exact rA_eq | refine rA_ne (by decide) ?_ | refine rA_f ?_)) ?_
                  first
                  | exact k40 hc62 hc54 hc35 (by omega) (by omega) (by omega) (by omega)
                  | exact k42 hc62 hc54 hc35 (by assumption) (by omega) (by omega) (by omega) (by omega)
                · have hd62 := i_eq.mp hc62; (try simp (disch := omega) only [nT, t_m1000100, t_m1000010, t_m1000003, t_m1000002, t_m1000001, t_m1000000, t_m65535, t_m1000, t_m3, t_m1, t_0, t_1, t_2, t_3, t_4, t_5, t_6, t_7, t_8, t_9, t_10, t_11, t_12, t_13, t_15, t_16, t_20, t_21, t_22, t_32, t_40, t_41, t_48, t_49, t_57, t_59, t_60, t_63, t_72, t_76, t_88, t_100, t_144, t_200, t_255, t_288, t_400, t_800, t_999, t_1000, t_1024, t_1200, t_1600, t_3200, t_100000, t_200000, t_252645135, t_858993459, t_1431655765, u_m1000002, u_m1000001, u_m1000, u_m3, u_m1, u_0, u_1, u_2, u_3, u_4, u_5, u_7, u_8, u_10, u_11, u_15, u_60, u_100, u_255, u_999, u_1000, u_100000, u_4294967295] at hd62)
                  refine g_aload_n (i := 0) dX7_join_65 rfl rfl ?_
                  refine g_get dX7_join_66 fl_X7_83 (by repeat' (first | assumption | exact rF_eq | refine rF_ne (by decide) ?_ | refine rF_a ?_ | exact rA_eq | refine rA_ne (by decide) ?_ | refine rA_f ?_)) (by repeat' (first | assumption | exact rF_eq | refine rF_ne (by decide) ?_ | refine rF_a ?_ | exact rA_eq | refine rA_ne (by decide) ?_ | refine rA_f ?_)) ?_
                  refine g_goto (tgt := 76) dX7_join_69 (by decide) ?_
                  first
                  | exact k40 hc62 hc54 hc35 (by omega) (by omega) (by omega) (by omega)
                  | exact k42 hc62 hc54 hc35 (by assumption) (by omega) (by omega) (by omega) (by omega)
              · have hd54 := i_eq.mp hc54; (try simp (disch := omega) only [nT, t_m1000100, t_m1000010, t_m1000003, t_m1000002, t_m1000001, t_m1000000, t_m65535, t_m1000, t_m3, t_m1, t_0, t_1, t_2, t_3, t_4, t_5, t_6, t_7, t_8, t_9, t_10, t_11, t_12, t_13, t_15, t_16, t_20, t_21, t_22, t_32, t_40, t_41, t_48, t_49, t_57, t_59, t_60, t_63, t_72, t_76, t_88, t_100, t_144, t_200, t_255, t_288, t_400, t_800, t_999, t_1000, t_1024, t_1200, t_1600, t_3200, t_100000, t_200000, t_252645135, t_858993459, t_1431655765, u_m1000002, u_m1000001, u_m1000, u_m3, u_m1, u_0, u_1, u_2, u_3, u_4, u_5, u_7, u_8, u_10, u_11, u_15, u_60, u_100, u_255, u_999, u_1000, u_100000, u_4294967295] at hd54)
                refine g_iload dX7_join_57 rfl ?_
                refine g_iret dX7_join_59 rfl (rfl) (hQ _ _ ?_)
                rw [jT, e, if_neg (by omega), if_pos (by assumption)]; exact ⟨rfl, rfl⟩
            · have hd35 := i_eq.mp hc35; (try simp (disch := omega) only [nT, t_m1000100, t_m1000010, t_m1000003, t_m1000002, t_m1000001, t_m1000000, t_m65535, t_m1000, t_m3, t_m1, t_0, t_1, t_2, t_3, t_4, t_5, t_6, t_7, t_8, t_9, t_10, t_11, t_12, t_13, t_15, t_16, t_20, t_21, t_22, t_32, t_40, t_41, t_48, t_49, t_57, t_59, t_60, t_63, t_72, t_76, t_88, t_100, t_144, t_200, t_255, t_288, t_400, t_800, t_999, t_1000, t_1024, t_1200, t_1600, t_3200, t_100000, t_200000, t_252645135, t_858993459, t_1431655765, u_m1000002, u_m1000001, u_m1000, u_m3, u_m1, u_0, u_1, u_2, u_3, u_4, u_5, u_7, u_8, u_10, u_11, u_15, u_60, u_100, u_255, u_999, u_1000, u_100000, u_4294967295] at hd35)
              refine g_aload_n (i := 0) dX7_join_38 rfl rfl ?_
              refine g_iload_n (i := 1) dX7_join_39 rfl rfl ?_
              refine g_iload_n (i := 2) dX7_join_40 rfl rfl ?_
              refine g_callV (M' := mX7_same) dX7_join_41 lc_X7_same ml_X7_295 (c_same hW hg (by omega) (by omega) (by omega) (by omega)) rfl rfl (by repeat' (first | assumption | exact rF_eq | refine rF_ne (by decide) ?_ | refine rF_a ?_ | exact rA_eq | refine rA_ne (by decide) ?_ | refine rA_f ?_)) rfl ⟨Nat.le_of_ble_eq_true rfl, Nat.le_of_ble_eq_true rfl, Nat.le_of_ble_eq_true rfl, Nat.le_of_ble_eq_true rfl⟩ (Nat.le_of_ble_eq_true rfl) ?_
              intro r_ h_ q_; obtain ⟨q1_, q2_⟩ := q_; have q2_ := q2_.symm; subst q1_; subst q2_
              refine g_iret dX7_join_44 rfl (rfl) (hQ _ _ ?_)
              rw [← hN, jS, e, if_neg (by omega), if_neg (fun q => absurd (q.symm.trans hc35) (by decide)), if_pos hc35]; exact ⟨rfl, rfl⟩
          · replace hc27 := bI_0.mp hc27
            (try simp (disch := omega) only [nT, t_m1000100, t_m1000010, t_m1000003, t_m1000002, t_m1000001, t_m1000000, t_m65535, t_m1000, t_m3, t_m1, t_0, t_1, t_2, t_3, t_4, t_5, t_6, t_7, t_8, t_9, t_10, t_11, t_12, t_13, t_15, t_16, t_20, t_21, t_22, t_32, t_40, t_41, t_48, t_49, t_57, t_59, t_60, t_63, t_72, t_76, t_88, t_100, t_144, t_200, t_255, t_288, t_400, t_800, t_999, t_1000, t_1024, t_1200, t_1600, t_3200, t_100000, t_200000, t_252645135, t_858993459, t_1431655765, u_m1000002, u_m1000001, u_m1000, u_m3, u_m1, u_0, u_1, u_2, u_3, u_4, u_5, u_7, u_8, u_10, u_11, u_15, u_60, u_100, u_255, u_999, u_1000, u_100000, u_4294967295] at hc27)
            rw [if_pos (by omega)] at e
            refine g_ldc dX7_join_30 kc_X7_94 ?_
            refine g_iret dX7_join_32 rfl (rfl) (hQ _ _ ?_)
            rw [e]; exact ⟨rfl, rfl⟩
/-! best -/
def d3 (i : Nat) : Int32 := nI i - 3
theorem d3_0 : (-3 : Int32) = d3 0 := rfl
theorem d3_i (i : Nat) : d3 i + Int32.ofInt 1 = d3 (i + 1) := by
  unfold d3
  rw [← ni_inc, Int32.sub_eq_add_neg, Int32.sub_eq_add_neg, Int32.add_assoc, Int32.add_assoc, Int32.add_comm (-3) (Int32.ofInt 1)]
  rfl
theorem d3_T {i : Nat} (h : i < 10) : (d3 i).toInt = (i : Int) - 3 := by
  have := @nT i (by omega)
  unfold d3
  rw [i_sub (by rw [t_3]; omega) (by rw [t_3]; omega), t_3]; omega
theorem d3_n {i : Nat} (h : i < 10) : ¬ d3 i = -1000000 := fun q => by
  have := congrArg Int32.toInt q
  rw [d3_T h, t_m1000000] at this
  omega
def bS (W : WA) (k : Nat) : Nat := cnt (j1 W (d3 (k / 7)).toInt (d3 (k % 7)).toInt) 144 0
def bT (W : WA) (k : Nat) : Nat := cnt (j0 W (d3 (k / 7)).toInt (d3 (k % 7)).toInt) 144 0
theorem bS_le (W : WA) (k : Nat) : bS W k ≤ 144 := cnt_le _ _ _
theorem bT_le (W : WA) (k : Nat) : bT W k ≤ 144 := cnt_le _ _ _
def bst (S T : Nat → Nat) : Nat → Nat → Nat → Nat
  | 0, _, b => b
  | n + 1, k, b => bst S T n (k + 1) (if S b < S k ∨ (S k = S b ∧ T k < T b) then k else b)
def opBest (W : WA) (a : Int32) : Int32 :=
  if ¬ (0 ≤ a.toInt ∧ a.toInt < 3) then -1000001
  else if a = 2 then nI (bS W (bst (bS W) (bT W) 48 1 0)) else if a = 0 then d3 (bst (bS W) (bT W) 48 1 0 / 7) else d3 (bst (bS W) (bT W) 48 1 0 % 7)
def BsX (S T : Nat → Nat) (a : Int32) (b : Nat) (x6 x7 x8 x9 : Value) : List Value := [.ref 0, .int a, .int (d3 (b / 7)), .int (d3 (b % 7)), .int (nI (S b)), .int (nI (T b)), x6, x7, x8, x9]
def QtX (W : WA) (S T : Nat → Nat) : Prop := (∀ r k, k < 7 → cnt (tS W (d3 r).toInt (d3 k).toInt) 144 0 = S (7 * r + k) ∧ cnt (tT W (d3 r).toInt (d3 k).toInt) 144 0 = T (7 * r + k)) ∧ ∀ i, S i ≤ 144 ∧ T i ≤ 144
theorem best_in {W : WA} (hW : WfW W) {h : HH} (hg : GWX W h) {a : Int32} {Q' : Option Value → HH → Prop} {S T : Nat → Nat} (hq : QtX W S T) {z m r : Nat} (hr : r + m = 6) (ih : ∀ b (v7 v8 v9 : Value), b < 49 → bst S T (7 * m) (7 * (r + 1)) b = z → GG (EM mX7_best 4 0 0 Q') 0 0 27 (BsX S T a b (.int (d3 (r + 1))) v7 v8 v9) [] h) : ∀ n k b (v8 v9 : Value), k + n = 7 → b < 49 → bst S T (7 * m + n) (7 * r + k) b = z → GG (EM mX7_best 4 0 0 Q') 0 0 37 (BsX S T a b (.int (d3 r)) (.int (d3 k)) v8 v9) [] h := by
  have e1 := hg.1
  intro n
  induction n with
  | zero =>
    intro k b v8 v9 hk hb he
    obtain rfl : k = 7 := by omega
    have hk3 := @d3_T 7 (by omega)
    unfold BsX
    refine g_iload dX7_best_37 rfl ?_
    refine g_iconst (v := 3) dX7_best_39 (by decide) ?_
    refine g_icmp_gt (tgt := 104) dX7_best_40 (by decide) (fun hc40 => ?_) (fun hc40 => ?_)
    · (try simp (disch := omega) only [nT, t_m1000100, t_m1000010, t_m1000003, t_m1000002, t_m1000001, t_m1000000, t_m65535, t_m1000, t_m3, t_m1, t_0, t_1, t_2, t_3, t_4, t_5, t_6, t_7, t_8, t_9, t_10, t_11, t_12, t_13, t_15, t_16, t_20, t_21, t_22, t_32, t_40, t_41, t_48, t_49, t_57, t_59, t_60, t_63, t_72, t_76, t_88, t_100, t_144, t_200, t_255, t_288, t_400, t_800, t_999, t_1000, t_1024, t_1200, t_1600, t_3200, t_100000, t_200000, t_252645135, t_858993459, t_1431655765, u_m1000002, u_m1000001, u_m1000, u_m3, u_m1, u_0, u_1, u_2, u_3, u_4, u_5, u_7, u_8, u_10, u_11, u_15, u_60, u_100, u_255, u_999, u_1000, u_100000, u_4294967295] at hc40)
      refine g_iinc dX7_best_104 rfl (Nat.le_of_ble_eq_true rfl) rfl ?_
      refine g_goto (tgt := 27) dX7_best_107 (by decide) ?_
      rw [d3_i]
      exact ih b _ _ _ hb he
    · (try simp (disch := omega) only [nT, t_m1000100, t_m1000010, t_m1000003, t_m1000002, t_m1000001, t_m1000000, t_m65535, t_m1000, t_m3, t_m1, t_0, t_1, t_2, t_3, t_4, t_5, t_6, t_7, t_8, t_9, t_10, t_11, t_12, t_13, t_15, t_16, t_20, t_21, t_22, t_32, t_40, t_41, t_48, t_49, t_57, t_59, t_60, t_63, t_72, t_76, t_88, t_100, t_144, t_200, t_255, t_288, t_400, t_800, t_999, t_1000, t_1024, t_1200, t_1600, t_3200, t_100000, t_200000, t_252645135, t_858993459, t_1431655765, u_m1000002, u_m1000001, u_m1000, u_m3, u_m1, u_0, u_1, u_2, u_3, u_4, u_5, u_7, u_8, u_10, u_11, u_15, u_60, u_100, u_255, u_999, u_1000, u_100000, u_4294967295] at hc40); omega
  | succ n ihn =>
    intro k b v8 v9 hk hb he
    have hr3 := @d3_T r (by omega)
    have hk3 := @d3_T k (by omega)
    have l1 := hq.2 b
    have l3 := hq.2 (7 * r + k)
    rw [← Nat.add_assoc, bst] at he
    unfold BsX
    have k98 : ∀ b', b' < 49 → bst S T (7 * m + n) (7 * r + k + 1) b' = z → ∀ v8 v9, GG (EM mX7_best 4 0 0 Q') 0 0 98 [.ref 0, .int a, .int (d3 (b' / 7)), .int (d3 (b' % 7)), .int (nI (S b')), .int (nI (T b')), .int (d3 r), .int (d3 k), v8, v9] [] h := by
      intro b' hb' he' v8 v9
      refine g_iinc dX7_best_98 rfl (Nat.le_of_ble_eq_true rfl) rfl ?_
      refine g_goto (tgt := 37) dX7_best_101 (by decide) ?_
      rw [d3_i]
      exact ihn (k + 1) b' _ _ (by omega) hb' he'
    refine g_iload dX7_best_37 rfl ?_
    refine g_iconst (v := 3) dX7_best_39 (by decide) ?_
    refine g_icmp_gt (tgt := 104) dX7_best_40 (by decide) (fun hc40 => ?_) (fun hc40 => ?_)
    · (try simp (disch := omega) only [nT, t_m1000100, t_m1000010, t_m1000003, t_m1000002, t_m1000001, t_m1000000, t_m65535, t_m1000, t_m3, t_m1, t_0, t_1, t_2, t_3, t_4, t_5, t_6, t_7, t_8, t_9, t_10, t_11, t_12, t_13, t_15, t_16, t_20, t_21, t_22, t_32, t_40, t_41, t_48, t_49, t_57, t_59, t_60, t_63, t_72, t_76, t_88, t_100, t_144, t_200, t_255, t_288, t_400, t_800, t_999, t_1000, t_1024, t_1200, t_1600, t_3200, t_100000, t_200000, t_252645135, t_858993459, t_1431655765, u_m1000002, u_m1000001, u_m1000, u_m3, u_m1, u_0, u_1, u_2, u_3, u_4, u_5, u_7, u_8, u_10, u_11, u_15, u_60, u_100, u_255, u_999, u_1000, u_100000, u_4294967295] at hc40); omega
    · (try simp (disch := omega) only [nT, t_m1000100, t_m1000010, t_m1000003, t_m1000002, t_m1000001, t_m1000000, t_m65535, t_m1000, t_m3, t_m1, t_0, t_1, t_2, t_3, t_4, t_5, t_6, t_7, t_8, t_9, t_10, t_11, t_12, t_13, t_15, t_16, t_20, t_21, t_22, t_32, t_40, t_41, t_48, t_49, t_57, t_59, t_60, t_63, t_72, t_76, t_88, t_100, t_144, t_200, t_255, t_288, t_400, t_800, t_999, t_1000, t_1024, t_1200, t_1600, t_3200, t_100000, t_200000, t_252645135, t_858993459, t_1431655765, u_m1000002, u_m1000001, u_m1000, u_m3, u_m1, u_0, u_1, u_2, u_3, u_4, u_5, u_7, u_8, u_10, u_11, u_15, u_60, u_100, u_255, u_999, u_1000, u_100000, u_4294967295] at hc40)
      refine g_aload_n (i := 0) dX7_best_43 rfl rfl ?_
      refine g_iload dX7_best_44 rfl ?_
      refine g_iload dX7_best_46 rfl ?_
      refine g_callV (M' := mX7_same) dX7_best_48 lc_X7_same ml_X7_295 (c_same hW hg (dx := d3 r) (dy := d3 k) (by omega) (by omega) (by omega) (by omega)) rfl rfl (by repeat' (first | assumption | exact rF_eq | refine rF_ne (by decide) ?_ | refine rF_a ?_ | exact rA_eq | refine rA_ne (by decide) ?_ | refine rA_f ?_)) rfl ⟨Nat.le_of_ble_eq_true rfl, Nat.le_of_ble_eq_true rfl, Nat.le_of_ble_eq_true rfl, Nat.le_of_ble_eq_true rfl⟩ (Nat.le_of_ble_eq_true rfl) ?_
      intro r_ h_ q_; obtain ⟨q1_, q2_⟩ := q_; have q2_ := q2_.symm; subst q1_; subst q2_
      rw [(hq.1 r k (by omega)).1]
      refine g_istore dX7_best_51 (Nat.le_of_ble_eq_true rfl) rfl ?_
      refine g_aload_n (i := 0) dX7_best_53 rfl rfl ?_
      refine g_iload dX7_best_54 rfl ?_
      refine g_iload dX7_best_56 rfl ?_
      refine g_callV (M' := mX7_twice) dX7_best_58 lc_X7_twice ml_X7_298 (c_twice hW hg (dx := d3 r) (dy := d3 k) (by omega) (by omega) (by omega) (by omega)) rfl rfl (by repeat' (first | assumption | exact rF_eq | refine rF_ne (by decide) ?_ | refine rF_a ?_ | exact rA_eq | refine rA_ne (by decide) ?_ | refine rA_f ?_)) rfl ⟨Nat.le_of_ble_eq_true rfl, Nat.le_of_ble_eq_true rfl, Nat.le_of_ble_eq_true rfl, Nat.le_of_ble_eq_true rfl⟩ (Nat.le_of_ble_eq_true rfl) ?_
      intro r_ h_ q_; obtain ⟨q1_, q2_⟩ := q_; have q2_ := q2_.symm; subst q1_; subst q2_
      rw [(hq.1 r k (by omega)).2]
      refine g_istore dX7_best_61 (Nat.le_of_ble_eq_true rfl) rfl ?_
      show GG _ _ _ _ [.ref 0, .int a, .int (d3 (b / 7)), .int (d3 (b % 7)), .int (nI (S b)), .int (nI (T b)), .int (d3 r), .int (d3 k), .int (nI (S (7 * r + k))), .int (nI (T (7 * r + k)))] _ _
      refine g_iload dX7_best_63 rfl ?_
      refine g_iload dX7_best_65 rfl ?_
      refine g_icmp_gt (tgt := 84) dX7_best_67 (by decide) (fun hc67 => ?_) (fun hc67 => ?_)
      · (try simp (disch := omega) only [nT, t_m1000100, t_m1000010, t_m1000003, t_m1000002, t_m1000001, t_m1000000, t_m65535, t_m1000, t_m3, t_m1, t_0, t_1, t_2, t_3, t_4, t_5, t_6, t_7, t_8, t_9, t_10, t_11, t_12, t_13, t_15, t_16, t_20, t_21, t_22, t_32, t_40, t_41, t_48, t_49, t_57, t_59, t_60, t_63, t_72, t_76, t_88, t_100, t_144, t_200, t_255, t_288, t_400, t_800, t_999, t_1000, t_1024, t_1200, t_1600, t_3200, t_100000, t_200000, t_252645135, t_858993459, t_1431655765, u_m1000002, u_m1000001, u_m1000, u_m3, u_m1, u_0, u_1, u_2, u_3, u_4, u_5, u_7, u_8, u_10, u_11, u_15, u_60, u_100, u_255, u_999, u_1000, u_100000, u_4294967295] at hc67)
        refine g_iload dX7_best_84 rfl ?_
        refine g_istore_n (i := 2) dX7_best_86 rfl (Nat.le_of_ble_eq_true rfl) rfl ?_
        refine g_iload dX7_best_87 rfl ?_
        refine g_istore_n (i := 3) dX7_best_89 rfl (Nat.le_of_ble_eq_true rfl) rfl ?_
        refine g_iload dX7_best_90 rfl ?_
        refine g_istore dX7_best_92 (Nat.le_of_ble_eq_true rfl) rfl ?_
        refine g_iload dX7_best_94 rfl ?_
        refine g_istore dX7_best_96 (Nat.le_of_ble_eq_true rfl) rfl ?_
        first
        | (rw [if_pos (by omega)] at he
           have k1 := k98 (7 * r + k) (by omega) he (.int (nI (S (7 * r + k)))) (.int (nI (T (7 * r + k))))
           rw [show (7 * r + k) / 7 = r by omega, show (7 * r + k) % 7 = k by omega] at k1
           exact k1)
        | (rw [if_neg (by omega)] at he
           exact k98 b hb he _ _)
      · (try simp (disch := omega) only [nT, t_m1000100, t_m1000010, t_m1000003, t_m1000002, t_m1000001, t_m1000000, t_m65535, t_m1000, t_m3, t_m1, t_0, t_1, t_2, t_3, t_4, t_5, t_6, t_7, t_8, t_9, t_10, t_11, t_12, t_13, t_15, t_16, t_20, t_21, t_22, t_32, t_40, t_41, t_48, t_49, t_57, t_59, t_60, t_63, t_72, t_76, t_88, t_100, t_144, t_200, t_255, t_288, t_400, t_800, t_999, t_1000, t_1024, t_1200, t_1600, t_3200, t_100000, t_200000, t_252645135, t_858993459, t_1431655765, u_m1000002, u_m1000001, u_m1000, u_m3, u_m1, u_0, u_1, u_2, u_3, u_4, u_5, u_7, u_8, u_10, u_11, u_15, u_60, u_100, u_255, u_999, u_1000, u_100000, u_4294967295] at hc67)
        refine g_iload dX7_best_70 rfl ?_
        refine g_iload dX7_best_72 rfl ?_
        refine g_icmp_ne (tgt := 98) dX7_best_74 (by decide) (fun hc74 => ?_) (fun hc74 => ?_)
        · have hd74 := mt i_eq.mpr hc74; (try simp (disch := omega) only [nT, t_m1000100, t_m1000010, t_m1000003, t_m1000002, t_m1000001, t_m1000000, t_m65535, t_m1000, t_m3, t_m1, t_0, t_1, t_2, t_3, t_4, t_5, t_6, t_7, t_8, t_9, t_10, t_11, t_12, t_13, t_15, t_16, t_20, t_21, t_22, t_32, t_40, t_41, t_48, t_49, t_57, t_59, t_60, t_63, t_72, t_76, t_88, t_100, t_144, t_200, t_255, t_288, t_400, t_800, t_999, t_1000, t_1024, t_1200, t_1600, t_3200, t_100000, t_200000, t_252645135, t_858993459, t_1431655765, u_m1000002, u_m1000001, u_m1000, u_m3, u_m1, u_0, u_1, u_2, u_3, u_4, u_5, u_7, u_8, u_10, u_11, u_15, u_60, u_100, u_255, u_999, u_1000, u_100000, u_4294967295] at hd74)
          first
          | (rw [if_pos (by omega)] at he
             have k1 := k98 (7 * r + k) (by omega) he (.int (nI (S (7 * r + k)))) (.int (nI (T (7 * r + k))))
             rw [show (7 * r + k) / 7 = r by omega, show (7 * r + k) % 7 = k by omega] at k1
             exact k1)
          | (rw [if_neg (by omega)] at he
             exact k98 b hb he _ _)
        · have hd74 := i_eq.mp hc74; (try simp (disch := omega) only [nT, t_m1000100, t_m1000010, t_m1000003, t_m1000002, t_m1000001, t_m1000000, t_m65535, t_m1000, t_m3, t_m1, t_0, t_1, t_2, t_3, t_4, t_5, t_6, t_7, t_8, t_9, t_10, t_11, t_12, t_13, t_15, t_16, t_20, t_21, t_22, t_32, t_40, t_41, t_48, t_49, t_57, t_59, t_60, t_63, t_72, t_76, t_88, t_100, t_144, t_200, t_255, t_288, t_400, t_800, t_999, t_1000, t_1024, t_1200, t_1600, t_3200, t_100000, t_200000, t_252645135, t_858993459, t_1431655765, u_m1000002, u_m1000001, u_m1000, u_m3, u_m1, u_0, u_1, u_2, u_3, u_4, u_5, u_7, u_8, u_10, u_11, u_15, u_60, u_100, u_255, u_999, u_1000, u_100000, u_4294967295] at hd74)
          refine g_iload dX7_best_77 rfl ?_
          refine g_iload dX7_best_79 rfl ?_
          refine g_icmp_ge (tgt := 98) dX7_best_81 (by decide) (fun hc81 => ?_) (fun hc81 => ?_)
          · (try simp (disch := omega) only [nT, t_m1000100, t_m1000010, t_m1000003, t_m1000002, t_m1000001, t_m1000000, t_m65535, t_m1000, t_m3, t_m1, t_0, t_1, t_2, t_3, t_4, t_5, t_6, t_7, t_8, t_9, t_10, t_11, t_12, t_13, t_15, t_16, t_20, t_21, t_22, t_32, t_40, t_41, t_48, t_49, t_57, t_59, t_60, t_63, t_72, t_76, t_88, t_100, t_144, t_200, t_255, t_288, t_400, t_800, t_999, t_1000, t_1024, t_1200, t_1600, t_3200, t_100000, t_200000, t_252645135, t_858993459, t_1431655765, u_m1000002, u_m1000001, u_m1000, u_m3, u_m1, u_0, u_1, u_2, u_3, u_4, u_5, u_7, u_8, u_10, u_11, u_15, u_60, u_100, u_255, u_999, u_1000, u_100000, u_4294967295] at hc81)
            first
            | (rw [if_pos (by omega)] at he
               have k1 := k98 (7 * r + k) (by omega) he (.int (nI (S (7 * r + k)))) (.int (nI (T (7 * r + k))))
               rw [show (7 * r + k) / 7 = r by omega, show (7 * r + k) % 7 = k by omega] at k1
               exact k1)
            | (rw [if_neg (by omega)] at he
               exact k98 b hb he _ _)
          · (try simp (disch := omega) only [nT, t_m1000100, t_m1000010, t_m1000003, t_m1000002, t_m1000001, t_m1000000, t_m65535, t_m1000, t_m3, t_m1, t_0, t_1, t_2, t_3, t_4, t_5, t_6, t_7, t_8, t_9, t_10, t_11, t_12, t_13, t_15, t_16, t_20, t_21, t_22, t_32, t_40, t_41, t_48, t_49, t_57, t_59, t_60, t_63, t_72, t_76, t_88, t_100, t_144, t_200, t_255, t_288, t_400, t_800, t_999, t_1000, t_1024, t_1200, t_1600, t_3200, t_100000, t_200000, t_252645135, t_858993459, t_1431655765, u_m1000002, u_m1000001, u_m1000, u_m3, u_m1, u_0, u_1, u_2, u_3, u_4, u_5, u_7, u_8, u_10, u_11, u_15, u_60, u_100, u_255, u_999, u_1000, u_100000, u_4294967295] at hc81)
            refine g_iload dX7_best_84 rfl ?_
            refine g_istore_n (i := 2) dX7_best_86 rfl (Nat.le_of_ble_eq_true rfl) rfl ?_
            refine g_iload dX7_best_87 rfl ?_
            refine g_istore_n (i := 3) dX7_best_89 rfl (Nat.le_of_ble_eq_true rfl) rfl ?_
            refine g_iload dX7_best_90 rfl ?_
            refine g_istore dX7_best_92 (Nat.le_of_ble_eq_true rfl) rfl ?_
            refine g_iload dX7_best_94 rfl ?_
            refine g_istore dX7_best_96 (Nat.le_of_ble_eq_true rfl) rfl ?_
            first
            | (rw [if_pos (by omega)] at he
               have k1 := k98 (7 * r + k) (by omega) he (.int (nI (S (7 * r + k)))) (.int (nI (T (7 * r + k))))
               rw [show (7 * r + k) / 7 = r by omega, show (7 * r + k) % 7 = k by omega] at k1
               exact k1)
            | (rw [if_neg (by omega)] at he
               exact k98 b hb he _ _)
theorem x_best {W : WA} (hW : WfW W) {h : HH} (hg : GWX W h) (a : Int32) : CT mX7_best 4 0 0 [.ref 0, .int a] h (fun r h' => r = some (.int (opBest W a)) ∧ h' = h) := by
  have e1 := hg.1
  have e0 : (0 ≤ a.toInt ∧ a.toInt < 3) → opBest W a = _ := fun q => if_neg (by omega)
  have hq : QtX W (bS W) (bT W) := ⟨fun r k hk => ⟨by rw [j_S, bS, show (7 * r + k) / 7 = r by omega, show (7 * r + k) % 7 = k by omega], by rw [j_T, bT, show (7 * r + k) / 7 = r by omega, show (7 * r + k) % 7 = k by omega]⟩, fun i => ⟨bS_le W i, bT_le W i⟩⟩
  generalize bS W = S at e0 hq
  generalize bT W = T at e0 hq
  refine CT.go [.ref 0, .int a, hU, hU, hU, hU, hU, hU, hU, hU] (by decide +kernel) rfl rfl (fun Q' hQ => ?_)
  refine g_iload_n (i := 1) dX7_best_0 rfl rfl ?_
  refine g_iconst (v := 3) dX7_best_1 (by decide) ?_
  refine g_callS (M' := mX7_isWithin) dX7_best_2 lc_X7_isWithin ml_X7_90 (c_isWithin h a 3 3 rfl) rfl rfl ⟨Nat.le_of_ble_eq_true rfl, Nat.le_of_ble_eq_true rfl, Nat.le_of_ble_eq_true rfl, Nat.le_of_ble_eq_true rfl⟩ (Nat.le_of_ble_eq_true rfl) ?_
  intro r_ h_ q_; obtain ⟨q1_, q2_⟩ := q_; have q2_ := q2_.symm; subst q1_; subst q2_
  refine g_if_ne (tgt := 11) dX7_best_5 (by decide) (fun hc5 => ?_) (fun hc5 => ?_)
  · replace hc5 := bI_n0.mp hc5
    (try simp (disch := omega) only [nT, t_m1000100, t_m1000010, t_m1000003, t_m1000002, t_m1000001, t_m1000000, t_m65535, t_m1000, t_m3, t_m1, t_0, t_1, t_2, t_3, t_4, t_5, t_6, t_7, t_8, t_9, t_10, t_11, t_12, t_13, t_15, t_16, t_20, t_21, t_22, t_32, t_40, t_41, t_48, t_49, t_57, t_59, t_60, t_63, t_72, t_76, t_88, t_100, t_144, t_200, t_255, t_288, t_400, t_800, t_999, t_1000, t_1024, t_1200, t_1600, t_3200, t_100000, t_200000, t_252645135, t_858993459, t_1431655765, u_m1000002, u_m1000001, u_m1000, u_m3, u_m1, u_0, u_1, u_2, u_3, u_4, u_5, u_7, u_8, u_10, u_11, u_15, u_60, u_100, u_255, u_999, u_1000, u_100000, u_4294967295] at hc5)
    refine g_ldc dX7_best_11 kc_X7_155 ?_
    refine g_istore_n (i := 2) dX7_best_13 rfl (Nat.le_of_ble_eq_true rfl) rfl ?_
    refine g_ldc dX7_best_14 kc_X7_155 ?_
    refine g_istore_n (i := 3) dX7_best_16 rfl (Nat.le_of_ble_eq_true rfl) rfl ?_
    refine g_iconst (v := (-1)) dX7_best_17 (by decide) ?_
    refine g_istore dX7_best_18 (Nat.le_of_ble_eq_true rfl) rfl ?_
    refine g_iconst (v := (-1)) dX7_best_20 (by decide) ?_
    refine g_istore dX7_best_21 (Nat.le_of_ble_eq_true rfl) rfl ?_
    refine g_bipush (v := (-3)) dX7_best_23 (by decide) ?_
    refine g_istore dX7_best_25 (Nat.le_of_ble_eq_true rfl) rfl ?_
    have e := e0 (by assumption)
    obtain ⟨N, hN⟩ : ∃ N : Nat, N = 48 := ⟨_, rfl⟩
    rw [← hN] at e
    generalize hz : bst S T N 1 0 = z at e
    show GG _ _ _ _ [.ref 0, .int a, .int (-1000000), .int (-1000000), .int (-1), .int (-1), .int (d3 0), hU, hU, hU] _ _
    have key : ∀ m r b (v7 v8 v9 : Value), r + m = 7 → b < 49 → bst S T (7 * m) (7 * r) b = z → GG (EM mX7_best 4 0 0 Q') 0 0 27 (BsX S T a b (.int (d3 r)) v7 v8 v9) [] h := by
      intro m
      induction m with
      | zero =>
        intro r b v7 v8 v9 hr hb he
        obtain rfl : b = z := he
        have hr3 := @d3_T r (by omega)
        unfold BsX
        refine g_iload dX7_best_27 rfl ?_
        refine g_iconst (v := 3) dX7_best_29 (by decide) ?_
        refine g_icmp_gt (tgt := 110) dX7_best_30 (by decide) (fun hc30 => ?_) (fun hc30 => ?_)
        · (try simp (disch := omega) only [nT, t_m1000100, t_m1000010, t_m1000003, t_m1000002, t_m1000001, t_m1000000, t_m65535, t_m1000, t_m3, t_m1, t_0, t_1, t_2, t_3, t_4, t_5, t_6, t_7, t_8, t_9, t_10, t_11, t_12, t_13, t_15, t_16, t_20, t_21, t_22, t_32, t_40, t_41, t_48, t_49, t_57, t_59, t_60, t_63, t_72, t_76, t_88, t_100, t_144, t_200, t_255, t_288, t_400, t_800, t_999, t_1000, t_1024, t_1200, t_1600, t_3200, t_100000, t_200000, t_252645135, t_858993459, t_1431655765, u_m1000002, u_m1000001, u_m1000, u_m3, u_m1, u_0, u_1, u_2, u_3, u_4, u_5, u_7, u_8, u_10, u_11, u_15, u_60, u_100, u_255, u_999, u_1000, u_100000, u_4294967295] at hc30)
          refine g_iload_n (i := 1) dX7_best_110 rfl rfl ?_
          refine g_iconst (v := 2) dX7_best_111 (by decide) ?_
          refine g_icmp_ne (tgt := 118) dX7_best_112 (by decide) (fun hc112 => ?_) (fun hc112 => ?_)
          · have hd112 := mt i_eq.mpr hc112; (try simp (disch := omega) only [nT, t_m1000100, t_m1000010, t_m1000003, t_m1000002, t_m1000001, t_m1000000, t_m65535, t_m1000, t_m3, t_m1, t_0, t_1, t_2, t_3, t_4, t_5, t_6, t_7, t_8, t_9, t_10, t_11, t_12, t_13, t_15, t_16, t_20, t_21, t_22, t_32, t_40, t_41, t_48, t_49, t_57, t_59, t_60, t_63, t_72, t_76, t_88, t_100, t_144, t_200, t_255, t_288, t_400, t_800, t_999, t_1000, t_1024, t_1200, t_1600, t_3200, t_100000, t_200000, t_252645135, t_858993459, t_1431655765, u_m1000002, u_m1000001, u_m1000, u_m3, u_m1, u_0, u_1, u_2, u_3, u_4, u_5, u_7, u_8, u_10, u_11, u_15, u_60, u_100, u_255, u_999, u_1000, u_100000, u_4294967295] at hd112)
            refine g_iload_n (i := 1) dX7_best_118 rfl rfl ?_
            refine g_if_ne (tgt := 126) dX7_best_119 (by decide) (fun hc119 => ?_) (fun hc119 => ?_)
            · have hd119 := mt i_eq.mpr hc119; (try simp (disch := omega) only [nT, t_m1000100, t_m1000010, t_m1000003, t_m1000002, t_m1000001, t_m1000000, t_m65535, t_m1000, t_m3, t_m1, t_0, t_1, t_2, t_3, t_4, t_5, t_6, t_7, t_8, t_9, t_10, t_11, t_12, t_13, t_15, t_16, t_20, t_21, t_22, t_32, t_40, t_41, t_48, t_49, t_57, t_59, t_60, t_63, t_72, t_76, t_88, t_100, t_144, t_200, t_255, t_288, t_400, t_800, t_999, t_1000, t_1024, t_1200, t_1600, t_3200, t_100000, t_200000, t_252645135, t_858993459, t_1431655765, u_m1000002, u_m1000001, u_m1000, u_m3, u_m1, u_0, u_1, u_2, u_3, u_4, u_5, u_7, u_8, u_10, u_11, u_15, u_60, u_100, u_255, u_999, u_1000, u_100000, u_4294967295] at hd119)
              rw [if_neg (by assumption), if_neg (by assumption)] at e
              refine g_iload_n (i := 3) dX7_best_126 rfl rfl ?_
              refine g_iret dX7_best_127 rfl (rfl) (hQ _ _ ?_)
              rw [e]; exact ⟨rfl, rfl⟩
            · have hd119 := i_eq.mp hc119; (try simp (disch := omega) only [nT, t_m1000100, t_m1000010, t_m1000003, t_m1000002, t_m1000001, t_m1000000, t_m65535, t_m1000, t_m3, t_m1, t_0, t_1, t_2, t_3, t_4, t_5, t_6, t_7, t_8, t_9, t_10, t_11, t_12, t_13, t_15, t_16, t_20, t_21, t_22, t_32, t_40, t_41, t_48, t_49, t_57, t_59, t_60, t_63, t_72, t_76, t_88, t_100, t_144, t_200, t_255, t_288, t_400, t_800, t_999, t_1000, t_1024, t_1200, t_1600, t_3200, t_100000, t_200000, t_252645135, t_858993459, t_1431655765, u_m1000002, u_m1000001, u_m1000, u_m3, u_m1, u_0, u_1, u_2, u_3, u_4, u_5, u_7, u_8, u_10, u_11, u_15, u_60, u_100, u_255, u_999, u_1000, u_100000, u_4294967295] at hd119)
              rw [if_neg (by assumption), if_pos (by assumption)] at e
              refine g_iload_n (i := 2) dX7_best_122 rfl rfl ?_
              refine g_goto (tgt := 127) dX7_best_123 (by decide) ?_
              refine g_iret dX7_best_127 rfl (rfl) (hQ _ _ ?_)
              rw [e]; exact ⟨rfl, rfl⟩
          · have hd112 := i_eq.mp hc112; (try simp (disch := omega) only [nT, t_m1000100, t_m1000010, t_m1000003, t_m1000002, t_m1000001, t_m1000000, t_m65535, t_m1000, t_m3, t_m1, t_0, t_1, t_2, t_3, t_4, t_5, t_6, t_7, t_8, t_9, t_10, t_11, t_12, t_13, t_15, t_16, t_20, t_21, t_22, t_32, t_40, t_41, t_48, t_49, t_57, t_59, t_60, t_63, t_72, t_76, t_88, t_100, t_144, t_200, t_255, t_288, t_400, t_800, t_999, t_1000, t_1024, t_1200, t_1600, t_3200, t_100000, t_200000, t_252645135, t_858993459, t_1431655765, u_m1000002, u_m1000001, u_m1000, u_m3, u_m1, u_0, u_1, u_2, u_3, u_4, u_5, u_7, u_8, u_10, u_11, u_15, u_60, u_100, u_255, u_999, u_1000, u_100000, u_4294967295] at hd112)
            refine g_iload dX7_best_115 rfl ?_
            refine g_iret dX7_best_117 rfl (rfl) (hQ _ _ ?_)
            rw [e, if_pos (by assumption)]; exact ⟨rfl, rfl⟩
        · (try simp (disch := omega) only [nT, t_m1000100, t_m1000010, t_m1000003, t_m1000002, t_m1000001, t_m1000000, t_m65535, t_m1000, t_m3, t_m1, t_0, t_1, t_2, t_3, t_4, t_5, t_6, t_7, t_8, t_9, t_10, t_11, t_12, t_13, t_15, t_16, t_20, t_21, t_22, t_32, t_40, t_41, t_48, t_49, t_57, t_59, t_60, t_63, t_72, t_76, t_88, t_100, t_144, t_200, t_255, t_288, t_400, t_800, t_999, t_1000, t_1024, t_1200, t_1600, t_3200, t_100000, t_200000, t_252645135, t_858993459, t_1431655765, u_m1000002, u_m1000001, u_m1000, u_m3, u_m1, u_0, u_1, u_2, u_3, u_4, u_5, u_7, u_8, u_10, u_11, u_15, u_60, u_100, u_255, u_999, u_1000, u_100000, u_4294967295] at hc30); omega
      | succ m ih =>
        intro r b v7 v8 v9 hr hb he
        have hr3 := @d3_T r (by omega)
        unfold BsX
        refine g_iload dX7_best_27 rfl ?_
        refine g_iconst (v := 3) dX7_best_29 (by decide) ?_
        refine g_icmp_gt (tgt := 110) dX7_best_30 (by decide) (fun hc30 => ?_) (fun hc30 => ?_)
        · (try simp (disch := omega) only [nT, t_m1000100, t_m1000010, t_m1000003, t_m1000002, t_m1000001, t_m1000000, t_m65535, t_m1000, t_m3, t_m1, t_0, t_1, t_2, t_3, t_4, t_5, t_6, t_7, t_8, t_9, t_10, t_11, t_12, t_13, t_15, t_16, t_20, t_21, t_22, t_32, t_40, t_41, t_48, t_49, t_57, t_59, t_60, t_63, t_72, t_76, t_88, t_100, t_144, t_200, t_255, t_288, t_400, t_800, t_999, t_1000, t_1024, t_1200, t_1600, t_3200, t_100000, t_200000, t_252645135, t_858993459, t_1431655765, u_m1000002, u_m1000001, u_m1000, u_m3, u_m1, u_0, u_1, u_2, u_3, u_4, u_5, u_7, u_8, u_10, u_11, u_15, u_60, u_100, u_255, u_999, u_1000, u_100000, u_4294967295] at hc30); omega
        · (try simp (disch := omega) only [nT, t_m1000100, t_m1000010, t_m1000003, t_m1000002, t_m1000001, t_m1000000, t_m65535, t_m1000, t_m3, t_m1, t_0, t_1, t_2, t_3, t_4, t_5, t_6, t_7, t_8, t_9, t_10, t_11, t_12, t_13, t_15, t_16, t_20, t_21, t_22, t_32, t_40, t_41, t_48, t_49, t_57, t_59, t_60, t_63, t_72, t_76, t_88, t_100, t_144, t_200, t_255, t_288, t_400, t_800, t_999, t_1000, t_1024, t_1200, t_1600, t_3200, t_100000, t_200000, t_252645135, t_858993459, t_1431655765, u_m1000002, u_m1000001, u_m1000, u_m3, u_m1, u_0, u_1, u_2, u_3, u_4, u_5, u_7, u_8, u_10, u_11, u_15, u_60, u_100, u_255, u_999, u_1000, u_100000, u_4294967295] at hc30)
          refine g_bipush (v := (-3)) dX7_best_33 (by decide) ?_
          refine g_istore dX7_best_35 (Nat.le_of_ble_eq_true rfl) rfl ?_
          exact best_in hW hg hq (m := m) (r := r) (by omega) (fun b v7 v8 v9 hb he => ih (r + 1) b v7 v8 v9 (by omega) hb he) 7 0 b _ _ (by omega) hb he
    have l0 := hq.2 0
    have r3 := @d3_T 0 (by omega)
    have q0 : cnt (tS W (d3 0).toInt (d3 0).toInt) 144 0 = S 0 ∧ cnt (tT W (d3 0).toInt (d3 0).toInt) 144 0 = T 0 := hq.1 0 0 (by omega)
    have k98 : ∀ v8 v9, GG (EM mX7_best 4 0 0 Q') 0 0 98 [.ref 0, .int a, .int (d3 0), .int (d3 0), .int (nI (S 0)), .int (nI (T 0)), .int (d3 0), .int (d3 0), v8, v9] [] h := by
      intro v8 v9
      refine g_iinc dX7_best_98 rfl (Nat.le_of_ble_eq_true rfl) rfl ?_
      refine g_goto (tgt := 37) dX7_best_101 (by decide) ?_
      rw [d3_i]
      exact best_in hW hg hq (m := 6) (r := 0) (by omega) (fun b v7 v8 v9 hb he => key 6 1 b v7 v8 v9 (by omega) hb he) 6 1 0 _ _ (by omega) (by omega) (by rw [← hz, hN])
    have z3 : (-3 : Int32) = d3 0 := rfl
    generalize d3 0 = z0 at k98 r3 q0 z3 ⊢
    clear key
    refine g_iload dX7_best_27 rfl ?_
    refine g_iconst (v := 3) dX7_best_29 (by decide) ?_
    refine g_icmp_gt (tgt := 110) dX7_best_30 (by decide) (fun hc30 => ?_) (fun hc30 => ?_)
    · (try simp (disch := omega) only [nT, t_m1000100, t_m1000010, t_m1000003, t_m1000002, t_m1000001, t_m1000000, t_m65535, t_m1000, t_m3, t_m1, t_0, t_1, t_2, t_3, t_4, t_5, t_6, t_7, t_8, t_9, t_10, t_11, t_12, t_13, t_15, t_16, t_20, t_21, t_22, t_32, t_40, t_41, t_48, t_49, t_57, t_59, t_60, t_63, t_72, t_76, t_88, t_100, t_144, t_200, t_255, t_288, t_400, t_800, t_999, t_1000, t_1024, t_1200, t_1600, t_3200, t_100000, t_200000, t_252645135, t_858993459, t_1431655765, u_m1000002, u_m1000001, u_m1000, u_m3, u_m1, u_0, u_1, u_2, u_3, u_4, u_5, u_7, u_8, u_10, u_11, u_15, u_60, u_100, u_255, u_999, u_1000, u_100000, u_4294967295] at hc30); omega
    · (try simp (disch := omega) only [nT, t_m1000100, t_m1000010, t_m1000003, t_m1000002, t_m1000001, t_m1000000, t_m65535, t_m1000, t_m3, t_m1, t_0, t_1, t_2, t_3, t_4, t_5, t_6, t_7, t_8, t_9, t_10, t_11, t_12, t_13, t_15, t_16, t_20, t_21, t_22, t_32, t_40, t_41, t_48, t_49, t_57, t_59, t_60, t_63, t_72, t_76, t_88, t_100, t_144, t_200, t_255, t_288, t_400, t_800, t_999, t_1000, t_1024, t_1200, t_1600, t_3200, t_100000, t_200000, t_252645135, t_858993459, t_1431655765, u_m1000002, u_m1000001, u_m1000, u_m3, u_m1, u_0, u_1, u_2, u_3, u_4, u_5, u_7, u_8, u_10, u_11, u_15, u_60, u_100, u_255, u_999, u_1000, u_100000, u_4294967295] at hc30)
      refine g_bipush (v := (-3)) dX7_best_33 (by decide) ?_
      rw [z3]
      refine g_istore dX7_best_35 (Nat.le_of_ble_eq_true rfl) rfl ?_
      show GG _ _ _ _ [.ref 0, .int a, .int (-1000000), .int (-1000000), .int (-1), .int (-1), .int z0, .int z0, hU, hU] _ _
      refine g_iload dX7_best_37 rfl ?_
      refine g_iconst (v := 3) dX7_best_39 (by decide) ?_
      refine g_icmp_gt (tgt := 104) dX7_best_40 (by decide) (fun hc40 => ?_) (fun hc40 => ?_)
      · (try simp (disch := omega) only [nT, t_m1000100, t_m1000010, t_m1000003, t_m1000002, t_m1000001, t_m1000000, t_m65535, t_m1000, t_m3, t_m1, t_0, t_1, t_2, t_3, t_4, t_5, t_6, t_7, t_8, t_9, t_10, t_11, t_12, t_13, t_15, t_16, t_20, t_21, t_22, t_32, t_40, t_41, t_48, t_49, t_57, t_59, t_60, t_63, t_72, t_76, t_88, t_100, t_144, t_200, t_255, t_288, t_400, t_800, t_999, t_1000, t_1024, t_1200, t_1600, t_3200, t_100000, t_200000, t_252645135, t_858993459, t_1431655765, u_m1000002, u_m1000001, u_m1000, u_m3, u_m1, u_0, u_1, u_2, u_3, u_4, u_5, u_7, u_8, u_10, u_11, u_15, u_60, u_100, u_255, u_999, u_1000, u_100000, u_4294967295] at hc40); omega
      · (try simp (disch := omega) only [nT, t_m1000100, t_m1000010, t_m1000003, t_m1000002, t_m1000001, t_m1000000, t_m65535, t_m1000, t_m3, t_m1, t_0, t_1, t_2, t_3, t_4, t_5, t_6, t_7, t_8, t_9, t_10, t_11, t_12, t_13, t_15, t_16, t_20, t_21, t_22, t_32, t_40, t_41, t_48, t_49, t_57, t_59, t_60, t_63, t_72, t_76, t_88, t_100, t_144, t_200, t_255, t_288, t_400, t_800, t_999, t_1000, t_1024, t_1200, t_1600, t_3200, t_100000, t_200000, t_252645135, t_858993459, t_1431655765, u_m1000002, u_m1000001, u_m1000, u_m3, u_m1, u_0, u_1, u_2, u_3, u_4, u_5, u_7, u_8, u_10, u_11, u_15, u_60, u_100, u_255, u_999, u_1000, u_100000, u_4294967295] at hc40)
        refine g_aload_n (i := 0) dX7_best_43 rfl rfl ?_
        refine g_iload dX7_best_44 rfl ?_
        refine g_iload dX7_best_46 rfl ?_
        refine g_callV (M' := mX7_same) dX7_best_48 lc_X7_same ml_X7_295 (c_same hW hg (dx := z0) (dy := z0) (by omega) (by omega) (by omega) (by omega)) rfl rfl (by repeat' (first | assumption | exact rF_eq | refine rF_ne (by decide) ?_ | refine rF_a ?_ | exact rA_eq | refine rA_ne (by decide) ?_ | refine rA_f ?_)) rfl ⟨Nat.le_of_ble_eq_true rfl, Nat.le_of_ble_eq_true rfl, Nat.le_of_ble_eq_true rfl, Nat.le_of_ble_eq_true rfl⟩ (Nat.le_of_ble_eq_true rfl) ?_
        intro r_ h_ q_; obtain ⟨q1_, q2_⟩ := q_; have q2_ := q2_.symm; subst q1_; subst q2_
        rw [q0.1]
        refine g_istore dX7_best_51 (Nat.le_of_ble_eq_true rfl) rfl ?_
        refine g_aload_n (i := 0) dX7_best_53 rfl rfl ?_
        refine g_iload dX7_best_54 rfl ?_
        refine g_iload dX7_best_56 rfl ?_
        refine g_callV (M' := mX7_twice) dX7_best_58 lc_X7_twice ml_X7_298 (c_twice hW hg (dx := z0) (dy := z0) (by omega) (by omega) (by omega) (by omega)) rfl rfl (by repeat' (first | assumption | exact rF_eq | refine rF_ne (by decide) ?_ | refine rF_a ?_ | exact rA_eq | refine rA_ne (by decide) ?_ | refine rA_f ?_)) rfl ⟨Nat.le_of_ble_eq_true rfl, Nat.le_of_ble_eq_true rfl, Nat.le_of_ble_eq_true rfl, Nat.le_of_ble_eq_true rfl⟩ (Nat.le_of_ble_eq_true rfl) ?_
        intro r_ h_ q_; obtain ⟨q1_, q2_⟩ := q_; have q2_ := q2_.symm; subst q1_; subst q2_
        rw [q0.2]
        refine g_istore dX7_best_61 (Nat.le_of_ble_eq_true rfl) rfl ?_
        show GG _ _ _ _ [.ref 0, .int a, .int (-1000000), .int (-1000000), .int (-1), .int (-1), .int z0, .int z0, .int (nI (S 0)), .int (nI (T 0))] _ _
        refine g_iload dX7_best_63 rfl ?_
        refine g_iload dX7_best_65 rfl ?_
        refine g_icmp_gt (tgt := 84) dX7_best_67 (by decide) (fun hc67 => ?_) (fun hc67 => ?_)
        · (try simp (disch := omega) only [nT, t_m1000100, t_m1000010, t_m1000003, t_m1000002, t_m1000001, t_m1000000, t_m65535, t_m1000, t_m3, t_m1, t_0, t_1, t_2, t_3, t_4, t_5, t_6, t_7, t_8, t_9, t_10, t_11, t_12, t_13, t_15, t_16, t_20, t_21, t_22, t_32, t_40, t_41, t_48, t_49, t_57, t_59, t_60, t_63, t_72, t_76, t_88, t_100, t_144, t_200, t_255, t_288, t_400, t_800, t_999, t_1000, t_1024, t_1200, t_1600, t_3200, t_100000, t_200000, t_252645135, t_858993459, t_1431655765, u_m1000002, u_m1000001, u_m1000, u_m3, u_m1, u_0, u_1, u_2, u_3, u_4, u_5, u_7, u_8, u_10, u_11, u_15, u_60, u_100, u_255, u_999, u_1000, u_100000, u_4294967295] at hc67)
          refine g_iload dX7_best_84 rfl ?_
          refine g_istore_n (i := 2) dX7_best_86 rfl (Nat.le_of_ble_eq_true rfl) rfl ?_
          refine g_iload dX7_best_87 rfl ?_
          refine g_istore_n (i := 3) dX7_best_89 rfl (Nat.le_of_ble_eq_true rfl) rfl ?_
          refine g_iload dX7_best_90 rfl ?_
          refine g_istore dX7_best_92 (Nat.le_of_ble_eq_true rfl) rfl ?_
          refine g_iload dX7_best_94 rfl ?_
          refine g_istore dX7_best_96 (Nat.le_of_ble_eq_true rfl) rfl ?_
          first
          | exact k98 _ _
          | (exfalso; omega)
        · (try simp (disch := omega) only [nT, t_m1000100, t_m1000010, t_m1000003, t_m1000002, t_m1000001, t_m1000000, t_m65535, t_m1000, t_m3, t_m1, t_0, t_1, t_2, t_3, t_4, t_5, t_6, t_7, t_8, t_9, t_10, t_11, t_12, t_13, t_15, t_16, t_20, t_21, t_22, t_32, t_40, t_41, t_48, t_49, t_57, t_59, t_60, t_63, t_72, t_76, t_88, t_100, t_144, t_200, t_255, t_288, t_400, t_800, t_999, t_1000, t_1024, t_1200, t_1600, t_3200, t_100000, t_200000, t_252645135, t_858993459, t_1431655765, u_m1000002, u_m1000001, u_m1000, u_m3, u_m1, u_0, u_1, u_2, u_3, u_4, u_5, u_7, u_8, u_10, u_11, u_15, u_60, u_100, u_255, u_999, u_1000, u_100000, u_4294967295] at hc67)
          refine g_iload dX7_best_70 rfl ?_
          refine g_iload dX7_best_72 rfl ?_
          refine g_icmp_ne (tgt := 98) dX7_best_74 (by decide) (fun hc74 => ?_) (fun hc74 => ?_)
          · have hd74 := mt i_eq.mpr hc74; (try simp (disch := omega) only [nT, t_m1000100, t_m1000010, t_m1000003, t_m1000002, t_m1000001, t_m1000000, t_m65535, t_m1000, t_m3, t_m1, t_0, t_1, t_2, t_3, t_4, t_5, t_6, t_7, t_8, t_9, t_10, t_11, t_12, t_13, t_15, t_16, t_20, t_21, t_22, t_32, t_40, t_41, t_48, t_49, t_57, t_59, t_60, t_63, t_72, t_76, t_88, t_100, t_144, t_200, t_255, t_288, t_400, t_800, t_999, t_1000, t_1024, t_1200, t_1600, t_3200, t_100000, t_200000, t_252645135, t_858993459, t_1431655765, u_m1000002, u_m1000001, u_m1000, u_m3, u_m1, u_0, u_1, u_2, u_3, u_4, u_5, u_7, u_8, u_10, u_11, u_15, u_60, u_100, u_255, u_999, u_1000, u_100000, u_4294967295] at hd74)
            first
            | exact k98 _ _
            | (exfalso; omega)
          · have hd74 := i_eq.mp hc74; (try simp (disch := omega) only [nT, t_m1000100, t_m1000010, t_m1000003, t_m1000002, t_m1000001, t_m1000000, t_m65535, t_m1000, t_m3, t_m1, t_0, t_1, t_2, t_3, t_4, t_5, t_6, t_7, t_8, t_9, t_10, t_11, t_12, t_13, t_15, t_16, t_20, t_21, t_22, t_32, t_40, t_41, t_48, t_49, t_57, t_59, t_60, t_63, t_72, t_76, t_88, t_100, t_144, t_200, t_255, t_288, t_400, t_800, t_999, t_1000, t_1024, t_1200, t_1600, t_3200, t_100000, t_200000, t_252645135, t_858993459, t_1431655765, u_m1000002, u_m1000001, u_m1000, u_m3, u_m1, u_0, u_1, u_2, u_3, u_4, u_5, u_7, u_8, u_10, u_11, u_15, u_60, u_100, u_255, u_999, u_1000, u_100000, u_4294967295] at hd74)
            refine g_iload dX7_best_77 rfl ?_
            refine g_iload dX7_best_79 rfl ?_
            refine g_icmp_ge (tgt := 98) dX7_best_81 (by decide) (fun hc81 => ?_) (fun hc81 => ?_)
            · (try simp (disch := omega) only [nT, t_m1000100, t_m1000010, t_m1000003, t_m1000002, t_m1000001, t_m1000000, t_m65535, t_m1000, t_m3, t_m1, t_0, t_1, t_2, t_3, t_4, t_5, t_6, t_7, t_8, t_9, t_10, t_11, t_12, t_13, t_15, t_16, t_20, t_21, t_22, t_32, t_40, t_41, t_48, t_49, t_57, t_59, t_60, t_63, t_72, t_76, t_88, t_100, t_144, t_200, t_255, t_288, t_400, t_800, t_999, t_1000, t_1024, t_1200, t_1600, t_3200, t_100000, t_200000, t_252645135, t_858993459, t_1431655765, u_m1000002, u_m1000001, u_m1000, u_m3, u_m1, u_0, u_1, u_2, u_3, u_4, u_5, u_7, u_8, u_10, u_11, u_15, u_60, u_100, u_255, u_999, u_1000, u_100000, u_4294967295] at hc81)
              first
              | exact k98 _ _
              | (exfalso; omega)
            · (try simp (disch := omega) only [nT, t_m1000100, t_m1000010, t_m1000003, t_m1000002, t_m1000001, t_m1000000, t_m65535, t_m1000, t_m3, t_m1, t_0, t_1, t_2, t_3, t_4, t_5, t_6, t_7, t_8, t_9, t_10, t_11, t_12, t_13, t_15, t_16, t_20, t_21, t_22, t_32, t_40, t_41, t_48, t_49, t_57, t_59, t_60, t_63, t_72, t_76, t_88, t_100, t_144, t_200, t_255, t_288, t_400, t_800, t_999, t_1000, t_1024, t_1200, t_1600, t_3200, t_100000, t_200000, t_252645135, t_858993459, t_1431655765, u_m1000002, u_m1000001, u_m1000, u_m3, u_m1, u_0, u_1, u_2, u_3, u_4, u_5, u_7, u_8, u_10, u_11, u_15, u_60, u_100, u_255, u_999, u_1000, u_100000, u_4294967295] at hc81)
              refine g_iload dX7_best_84 rfl ?_
              refine g_istore_n (i := 2) dX7_best_86 rfl (Nat.le_of_ble_eq_true rfl) rfl ?_
              refine g_iload dX7_best_87 rfl ?_
              refine g_istore_n (i := 3) dX7_best_89 rfl (Nat.le_of_ble_eq_true rfl) rfl ?_
              refine g_iload dX7_best_90 rfl ?_
              refine g_istore dX7_best_92 (Nat.le_of_ble_eq_true rfl) rfl ?_
              refine g_iload dX7_best_94 rfl ?_
              refine g_istore dX7_best_96 (Nat.le_of_ble_eq_true rfl) rfl ?_
              first
              | exact k98 _ _
              | (exfalso; omega)
  · replace hc5 := bI_0.mp hc5
    (try simp (disch := omega) only [nT, t_m1000100, t_m1000010, t_m1000003, t_m1000002, t_m1000001, t_m1000000, t_m65535, t_m1000, t_m3, t_m1, t_0, t_1, t_2, t_3, t_4, t_5, t_6, t_7, t_8, t_9, t_10, t_11, t_12, t_13, t_15, t_16, t_20, t_21, t_22, t_32, t_40, t_41, t_48, t_49, t_57, t_59, t_60, t_63, t_72, t_76, t_88, t_100, t_144, t_200, t_255, t_288, t_400, t_800, t_999, t_1000, t_1024, t_1200, t_1600, t_3200, t_100000, t_200000, t_252645135, t_858993459, t_1431655765, u_m1000002, u_m1000001, u_m1000, u_m3, u_m1, u_0, u_1, u_2, u_3, u_4, u_5, u_7, u_8, u_10, u_11, u_15, u_60, u_100, u_255, u_999, u_1000, u_100000, u_4294967295] at hc5)
    refine g_ldc dX7_best_8 kc_X7_94 ?_
    refine g_iret dX7_best_10 rfl (rfl) (hQ _ _ ?_)
    rw [show opBest W a = _ from if_pos (by omega)]; exact ⟨rfl, rfl⟩
