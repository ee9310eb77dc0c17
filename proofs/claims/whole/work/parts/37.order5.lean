/-! order of the reference -/
theorem lu_s {f : Nat → Int64} {k : Nat} {y : Int64} : vp_updL f k y k = y := by simp [vp_updL]
theorem lu_n {f : Nat → Int64} {k j : Nat} {y : Int64} (h : ¬ j = k) : vp_updL f k y j = f j := by simp [vp_updL, h]
theorem fill_out {T : TS} (hT : WfT T) {h : HH} {fl : Nat → Int32} (hs : TsM h T.1 T.2.1 T.2.2.1 T.2.2.2.1 T.2.2.2.2.1 T.2.2.2.2.2.1 fl) (h45 : gF h 44 45 = .ref 72) {Q' : Option Value → HH → Prop} (K : ∀ lf v1 v2 v3 v4 v5 v6, LfO T (2 ^ T.1) lf → GG (EM mX8_order 2 0 0 Q') 0 0 91 [.ref 44, v1, v2, v3, v4, v5, v6] [] (sA h 72 (aJ 1024 lf))) : ∀ m S lf v2 v3 v4 v5 v6, S + m = 2 ^ T.1 → 1 ≤ S → LfO T S lf → GG (EM mX8_order 2 0 0 Q') 0 0 7 [.ref 44, .int (nI S), v2, v3, v4, v5, v6] [] (sA h 72 (aJ 1024 lf)) := by
  have e1 := hs.1
  obtain ⟨-, e2, -⟩ := id hs
  have hT1 := hT.1
  have hp := mk_pow T.1 (by omega)
  intro m
  induction m with
  | zero =>
    intro S lf v2 v3 v4 v5 v6 hS h1 hl
    refine g_iload_n (i := 1) dX8_order_7 rfl rfl ?_
    refine g_iconst (v := 1) dX8_order_8 (by decide) ?_
    refine g_aload_n (i := 0) dX8_order_9 rfl rfl ?_
    refine g_get dX8_order_10 fl_X8_197 (by repeat' (first | assumption | exact rF_eq | refine rF_ne (by decide) ?_ | refine rF_a ?_ | exact rA_eq | refine rA_ne (by decide) ?_ | refine rA_f ?_)) (by repeat' (first | assumption | exact rF_eq | refine rF_ne (by decide) ?_ | refine rF_a ?_ | exact rA_eq | refine rA_ne (by decide) ?_ | refine rA_f ?_)) ?_
    refine g_ishl dX8_order_13 ?_
    rw [hp.1]
    refine g_icmp_ge (tgt := 91) dX8_order_14 (by decide) (fun hc14 => ?_) (fun hc14 => ?_)
    · (try simp (disch := omega) only [nT, t_m1000100, t_m1000010, t_m1000003, t_m1000002, t_m1000001, t_m1000000, t_m65535, t_m1000, t_m3, t_m1, t_0, t_1, t_2, t_3, t_4, t_5, t_6, t_7, t_8, t_9, t_10, t_11, t_12, t_13, t_15, t_16, t_20, t_21, t_22, t_32, t_40, t_41, t_48, t_49, t_57, t_59, t_60, t_63, t_72, t_76, t_88, t_100, t_144, t_200, t_255, t_288, t_400, t_800, t_999, t_1000, t_1024, t_1200, t_1600, t_3200, t_100000, t_200000, t_252645135, t_858993459, t_1431655765, u_m1000002, u_m1000001, u_m1000, u_m3, u_m1, u_0, u_1, u_2, u_3, u_4, u_5, u_7, u_8, u_10, u_11, u_15, u_60, u_100, u_255, u_999, u_1000, u_100000, u_4294967295] at hc14)
      exact K lf _ _ _ _ _ _ (by rw [← hS]; exact hl)
    · (try simp (disch := omega) only [nT, t_m1000100, t_m1000010, t_m1000003, t_m1000002, t_m1000001, t_m1000000, t_m65535, t_m1000, t_m3, t_m1, t_0, t_1, t_2, t_3, t_4, t_5, t_6, t_7, t_8, t_9, t_10, t_11, t_12, t_13, t_15, t_16, t_20, t_21, t_22, t_32, t_40, t_41, t_48, t_49, t_57, t_59, t_60, t_63, t_72, t_76, t_88, t_100, t_144, t_200, t_255, t_288, t_400, t_800, t_999, t_1000, t_1024, t_1200, t_1600, t_3200, t_100000, t_200000, t_252645135, t_858993459, t_1431655765, u_m1000002, u_m1000001, u_m1000, u_m3, u_m1, u_0, u_1, u_2, u_3, u_4, u_5, u_7, u_8, u_10, u_11, u_15, u_60, u_100, u_255, u_999, u_1000, u_100000, u_4294967295] at hc14); omega
  | succ m ih =>
    intro S lf v2 v3 v4 v5 v6 hS h1 hl
    have hne := mk_ne S (by omega) h1
    rw [cnt_10 hT1 (show S < 2 ^ T.1 by omega)] at hne
    obtain ⟨c, hc⟩ : ∃ c, cnt S.testBit T.1 0 = c + 1 := ⟨cnt S.testBit T.1 0 - 1, by omega⟩
    obtain ⟨z, hz⟩ : ∃ z, z = mno (wfs T.1 (ttO T) (ssO T) c S.testBit) S.testBit T.1 0 none := ⟨_, rfl⟩
    have hz2 : oL z = nL (lst T.1 (ttO T) (ssO T) (c + 1) S.testBit) := by
      have e : lst T.1 (ttO T) (ssO T) (c + 1) S.testBit = (mno (wfs T.1 (ttO T) (ssO T) c S.testBit) S.testBit T.1 0 none).getD 0 := rfl
      rw [e, ← hz]
      rcases hzz : z with _ | x
      · rw [hzz] at hz
        obtain ⟨t, q1, q2, q3⟩ := cnt_pos T.1 0 hne
        exact absurd q3 (((mno_p _ _ _ _ _).2 hz.symm).2 t q1 q2)
      · rfl
    have k78 : ∀ v4 v5 v6, GG (EM mX8_order 2 0 0 Q') 0 0 78 [.ref 44, .int (nI S), .long (oL z), hU, v4, v5, v6] [] (sA h 72 (aJ 1024 lf)) := by
      intro v4 v5 v6
      refine g_aload_n (i := 0) dX8_order_78 rfl rfl ?_
      refine g_get dX8_order_79 fl_X8_97 (by repeat' (first | assumption | exact rF_eq | refine rF_ne (by decide) ?_ | refine rF_a ?_ | exact rA_eq | refine rA_ne (by decide) ?_ | refine rA_f ?_)) (by repeat' (first | assumption | exact rF_eq | refine rF_ne (by decide) ?_ | refine rF_a ?_ | exact rA_eq | refine rA_ne (by decide) ?_ | refine rA_f ?_)) ?_
      refine g_iload_n (i := 1) dX8_order_82 rfl rfl ?_
      refine g_lload_n (i := 2) dX8_order_83 rfl rfl ?_
      refine g_last dX8_order_84 (by repeat' (first | assumption | exact rF_eq | refine rF_ne (by decide) ?_ | refine rF_a ?_ | exact rA_eq | refine rA_ne (by decide) ?_ | refine rA_f ?_)) (nT (by omega)) (by omega) ?_
      refine g_iinc dX8_order_85 rfl (Nat.le_of_ble_eq_true rfl) rfl ?_
      refine g_goto (tgt := 7) dX8_order_88 (by decide) ?_
      rw [ni_incO, sA_sA]
      refine ih (S + 1) _ _ _ _ _ _ (by omega) (by omega) (fun R hR => ?_)
      by_cases q : R = S
      · rw [q, hc, ← hz2]; exact lu_s
      · exact (lu_n q).trans (hl R (by omega))
    refine g_iload_n (i := 1) dX8_order_7 rfl rfl ?_
    refine g_iconst (v := 1) dX8_order_8 (by decide) ?_
    refine g_aload_n (i := 0) dX8_order_9 rfl rfl ?_
    refine g_get dX8_order_10 fl_X8_197 (by repeat' (first | assumption | exact rF_eq | refine rF_ne (by decide) ?_ | refine rF_a ?_ | exact rA_eq | refine rA_ne (by decide) ?_ | refine rA_f ?_)) (by repeat' (first | assumption | exact rF_eq | refine rF_ne (by decide) ?_ | refine rF_a ?_ | exact rA_eq | refine rA_ne (by decide) ?_ | refine rA_f ?_)) ?_
    refine g_ishl dX8_order_13 ?_
    rw [hp.1]
    refine g_icmp_ge (tgt := 91) dX8_order_14 (by decide) (fun hc14 => ?_) (fun hc14 => ?_)
    · (try simp (disch := omega) only [nT, t_m1000100, t_m1000010, t_m1000003, t_m1000002, t_m1000001, t_m1000000, t_m65535, t_m1000, t_m3, t_m1, t_0, t_1, t_2, t_3, t_4, t_5, t_6, t_7, t_8, t_9, t_10, t_11, t_12, t_13, t_15, t_16, t_20, t_21, t_22, t_32, t_40, t_41, t_48, t_49, t_57, t_59, t_60, t_63, t_72, t_76, t_88, t_100, t_144, t_200, t_255, t_288, t_400, t_800, t_999, t_1000, t_1024, t_1200, t_1600, t_3200, t_100000, t_200000, t_252645135, t_858993459, t_1431655765, u_m1000002, u_m1000001, u_m1000, u_m3, u_m1, u_0, u_1, u_2, u_3, u_4, u_5, u_7, u_8, u_10, u_11, u_15, u_60, u_100, u_255, u_999, u_1000, u_100000, u_4294967295] at hc14); omega
    · (try simp (disch := omega) only [nT, t_m1000100, t_m1000010, t_m1000003, t_m1000002, t_m1000001, t_m1000000, t_m65535, t_m1000, t_m3, t_m1, t_0, t_1, t_2, t_3, t_4, t_5, t_6, t_7, t_8, t_9, t_10, t_11, t_12, t_13, t_15, t_16, t_20, t_21, t_22, t_32, t_40, t_41, t_48, t_49, t_57, t_59, t_60, t_63, t_72, t_76, t_88, t_100, t_144, t_200, t_255, t_288, t_400, t_800, t_999, t_1000, t_1024, t_1200, t_1600, t_3200, t_100000, t_200000, t_252645135, t_858993459, t_1431655765, u_m1000002, u_m1000001, u_m1000, u_m3, u_m1, u_0, u_1, u_2, u_3, u_4, u_5, u_7, u_8, u_10, u_11, u_15, u_60, u_100, u_255, u_999, u_1000, u_100000, u_4294967295] at hc14)
      refine g_ldc2 dX8_order_17 kc_X8_258 ?_
      refine g_lstore_n (i := 2) dX8_order_20 rfl (Nat.le_of_ble_eq_true rfl) rfl ?_
      refine g_iconst (v := 0) dX8_order_21 (by decide) ?_
      refine g_istore dX8_order_22 (Nat.le_of_ble_eq_true rfl) rfl ?_
      exact fill_in hT (h := sA h 72 (aJ 1024 lf)) hs h45 rfl (by omega) hc hl k78 T.1 0 none _ _ (by omega) (fun x hx => by cases hx) hz.symm
/-- the reference's FLOW: one place -/
theorem m_order {T : TS} (hT : WfT T) {h : HH} (hg : GTM T h) {lf0 : Nat → Int64} (h45 : gF h 44 45 = .ref 72) (h72 : gA h 72 = aJ 1024 lf0) (hl0 : lf0 0 = 0) : CT mX8_order 2 0 0 [.ref 44] h (fun r h' => r = some (.long (opMean (opOrd T))) ∧ GTM (opOrd T) h' ∧ (∃ lf, gA h' 72 = aJ 1024 lf ∧ lf 0 = 0) ∧ Fr [62, 72] [(44, 0)] h h') := by
  obtain ⟨e1, e2, e3, e4, e5, e6, e7, e8, e9, e10, e11, e12, e13, e14⟩ := id hg
  have hT1 := hT.1
  have hp := mk_pow T.1 (by omega)
  have hq := fun t => ttO_p hT t
  refine CT.go [.ref 44, hU, hU, hU, hU, hU, hU] (by decide +kernel) rfl rfl (fun Q' hQ => ?_)
  generalize hz : (opOrd T).2.2.2.2.2.2 = z at hQ
  have hl1 : LfO T 1 lf0 := fun R hR => by
    obtain rfl : R = 0 := by omega
    rw [hl0, cnt_z T.1 0 (fun i _ _ => by rw [Nat.zero_testBit]; decide)]
    rfl
  have key : ∀ m k S mat f (lf : Nat → Int64) (v4 v5 v6 : Value), LfO T (2 ^ T.1) lf → k + m = T.1 → S < 2 ^ T.1 → cnt S.testBit T.1 0 = m → gfl T.1 (ttO T) (ssO T) m k S.testBit mat f = z → GG (EM mX8_order 2 0 0 Q') 0 0 104 [.ref 44, .int (nI S), .int (bI (mat = true)), .int (nI k), v4, v5, v6] [] (sA (sA (sF h 44 0 (.int 0)) 72 (aJ 1024 lf)) 62 (aI 10 f)) := by
    intro m
    induction m with
    | zero =>
      intro k S mat f lf v4 v5 v6 hl hk hS hc he
      obtain rfl : f = z := he
      have ht : TM' (sA (sA (sF h 44 0 (.int 0)) 72 (aJ 1024 lf)) 62 (aI 10 f)) (opOrd T) := ⟨e1, e2, e3, e4, e5, e6, e7, e8, e9, e10, e11, e12, e13, by rw [hz]; rfl⟩
      refine g_iload_n (i := 3) dX8_order_104 rfl rfl ?_
      refine g_aload_n (i := 0) dX8_order_105 rfl rfl ?_
      refine g_get dX8_order_106 fl_X8_197 (by repeat' (first | assumption | exact rF_eq | refine rF_ne (by decide) ?_ | refine rF_a ?_ | exact rA_eq | refine rA_ne (by decide) ?_ | refine rA_f ?_)) (by repeat' (first | assumption | exact rF_eq | refine rF_ne (by decide) ?_ | refine rF_a ?_ | exact rA_eq | refine rA_ne (by decide) ?_ | refine rA_f ?_)) ?_
      refine g_icmp_ge (tgt := 196) dX8_order_109 (by decide) (fun hc109 => ?_) (fun hc109 => ?_)
      · (try simp (disch := omega) only [nT, t_m1000100, t_m1000010, t_m1000003, t_m1000002, t_m1000001, t_m1000000, t_m65535, t_m1000, t_m3, t_m1, t_0, t_1, t_2, t_3, t_4, t_5, t_6, t_7, t_8, t_9, t_10, t_11, t_12, t_13, t_15, t_16, t_20, t_21, t_22, t_32, t_40, t_41, t_48, t_49, t_57, t_59, t_60, t_63, t_72, t_76, t_88, t_100, t_144, t_200, t_255, t_288, t_400, t_800, t_999, t_1000, t_1024, t_1200, t_1600, t_3200, t_100000, t_200000, t_252645135, t_858993459, t_1431655765, u_m1000002, u_m1000001, u_m1000, u_m3, u_m1, u_0, u_1, u_2, u_3, u_4, u_5, u_7, u_8, u_10, u_11, u_15, u_60, u_100, u_255, u_999, u_1000, u_100000, u_4294967295] at hc109)
        refine g_aload_n (i := 0) dX8_order_196 rfl rfl ?_
        refine g_iconst (v := 0) dX8_order_197 (by decide) ?_
        refine g_callV (M' := mX8_meanFrom) dX8_order_198 lc_X8_meanFrom ml_X8_251 (c_meanFrom (opOrd_wf hT) ht) rfl rfl (by repeat' (first | assumption | exact rF_eq | refine rF_ne (by decide) ?_ | refine rF_a ?_ | exact rA_eq | refine rA_ne (by decide) ?_ | refine rA_f ?_)) rfl ⟨Nat.le_of_ble_eq_true rfl, Nat.le_of_ble_eq_true rfl, Nat.le_of_ble_eq_true rfl, Nat.le_of_ble_eq_true rfl⟩ (Nat.le_of_ble_eq_true rfl) ?_
        intro r_ h_ q_; obtain ⟨q1_, q2_⟩ := q_; have q2_ := q2_.symm; subst q1_; subst q2_
        refine g_lret dX8_order_201 rfl (hQ _ _ ?_)
        exact ⟨rfl, ht, ⟨lf, rA_ne (by decide) rA_eq, by rw [hl 0 (by omega), cnt_z T.1 0 (fun i _ _ => by rw [Nat.zero_testBit]; decide)]; rfl⟩, fr_sA (by decide) (fr_sA (by decide) (fr_sF (by decide) fr_rf))⟩
      · (try simp (disch := omega) only [nT, t_m1000100, t_m1000010, t_m1000003, t_m1000002, t_m1000001, t_m1000000, t_m65535, t_m1000, t_m3, t_m1, t_0, t_1, t_2, t_3, t_4, t_5, t_6, t_7, t_8, t_9, t_10, t_11, t_12, t_13, t_15, t_16, t_20, t_21, t_22, t_32, t_40, t_41, t_48, t_49, t_57, t_59, t_60, t_63, t_72, t_76, t_88, t_100, t_144, t_200, t_255, t_288, t_400, t_800, t_999, t_1000, t_1024, t_1200, t_1600, t_3200, t_100000, t_200000, t_252645135, t_858993459, t_1431655765, u_m1000002, u_m1000001, u_m1000, u_m3, u_m1, u_0, u_1, u_2, u_3, u_4, u_5, u_7, u_8, u_10, u_11, u_15, u_60, u_100, u_255, u_999, u_1000, u_100000, u_4294967295] at hc109); omega
    | succ m ih =>
      intro k S mat f lf v4 v5 v6 hl hk hS hc he
      obtain ⟨t, hst, ht1, ht2, ht3, ht4⟩ := scn2_some (ss := ssO T) (mat := mat) (fun t => (hq t).1) (show 0 < cnt S.testBit T.1 0 by omega)
      obtain ⟨d1, d2⟩ := mk_del S (by omega) t (by omega) ht2
      have hc2 := (cnt_dlt ht2 T.1 0).1 (by omega)
      have hs4 := ((hq t).2.2.2 ht1).2
      have ih2 := fun v5 v6 => ih (k + 1) (S ^^^ 2 ^ t) (mat && decide (ssO T t < 10)) (upd f k (nI t)) lf (.int (nI t)) v5 v6 hl (by omega) (by omega) (by rw [mk_dlt ht2]; omega) (by rw [mk_dlt ht2, ← he, gfl, hst])
      have hcl := cnt_le S.testBit T.1 0
      have hlS := hl S hS
      rw [hc] at hlS
      have bi := best_iff (n := T.1) (ss := ssO T) (fun t => (hq t).1) (fun t => (hq t).2.2.1) m S.testBit hc
      have k151 : ∀ v5 v6, GG (EM mX8_order 2 0 0 Q') 0 0 151 [.ref 44, .int (nI S), .int (bI (mat = true)), .int (nI k), .int (nI t), v5, v6] [] (sA (sA (sF h 44 0 (.int 0)) 72 (aJ 1024 lf)) 62 (aI 10 f)) := by
        intro v5 v6
        refine g_aload_n (i := 0) dX8_order_151 rfl rfl ?_
        refine g_get dX8_order_152 fl_X8_62 (by repeat' (first | assumption | exact rF_eq | refine rF_ne (by decide) ?_ | refine rF_a ?_ | exact rA_eq | refine rA_ne (by decide) ?_ | refine rA_f ?_)) (by repeat' (first | assumption | exact rF_eq | refine rF_ne (by decide) ?_ | refine rF_a ?_ | exact rA_eq | refine rA_ne (by decide) ?_ | refine rA_f ?_)) ?_
        refine g_iload_n (i := 3) dX8_order_155 rfl rfl ?_
        refine g_iload dX8_order_156 rfl ?_
        refine g_iast dX8_order_158 (by repeat' (first | assumption | exact rF_eq | refine rF_ne (by decide) ?_ | refine rF_a ?_ | exact rA_eq | refine rA_ne (by decide) ?_ | refine rA_f ?_)) (nT (by omega)) (by omega) ?_
        refine g_iload_n (i := 1) dX8_order_159 rfl rfl ?_
        refine g_iconst (v := 1) dX8_order_160 (by decide) ?_
        refine g_iload dX8_order_161 rfl ?_
        refine g_ishl dX8_order_163 ?_
        refine g_iconst (v := (-1)) dX8_order_164 (by decide) ?_
        refine g_ixor dX8_order_165 ?_
        refine g_iand dX8_order_166 ?_
        rw [d1]
        refine g_istore_n (i := 1) dX8_order_167 rfl (Nat.le_of_ble_eq_true rfl) rfl ?_
        refine g_iload_n (i := 2) dX8_order_168 rfl rfl ?_
        refine g_if_eq (tgt := 188) dX8_order_169 (by decide) (fun hc169 => ?_) (fun hc169 => ?_)
        · have hd169 := i_eq.mp hc169; (try simp (disch := omega) only [nT, t_m1000100, t_m1000010, t_m1000003, t_m1000002, t_m1000001, t_m1000000, t_m65535, t_m1000, t_m3, t_m1, t_0, t_1, t_2, t_3, t_4, t_5, t_6, t_7, t_8, t_9, t_10, t_11, t_12, t_13, t_15, t_16, t_20, t_21, t_22, t_32, t_40, t_41, t_48, t_49, t_57, t_59, t_60, t_63, t_72, t_76, t_88, t_100, t_144, t_200, t_255, t_288, t_400, t_800, t_999, t_1000, t_1024, t_1200, t_1600, t_3200, t_100000, t_200000, t_252645135, t_858993459, t_1431655765, u_m1000002, u_m1000001, u_m1000, u_m3, u_m1, u_0, u_1, u_2, u_3, u_4, u_5, u_7, u_8, u_10, u_11, u_15, u_60, u_100, u_255, u_999, u_1000, u_100000, u_4294967295] at hd169)
          refine g_iconst (v := 0) dX8_order_188 (by decide) ?_
          refine g_istore_n (i := 2) dX8_order_189 rfl (Nat.le_of_ble_eq_true rfl) rfl ?_
          refine g_iinc dX8_order_190 rfl (Nat.le_of_ble_eq_true rfl) rfl ?_
          refine g_goto (tgt := 104) dX8_order_193 (by decide) ?_
          rw [ni_incO, sA_sA]
          first
          | (rw [bI_t (by rw [Bool.and_eq_true, decide_eq_true_iff]; exact ⟨bI_n0.mp hc169, by omega⟩)] at ih2; exact ih2 _ _)
          | (rw [bI_f (fun q => by rw [Bool.and_eq_true, decide_eq_true_iff] at q; first | exact bI_0.mp hc169 q.1 | omega)] at ih2; exact ih2 _ _)
        · have hd169 := mt i_eq.mpr hc169; (try simp (disch := omega) only [nT, t_m1000100, t_m1000010, t_m1000003, t_m1000002, t_m1000001, t_m1000000, t_m65535, t_m1000, t_m3, t_m1, t_0, t_1, t_2, t_3, t_4, t_5, t_6, t_7, t_8, t_9, t_10, t_11, t_12, t_13, t_15, t_16, t_20, t_21, t_22, t_32, t_40, t_41, t_48, t_49, t_57, t_59, t_60, t_63, t_72, t_76, t_88, t_100, t_144, t_200, t_255, t_288, t_400, t_800, t_999, t_1000, t_1024, t_1200, t_1600, t_3200, t_100000, t_200000, t_252645135, t_858993459, t_1431655765, u_m1000002, u_m1000001, u_m1000, u_m3, u_m1, u_0, u_1, u_2, u_3, u_4, u_5, u_7, u_8, u_10, u_11, u_15, u_60, u_100, u_255, u_999, u_1000, u_100000, u_4294967295] at hd169)
          refine g_aload_n (i := 0) dX8_order_172 rfl rfl ?_
          refine g_get dX8_order_173 fl_X8_59 (by repeat' (first | assumption | exact rF_eq | refine rF_ne (by decide) ?_ | refine rF_a ?_ | exact rA_eq | refine rA_ne (by decide) ?_ | refine rA_f ?_)) (by repeat' (first | assumption | exact rF_eq | refine rF_ne (by decide) ?_ | refine rF_a ?_ | exact rA_eq | refine rA_ne (by decide) ?_ | refine rA_f ?_)) ?_
          refine g_iload dX8_order_176 rfl ?_
          refine g_iald dX8_order_178 (by repeat' (first | assumption | exact rF_eq | refine rF_ne (by decide) ?_ | refine rF_a ?_ | exact rA_eq | refine rA_ne (by decide) ?_ | refine rA_f ?_)) (nT (by omega)) (by omega) ?_
          refine g_bipush (v := 10) dX8_order_179 (by decide) ?_
          refine g_icmp_ge (tgt := 188) dX8_order_181 (by decide) (fun hc181 => ?_) (fun hc181 => ?_)
          · (try simp (disch := omega) only [nT, t_m1000100, t_m1000010, t_m1000003, t_m1000002, t_m1000001, t_m1000000, t_m65535, t_m1000, t_m3, t_m1, t_0, t_1, t_2, t_3, t_4, t_5, t_6, t_7, t_8, t_9, t_10, t_11, t_12, t_13, t_15, t_16, t_20, t_21, t_22, t_32, t_40, t_41, t_48, t_49, t_57, t_59, t_60, t_63, t_72, t_76, t_88, t_100, t_144, t_200, t_255, t_288, t_400, t_800, t_999, t_1000, t_1024, t_1200, t_1600, t_3200, t_100000, t_200000, t_252645135, t_858993459, t_1431655765, u_m1000002, u_m1000001, u_m1000, u_m3, u_m1, u_0, u_1, u_2, u_3, u_4, u_5, u_7, u_8, u_10, u_11, u_15, u_60, u_100, u_255, u_999, u_1000, u_100000, u_4294967295] at hc181)
            refine g_iconst (v := 0) dX8_order_188 (by decide) ?_
            refine g_istore_n (i := 2) dX8_order_189 rfl (Nat.le_of_ble_eq_true rfl) rfl ?_
            refine g_iinc dX8_order_190 rfl (Nat.le_of_ble_eq_true rfl) rfl ?_
            refine g_goto (tgt := 104) dX8_order_193 (by decide) ?_
            rw [ni_incO, sA_sA]
            first
            | (rw [bI_t (by rw [Bool.and_eq_true, decide_eq_true_iff]; exact ⟨bI_n0.mp hc169, by omega⟩)] at ih2; exact ih2 _ _)
            | (rw [bI_f (fun q => by rw [Bool.and_eq_true, decide_eq_true_iff] at q; first | exact bI_0.mp hc169 q.1 | omega)] at ih2; exact ih2 _ _)
          · (try simp (disch := omega) only [nT, t_m1000100, t_m1000010, t_m1000003, t_m1000002, t_m1000001, t_m1000000, t_m65535, t_m1000, t_m3, t_m1, t_0, t_1, t_2, t_3, t_4, t_5, t_6, t_7, t_8, t_9, t_10, t_11, t_12, t_13, t_15, t_16, t_20, t_21, t_22, t_32, t_40, t_41, t_48, t_49, t_57, t_59, t_60, t_63, t_72, t_76, t_88, t_100, t_144, t_200, t_255, t_288, t_400, t_800, t_999, t_1000, t_1024, t_1200, t_1600, t_3200, t_100000, t_200000, t_252645135, t_858993459, t_1431655765, u_m1000002, u_m1000001, u_m1000, u_m3, u_m1, u_0, u_1, u_2, u_3, u_4, u_5, u_7, u_8, u_10, u_11, u_15, u_60, u_100, u_255, u_999, u_1000, u_100000, u_4294967295] at hc181)
            refine g_iconst (v := 1) dX8_order_184 (by decide) ?_
            refine g_goto (tgt := 189) dX8_order_185 (by decide) ?_
            refine g_istore_n (i := 2) dX8_order_189 rfl (Nat.le_of_ble_eq_true rfl) rfl ?_
            refine g_iinc dX8_order_190 rfl (Nat.le_of_ble_eq_true rfl) rfl ?_
            refine g_goto (tgt := 104) dX8_order_193 (by decide) ?_
            rw [ni_incO, sA_sA]
            first
            | (rw [bI_t (by rw [Bool.and_eq_true, decide_eq_true_iff]; exact ⟨bI_n0.mp hc169, by omega⟩)] at ih2; exact ih2 _ _)
            | (rw [bI_f (fun q => by rw [Bool.and_eq_true, decide_eq_true_iff] at q; first | exact bI_0.mp hc169 q.1 | omega)] at ih2; exact ih2 _ _)
      have lp : ∀ d u v5 v6, u + d = t → GG (EM mX8_order 2 0 0 Q') 0 0 115 [.ref 44, .int (nI S), .int (bI (mat = true)), .int (nI k), .int (nI u), v5, v6] [] (sA (sA (sF h 44 0 (.int 0)) 72 (aJ 1024 lf)) 62 (aI 10 f)) := by
        intro d
        induction d with
        | zero =>
          intro u v5 v6 hu
          obtain rfl : u = t := hu
          have hbit := mk_bit S (by omega) u (by omega)
          rw [if_pos ht2] at hbit
          have hl2 : lf (S ^^^ 2 ^ u) = nL (lst T.1 (ttO T) (ssO T) m (dlt S.testBit u)) := by rw [hl _ (by omega), mk_dlt ht2, show cnt (dlt S.testBit u) T.1 0 = m by omega]
          refine g_iload_n (i := 1) dX8_order_115 rfl rfl ?_
          refine g_iload dX8_order_116 rfl ?_
          refine g_ishr dX8_order_118 ?_
          refine g_iconst (v := 1) dX8_order_119 (by decide) ?_
          refine g_iand dX8_order_120 ?_
          rw [hbit]
          refine g_if_eq (tgt := 145) dX8_order_121 (by decide) (fun hc121 => ?_) (fun hc121 => ?_)
          · have hd121 := i_eq.mp hc121; (try simp (disch := omega) only [nT, t_m1000100, t_m1000010, t_m1000003, t_m1000002, t_m1000001, t_m1000000, t_m65535, t_m1000, t_m3, t_m1, t_0, t_1, t_2, t_3, t_4, t_5, t_6, t_7, t_8, t_9, t_10, t_11, t_12, t_13, t_15, t_16, t_20, t_21, t_22, t_32, t_40, t_41, t_48, t_49, t_57, t_59, t_60, t_63, t_72, t_76, t_88, t_100, t_144, t_200, t_255, t_288, t_400, t_800, t_999, t_1000, t_1024, t_1200, t_1600, t_3200, t_100000, t_200000, t_252645135, t_858993459, t_1431655765, u_m1000002, u_m1000001, u_m1000, u_m3, u_m1, u_0, u_1, u_2, u_3, u_4, u_5, u_7, u_8, u_10, u_11, u_15, u_60, u_100, u_255, u_999, u_1000, u_100000, u_4294967295] at hd121); exact absurd hc121 (by decide)
          · have hd121 := mt i_eq.mpr hc121; (try simp (disch := omega) only [nT, t_m1000100, t_m1000010, t_m1000003, t_m1000002, t_m1000001, t_m1000000, t_m65535, t_m1000, t_m3, t_m1, t_0, t_1, t_2, t_3, t_4, t_5, t_6, t_7, t_8, t_9, t_10, t_11, t_12, t_13, t_15, t_16, t_20, t_21, t_22, t_32, t_40, t_41, t_48, t_49, t_57, t_59, t_60, t_63, t_72, t_76, t_88, t_100, t_144, t_200, t_255, t_288, t_400, t_800, t_999, t_1000, t_1024, t_1200, t_1600, t_3200, t_100000, t_200000, t_252645135, t_858993459, t_1431655765, u_m1000002, u_m1000001, u_m1000, u_m3, u_m1, u_0, u_1, u_2, u_3, u_4, u_5, u_7, u_8, u_10, u_11, u_15, u_60, u_100, u_255, u_999, u_1000, u_100000, u_4294967295] at hd121)
            refine g_iload_n (i := 2) dX8_order_124 rfl rfl ?_
            refine g_if_eq (tgt := 151) dX8_order_125 (by decide) (fun hc125 => ?_) (fun hc125 => ?_)
            · have hd125 := i_eq.mp hc125; (try simp (disch := omega) only [nT, t_m1000100, t_m1000010, t_m1000003, t_m1000002, t_m1000001, t_m1000000, t_m65535, t_m1000, t_m3, t_m1, t_0, t_1, t_2, t_3, t_4, t_5, t_6, t_7, t_8, t_9, t_10, t_11, t_12, t_13, t_15, t_16, t_20, t_21, t_22, t_32, t_40, t_41, t_48, t_49, t_57, t_59, t_60, t_63, t_72, t_76, t_88, t_100, t_144, t_200, t_255, t_288, t_400, t_800, t_999, t_1000, t_1024, t_1200, t_1600, t_3200, t_100000, t_200000, t_252645135, t_858993459, t_1431655765, u_m1000002, u_m1000001, u_m1000, u_m3, u_m1, u_0, u_1, u_2, u_3, u_4, u_5, u_7, u_8, u_10, u_11, u_15, u_60, u_100, u_255, u_999, u_1000, u_100000, u_4294967295] at hd125)
              exact k151 _ _
            · have hd125 := mt i_eq.mpr hc125; (try simp (disch := omega) only [nT, t_m1000100, t_m1000010, t_m1000003, t_m1000002, t_m1000001, t_m1000000, t_m65535, t_m1000, t_m3, t_m1, t_0, t_1, t_2, t_3, t_4, t_5, t_6, t_7, t_8, t_9, t_10, t_11, t_12, t_13, t_15, t_16, t_20, t_21, t_22, t_32, t_40, t_41, t_48, t_49, t_57, t_59, t_60, t_63, t_72, t_76, t_88, t_100, t_144, t_200, t_255, t_288, t_400, t_800, t_999, t_1000, t_1024, t_1200, t_1600, t_3200, t_100000, t_200000, t_252645135, t_858993459, t_1431655765, u_m1000002, u_m1000001, u_m1000, u_m3, u_m1, u_0, u_1, u_2, u_3, u_4, u_5, u_7, u_8, u_10, u_11, u_15, u_60, u_100, u_255, u_999, u_1000, u_100000, u_4294967295] at hd125)
              refine g_aload_n (i := 0) dX8_order_128 rfl rfl ?_
              refine g_iload_n (i := 1) dX8_order_129 rfl rfl ?_
              refine g_iload dX8_order_130 rfl ?_
              refine g_callV (M' := mX8_withFirst) dX8_order_132 lc_X8_withFirst ml_X8_260 (c_withFirst hT (h := sA (sA (sF h 44 0 (.int 0)) 72 (aJ 1024 lf)) 62 (aI 10 f)) (fl := f) (lf := lf) ⟨e1, e2, e3, e4, e5, e6, e7, e8, e9, e10, e11, e12, e13, rfl⟩ h45 (rA_ne (by decide) rA_eq) hS ht1 ht2 hc hl2) rfl rfl (by repeat' (first | assumption | exact rF_eq | refine rF_ne (by decide) ?_ | refine rF_a ?_ | exact rA_eq | refine rA_ne (by decide) ?_ | refine rA_f ?_)) rfl ⟨Nat.le_of_ble_eq_true rfl, Nat.le_of_ble_eq_true rfl, Nat.le_of_ble_eq_true rfl, Nat.le_of_ble_eq_true rfl⟩ (Nat.le_of_ble_eq_true rfl) ?_
              intro r_ h_ q_; obtain ⟨q1_, q2_⟩ := q_; have q2_ := q2_.symm; subst q1_; subst q2_
              refine g_aload_n (i := 0) dX8_order_135 rfl rfl ?_
              refine g_get dX8_order_136 fl_X8_97 (by repeat' (first | assumption | exact rF_eq | refine rF_ne (by decide) ?_ | refine rF_a ?_ | exact rA_eq | refine rA_ne (by decide) ?_ | refine rA_f ?_)) (by repeat' (first | assumption | exact rF_eq | refine rF_ne (by decide) ?_ | refine rF_a ?_ | exact rA_eq | refine rA_ne (by decide) ?_ | refine rA_f ?_)) ?_
              refine g_iload_n (i := 1) dX8_order_139 rfl rfl ?_
              refine g_lald dX8_order_140 (by repeat' (first | assumption | exact rF_eq | refine rF_ne (by decide) ?_ | refine rF_a ?_ | exact rA_eq | refine rA_ne (by decide) ?_ | refine rA_f ?_)) (nT (by omega)) (by omega) ?_
              rw [hlS, (bi u ht1 ht2).1 (ht3 (bI_n0.mp hc125))]
              refine g_lcmp dX8_order_141 ?_
              refine g_if_eq (tgt := 151) dX8_order_142 (by decide) (fun hc142 => ?_) (fun hc142 => ?_)
              · replace hc142 := lc_eq.mp hc142; (try simp only [l_add32, l_i] at hc142)
                (try simp (disch := omega) only [nT, t_m1000100, t_m1000010, t_m1000003, t_m1000002, t_m1000001, t_m1000000, t_m65535, t_m1000, t_m3, t_m1, t_0, t_1, t_2, t_3, t_4, t_5, t_6, t_7, t_8, t_9, t_10, t_11, t_12, t_13, t_15, t_16, t_20, t_21, t_22, t_32, t_40, t_41, t_48, t_49, t_57, t_59, t_60, t_63, t_72, t_76, t_88, t_100, t_144, t_200, t_255, t_288, t_400, t_800, t_999, t_1000, t_1024, t_1200, t_1600, t_3200, t_100000, t_200000, t_252645135, t_858993459, t_1431655765, u_m1000002, u_m1000001, u_m1000, u_m3, u_m1, u_0, u_1, u_2, u_3, u_4, u_5, u_7, u_8, u_10, u_11, u_15, u_60, u_100, u_255, u_999, u_1000, u_100000, u_4294967295] at hc142)
                exact k151 _ _
              · replace hc142 := lc_ne.mp hc142; (try simp only [l_add32, l_i] at hc142); (try simp (disch := omega) only [nT, t_m1000100, t_m1000010, t_m1000003, t_m1000002, t_m1000001, t_m1000000, t_m65535, t_m1000, t_m3, t_m1, t_0, t_1, t_2, t_3, t_4, t_5, t_6, t_7, t_8, t_9, t_10, t_11, t_12, t_13, t_15, t_16, t_20, t_21, t_22, t_32, t_40, t_41, t_48, t_49, t_57, t_59, t_60, t_63, t_72, t_76, t_88, t_100, t_144, t_200, t_255, t_288, t_400, t_800, t_999, t_1000, t_1024, t_1200, t_1600, t_3200, t_100000, t_200000, t_252645135, t_858993459, t_1431655765, u_m1000002, u_m1000001, u_m1000, u_m3, u_m1, u_0, u_1, u_2, u_3, u_4, u_5, u_7, u_8, u_10, u_11, u_15, u_60, u_100, u_255, u_999, u_1000, u_100000, u_4294967295] at hc142); exact absurd trivial hc142
        | succ d ihd =>
          intro u v5 v6 hu
          have hbit := mk_bit S (by omega) u (by omega)
          have ihu := fun v5 v6 => ihd (u + 1) v5 v6 (by omega)
          by_cases hm : S.testBit u = true
          · rw [if_pos hm] at hbit
            have hnb := ht4 u (by omega) hm
            have hmat : mat = true := Classical.byContradiction (fun q => hnb (fun z => absurd z q))
            have hlt := (bi u (by omega) hm).2 (fun q => hnb (fun _ => q))
            have hd := cnt_dlt hm T.1 0
            have hd1 := hd.1 (by omega)
            have hd2 := mk_del S (by omega) u (by omega) hm
            have hl2 : lf (S ^^^ 2 ^ u) = nL (lst T.1 (ttO T) (ssO T) m (dlt S.testBit u)) := by rw [hl _ (by omega), mk_dlt hm, show cnt (dlt S.testBit u) T.1 0 = m by omega]
            have hw := wfs_le (n := T.1) (tt := ttO T) (ss := ssO T) (fun t => (hq t).2.1) (show m < 10 by omega) S.testBit u
            have w1 := @nL_T (wfs T.1 (ttO T) (ssO T) m S.testBit u) (by omega)
            have w2 := @nL_T (lst T.1 (ttO T) (ssO T) (m + 1) S.testBit) (by omega)
            refine g_iload_n (i := 1) dX8_order_115 rfl rfl ?_
            refine g_iload dX8_order_116 rfl ?_
            refine g_ishr dX8_order_118 ?_
            refine g_iconst (v := 1) dX8_order_119 (by decide) ?_
            refine g_iand dX8_order_120 ?_
            rw [hbit]
            refine g_if_eq (tgt := 145) dX8_order_121 (by decide) (fun hc121 => ?_) (fun hc121 => ?_)
            · have hd121 := i_eq.mp hc121; (try simp (disch := omega) only [nT, t_m1000100, t_m1000010, t_m1000003, t_m1000002, t_m1000001, t_m1000000, t_m65535, t_m1000, t_m3, t_m1, t_0, t_1, t_2, t_3, t_4, t_5, t_6, t_7, t_8, t_9, t_10, t_11, t_12, t_13, t_15, t_16, t_20, t_21, t_22, t_32, t_40, t_41, t_48, t_49, t_57, t_59, t_60, t_63, t_72, t_76, t_88, t_100, t_144, t_200, t_255, t_288, t_400, t_800, t_999, t_1000, t_1024, t_1200, t_1600, t_3200, t_100000, t_200000, t_252645135, t_858993459, t_1431655765, u_m1000002, u_m1000001, u_m1000, u_m3, u_m1, u_0, u_1, u_2, u_3, u_4, u_5, u_7, u_8, u_10, u_11, u_15, u_60, u_100, u_255, u_999, u_1000, u_100000, u_4294967295] at hd121); exact absurd hc121 (by decide)
            · have hd121 := mt i_eq.mpr hc121; (try simp (disch := omega) only [nT, t_m1000100, t_m1000010, t_m1000003, t_m1000002, t_m1000001, t_m1000000, t_m65535, t_m1000, t_m3, t_m1, t_0, t_1, t_2, t_3, t_4, t_5, t_6, t_7, t_8, t_9, t_10, t_11, t_12, t_13, t_15, t_16, t_20, t_21, t_22, t_32, t_40, t_41, t_48, t_49, t_57, t_59, t_60, t_63, t_72, t_76, t_88, t_100, t_144, t_200, t_255, t_288, t_400, t_800, t_999, t_1000, t_1024, t_1200, t_1600, t_3200, t_100000, t_200000, t_252645135, t_858993459, t_1431655765, u_m1000002, u_m1000001, u_m1000, u_m3, u_m1, u_0, u_1, u_2, u_3, u_4, u_5, u_7, u_8, u_10, u_11, u_15, u_60, u_100, u_255, u_999, u_1000, u_100000, u_4294967295] at hd121)
              refine g_iload_n (i := 2) dX8_order_124 rfl rfl ?_
              refine g_if_eq (tgt := 151) dX8_order_125 (by decide) (fun hc125 => ?_) (fun hc125 => ?_)
              · have hd125 := i_eq.mp hc125; (try simp (disch := omega) only [nT, t_m1000100, t_m1000010, t_m1000003, t_m1000002, t_m1000001, t_m1000000, t_m65535, t_m1000, t_m3, t_m1, t_0, t_1, t_2, t_3, t_4, t_5, t_6, t_7, t_8, t_9, t_10, t_11, t_12, t_13, t_15, t_16, t_20, t_21, t_22, t_32, t_40, t_41, t_48, t_49, t_57, t_59, t_60, t_63, t_72, t_76, t_88, t_100, t_144, t_200, t_255, t_288, t_400, t_800, t_999, t_1000, t_1024, t_1200, t_1600, t_3200, t_100000, t_200000, t_252645135, t_858993459, t_1431655765, u_m1000002, u_m1000001, u_m1000, u_m3, u_m1, u_0, u_1, u_2, u_3, u_4, u_5, u_7, u_8, u_10, u_11, u_15, u_60, u_100, u_255, u_999, u_1000, u_100000, u_4294967295] at hd125); exact absurd hmat (bI_0.mp hc125)
              · have hd125 := mt i_eq.mpr hc125; (try simp (disch := omega) only [nT, t_m1000100, t_m1000010, t_m1000003, t_m1000002, t_m1000001, t_m1000000, t_m65535, t_m1000, t_m3, t_m1, t_0, t_1, t_2, t_3, t_4, t_5, t_6, t_7, t_8, t_9, t_10, t_11, t_12, t_13, t_15, t_16, t_20, t_21, t_22, t_32, t_40, t_41, t_48, t_49, t_57, t_59, t_60, t_63, t_72, t_76, t_88, t_100, t_144, t_200, t_255, t_288, t_400, t_800, t_999, t_1000, t_1024, t_1200, t_1600, t_3200, t_100000, t_200000, t_252645135, t_858993459, t_1431655765, u_m1000002, u_m1000001, u_m1000, u_m3, u_m1, u_0, u_1, u_2, u_3, u_4, u_5, u_7, u_8, u_10, u_11, u_15, u_60, u_100, u_255, u_999, u_1000, u_100000, u_4294967295] at hd125)
                refine g_aload_n (i := 0) dX8_order_128 rfl rfl ?_
                refine g_iload_n (i := 1) dX8_order_129 rfl rfl ?_
                refine g_iload dX8_order_130 rfl ?_
                refine g_callV (M' := mX8_withFirst) dX8_order_132 lc_X8_withFirst ml_X8_260 (c_withFirst hT (h := sA (sA (sF h 44 0 (.int 0)) 72 (aJ 1024 lf)) 62 (aI 10 f)) (fl := f) (lf := lf) ⟨e1, e2, e3, e4, e5, e6, e7, e8, e9, e10, e11, e12, e13, rfl⟩ h45 (rA_ne (by decide) rA_eq) hS (by omega) hm hc hl2) rfl rfl (by repeat' (first | assumption | exact rF_eq | refine rF_ne (by decide) ?_ | refine rF_a ?_ | exact rA_eq | refine rA_ne (by decide) ?_ | refine rA_f ?_)) rfl ⟨Nat.le_of_ble_eq_true rfl, Nat.le_of_ble_eq_true rfl, Nat.le_of_ble_eq_true rfl, Nat.le_of_ble_eq_true rfl⟩ (Nat.le_of_ble_eq_true rfl) ?_
                intro r_ h_ q_; obtain ⟨q1_, q2_⟩ := q_; have q2_ := q2_.symm; subst q1_; subst q2_
                refine g_aload_n (i := 0) dX8_order_135 rfl rfl ?_
                refine g_get dX8_order_136 fl_X8_97 (by repeat' (first | assumption | exact rF_eq | refine rF_ne (by decide) ?_ | refine rF_a ?_ | exact rA_eq | refine rA_ne (by decide) ?_ | refine rA_f ?_)) (by repeat' (first | assumption | exact rF_eq | refine rF_ne (by decide) ?_ | refine rF_a ?_ | exact rA_eq | refine rA_ne (by decide) ?_ | refine rA_f ?_)) ?_
                refine g_iload_n (i := 1) dX8_order_139 rfl rfl ?_
                refine g_lald dX8_order_140 (by repeat' (first | assumption | exact rF_eq | refine rF_ne (by decide) ?_ | refine rF_a ?_ | exact rA_eq | refine rA_ne (by decide) ?_ | refine rA_f ?_)) (nT (by omega)) (by omega) ?_
                rw [hlS]
                refine g_lcmp dX8_order_141 ?_
                refine g_if_eq (tgt := 151) dX8_order_142 (by decide) (fun hc142 => ?_) (fun hc142 => ?_)
                · replace hc142 := lc_eq.mp hc142; (try simp only [l_add32, l_i] at hc142); (try simp (disch := omega) only [nT, t_m1000100, t_m1000010, t_m1000003, t_m1000002, t_m1000001, t_m1000000, t_m65535, t_m1000, t_m3, t_m1, t_0, t_1, t_2, t_3, t_4, t_5, t_6, t_7, t_8, t_9, t_10, t_11, t_12, t_13, t_15, t_16, t_20, t_21, t_22, t_32, t_40, t_41, t_48, t_49, t_57, t_59, t_60, t_63, t_72, t_76, t_88, t_100, t_144, t_200, t_255, t_288, t_400, t_800, t_999, t_1000, t_1024, t_1200, t_1600, t_3200, t_100000, t_200000, t_252645135, t_858993459, t_1431655765, u_m1000002, u_m1000001, u_m1000, u_m3, u_m1, u_0, u_1, u_2, u_3, u_4, u_5, u_7, u_8, u_10, u_11, u_15, u_60, u_100, u_255, u_999, u_1000, u_100000, u_4294967295] at hc142); omega
                · replace hc142 := lc_ne.mp hc142; (try simp only [l_add32, l_i] at hc142)
                  (try simp (disch := omega) only [nT, t_m1000100, t_m1000010, t_m1000003, t_m1000002, t_m1000001, t_m1000000, t_m65535, t_m1000, t_m3, t_m1, t_0, t_1, t_2, t_3, t_4, t_5, t_6, t_7, t_8, t_9, t_10, t_11, t_12, t_13, t_15, t_16, t_20, t_21, t_22, t_32, t_40, t_41, t_48, t_49, t_57, t_59, t_60, t_63, t_72, t_76, t_88, t_100, t_144, t_200, t_255, t_288, t_400, t_800, t_999, t_1000, t_1024, t_1200, t_1600, t_3200, t_100000, t_200000, t_252645135, t_858993459, t_1431655765, u_m1000002, u_m1000001, u_m1000, u_m3, u_m1, u_0, u_1, u_2, u_3, u_4, u_5, u_7, u_8, u_10, u_11, u_15, u_60, u_100, u_255, u_999, u_1000, u_100000, u_4294967295] at hc142)
                  refine g_iinc dX8_order_145 rfl (Nat.le_of_ble_eq_true rfl) rfl ?_
                  refine g_goto (tgt := 115) dX8_order_148 (by decide) ?_
                  rw [ni_incO]
                  exact ihu _ _
          · rw [if_neg hm] at hbit
            refine g_iload_n (i := 1) dX8_order_115 rfl rfl ?_
            refine g_iload dX8_order_116 rfl ?_
            refine g_ishr dX8_order_118 ?_
            refine g_iconst (v := 1) dX8_order_119 (by decide) ?_
            refine g_iand dX8_order_120 ?_
            rw [hbit]
            refine g_if_eq (tgt := 145) dX8_order_121 (by decide) (fun hc121 => ?_) (fun hc121 => ?_)
            · have hd121 := i_eq.mp hc121; (try simp (disch := omega) only [nT, t_m1000100, t_m1000010, t_m1000003, t_m1000002, t_m1000001, t_m1000000, t_m65535, t_m1000, t_m3, t_m1, t_0, t_1, t_2, t_3, t_4, t_5, t_6, t_7, t_8, t_9, t_10, t_11, t_12, t_13, t_15, t_16, t_20, t_21, t_22, t_32, t_40, t_41, t_48, t_49, t_57, t_59, t_60, t_63, t_72, t_76, t_88, t_100, t_144, t_200, t_255, t_288, t_400, t_800, t_999, t_1000, t_1024, t_1200, t_1600, t_3200, t_100000, t_200000, t_252645135, t_858993459, t_1431655765, u_m1000002, u_m1000001, u_m1000, u_m3, u_m1, u_0, u_1, u_2, u_3, u_4, u_5, u_7, u_8, u_10, u_11, u_15, u_60, u_100, u_255, u_999, u_1000, u_100000, u_4294967295] at hd121)
              refine g_iinc dX8_order_145 rfl (Nat.le_of_ble_eq_true rfl) rfl ?_
              refine g_goto (tgt := 115) dX8_order_148 (by decide) ?_
              rw [ni_incO]
              exact ihu _ _
            · have hd121 := mt i_eq.mpr hc121; (try simp (disch := omega) only [nT, t_m1000100, t_m1000010, t_m1000003, t_m1000002, t_m1000001, t_m1000000, t_m65535, t_m1000, t_m3, t_m1, t_0, t_1, t_2, t_3, t_4, t_5, t_6, t_7, t_8, t_9, t_10, t_11, t_12, t_13, t_15, t_16, t_20, t_21, t_22, t_32, t_40, t_41, t_48, t_49, t_57, t_59, t_60, t_63, t_72, t_76, t_88, t_100, t_144, t_200, t_255, t_288, t_400, t_800, t_999, t_1000, t_1024, t_1200, t_1600, t_3200, t_100000, t_200000, t_252645135, t_858993459, t_1431655765, u_m1000002, u_m1000001, u_m1000, u_m3, u_m1, u_0, u_1, u_2, u_3, u_4, u_5, u_7, u_8, u_10, u_11, u_15, u_60, u_100, u_255, u_999, u_1000, u_100000, u_4294967295] at hd121); exact absurd rfl hc121
      refine g_iload_n (i := 3) dX8_order_104 rfl rfl ?_
      refine g_aload_n (i := 0) dX8_order_105 rfl rfl ?_
      refine g_get dX8_order_106 fl_X8_197 (by repeat' (first | assumption | exact rF_eq | refine rF_ne (by decide) ?_ | refine rF_a ?_ | exact rA_eq | refine rA_ne (by decide) ?_ | refine rA_f ?_)) (by repeat' (first | assumption | exact rF_eq | refine rF_ne (by decide) ?_ | refine rF_a ?_ | exact rA_eq | refine rA_ne (by decide) ?_ | refine rA_f ?_)) ?_
      refine g_icmp_ge (tgt := 196) dX8_order_109 (by decide) (fun hc109 => ?_) (fun hc109 => ?_)
      · (try simp (disch := omega) only [nT, t_m1000100, t_m1000010, t_m1000003, t_m1000002, t_m1000001, t_m1000000, t_m65535, t_m1000, t_m3, t_m1, t_0, t_1, t_2, t_3, t_4, t_5, t_6, t_7, t_8, t_9, t_10, t_11, t_12, t_13, t_15, t_16, t_20, t_21, t_22, t_32, t_40, t_41, t_48, t_49, t_57, t_59, t_60, t_63, t_72, t_76, t_88, t_100, t_144, t_200, t_255, t_288, t_400, t_800, t_999, t_1000, t_1024, t_1200, t_1600, t_3200, t_100000, t_200000, t_252645135, t_858993459, t_1431655765, u_m1000002, u_m1000001, u_m1000, u_m3, u_m1, u_0, u_1, u_2, u_3, u_4, u_5, u_7, u_8, u_10, u_11, u_15, u_60, u_100, u_255, u_999, u_1000, u_100000, u_4294967295] at hc109); omega
      · (try simp (disch := omega) only [nT, t_m1000100, t_m1000010, t_m1000003, t_m1000002, t_m1000001, t_m1000000, t_m65535, t_m1000, t_m3, t_m1, t_0, t_1, t_2, t_3, t_4, t_5, t_6, t_7, t_8, t_9, t_10, t_11, t_12, t_13, t_15, t_16, t_20, t_21, t_22, t_32, t_40, t_41, t_48, t_49, t_57, t_59, t_60, t_63, t_72, t_76, t_88, t_100, t_144, t_200, t_255, t_288, t_400, t_800, t_999, t_1000, t_1024, t_1200, t_1600, t_3200, t_100000, t_200000, t_252645135, t_858993459, t_1431655765, u_m1000002, u_m1000001, u_m1000, u_m3, u_m1, u_0, u_1, u_2, u_3, u_4, u_5, u_7, u_8, u_10, u_11, u_15, u_60, u_100, u_255, u_999, u_1000, u_100000, u_4294967295] at hc109)
        refine g_iconst (v := 0) dX8_order_112 (by decide) ?_
        refine g_istore dX8_order_113 (Nat.le_of_ble_eq_true rfl) rfl ?_
        exact lp t 0 _ _ (by omega)
  have k91 : ∀ lf v1 v2 v3 v4 v5 v6, LfO T (2 ^ T.1) lf → GG (EM mX8_order 2 0 0 Q') 0 0 91 [.ref 44, v1, v2, v3, v4, v5, v6] [] (sA (sF h 44 0 (.int 0)) 72 (aJ 1024 lf)) := by
    intro lf v1 v2 v3 v4 v5 v6 hl
    have hb : ∀ t, (2 ^ T.1 - 1).testBit t = decide (t < T.1) := fun t => Nat.testBit_two_pow_sub_one _ _
    have k0 := fun v4 v5 v6 => key T.1 0 (2 ^ T.1 - 1) true T.2.2.2.2.2.2 lf v4 v5 v6 hl (by omega) (by omega) (by rw [funext hb]; have := cnt_all T.1 0; rw [Nat.zero_add] at this; exact this) (by rw [funext hb, ← hz]; rfl)
    rw [sA_self (h := sA (sF h 44 0 (.int 0)) 72 (aJ 1024 lf)) (k := 62) e14] at k0
    refine g_iconst (v := 1) dX8_order_91 (by decide) ?_
    refine g_aload_n (i := 0) dX8_order_92 rfl rfl ?_
    refine g_get dX8_order_93 fl_X8_197 (by repeat' (first | assumption | exact rF_eq | refine rF_ne (by decide) ?_ | refine rF_a ?_ | exact rA_eq | refine rA_ne (by decide) ?_ | refine rA_f ?_)) (by repeat' (first | assumption | exact rF_eq | refine rF_ne (by decide) ?_ | refine rF_a ?_ | exact rA_eq | refine rA_ne (by decide) ?_ | refine rA_f ?_)) ?_
    refine g_ishl dX8_order_96 ?_
    rw [hp.1]
    refine g_iconst (v := 1) dX8_order_97 (by decide) ?_
    refine g_isub dX8_order_98 ?_
    rw [show nI (2 ^ T.1) - 1 = nI (2 ^ T.1 - 1) from n_sub hp.2.1]
    refine g_istore_n (i := 1) dX8_order_99 rfl (Nat.le_of_ble_eq_true rfl) rfl ?_
    refine g_iconst (v := 1) dX8_order_100 (by decide) ?_
    refine g_istore_n (i := 2) dX8_order_101 rfl (Nat.le_of_ble_eq_true rfl) rfl ?_
    refine g_iconst (v := 0) dX8_order_102 (by decide) ?_
    refine g_istore_n (i := 3) dX8_order_103 rfl (Nat.le_of_ble_eq_true rfl) rfl ?_
    exact k0 _ _ _
  refine g_aload_n (i := 0) dX8_order_0 rfl rfl ?_
  refine g_iconst (v := 0) dX8_order_1 (by decide) ?_
  refine g_put dX8_order_2 pl_X8_107 (by repeat' (first | assumption | exact rF_eq | refine rF_ne (by decide) ?_ | refine rF_a ?_ | exact rA_eq | refine rA_ne (by decide) ?_ | refine rA_f ?_)) (fun _ => ⟨rfl, rfl⟩) ?_
  refine g_iconst (v := 1) dX8_order_5 (by decide) ?_
  refine g_istore_n (i := 1) dX8_order_6 rfl (Nat.le_of_ble_eq_true rfl) rfl ?_
  have k0 := fill_out hT (h := sF h 44 0 (.int 0)) hg h45 (Q' := Q') (fun lf v1 v2 v3 v4 v5 v6 hl => k91 lf v1 v2 v3 v4 v5 v6 hl) (2 ^ T.1 - 1) 1 lf0 hU hU hU hU hU (by omega) (Nat.le_refl _) hl1
  rw [sA_self (h := sF h 44 0 (.int 0)) h72] at k0
  exact k0
