/-! joins, the reference -/
theorem c_findJoin {W : WA} (hW : WfW W) {h : HH} {f0 : Nat → Int32} (hg : DiM W h) (h47 : gF h 44 47 = .ref 74) (h74 : gA h 74 = aI 4 f0) {dx dy : Int32} (hx1 : -3 ≤ dx.toInt) (hx2 : dx.toInt ≤ 3) (hy1 : -3 ≤ dy.toInt) (hy2 : dy.toInt ≤ 3) : CT mX8_findJoin 3 0 0 [.ref 44, .int dx, .int dy] h (fun r h' => r = none ∧ ∃ f, h' = sA h 74 (aI 4 f) ∧ f 0 = nI (cnt (j0 W dx.toInt dy.toInt) 144 0) ∧ f 1 = nI (cnt (j1 W dx.toInt dy.toInt) 144 0) ∧ f 2 = nI (cnt (j2 W dx.toInt dy.toInt) 144 0) ∧ f 3 = nI (cnt (j3 W dx.toInt dy.toInt) 144 0)) := by
  obtain ⟨e1, e2, e3⟩ := id hg
  refine CT.go [.ref 44, .int dx, .int dy, hU, hU, hU, hU, hU, hU] (by decide +kernel) rfl rfl (fun Q' hQ => ?_)
  obtain ⟨N, hN⟩ : ∃ N : Nat, N = 144 := ⟨_, rfl⟩
  rw [← hN] at hQ
  generalize hz0 : cnt (j0 W dx.toInt dy.toInt) N 0 = z0 at hQ
  generalize hz1 : cnt (j1 W dx.toInt dy.toInt) N 0 = z1 at hQ
  generalize hz2 : cnt (j2 W dx.toInt dy.toInt) N 0 = z2 at hQ
  generalize hz3 : cnt (j3 W dx.toInt dy.toInt) N 0 = z3 at hQ
  have key : ∀ m k f a0 a1 a2 a3 (v4 v5 v6 v7 v8 : Value), k + m = 144 → f 0 = nI a0 → f 1 = nI a1 → f 2 = nI a2 → f 3 = nI a3 → a0 + cnt (j0 W dx.toInt dy.toInt) m k = z0 → a1 + cnt (j1 W dx.toInt dy.toInt) m k = z1 → a2 + cnt (j2 W dx.toInt dy.toInt) m k = z2 → a3 + cnt (j3 W dx.toInt dy.toInt) m k = z3 → GG (EM mX8_findJoin 3 0 0 Q') 0 0 22 [.ref 44, .int dx, .int dy, .int (nI k), v4, v5, v6, v7, v8] [] (sA h 74 (aI 4 f)) := by
    intro m
    induction m with
    | zero =>
      intro k f a0 a1 a2 a3 v4 v5 v6 v7 v8 hk f0 f1 f2 f3 c0 c1 c2 c3
      obtain rfl : a0 = z0 := c0
      obtain rfl : a1 = z1 := c1
      obtain rfl : a2 = z2 := c2
      obtain rfl : a3 = z3 := c3
      refine g_iload_n (i := 3) dX8_findJoin_22 rfl rfl ?_
      refine g_sipush (v := 144) dX8_findJoin_23 (by decide) ?_
      refine g_icmp_ge (tgt := 191) dX8_findJoin_26 (by decide) (fun hc26 => ?_) (fun hc26 => ?_)
      · (try simp (disch := omega) only [nT, t_m1000100, t_m1000010, t_m1000003, t_m1000002, t_m1000001, t_m1000000, t_m65535, t_m1000, t_m3, t_m1, t_0, t_1, t_2, t_3, t_4, t_5, t_6, t_7, t_8, t_9, t_10, t_11, t_12, t_13, t_15, t_16, t_20, t_21, t_22, t_32, t_40, t_41, t_48, t_49, t_57, t_59, t_60, t_63, t_72, t_76, t_88, t_100, t_144, t_200, t_255, t_288, t_400, t_800, t_999, t_1000, t_1024, t_1200, t_1600, t_3200, t_100000, t_200000, t_252645135, t_858993459, t_1431655765, u_m1000002, u_m1000001, u_m1000, u_m3, u_m1, u_0, u_1, u_2, u_3, u_4, u_5, u_7, u_8, u_10, u_11, u_15, u_60, u_100, u_255, u_999, u_1000, u_100000, u_4294967295] at hc26)
        refine g_vret dX8_findJoin_191 rfl (hQ _ _ ?_)
        exact ⟨rfl, f, rfl, f0, f1, f2, f3⟩
      · (try simp (disch := omega) only [nT, t_m1000100, t_m1000010, t_m1000003, t_m1000002, t_m1000001, t_m1000000, t_m65535, t_m1000, t_m3, t_m1, t_0, t_1, t_2, t_3, t_4, t_5, t_6, t_7, t_8, t_9, t_10, t_11, t_12, t_13, t_15, t_16, t_20, t_21, t_22, t_32, t_40, t_41, t_48, t_49, t_57, t_59, t_60, t_63, t_72, t_76, t_88, t_100, t_144, t_200, t_255, t_288, t_400, t_800, t_999, t_1000, t_1024, t_1200, t_1600, t_3200, t_100000, t_200000, t_252645135, t_858993459, t_1431655765, u_m1000002, u_m1000001, u_m1000, u_m3, u_m1, u_0, u_1, u_2, u_3, u_4, u_5, u_7, u_8, u_10, u_11, u_15, u_60, u_100, u_255, u_999, u_1000, u_100000, u_4294967295] at hc26); omega
    | succ m ih =>
      intro k f a0 a1 a2 a3 v4 v5 v6 v7 v8 hk f0 f1 f2 f3 c0 c1 c2 c3
      have w1 := (hW k (by omega)).1
      have w2 := (hW k (by omega)).2
      have mx := sb_T (x := k % 12) (by omega) hx1 hx2
      have my := sb_T (x := k / 12) (by omega) hy1 hy2
      have px := ad_T (x := k % 12) (by omega) hx1 hx2
      have py := ad_T (x := k / 12) (by omega) hy1 hy2
      have p0 : j0 W dx.toInt dy.toInt k = true ↔ _ := decide_eq_true_iff
      have p1 : j1 W dx.toInt dy.toInt k = true ↔ _ := decide_eq_true_iff
      have p2 : j2 W dx.toInt dy.toInt k = true ↔ _ := decide_eq_true_iff
      have p3 : j3 W dx.toInt dy.toInt k = true ↔ _ := decide_eq_true_iff
      rw [atC, ← mx, ← my] at p0 p1 p2
      rw [atB, ← px, ← py] at p3
      have b1 := atW_le (fun p hp => (hW p hp).2) (nI (k % 12) - dx).toInt (nI (k / 12) - dy).toInt
      have b2 := atW_le (fun p hp => (hW p hp).1) (nI (k % 12) + dx).toInt (nI (k / 12) + dy).toInt
      generalize ho : W.1 k = one at p0 p1 p2 w1
      generalize hs : W.2 k = sec at p3 w2
      generalize hm : atW W.2 (nI (k % 12) - dx).toInt (nI (k / 12) - dy).toInt = mov at p0 p1 p2 b1
      generalize hb : atW W.1 (nI (k % 12) + dx).toInt (nI (k / 12) + dy).toInt = bac at p3 b2
      have k150 : ∀ f b0 b1 b2, f 0 = nI b0 → f 1 = nI b1 → f 2 = nI b2 → f 3 = nI a3 → b0 + cnt (j0 W dx.toInt dy.toInt) m (k + 1) = z0 → b1 + cnt (j1 W dx.toInt dy.toInt) m (k + 1) = z1 → b2 + cnt (j2 W dx.toInt dy.toInt) m (k + 1) = z2 → GG (EM mX8_findJoin 3 0 0 Q') 0 0 150 [.ref 44, .int dx, .int dy, .int (nI k), .int (nI (k % 12)), .int (nI (k / 12)), .int (nI one), .int (nI mov), .int (nI sec)] [] (sA h 74 (aI 4 f)) := by
        intro f b0 b1 b2 f0 f1 f2 f3 c0 c1 c2
        refine g_aload_n (i := 0) dX8_findJoin_150 rfl rfl ?_
        refine g_get dX8_findJoin_151 fl_X8_104 (by repeat' (first | assumption | exact rF_eq | refine rF_ne (by decide) ?_ | refine rF_a ?_ | exact rA_eq | refine rA_ne (by decide) ?_ | refine rA_f ?_)) (by repeat' (first | assumption | exact rF_eq | refine rF_ne (by decide) ?_ | refine rF_a ?_ | exact rA_eq | refine rA_ne (by decide) ?_ | refine rA_f ?_)) ?_
        refine g_iconst (v := 3) dX8_findJoin_154 (by decide) ?_
        refine g_dup2 dX8_findJoin_155 rfl rfl ?_
        refine g_iald dX8_findJoin_156 (by repeat' (first | assumption | exact rF_eq | refine rF_ne (by decide) ?_ | refine rF_a ?_ | exact rA_eq | refine rA_ne (by decide) ?_ | refine rA_f ?_)) ((show (3 : Int32).toInt = ((3 : Nat) : Int) from rfl)) (by decide) ?_
        refine g_iload dX8_findJoin_157 rfl ?_
        refine g_if_le (tgt := 182) dX8_findJoin_159 (by decide) (fun hc159 => ?_) (fun hc159 => ?_)
        · (try simp (disch := omega) only [nT, t_m1000100, t_m1000010, t_m1000003, t_m1000002, t_m1000001, t_m1000000, t_m65535, t_m1000, t_m3, t_m1, t_0, t_1, t_2, t_3, t_4, t_5, t_6, t_7, t_8, t_9, t_10, t_11, t_12, t_13, t_15, t_16, t_20, t_21, t_22, t_32, t_40, t_41, t_48, t_49, t_57, t_59, t_60, t_63, t_72, t_76, t_88, t_100, t_144, t_200, t_255, t_288, t_400, t_800, t_999, t_1000, t_1024, t_1200, t_1600, t_3200, t_100000, t_200000, t_252645135, t_858993459, t_1431655765, u_m1000002, u_m1000001, u_m1000, u_m3, u_m1, u_0, u_1, u_2, u_3, u_4, u_5, u_7, u_8, u_10, u_11, u_15, u_60, u_100, u_255, u_999, u_1000, u_100000, u_4294967295] at hc159)
          refine g_iconst (v := 0) dX8_findJoin_182 (by decide) ?_
          refine g_iadd dX8_findJoin_183 ?_
          refine g_iast dX8_findJoin_184 (by repeat' (first | assumption | exact rF_eq | refine rF_ne (by decide) ?_ | refine rF_a ?_ | exact rA_eq | refine rA_ne (by decide) ?_ | refine rA_f ?_)) ((show (3 : Int32).toInt = ((3 : Nat) : Int) from rfl)) (by decide) ?_
          refine g_iinc dX8_findJoin_185 rfl (Nat.le_of_ble_eq_true rfl) rfl ?_
          refine g_goto (tgt := 22) dX8_findJoin_188 (by decide) ?_
          rw [ni_incO, sA_sA]
          first
          | (rw [cnt_t (p3.mpr ⟨by omega, by omega⟩)] at c3
             exact ih (k + 1) _ b0 b1 b2 (a3 + 1) _ _ _ _ _ (by omega) f0 f1 f2 (by rw [upd_s, f3, ni_inc]) c0 c1 c2 (by omega))
          | (rw [cnt_f (fun q => by have := p3.mp q; omega)] at c3
             exact ih (k + 1) _ b0 b1 b2 a3 _ _ _ _ _ (by omega) f0 f1 f2 (by rw [upd_s, f3]; exact Int32.add_zero _) c0 c1 c2 c3)
        · (try simp (disch := omega) only [nT, t_m1000100, t_m1000010, t_m1000003, t_m1000002, t_m1000001, t_m1000000, t_m65535, t_m1000, t_m3, t_m1, t_0, t_1, t_2, t_3, t_4, t_5, t_6, t_7, t_8, t_9, t_10, t_11, t_12, t_13, t_15, t_16, t_20, t_21, t_22, t_32, t_40, t_41, t_48, t_49, t_57, t_59, t_60, t_63, t_72, t_76, t_88, t_100, t_144, t_200, t_255, t_288, t_400, t_800, t_999, t_1000, t_1024, t_1200, t_1600, t_3200, t_100000, t_200000, t_252645135, t_858993459, t_1431655765, u_m1000002, u_m1000001, u_m1000, u_m3, u_m1, u_0, u_1, u_2, u_3, u_4, u_5, u_7, u_8, u_10, u_11, u_15, u_60, u_100, u_255, u_999, u_1000, u_100000, u_4294967295] at hc159)
          refine g_aload_n (i := 0) dX8_findJoin_162 rfl rfl ?_
          refine g_iconst (v := 0) dX8_findJoin_163 (by decide) ?_
          refine g_iload dX8_findJoin_164 rfl ?_
          refine g_iload_n (i := 1) dX8_findJoin_166 rfl rfl ?_
          refine g_iadd dX8_findJoin_167 ?_
          refine g_iload dX8_findJoin_168 rfl ?_
          refine g_iload_n (i := 2) dX8_findJoin_170 rfl rfl ?_
          refine g_iadd dX8_findJoin_171 ?_
          refine g_callV (M' := mX8_dieAt) dX8_findJoin_172 lc_X8_dieAt ml_X8_272 (c_dieAt (h := sA h 74 (aI 4 f)) ⟨e1, e2, e3⟩ (show 0 < 2 by decide) (nI (k % 12) + dx) (nI (k / 12) + dy)) rfl rfl (by repeat' (first | assumption | exact rF_eq | refine rF_ne (by decide) ?_ | refine rF_a ?_ | exact rA_eq | refine rA_ne (by decide) ?_ | refine rA_f ?_)) rfl ⟨Nat.le_of_ble_eq_true rfl, Nat.le_of_ble_eq_true rfl, Nat.le_of_ble_eq_true rfl, Nat.le_of_ble_eq_true rfl⟩ (Nat.le_of_ble_eq_true rfl) ?_
          intro r_ h_ q_; obtain ⟨q1_, q2_⟩ := q_; have q2_ := q2_.symm; subst q1_; subst q2_
          rw [show atW (wM W 0) (nI (k % 12) + dx).toInt (nI (k / 12) + dy).toInt = bac from hb]
          refine g_if_ne (tgt := 182) dX8_findJoin_175 (by decide) (fun hc175 => ?_) (fun hc175 => ?_)
          · have hd175 := mt i_eq.mpr hc175; (try simp (disch := omega) only [nT, t_m1000100, t_m1000010, t_m1000003, t_m1000002, t_m1000001, t_m1000000, t_m65535, t_m1000, t_m3, t_m1, t_0, t_1, t_2, t_3, t_4, t_5, t_6, t_7, t_8, t_9, t_10, t_11, t_12, t_13, t_15, t_16, t_20, t_21, t_22, t_32, t_40, t_41, t_48, t_49, t_57, t_59, t_60, t_63, t_72, t_76, t_88, t_100, t_144, t_200, t_255, t_288, t_400, t_800, t_999, t_1000, t_1024, t_1200, t_1600, t_3200, t_100000, t_200000, t_252645135, t_858993459, t_1431655765, u_m1000002, u_m1000001, u_m1000, u_m3, u_m1, u_0, u_1, u_2, u_3, u_4, u_5, u_7, u_8, u_10, u_11, u_15, u_60, u_100, u_255, u_999, u_1000, u_100000, u_4294967295] at hd175)
            refine g_iconst (v := 0) dX8_findJoin_182 (by decide) ?_
            refine g_iadd dX8_findJoin_183 ?_
            refine g_iast dX8_findJoin_184 (by repeat' (first | assumption | exact rF_eq | refine rF_ne (by decide) ?_ | refine rF_a ?_ | exact rA_eq | refine rA_ne (by decide) ?_ | refine rA_f ?_)) ((show (3 : Int32).toInt = ((3 : Nat) : Int) from rfl)) (by decide) ?_
            refine g_iinc dX8_findJoin_185 rfl (Nat.le_of_ble_eq_true rfl) rfl ?_
            refine g_goto (tgt := 22) dX8_findJoin_188 (by decide) ?_
            rw [ni_incO, sA_sA]
            first
            | (rw [cnt_t (p3.mpr ⟨by omega, by omega⟩)] at c3
               exact ih (k + 1) _ b0 b1 b2 (a3 + 1) _ _ _ _ _ (by omega) f0 f1 f2 (by rw [upd_s, f3, ni_inc]) c0 c1 c2 (by omega))
            | (rw [cnt_f (fun q => by have := p3.mp q; omega)] at c3
               exact ih (k + 1) _ b0 b1 b2 a3 _ _ _ _ _ (by omega) f0 f1 f2 (by rw [upd_s, f3]; exact Int32.add_zero _) c0 c1 c2 c3)
          · have hd175 := i_eq.mp hc175; (try simp (disch := omega) only [nT, t_m1000100, t_m1000010, t_m1000003, t_m1000002, t_m1000001, t_m1000000, t_m65535, t_m1000, t_m3, t_m1, t_0, t_1, t_2, t_3, t_4, t_5, t_6, t_7, t_8, t_9, t_10, t_11, t_12, t_13, t_15, t_16, t_20, t_21, t_22, t_32, t_40, t_41, t_48, t_49, t_57, t_59, t_60, t_63, t_72, t_76, t_88, t_100, t_144, t_200, t_255, t_288, t_400, t_800, t_999, t_1000, t_1024, t_1200, t_1600, t_3200, t_100000, t_200000, t_252645135, t_858993459, t_1431655765, u_m1000002, u_m1000001, u_m1000, u_m3, u_m1, u_0, u_1, u_2, u_3, u_4, u_5, u_7, u_8, u_10, u_11, u_15, u_60, u_100, u_255, u_999, u_1000, u_100000, u_4294967295] at hd175)
            refine g_iconst (v := 1) dX8_findJoin_178 (by decide) ?_
            refine g_goto (tgt := 183) dX8_findJoin_179 (by decide) ?_
            refine g_iadd dX8_findJoin_183 ?_
            refine g_iast dX8_findJoin_184 (by repeat' (first | assumption | exact rF_eq | refine rF_ne (by decide) ?_ | refine rF_a ?_ | exact rA_eq | refine rA_ne (by decide) ?_ | refine rA_f ?_)) ((show (3 : Int32).toInt = ((3 : Nat) : Int) from rfl)) (by decide) ?_
            refine g_iinc dX8_findJoin_185 rfl (Nat.le_of_ble_eq_true rfl) rfl ?_
            refine g_goto (tgt := 22) dX8_findJoin_188 (by decide) ?_
            rw [ni_incO, sA_sA]
            first
            | (rw [cnt_t (p3.mpr ⟨by omega, by omega⟩)] at c3
               exact ih (k + 1) _ b0 b1 b2 (a3 + 1) _ _ _ _ _ (by omega) f0 f1 f2 (by rw [upd_s, f3, ni_inc]) c0 c1 c2 (by omega))
            | (rw [cnt_f (fun q => by have := p3.mp q; omega)] at c3
               exact ih (k + 1) _ b0 b1 b2 a3 _ _ _ _ _ (by omega) f0 f1 f2 (by rw [upd_s, f3]; exact Int32.add_zero _) c0 c1 c2 c3)
      have k114 : ∀ f b0 b1, f 0 = nI b0 → f 1 = nI b1 → f 2 = nI a2 → f 3 = nI a3 → b0 + cnt (j0 W dx.toInt dy.toInt) m (k + 1) = z0 → b1 + cnt (j1 W dx.toInt dy.toInt) m (k + 1) = z1 → GG (EM mX8_findJoin 3 0 0 Q') 0 0 114 [.ref 44, .int dx, .int dy, .int (nI k), .int (nI (k % 12)), .int (nI (k / 12)), .int (nI one), .int (nI mov), v8] [] (sA h 74 (aI 4 f)) := by
        intro f b0 b1 f0 f1 f2 f3 c0 c1
        refine g_aload_n (i := 0) dX8_findJoin_114 rfl rfl ?_
        refine g_get dX8_findJoin_115 fl_X8_104 (by repeat' (first | assumption | exact rF_eq | refine rF_ne (by decide) ?_ | refine rF_a ?_ | exact rA_eq | refine rA_ne (by decide) ?_ | refine rA_f ?_)) (by repeat' (first | assumption | exact rF_eq | refine rF_ne (by decide) ?_ | refine rF_a ?_ | exact rA_eq | refine rA_ne (by decide) ?_ | refine rA_f ?_)) ?_
        refine g_iconst (v := 2) dX8_findJoin_118 (by decide) ?_
        refine g_dup2 dX8_findJoin_119 rfl rfl ?_
        refine g_iald dX8_findJoin_120 (by repeat' (first | assumption | exact rF_eq | refine rF_ne (by decide) ?_ | refine rF_a ?_ | exact rA_eq | refine rA_ne (by decide) ?_ | refine rA_f ?_)) ((show (2 : Int32).toInt = ((2 : Nat) : Int) from rfl)) (by decide) ?_
        refine g_iload dX8_findJoin_121 rfl ?_
        refine g_if_le (tgt := 135) dX8_findJoin_123 (by decide) (fun hc123 => ?_) (fun hc123 => ?_)
        · (try simp (disch := omega) only [nT, t_m1000100, t_m1000010, t_m1000003, t_m1000002, t_m1000001, t_m1000000, t_m65535, t_m1000, t_m3, t_m1, t_0, t_1, t_2, t_3, t_4, t_5, t_6, t_7, t_8, t_9, t_10, t_11, t_12, t_13, t_15, t_16, t_20, t_21, t_22, t_32, t_40, t_41, t_48, t_49, t_57, t_59, t_60, t_63, t_72, t_76, t_88, t_100, t_144, t_200, t_255, t_288, t_400, t_800, t_999, t_1000, t_1024, t_1200, t_1600, t_3200, t_100000, t_200000, t_252645135, t_858993459, t_1431655765, u_m1000002, u_m1000001, u_m1000, u_m3, u_m1, u_0, u_1, u_2, u_3, u_4, u_5, u_7, u_8, u_10, u_11, u_15, u_60, u_100, u_255, u_999, u_1000, u_100000, u_4294967295] at hc123)
          refine g_iconst (v := 0) dX8_findJoin_135 (by decide) ?_
          refine g_iadd dX8_findJoin_136 ?_
          refine g_iast dX8_findJoin_137 (by repeat' (first | assumption | exact rF_eq | refine rF_ne (by decide) ?_ | refine rF_a ?_ | exact rA_eq | refine rA_ne (by decide) ?_ | refine rA_f ?_)) ((show (2 : Int32).toInt = ((2 : Nat) : Int) from rfl)) (by decide) ?_
          refine g_aload_n (i := 0) dX8_findJoin_138 rfl rfl ?_
          refine g_get dX8_findJoin_139 fl_X8_101 (by repeat' (first | assumption | exact rF_eq | refine rF_ne (by decide) ?_ | refine rF_a ?_ | exact rA_eq | refine rA_ne (by decide) ?_ | refine rA_f ?_)) (by repeat' (first | assumption | exact rF_eq | refine rF_ne (by decide) ?_ | refine rF_a ?_ | exact rA_eq | refine rA_ne (by decide) ?_ | refine rA_f ?_)) ?_
          refine g_sipush (v := 144) dX8_findJoin_142 (by decide) ?_
          refine g_iload_n (i := 3) dX8_findJoin_145 rfl rfl ?_
          refine g_iadd dX8_findJoin_146 ?_
          rw [show (144 : Int32) = nI 144 from rfl, ni_add]
          refine g_iald dX8_findJoin_147 (by repeat' (first | assumption | exact rF_eq | refine rF_ne (by decide) ?_ | refine rF_a ?_ | exact rA_eq | refine rA_ne (by decide) ?_ | refine rA_f ?_)) (nT (by omega)) (by omega) ?_
          rw [show dm W (144 + k) = sec from (dm_w W (w := 1) (by decide) (by omega)).trans hs]
          refine g_istore dX8_findJoin_148 (Nat.le_of_ble_eq_true rfl) rfl ?_
          rw [sA_sA]
          first
          | (rw [cnt_t (p2.mpr ⟨by omega, by omega⟩)] at c2
             exact k150 _ b0 b1 (a2 + 1) f0 f1 (by rw [upd_s, f2, ni_inc]) f3 c0 c1 (by omega))
          | (rw [cnt_f (fun q => by have := p2.mp q; omega)] at c2
             exact k150 _ b0 b1 a2 f0 f1 (by rw [upd_s, f2]; exact Int32.add_zero _) f3 c0 c1 c2)
        · (try simp (disch := omega) only [nT, t_m1000100, t_m1000010, t_m1000003, t_m1000002, t_m1000001, t_m1000000, t_m65535, t_m1000, t_m3, t_m1, t_0, t_1, t_2, t_3, t_4, t_5, t_6, t_7, t_8, t_9, t_10, t_11, t_12, t_13, t_15, t_16, t_20, t_21, t_22, t_32, t_40, t_41, t_48, t_49, t_57, t_59, t_60, t_63, t_72, t_76, t_88, t_100, t_144, t_200, t_255, t_288, t_400, t_800, t_999, t_1000, t_1024, t_1200, t_1600, t_3200, t_100000, t_200000, t_252645135, t_858993459, t_1431655765, u_m1000002, u_m1000001, u_m1000, u_m3, u_m1, u_0, u_1, u_2, u_3, u_4, u_5, u_7, u_8, u_10, u_11, u_15, u_60, u_100, u_255, u_999, u_1000, u_100000, u_4294967295] at hc123)
          refine g_iload dX8_findJoin_126 rfl ?_
          refine g_if_ne (tgt := 135) dX8_findJoin_128 (by decide) (fun hc128 => ?_) (fun hc128 => ?_)
          · have hd128 := mt i_eq.mpr hc128; (try simp (disch := omega) only [nT, t_m1000100, t_m1000010, t_m1000003, t_m1000002, t_m1000001, t_m1000000, t_m65535, t_m1000, t_m3, t_m1, t_0, t_1, t_2, t_3, t_4, t_5, t_6, t_7, t_8, t_9, t_10, t_11, t_12, t_13, t_15, t_16, t_20, t_21, t_22, t_32, t_40, t_41, t_48, t_49, t_57, t_59, t_60, t_63, t_72, t_76, t_88, t_100, t_144, t_200, t_255, t_288, t_400, t_800, t_999, t_1000, t_1024, t_1200, t_1600, t_3200, t_100000, t_200000, t_252645135, t_858993459, t_1431655765, u_m1000002, u_m1000001, u_m1000, u_m3, u_m1, u_0, u_1, u_2, u_3, u_4, u_5, u_7, u_8, u_10, u_11, u_15, u_60, u_100, u_255, u_999, u_1000, u_100000, u_4294967295] at hd128)
            refine g_iconst (v := 0) dX8_findJoin_135 (by decide) ?_
            refine g_iadd dX8_findJoin_136 ?_
            refine g_iast dX8_findJoin_137 (by repeat' (first | assumption | exact rF_eq | refine rF_ne (by decide) ?_ | refine rF_a ?_ | exact rA_eq | refine rA_ne (by decide) ?_ | refine rA_f ?_)) ((show (2 : Int32).toInt = ((2 : Nat) : Int) from rfl)) (by decide) ?_
            refine g_aload_n (i := 0) dX8_findJoin_138 rfl rfl ?_
            refine g_get dX8_findJoin_139 fl_X8_101 (by repeat' (first | assumption | exact rF_eq | refine rF_ne (by decide) ?_ | refine rF_a ?_ | exact rA_eq | refine rA_ne (by decide) ?_ | refine rA_f ?_)) (by repeat' (first | assumption | exact rF_eq | refine rF_ne (by decide) ?_ | refine rF_a ?_ | exact rA_eq | refine rA_ne (by decide) ?_ | refine rA_f ?_)) ?_
            refine g_sipush (v := 144) dX8_findJoin_142 (by decide) ?_
            refine g_iload_n (i := 3) dX8_findJoin_145 rfl rfl ?_
            refine g_iadd dX8_findJoin_146 ?_
            rw [show (144 : Int32) = nI 144 from rfl, ni_add]
            refine g_iald dX8_findJoin_147 (by repeat' (first | assumption | exact rF_eq | refine rF_ne (by decide) ?_ | refine rF_a ?_ | exact rA_eq | refine rA_ne (by decide) ?_ | refine rA_f ?_)) (nT (by omega)) (by omega) ?_
            rw [show dm W (144 + k) = sec from (dm_w W (w := 1) (by decide) (by omega)).trans hs]
            refine g_istore dX8_findJoin_148 (Nat.le_of_ble_eq_true rfl) rfl ?_
            rw [sA_sA]
            first
            | (rw [cnt_t (p2.mpr ⟨by omega, by omega⟩)] at c2
               exact k150 _ b0 b1 (a2 + 1) f0 f1 (by rw [upd_s, f2, ni_inc]) f3 c0 c1 (by omega))
            | (rw [cnt_f (fun q => by have := p2.mp q; omega)] at c2
               exact k150 _ b0 b1 a2 f0 f1 (by rw [upd_s, f2]; exact Int32.add_zero _) f3 c0 c1 c2)
          · have hd128 := i_eq.mp hc128; (try simp (disch := omega) only [nT, t_m1000100, t_m1000010, t_m1000003, t_m1000002, t_m1000001, t_m1000000, t_m65535, t_m1000, t_m3, t_m1, t_0, t_1, t_2, t_3, t_4, t_5, t_6, t_7, t_8, t_9, t_10, t_11, t_12, t_13, t_15, t_16, t_20, t_21, t_22, t_32, t_40, t_41, t_48, t_49, t_57, t_59, t_60, t_63, t_72, t_76, t_88, t_100, t_144, t_200, t_255, t_288, t_400, t_800, t_999, t_1000, t_1024, t_1200, t_1600, t_3200, t_100000, t_200000, t_252645135, t_858993459, t_1431655765, u_m1000002, u_m1000001, u_m1000, u_m3, u_m1, u_0, u_1, u_2, u_3, u_4, u_5, u_7, u_8, u_10, u_11, u_15, u_60, u_100, u_255, u_999, u_1000, u_100000, u_4294967295] at hd128)
            refine g_iconst (v := 1) dX8_findJoin_131 (by decide) ?_
            refine g_goto (tgt := 136) dX8_findJoin_132 (by decide) ?_
            refine g_iadd dX8_findJoin_136 ?_
            refine g_iast dX8_findJoin_137 (by repeat' (first | assumption | exact rF_eq | refine rF_ne (by decide) ?_ | refine rF_a ?_ | exact rA_eq | refine rA_ne (by decide) ?_ | refine rA_f ?_)) ((show (2 : Int32).toInt = ((2 : Nat) : Int) from rfl)) (by decide) ?_
            refine g_aload_n (i := 0) dX8_findJoin_138 rfl rfl ?_
            refine g_get dX8_findJoin_139 fl_X8_101 (by repeat' (first | assumption | exact rF_eq | refine rF_ne (by decide) ?_ | refine rF_a ?_ | exact rA_eq | refine rA_ne (by decide) ?_ | refine rA_f ?_)) (by repeat' (first | assumption | exact rF_eq | refine rF_ne (by decide) ?_ | refine rF_a ?_ | exact rA_eq | refine rA_ne (by decide) ?_ | refine rA_f ?_)) ?_
            refine g_sipush (v := 144) dX8_findJoin_142 (by decide) ?_
            refine g_iload_n (i := 3) dX8_findJoin_145 rfl rfl ?_
            refine g_iadd dX8_findJoin_146 ?_
            rw [show (144 : Int32) = nI 144 from rfl, ni_add]
            refine g_iald dX8_findJoin_147 (by repeat' (first | assumption | exact rF_eq | refine rF_ne (by decide) ?_ | refine rF_a ?_ | exact rA_eq | refine rA_ne (by decide) ?_ | refine rA_f ?_)) (nT (by omega)) (by omega) ?_
            rw [show dm W (144 + k) = sec from (dm_w W (w := 1) (by decide) (by omega)).trans hs]
            refine g_istore dX8_findJoin_148 (Nat.le_of_ble_eq_true rfl) rfl ?_
            rw [sA_sA]
            first
            | (rw [cnt_t (p2.mpr ⟨by omega, by omega⟩)] at c2
               exact k150 _ b0 b1 (a2 + 1) f0 f1 (by rw [upd_s, f2, ni_inc]) f3 c0 c1 (by omega))
            | (rw [cnt_f (fun q => by have := p2.mp q; omega)] at c2
               exact k150 _ b0 b1 a2 f0 f1 (by rw [upd_s, f2]; exact Int32.add_zero _) f3 c0 c1 c2)
      have k88 : ∀ f b0, f 0 = nI b0 → f 1 = nI a1 → f 2 = nI a2 → f 3 = nI a3 → b0 + cnt (j0 W dx.toInt dy.toInt) m (k + 1) = z0 → GG (EM mX8_findJoin 3 0 0 Q') 0 0 88 [.ref 44, .int dx, .int dy, .int (nI k), .int (nI (k % 12)), .int (nI (k / 12)), .int (nI one), .int (nI mov), v8] [] (sA h 74 (aI 4 f)) := by
        intro f b0 f0 f1 f2 f3 c0
        refine g_aload_n (i := 0) dX8_findJoin_88 rfl rfl ?_
        refine g_get dX8_findJoin_89 fl_X8_104 (by repeat' (first | assumption | exact rF_eq | refine rF_ne (by decide) ?_ | refine rF_a ?_ | exact rA_eq | refine rA_ne (by decide) ?_ | refine rA_f ?_)) (by repeat' (first | assumption | exact rF_eq | refine rF_ne (by decide) ?_ | refine rF_a ?_ | exact rA_eq | refine rA_ne (by decide) ?_ | refine rA_f ?_)) ?_
        refine g_iconst (v := 1) dX8_findJoin_92 (by decide) ?_
        refine g_dup2 dX8_findJoin_93 rfl rfl ?_
        refine g_iald dX8_findJoin_94 (by repeat' (first | assumption | exact rF_eq | refine rF_ne (by decide) ?_ | refine rF_a ?_ | exact rA_eq | refine rA_ne (by decide) ?_ | refine rA_f ?_)) ((show (1 : Int32).toInt = ((1 : Nat) : Int) from rfl)) (by decide) ?_
        refine g_iload dX8_findJoin_95 rfl ?_
        refine g_if_le (tgt := 111) dX8_findJoin_97 (by decide) (fun hc97 => ?_) (fun hc97 => ?_)
        · (try simp (disch := omega) only [nT, t_m1000100, t_m1000010, t_m1000003, t_m1000002, t_m1000001, t_m1000000, t_m65535, t_m1000, t_m3, t_m1, t_0, t_1, t_2, t_3, t_4, t_5, t_6, t_7, t_8, t_9, t_10, t_11, t_12, t_13, t_15, t_16, t_20, t_21, t_22, t_32, t_40, t_41, t_48, t_49, t_57, t_59, t_60, t_63, t_72, t_76, t_88, t_100, t_144, t_200, t_255, t_288, t_400, t_800, t_999, t_1000, t_1024, t_1200, t_1600, t_3200, t_100000, t_200000, t_252645135, t_858993459, t_1431655765, u_m1000002, u_m1000001, u_m1000, u_m3, u_m1, u_0, u_1, u_2, u_3, u_4, u_5, u_7, u_8, u_10, u_11, u_15, u_60, u_100, u_255, u_999, u_1000, u_100000, u_4294967295] at hc97)
          refine g_iconst (v := 0) dX8_findJoin_111 (by decide) ?_
          refine g_iadd dX8_findJoin_112 ?_
          refine g_iast dX8_findJoin_113 (by repeat' (first | assumption | exact rF_eq | refine rF_ne (by decide) ?_ | refine rF_a ?_ | exact rA_eq | refine rA_ne (by decide) ?_ | refine rA_f ?_)) ((show (1 : Int32).toInt = ((1 : Nat) : Int) from rfl)) (by decide) ?_
          rw [sA_sA]
          first
          | (rw [cnt_t (p1.mpr ⟨by omega, by omega⟩)] at c1
             exact k114 _ b0 (a1 + 1) f0 (by rw [upd_s, f1, ni_inc]) f2 f3 c0 (by omega))
          | (rw [cnt_f (fun q => by have := p1.mp q; omega)] at c1
             exact k114 _ b0 a1 f0 (by rw [upd_s, f1]; exact Int32.add_zero _) f2 f3 c0 c1)
        · (try simp (disch := omega) only [nT, t_m1000100, t_m1000010, t_m1000003, t_m1000002, t_m1000001, t_m1000000, t_m65535, t_m1000, t_m3, t_m1, t_0, t_1, t_2, t_3, t_4, t_5, t_6, t_7, t_8, t_9, t_10, t_11, t_12, t_13, t_15, t_16, t_20, t_21, t_22, t_32, t_40, t_41, t_48, t_49, t_57, t_59, t_60, t_63, t_72, t_76, t_88, t_100, t_144, t_200, t_255, t_288, t_400, t_800, t_999, t_1000, t_1024, t_1200, t_1600, t_3200, t_100000, t_200000, t_252645135, t_858993459, t_1431655765, u_m1000002, u_m1000001, u_m1000, u_m3, u_m1, u_0, u_1, u_2, u_3, u_4, u_5, u_7, u_8, u_10, u_11, u_15, u_60, u_100, u_255, u_999, u_1000, u_100000, u_4294967295] at hc97)
          refine g_iload dX8_findJoin_100 rfl ?_
          refine g_iload dX8_findJoin_102 rfl ?_
          refine g_icmp_ne (tgt := 111) dX8_findJoin_104 (by decide) (fun hc104 => ?_) (fun hc104 => ?_)
          · have hd104 := mt i_eq.mpr hc104; (try simp (disch := omega) only [nT, t_m1000100, t_m1000010, t_m1000003, t_m1000002, t_m1000001, t_m1000000, t_m65535, t_m1000, t_m3, t_m1, t_0, t_1, t_2, t_3, t_4, t_5, t_6, t_7, t_8, t_9, t_10, t_11, t_12, t_13, t_15, t_16, t_20, t_21, t_22, t_32, t_40, t_41, t_48, t_49, t_57, t_59, t_60, t_63, t_72, t_76, t_88, t_100, t_144, t_200, t_255, t_288, t_400, t_800, t_999, t_1000, t_1024, t_1200, t_1600, t_3200, t_100000, t_200000, t_252645135, t_858993459, t_1431655765, u_m1000002, u_m1000001, u_m1000, u_m3, u_m1, u_0, u_1, u_2, u_3, u_4, u_5, u_7, u_8, u_10, u_11, u_15, u_60, u_100, u_255, u_999, u_1000, u_100000, u_4294967295] at hd104)
            refine g_iconst (v := 0) dX8_findJoin_111 (by decide) ?_
            refine g_iadd dX8_findJoin_112 ?_
            refine g_iast dX8_findJoin_113 (by repeat' (first | assumption | exact rF_eq | refine rF_ne (by decide) ?_ | refine rF_a ?_ | exact rA_eq | refine rA_ne (by decide) ?_ | refine rA_f ?_)) ((show (1 : Int32).toInt = ((1 : Nat) : Int) from rfl)) (by decide) ?_
            rw [sA_sA]
            first
            | (rw [cnt_t (p1.mpr ⟨by omega, by omega⟩)] at c1
               exact k114 _ b0 (a1 + 1) f0 (by rw [upd_s, f1, ni_inc]) f2 f3 c0 (by omega))
            | (rw [cnt_f (fun q => by have := p1.mp q; omega)] at c1
               exact k114 _ b0 a1 f0 (by rw [upd_s, f1]; exact Int32.add_zero _) f2 f3 c0 c1)
          · have hd104 := i_eq.mp hc104; (try simp (disch := omega) only [nT, t_m1000100, t_m1000010, t_m1000003, t_m1000002, t_m1000001, t_m1000000, t_m65535, t_m1000, t_m3, t_m1, t_0, t_1, t_2, t_3, t_4, t_5, t_6, t_7, t_8, t_9, t_10, t_11, t_12, t_13, t_15, t_16, t_20, t_21, t_22, t_32, t_40, t_41, t_48, t_49, t_57, t_59, t_60, t_63, t_72, t_76, t_88, t_100, t_144, t_200, t_255, t_288, t_400, t_800, t_999, t_1000, t_1024, t_1200, t_1600, t_3200, t_100000, t_200000, t_252645135, t_858993459, t_1431655765, u_m1000002, u_m1000001, u_m1000, u_m3, u_m1, u_0, u_1, u_2, u_3, u_4, u_5, u_7, u_8, u_10, u_11, u_15, u_60, u_100, u_255, u_999, u_1000, u_100000, u_4294967295] at hd104)
            refine g_iconst (v := 1) dX8_findJoin_107 (by decide) ?_
            refine g_goto (tgt := 112) dX8_findJoin_108 (by decide) ?_
            refine g_iadd dX8_findJoin_112 ?_
            refine g_iast dX8_findJoin_113 (by repeat' (first | assumption | exact rF_eq | refine rF_ne (by decide) ?_ | refine rF_a ?_ | exact rA_eq | refine rA_ne (by decide) ?_ | refine rA_f ?_)) ((show (1 : Int32).toInt = ((1 : Nat) : Int) from rfl)) (by decide) ?_
            rw [sA_sA]
            first
            | (rw [cnt_t (p1.mpr ⟨by omega, by omega⟩)] at c1
               exact k114 _ b0 (a1 + 1) f0 (by rw [upd_s, f1, ni_inc]) f2 f3 c0 (by omega))
            | (rw [cnt_f (fun q => by have := p1.mp q; omega)] at c1
               exact k114 _ b0 a1 f0 (by rw [upd_s, f1]; exact Int32.add_zero _) f2 f3 c0 c1)
      refine g_iload_n (i := 3) dX8_findJoin_22 rfl rfl ?_
      refine g_sipush (v := 144) dX8_findJoin_23 (by decide) ?_
      refine g_icmp_ge (tgt := 191) dX8_findJoin_26 (by decide) (fun hc26 => ?_) (fun hc26 => ?_)
      · (try simp (disch := omega) only [nT, t_m1000100, t_m1000010, t_m1000003, t_m1000002, t_m1000001, t_m1000000, t_m65535, t_m1000, t_m3, t_m1, t_0, t_1, t_2, t_3, t_4, t_5, t_6, t_7, t_8, t_9, t_10, t_11, t_12, t_13, t_15, t_16, t_20, t_21, t_22, t_32, t_40, t_41, t_48, t_49, t_57, t_59, t_60, t_63, t_72, t_76, t_88, t_100, t_144, t_200, t_255, t_288, t_400, t_800, t_999, t_1000, t_1024, t_1200, t_1600, t_3200, t_100000, t_200000, t_252645135, t_858993459, t_1431655765, u_m1000002, u_m1000001, u_m1000, u_m3, u_m1, u_0, u_1, u_2, u_3, u_4, u_5, u_7, u_8, u_10, u_11, u_15, u_60, u_100, u_255, u_999, u_1000, u_100000, u_4294967295] at hc26); omega
      · (try simp (disch := omega) only [nT, t_m1000100, t_m1000010, t_m1000003, t_m1000002, t_m1000001, t_m1000000, t_m65535, t_m1000, t_m3, t_m1, t_0, t_1, t_2, t_3, t_4, t_5, t_6, t_7, t_8, t_9, t_10, t_11, t_12, t_13, t_15, t_16, t_20, t_21, t_22, t_32, t_40, t_41, t_48, t_49, t_57, t_59, t_60, t_63, t_72, t_76, t_88, t_100, t_144, t_200, t_255, t_288, t_400, t_800, t_999, t_1000, t_1024, t_1200, t_1600, t_3200, t_100000, t_200000, t_252645135, t_858993459, t_1431655765, u_m1000002, u_m1000001, u_m1000, u_m3, u_m1, u_0, u_1, u_2, u_3, u_4, u_5, u_7, u_8, u_10, u_11, u_15, u_60, u_100, u_255, u_999, u_1000, u_100000, u_4294967295] at hc26)
        refine g_iload_n (i := 3) dX8_findJoin_29 rfl rfl ?_
        refine g_bipush (v := 12) dX8_findJoin_30 (by decide) ?_
        refine g_irem dX8_findJoin_32 (by decide) ?_
        rw [n_rem12 (by omega)]
        refine g_istore dX8_findJoin_33 (Nat.le_of_ble_eq_true rfl) rfl ?_
        refine g_iload_n (i := 3) dX8_findJoin_35 rfl rfl ?_
        refine g_bipush (v := 12) dX8_findJoin_36 (by decide) ?_
        refine g_idiv dX8_findJoin_38 (by decide) ?_
        rw [n_div12 (by omega)]
        refine g_istore dX8_findJoin_39 (Nat.le_of_ble_eq_true rfl) rfl ?_
        refine g_aload_n (i := 0) dX8_findJoin_41 rfl rfl ?_
        refine g_get dX8_findJoin_42 fl_X8_101 (by repeat' (first | assumption | exact rF_eq | refine rF_ne (by decide) ?_ | refine rF_a ?_ | exact rA_eq | refine rA_ne (by decide) ?_ | refine rA_f ?_)) (by repeat' (first | assumption | exact rF_eq | refine rF_ne (by decide) ?_ | refine rF_a ?_ | exact rA_eq | refine rA_ne (by decide) ?_ | refine rA_f ?_)) ?_
        refine g_iload_n (i := 3) dX8_findJoin_45 rfl rfl ?_
        refine g_iald dX8_findJoin_46 (by repeat' (first | assumption | exact rF_eq | refine rF_ne (by decide) ?_ | refine rF_a ?_ | exact rA_eq | refine rA_ne (by decide) ?_ | refine rA_f ?_)) (nT (by omega)) (by omega) ?_
        rw [show dm W k = one from (if_pos (by omega)).trans ho]
        refine g_istore dX8_findJoin_47 (Nat.le_of_ble_eq_true rfl) rfl ?_
        refine g_aload_n (i := 0) dX8_findJoin_49 rfl rfl ?_
        refine g_iconst (v := 1) dX8_findJoin_50 (by decide) ?_
        refine g_iload dX8_findJoin_51 rfl ?_
        refine g_iload_n (i := 1) dX8_findJoin_53 rfl rfl ?_
        refine g_isub dX8_findJoin_54 ?_
        refine g_iload dX8_findJoin_55 rfl ?_
        refine g_iload_n (i := 2) dX8_findJoin_57 rfl rfl ?_
        refine g_isub dX8_findJoin_58 ?_
        refine g_callV (M' := mX8_dieAt) dX8_findJoin_59 lc_X8_dieAt ml_X8_272 (c_dieAt (h := sA h 74 (aI 4 f)) ⟨e1, e2, e3⟩ (w := 1) (by decide) (nI (k % 12) - dx) (nI (k / 12) - dy)) rfl rfl (by repeat' (first | assumption | exact rF_eq | refine rF_ne (by decide) ?_ | refine rF_a ?_ | exact rA_eq | refine rA_ne (by decide) ?_ | refine rA_f ?_)) rfl ⟨Nat.le_of_ble_eq_true rfl, Nat.le_of_ble_eq_true rfl, Nat.le_of_ble_eq_true rfl, Nat.le_of_ble_eq_true rfl⟩ (Nat.le_of_ble_eq_true rfl) ?_
        intro r_ h_ q_; obtain ⟨q1_, q2_⟩ := q_; have q2_ := q2_.symm; subst q1_; subst q2_
        rw [show atW (wM W 1) (nI (k % 12) - dx).toInt (nI (k / 12) - dy).toInt = mov from hm]
        refine g_istore dX8_findJoin_62 (Nat.le_of_ble_eq_true rfl) rfl ?_
        show GG _ _ _ _ [.ref 44, .int dx, .int dy, .int (nI k), .int (nI (k % 12)), .int (nI (k / 12)), .int (nI one), .int (nI mov), v8] _ _
        refine g_aload_n (i := 0) dX8_findJoin_64 rfl rfl ?_
        refine g_get dX8_findJoin_65 fl_X8_104 (by repeat' (first | assumption | exact rF_eq | refine rF_ne (by decide) ?_ | refine rF_a ?_ | exact rA_eq | refine rA_ne (by decide) ?_ | refine rA_f ?_)) (by repeat' (first | assumption | exact rF_eq | refine rF_ne (by decide) ?_ | refine rF_a ?_ | exact rA_eq | refine rA_ne (by decide) ?_ | refine rA_f ?_)) ?_
        refine g_iconst (v := 0) dX8_findJoin_68 (by decide) ?_
        refine g_dup2 dX8_findJoin_69 rfl rfl ?_
        refine g_iald dX8_findJoin_70 (by repeat' (first | assumption | exact rF_eq | refine rF_ne (by decide) ?_ | refine rF_a ?_ | exact rA_eq | refine rA_ne (by decide) ?_ | refine rA_f ?_)) ((show (0 : Int32).toInt = ((0 : Nat) : Int) from rfl)) (by decide) ?_
        refine g_iload dX8_findJoin_71 rfl ?_
        refine g_if_le (tgt := 85) dX8_findJoin_73 (by decide) (fun hc73 => ?_) (fun hc73 => ?_)
        · (try simp (disch := omega) only [nT, t_m1000100, t_m1000010, t_m1000003, t_m1000002, t_m1000001, t_m1000000, t_m65535, t_m1000, t_m3, t_m1, t_0, t_1, t_2, t_3, t_4, t_5, t_6, t_7, t_8, t_9, t_10, t_11, t_12, t_13, t_15, t_16, t_20, t_21, t_22, t_32, t_40, t_41, t_48, t_49, t_57, t_59, t_60, t_63, t_72, t_76, t_88, t_100, t_144, t_200, t_255, t_288, t_400, t_800, t_999, t_1000, t_1024, t_1200, t_1600, t_3200, t_100000, t_200000, t_252645135, t_858993459, t_1431655765, u_m1000002, u_m1000001, u_m1000, u_m3, u_m1, u_0, u_1, u_2, u_3, u_4, u_5, u_7, u_8, u_10, u_11, u_15, u_60, u_100, u_255, u_999, u_1000, u_100000, u_4294967295] at hc73)
          refine g_iconst (v := 0) dX8_findJoin_85 (by decide) ?_
          refine g_iadd dX8_findJoin_86 ?_
          refine g_iast dX8_findJoin_87 (by repeat' (first | assumption | exact rF_eq | refine rF_ne (by decide) ?_ | refine rF_a ?_ | exact rA_eq | refine rA_ne (by decide) ?_ | refine rA_f ?_)) ((show (0 : Int32).toInt = ((0 : Nat) : Int) from rfl)) (by decide) ?_
          rw [sA_sA]
          first
          | (rw [cnt_t (p0.mpr ⟨by omega, by omega⟩)] at c0
             exact k88 _ (a0 + 1) (by rw [upd_s, f0, ni_inc]) f1 f2 f3 (by omega))
          | (rw [cnt_f (fun q => by have := p0.mp q; omega)] at c0
             exact k88 _ a0 (by rw [upd_s, f0]; exact Int32.add_zero _) f1 f2 f3 c0)
        · (try simp (disch := omega) only [nT, t_m1000100, t_m1000010, t_m1000003, t_m1000002, t_m1000001, t_m1000000, t_m65535, t_m1000, t_m3, t_m1, t_0, t_1, t_2, t_3, t_4, t_5, t_6, t_7, t_8, t_9, t_10, t_11, t_12, t_13, t_15, t_16, t_20, t_21, t_22, t_32, t_40, t_41, t_48, t_49, t_57, t_59, t_60, t_63, t_72, t_76, t_88, t_100, t_144, t_200, t_255, t_288, t_400, t_800, t_999, t_1000, t_1024, t_1200, t_1600, t_3200, t_100000, t_200000, t_252645135, t_858993459, t_1431655765, u_m1000002, u_m1000001, u_m1000, u_m3, u_m1, u_0, u_1, u_2, u_3, u_4, u_5, u_7, u_8, u_10, u_11, u_15, u_60, u_100, u_255, u_999, u_1000, u_100000, u_4294967295] at hc73)
          refine g_iload dX8_findJoin_76 rfl ?_
          refine g_if_le (tgt := 85) dX8_findJoin_78 (by decide) (fun hc78 => ?_) (fun hc78 => ?_)
          · (try simp (disch := omega) only [nT, t_m1000100, t_m1000010, t_m1000003, t_m1000002, t_m1000001, t_m1000000, t_m65535, t_m1000, t_m3, t_m1, t_0, t_1, t_2, t_3, t_4, t_5, t_6, t_7, t_8, t_9, t_10, t_11, t_12, t_13, t_15, t_16, t_20, t_21, t_22, t_32, t_40, t_41, t_48, t_49, t_57, t_59, t_60, t_63, t_72, t_76, t_88, t_100, t_144, t_200, t_255, t_288, t_400, t_800, t_999, t_1000, t_1024, t_1200, t_1600, t_3200, t_100000, t_200000, t_252645135, t_858993459, t_1431655765, u_m1000002, u_m1000001, u_m1000, u_m3, u_m1, u_0, u_1, u_2, u_3, u_4, u_5, u_7, u_8, u_10, u_11, u_15, u_60, u_100, u_255, u_999, u_1000, u_100000, u_4294967295] at hc78)
            refine g_iconst (v := 0) dX8_findJoin_85 (by decide) ?_
            refine g_iadd dX8_findJoin_86 ?_
            refine g_iast dX8_findJoin_87 (by repeat' (first | assumption | exact rF_eq | refine rF_ne (by decide) ?_ | refine rF_a ?_ | exact rA_eq | refine rA_ne (by decide) ?_ | refine rA_f ?_)) ((show (0 : Int32).toInt = ((0 : Nat) : Int) from rfl)) (by decide) ?_
            rw [sA_sA]
            first
            | (rw [cnt_t (p0.mpr ⟨by omega, by omega⟩)] at c0
               exact k88 _ (a0 + 1) (by rw [upd_s, f0, ni_inc]) f1 f2 f3 (by omega))
            | (rw [cnt_f (fun q => by have := p0.mp q; omega)] at c0
               exact k88 _ a0 (by rw [upd_s, f0]; exact Int32.add_zero _) f1 f2 f3 c0)
          · (try simp (disch := omega) only [nT, t_m1000100, t_m1000010, t_m1000003, t_m1000002, t_m1000001, t_m1000000, t_m65535, t_m1000, t_m3, t_m1, t_0, t_1, t_2, t_3, t_4, t_5, t_6, t_7, t_8, t_9, t_10, t_11, t_12, t_13, t_15, t_16, t_20, t_21, t_22, t_32, t_40, t_41, t_48, t_49, t_57, t_59, t_60, t_63, t_72, t_76, t_88, t_100, t_144, t_200, t_255, t_288, t_400, t_800, t_999, t_1000, t_1024, t_1200, t_1600, t_3200, t_100000, t_200000, t_252645135, t_858993459, t_1431655765, u_m1000002, u_m1000001, u_m1000, u_m3, u_m1, u_0, u_1, u_2, u_3, u_4, u_5, u_7, u_8, u_10, u_11, u_15, u_60, u_100, u_255, u_999, u_1000, u_100000, u_4294967295] at hc78)
            refine g_iconst (v := 1) dX8_findJoin_81 (by decide) ?_
            refine g_goto (tgt := 86) dX8_findJoin_82 (by decide) ?_
            refine g_iadd dX8_findJoin_86 ?_
            refine g_iast dX8_findJoin_87 (by repeat' (first | assumption | exact rF_eq | refine rF_ne (by decide) ?_ | refine rF_a ?_ | exact rA_eq | refine rA_ne (by decide) ?_ | refine rA_f ?_)) ((show (0 : Int32).toInt = ((0 : Nat) : Int) from rfl)) (by decide) ?_
            rw [sA_sA]
            first
            | (rw [cnt_t (p0.mpr ⟨by omega, by omega⟩)] at c0
               exact k88 _ (a0 + 1) (by rw [upd_s, f0, ni_inc]) f1 f2 f3 (by omega))
            | (rw [cnt_f (fun q => by have := p0.mp q; omega)] at c0
               exact k88 _ a0 (by rw [upd_s, f0]; exact Int32.add_zero _) f1 f2 f3 c0)
  have zer : ∀ m k f, k + m = 4 → (∀ i, i < k → f i = 0) → GG (EM mX8_findJoin 3 0 0 Q') 0 0 2 [.ref 44, .int dx, .int dy, .int (nI k), hU, hU, hU, hU, hU] [] (sA h 74 (aI 4 f)) := by
    intro m
    induction m with
    | zero =>
      intro k f hk hf
      obtain rfl : k = 4 := by omega
      refine g_iload_n (i := 3) dX8_findJoin_2 rfl rfl ?_
      refine g_iconst (v := 4) dX8_findJoin_3 (by decide) ?_
      refine g_icmp_ge (tgt := 20) dX8_findJoin_4 (by decide) (fun hc4 => ?_) (fun hc4 => ?_)
      · (try simp (disch := omega) only [nT, t_m1000100, t_m1000010, t_m1000003, t_m1000002, t_m1000001, t_m1000000, t_m65535, t_m1000, t_m3, t_m1, t_0, t_1, t_2, t_3, t_4, t_5, t_6, t_7, t_8, t_9, t_10, t_11, t_12, t_13, t_15, t_16, t_20, t_21, t_22, t_32, t_40, t_41, t_48, t_49, t_57, t_59, t_60, t_63, t_72, t_76, t_88, t_100, t_144, t_200, t_255, t_288, t_400, t_800, t_999, t_1000, t_1024, t_1200, t_1600, t_3200, t_100000, t_200000, t_252645135, t_858993459, t_1431655765, u_m1000002, u_m1000001, u_m1000, u_m3, u_m1, u_0, u_1, u_2, u_3, u_4, u_5, u_7, u_8, u_10, u_11, u_15, u_60, u_100, u_255, u_999, u_1000, u_100000, u_4294967295] at hc4)
        refine g_iconst (v := 0) dX8_findJoin_20 (by decide) ?_
        refine g_istore_n (i := 3) dX8_findJoin_21 rfl (Nat.le_of_ble_eq_true rfl) rfl ?_
        exact key N 0 f 0 0 0 0 _ _ _ _ _ (by omega) (hf 0 (by decide)) (hf 1 (by decide)) (hf 2 (by decide)) (hf 3 (by decide)) (by rw [Nat.zero_add]; exact hz0) (by rw [Nat.zero_add]; exact hz1) (by rw [Nat.zero_add]; exact hz2) (by rw [Nat.zero_add]; exact hz3)
      · (try simp (disch := omega) only [nT, t_m1000100, t_m1000010, t_m1000003, t_m1000002, t_m1000001, t_m1000000, t_m65535, t_m1000, t_m3, t_m1, t_0, t_1, t_2, t_3, t_4, t_5, t_6, t_7, t_8, t_9, t_10, t_11, t_12, t_13, t_15, t_16, t_20, t_21, t_22, t_32, t_40, t_41, t_48, t_49, t_57, t_59, t_60, t_63, t_72, t_76, t_88, t_100, t_144, t_200, t_255, t_288, t_400, t_800, t_999, t_1000, t_1024, t_1200, t_1600, t_3200, t_100000, t_200000, t_252645135, t_858993459, t_1431655765, u_m1000002, u_m1000001, u_m1000, u_m3, u_m1, u_0, u_1, u_2, u_3, u_4, u_5, u_7, u_8, u_10, u_11, u_15, u_60, u_100, u_255, u_999, u_1000, u_100000, u_4294967295] at hc4); omega
    | succ m ih =>
      intro k f hk hf
      refine g_iload_n (i := 3) dX8_findJoin_2 rfl rfl ?_
      refine g_iconst (v := 4) dX8_findJoin_3 (by decide) ?_
      refine g_icmp_ge (tgt := 20) dX8_findJoin_4 (by decide) (fun hc4 => ?_) (fun hc4 => ?_)
      · (try simp (disch := omega) only [nT, t_m1000100, t_m1000010, t_m1000003, t_m1000002, t_m1000001, t_m1000000, t_m65535, t_m1000, t_m3, t_m1, t_0, t_1, t_2, t_3, t_4, t_5, t_6, t_7, t_8, t_9, t_10, t_11, t_12, t_13, t_15, t_16, t_20, t_21, t_22, t_32, t_40, t_41, t_48, t_49, t_57, t_59, t_60, t_63, t_72, t_76, t_88, t_100, t_144, t_200, t_255, t_288, t_400, t_800, t_999, t_1000, t_1024, t_1200, t_1600, t_3200, t_100000, t_200000, t_252645135, t_858993459, t_1431655765, u_m1000002, u_m1000001, u_m1000, u_m3, u_m1, u_0, u_1, u_2, u_3, u_4, u_5, u_7, u_8, u_10, u_11, u_15, u_60, u_100, u_255, u_999, u_1000, u_100000, u_4294967295] at hc4); omega
      · (try simp (disch := omega) only [nT, t_m1000100, t_m1000010, t_m1000003, t_m1000002, t_m1000001, t_m1000000, t_m65535, t_m1000, t_m3, t_m1, t_0, t_1, t_2, t_3, t_4, t_5, t_6, t_7, t_8, t_9, t_10, t_11, t_12, t_13, t_15, t_16, t_20, t_21, t_22, t_32, t_40, t_41, t_48, t_49, t_57, t_59, t_60, t_63, t_72, t_76, t_88, t_100, t_144, t_200, t_255, t_288, t_400, t_800, t_999, t_1000, t_1024, t_1200, t_1600, t_3200, t_100000, t_200000, t_252645135, t_858993459, t_1431655765, u_m1000002, u_m1000001, u_m1000, u_m3, u_m1, u_0, u_1, u_2, u_3, u_4, u_5, u_7, u_8, u_10, u_11, u_15, u_60, u_100, u_255, u_999, u_1000, u_100000, u_4294967295] at hc4)
        refine g_aload_n (i := 0) dX8_findJoin_7 rfl rfl ?_
        refine g_get dX8_findJoin_8 fl_X8_104 (by repeat' (first | assumption | exact rF_eq | refine rF_ne (by decide) ?_ | refine rF_a ?_ | exact rA_eq | refine rA_ne (by decide) ?_ | refine rA_f ?_)) (by repeat' (first | assumption | exact rF_eq | refine rF_ne (by decide) ?_ | refine rF_a ?_ | exact rA_eq | refine rA_ne (by decide) ?_ | refine rA_f ?_)) ?_
        refine g_iload_n (i := 3) dX8_findJoin_11 rfl rfl ?_
        refine g_iconst (v := 0) dX8_findJoin_12 (by decide) ?_
        refine g_iast dX8_findJoin_13 (by repeat' (first | assumption | exact rF_eq | refine rF_ne (by decide) ?_ | refine rF_a ?_ | exact rA_eq | refine rA_ne (by decide) ?_ | refine rA_f ?_)) (nT (by omega)) (by omega) ?_
        refine g_iinc dX8_findJoin_14 rfl (Nat.le_of_ble_eq_true rfl) rfl ?_
        refine g_goto (tgt := 2) dX8_findJoin_17 (by decide) ?_
        rw [ni_incO, sA_sA]
        exact ih (k + 1) _ (by omega) (fun i hi => by
          by_cases q : i = k
          · rw [q, upd_s]
          · rw [upd_n q]; exact hf i (by omega))
  refine g_iconst (v := 0) dX8_findJoin_0 (by decide) ?_
  refine g_istore_n (i := 3) dX8_findJoin_1 rfl (Nat.le_of_ble_eq_true rfl) rfl ?_
  have k0 := zer 4 0 f0 (by omega) (fun i hi => absurd hi (by omega))
  rw [sA_self h74] at k0
  exact k0
