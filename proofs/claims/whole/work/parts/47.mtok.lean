/-! PATTERN: the reference: a LINE, a NUMBER, an end */ -/
theorem ix_sg (t nl k p : Nat) : (1600 : Int32) * nI t + 8 * nI nl + nI (p + k) - nI p = nI (1600 * t + 8 * nl + k) := by
  rw [show (1600 : Int32) = nI 1600 from rfl, show (8 : Int32) = nI 8 from rfl, pk_mul, pk_mul, ni_add, ni_add, n_sub (by omega)]
  congr 1
  omega
theorem ix_lo (t c : Nat) : (100000 : Int32) * nI t + nI c = nI (100000 * t + c) := by
  rw [show (100000 : Int32) = nI 100000 from rfl, pk_mul, ni_add]
theorem nL_I {x : Nat} (h : x < 2147483648) : (nL x).toInt32 = nI x := by
  rw [← nI_L h]
  simp
section MTok
variable {h : HH} {L t d nl pn p e : Nat} {M : Nat → List Nat} {T : Nat → Nat} {tp : Nat → Int32} {A A0 : AR} {op ot ins : Nat → Int32}
theorem m_readLine (ht : t < 2) (hr : RmX h L tp p 0 d A op ot ins) (hv : InvM L tp t A op ot ins d M T nl pn p) (ho : OtM t A0 A) (hpL : p < L) (he : fwd isRw L tp p = e) (h1 : ¬ (tp p).toInt = 41) (h2 : ¬ e = p) (hcase : (e < L ∧ (tp e).toInt = 59) ∨ (¬ (e < L ∧ (tp e).toInt = 59) ∧ ¬ alB isFg tp (e - p) p = true)) : CT mX8_readLine 1 0 0 [.ref 44, .int (nI t), .int (nI p), .int (nI e)] h (fun r h' => r = none ∧ OutM t L tp A0 h' (tokB L tp (d, M, T, nl, pn) p) ∧ Fr saM sfM h h') := by
  have hpe := fwd_le (q := isRw) (tp := tp) (show p ≤ L by omega)
  rw [he] at hpe
  obtain ⟨hpe, heL⟩ := hpe
  obtain ⟨⟨v1, v2, v3, v4, v5, v6⟩, ⟨k1, k2, k3⟩, k4, k5, k6⟩ := id hv
  obtain ⟨i1, i2⟩ := k4 d (by omega)
  have hcat := cat_le (M := M) (d + 1) (fun j hj => (k4 j (by omega)).2)
  obtain ⟨r1, r2, r3, r4, r5, r6, r7, r8, r9, r10, r11, r12, r13, r14, b0, b1, b2, b3, b4, b5, b6, b7, b8⟩ := id hr
  have hby := @byB_eq L tp e 59 (by omega)
  refine CT.go [.ref 44, .int (nI t), .int (nI p), .int (nI e), hU, hU, hU] (by decide +kernel) rfl rfl (fun Q' hQ => ?_)
  have fin : ∀ (G : Bool) (v5 : Value), (G = true ↔ (e < L ∧ (tp e).toInt = 59) ∧ e - p ≤ 8 ∧ alB isSg tp (e - p) p = true) → GG (EM mX8_readLine 1 0 0 Q') 0 0 65 [.ref 44, .int (nI t), .int (nI p), .int (nI e), .int (bI (G = true)), v5, hU] [] h := by
    intro G v5 hG
    refine g_iload dX8_readLine_65 rfl ?_
    refine g_if_ne (tgt := 77) dX8_readLine_67 (by decide) (fun hc67 => ?_) (fun hc67 => ?_)
    · have hd67 := mt i_eq.mpr hc67; (try simp (disch := omega) only [nT, t_m1000100, t_m1000010, t_m1000003, t_m1000002, t_m1000001, t_m1000000, t_m65535, t_m1000, t_m3, t_m1, t_0, t_1, t_2, t_3, t_4, t_5, t_6, t_7, t_8, t_9, t_10, t_11, t_12, t_13, t_15, t_16, t_20, t_21, t_22, t_32, t_40, t_41, t_48, t_49, t_57, t_59, t_60, t_63, t_72, t_76, t_88, t_100, t_144, t_200, t_255, t_288, t_400, t_800, t_999, t_1000, t_1024, t_1200, t_1600, t_3200, t_100000, t_200000, t_252645135, t_858993459, t_1431655765, u_m1000002, u_m1000001, u_m1000, u_m3, u_m1, u_0, u_1, u_2, u_3, u_4, u_5, u_7, u_8, u_10, u_11, u_15, u_60, u_100, u_255, u_999, u_1000, u_100000, u_4294967295] at hd67)
      obtain ⟨g1, g2, g3⟩ := hG.mp (bI_n0.mp hc67)
      have h4 : ¬ (8 < e - p ∨ ¬ alB isSg tp (e - p) p = true) := fun q => by rcases q with q | q; omega; exact q g3
      refine g_aload_n (i := 0) dX8_readLine_77 rfl rfl ?_
      refine g_get dX8_readLine_78 fl_X8_22 (by repeat' (first | assumption | exact rF_eq | refine rF_ne (by decide) ?_ | refine rF_a ?_ | exact rA_eq | refine rA_ne (by decide) ?_ | refine rA_f ?_)) (by repeat' (first | assumption | exact rF_eq | refine rF_ne (by decide) ?_ | refine rF_a ?_ | exact rA_eq | refine rA_ne (by decide) ?_ | refine rA_f ?_)) ?_
      refine g_iload_n (i := 1) dX8_readLine_81 rfl rfl ?_
      refine g_iald dX8_readLine_82 (by repeat' (first | assumption | exact rF_eq | refine rF_ne (by decide) ?_ | refine rF_a ?_ | exact rA_eq | refine rA_ne (by decide) ?_ | refine rA_f ?_)) (nT (by omega)) (by omega) ?_
      rw [k1]
      refine g_if_le (tgt := 105) dX8_readLine_83 (by decide) (fun hc83 => ?_) (fun hc83 => ?_)
      · (try simp (disch := omega) only [nT, t_m1000100, t_m1000010, t_m1000003, t_m1000002, t_m1000001, t_m1000000, t_m65535, t_m1000, t_m3, t_m1, t_0, t_1, t_2, t_3, t_4, t_5, t_6, t_7, t_8, t_9, t_10, t_11, t_12, t_13, t_15, t_16, t_20, t_21, t_22, t_32, t_40, t_41, t_48, t_49, t_57, t_59, t_60, t_63, t_72, t_76, t_88, t_100, t_144, t_200, t_255, t_288, t_400, t_800, t_999, t_1000, t_1024, t_1200, t_1600, t_3200, t_100000, t_200000, t_252645135, t_858993459, t_1431655765, u_m1000002, u_m1000001, u_m1000, u_m3, u_m1, u_0, u_1, u_2, u_3, u_4, u_5, u_7, u_8, u_10, u_11, u_15, u_60, u_100, u_255, u_999, u_1000, u_100000, u_4294967295] at hc83)
        refine g_aload_n (i := 0) dX8_readLine_105 rfl rfl ?_
        refine g_get dX8_readLine_106 fl_X8_25 (by repeat' (first | assumption | exact rF_eq | refine rF_ne (by decide) ?_ | refine rF_a ?_ | exact rA_eq | refine rA_ne (by decide) ?_ | refine rA_f ?_)) (by repeat' (first | assumption | exact rF_eq | refine rF_ne (by decide) ?_ | refine rF_a ?_ | exact rA_eq | refine rA_ne (by decide) ?_ | refine rA_f ?_)) ?_
        refine g_iload_n (i := 1) dX8_readLine_109 rfl rfl ?_
        refine g_iload_n (i := 3) dX8_readLine_110 rfl rfl ?_
        refine g_iload_n (i := 2) dX8_readLine_111 rfl rfl ?_
        refine g_isub dX8_readLine_112 ?_
        rw [n_sub hpe]
        refine g_iast dX8_readLine_113 (by repeat' (first | assumption | exact rF_eq | refine rF_ne (by decide) ?_ | refine rF_a ?_ | exact rA_eq | refine rA_ne (by decide) ?_ | refine rA_f ?_)) (nT (by omega)) (by omega) ?_
        refine g_aload_n (i := 0) dX8_readLine_114 rfl rfl ?_
        refine g_get dX8_readLine_115 fl_X8_44 (by repeat' (first | assumption | exact rF_eq | refine rF_ne (by decide) ?_ | refine rF_a ?_ | exact rA_eq | refine rA_ne (by decide) ?_ | refine rA_f ?_)) (by repeat' (first | assumption | exact rF_eq | refine rF_ne (by decide) ?_ | refine rF_a ?_ | exact rA_eq | refine rA_ne (by decide) ?_ | refine rA_f ?_)) ?_
        refine g_aload_n (i := 0) dX8_readLine_118 rfl rfl ?_
        refine g_get dX8_readLine_119 fl_X8_162 (by repeat' (first | assumption | exact rF_eq | refine rF_ne (by decide) ?_ | refine rF_a ?_ | exact rA_eq | refine rA_ne (by decide) ?_ | refine rA_f ?_)) (by repeat' (first | assumption | exact rF_eq | refine rF_ne (by decide) ?_ | refine rF_a ?_ | exact rA_eq | refine rA_ne (by decide) ?_ | refine rA_f ?_)) ?_
        refine g_iald dX8_readLine_122 (by repeat' (first | assumption | exact rF_eq | refine rF_ne (by decide) ?_ | refine rF_a ?_ | exact rA_eq | refine rA_ne (by decide) ?_ | refine rA_f ?_)) (nT (by omega)) (by omega) ?_
        rw [i1]
        refine g_ldc dX8_readLine_123 kc_X8_165 ?_
        refine g_icmp_ne (tgt := 135) dX8_readLine_125 (by decide) (fun hc125 => ?_) (fun hc125 => ?_)
        · have hd125 := mt i_eq.mpr hc125; (try simp (disch := omega) only [nT, t_m1000100, t_m1000010, t_m1000003, t_m1000002, t_m1000001, t_m1000000, t_m65535, t_m1000, t_m3, t_m1, t_0, t_1, t_2, t_3, t_4, t_5, t_6, t_7, t_8, t_9, t_10, t_11, t_12, t_13, t_15, t_16, t_20, t_21, t_22, t_32, t_40, t_41, t_48, t_49, t_57, t_59, t_60, t_63, t_72, t_76, t_88, t_100, t_144, t_200, t_255, t_288, t_400, t_800, t_999, t_1000, t_1024, t_1200, t_1600, t_3200, t_100000, t_200000, t_252645135, t_858993459, t_1431655765, u_m1000002, u_m1000001, u_m1000, u_m3, u_m1, u_0, u_1, u_2, u_3, u_4, u_5, u_7, u_8, u_10, u_11, u_15, u_60, u_100, u_255, u_999, u_1000, u_100000, u_4294967295] at hd125)
          have hnp : ¬ (0 < nl ∧ e - p ≠ pn) := fun q => by first | omega | exact q.2 (by have := hd95; omega)
          have hcc : ¬ 100000 < (M d).length + 1 := by omega
          have hnl : nl < 200 := by omega
          have key2 : ∀ m k : Nat, k + m = e - p → GG (EM mX8_readLine 1 0 0 Q') 0 0 146 [.ref 44, .int (nI t), .int (nI p), .int (nI e), .int (bI (G = true)), .int (nI nl), .int (nI (p + k))] [] (sA (sA h 50 (aI 2 (upd A.2.1 t (nI (e - p))))) 52 (aI 3200 (sgL tp A.2.2.2.1 (1600 * t + 8 * nl) p k))) := by
            intro m
            induction m with
            | zero =>
              intro k hk
              obtain rfl : k = e - p := by omega
              by_cases hc1 : (catM M (d + 1)).length < 100000
              · refine g_iload dX8_readLine_146 rfl ?_
                refine g_iload_n (i := 3) dX8_readLine_148 rfl rfl ?_
                refine g_icmp_ge (tgt := 186) dX8_readLine_149 (by decide) (fun hc149 => ?_) (fun hc149 => ?_)
                · (try simp (disch := omega) only [nT, t_m1000100, t_m1000010, t_m1000003, t_m1000002, t_m1000001, t_m1000000, t_m65535, t_m1000, t_m3, t_m1, t_0, t_1, t_2, t_3, t_4, t_5, t_6, t_7, t_8, t_9, t_10, t_11, t_12, t_13, t_15, t_16, t_20, t_21, t_22, t_32, t_40, t_41, t_48, t_49, t_57, t_59, t_60, t_63, t_72, t_76, t_88, t_100, t_144, t_200, t_255, t_288, t_400, t_800, t_999, t_1000, t_1024, t_1200, t_1600, t_3200, t_100000, t_200000, t_252645135, t_858993459, t_1431655765, u_m1000002, u_m1000001, u_m1000, u_m3, u_m1, u_0, u_1, u_2, u_3, u_4, u_5, u_7, u_8, u_10, u_11, u_15, u_60, u_100, u_255, u_999, u_1000, u_100000, u_4294967295] at hc149)
                  refine g_aload_n (i := 0) dX8_readLine_186 rfl rfl ?_
                  refine g_get dX8_readLine_187 fl_X8_22 (by repeat' (first | assumption | exact rF_eq | refine rF_ne (by decide) ?_ | refine rF_a ?_ | exact rA_eq | refine rA_ne (by decide) ?_ | refine rA_f ?_)) (by repeat' (first | assumption | exact rF_eq | refine rF_ne (by decide) ?_ | refine rF_a ?_ | exact rA_eq | refine rA_ne (by decide) ?_ | refine rA_f ?_)) ?_
                  refine g_iload_n (i := 1) dX8_readLine_190 rfl rfl ?_
                  refine g_dup2 dX8_readLine_191 rfl rfl ?_
                  refine g_iald dX8_readLine_192 (by repeat' (first | assumption | exact rF_eq | refine rF_ne (by decide) ?_ | refine rF_a ?_ | exact rA_eq | refine rA_ne (by decide) ?_ | refine rA_f ?_)) (nT (by omega)) (by omega) ?_
                  rw [k1]
                  refine g_iconst (v := 1) dX8_readLine_193 (by decide) ?_
                  refine g_iadd dX8_readLine_194 ?_
                  rw [ni_inc]
                  refine g_iast dX8_readLine_195 (by repeat' (first | assumption | exact rF_eq | refine rF_ne (by decide) ?_ | refine rF_a ?_ | exact rA_eq | refine rA_ne (by decide) ?_ | refine rA_f ?_)) (nT (by omega)) (by omega) ?_
                  refine g_aload_n (i := 0) dX8_readLine_196 rfl rfl ?_
                  refine g_get dX8_readLine_197 fl_X8_28 (by repeat' (first | assumption | exact rF_eq | refine rF_ne (by decide) ?_ | refine rF_a ?_ | exact rA_eq | refine rA_ne (by decide) ?_ | refine rA_f ?_)) (by repeat' (first | assumption | exact rF_eq | refine rF_ne (by decide) ?_ | refine rF_a ?_ | exact rA_eq | refine rA_ne (by decide) ?_ | refine rA_f ?_)) ?_
                  refine g_iload_n (i := 1) dX8_readLine_200 rfl rfl ?_
                  refine g_iald dX8_readLine_201 (by repeat' (first | assumption | exact rF_eq | refine rF_ne (by decide) ?_ | refine rF_a ?_ | exact rA_eq | refine rA_ne (by decide) ?_ | refine rA_f ?_)) (nT (by omega)) (by omega) ?_
                  rw [k3]
                  refine g_ldc dX8_readLine_202 kc_X8_165 ?_
                  refine g_icmp_ge (tgt := 225) dX8_readLine_204 (by decide) (fun hc204 => ?_) (fun hc204 => ?_)
                  · (try simp (disch := omega) only [nT, t_m1000100, t_m1000010, t_m1000003, t_m1000002, t_m1000001, t_m1000000, t_m65535, t_m1000, t_m3, t_m1, t_0, t_1, t_2, t_3, t_4, t_5, t_6, t_7, t_8, t_9, t_10, t_11, t_12, t_13, t_15, t_16, t_20, t_21, t_22, t_32, t_40, t_41, t_48, t_49, t_57, t_59, t_60, t_63, t_72, t_76, t_88, t_100, t_144, t_200, t_255, t_288, t_400, t_800, t_999, t_1000, t_1024, t_1200, t_1600, t_3200, t_100000, t_200000, t_252645135, t_858993459, t_1431655765, u_m1000002, u_m1000001, u_m1000, u_m3, u_m1, u_0, u_1, u_2, u_3, u_4, u_5, u_7, u_8, u_10, u_11, u_15, u_60, u_100, u_255, u_999, u_1000, u_100000, u_4294967295] at hc204); omega
                  · (try simp (disch := omega) only [nT, t_m1000100, t_m1000010, t_m1000003, t_m1000002, t_m1000001, t_m1000000, t_m65535, t_m1000, t_m3, t_m1, t_0, t_1, t_2, t_3, t_4, t_5, t_6, t_7, t_8, t_9, t_10, t_11, t_12, t_13, t_15, t_16, t_20, t_21, t_22, t_32, t_40, t_41, t_48, t_49, t_57, t_59, t_60, t_63, t_72, t_76, t_88, t_100, t_144, t_200, t_255, t_288, t_400, t_800, t_999, t_1000, t_1024, t_1200, t_1600, t_3200, t_100000, t_200000, t_252645135, t_858993459, t_1431655765, u_m1000002, u_m1000001, u_m1000, u_m3, u_m1, u_0, u_1, u_2, u_3, u_4, u_5, u_7, u_8, u_10, u_11, u_15, u_60, u_100, u_255, u_999, u_1000, u_100000, u_4294967295] at hc204)
                    refine g_aload_n (i := 0) dX8_readLine_207 rfl rfl ?_
                    refine g_get dX8_readLine_208 fl_X8_35 (by repeat' (first | assumption | exact rF_eq | refine rF_ne (by decide) ?_ | refine rF_a ?_ | exact rA_eq | refine rA_ne (by decide) ?_ | refine rA_f ?_)) (by repeat' (first | assumption | exact rF_eq | refine rF_ne (by decide) ?_ | refine rF_a ?_ | exact rA_eq | refine rA_ne (by decide) ?_ | refine rA_f ?_)) ?_
                    refine g_ldc dX8_readLine_211 kc_X8_165 ?_
                    refine g_iload_n (i := 1) dX8_readLine_213 rfl rfl ?_
                    refine g_imul dX8_readLine_214 ?_
                    refine g_aload_n (i := 0) dX8_readLine_215 rfl rfl ?_
                    refine g_get dX8_readLine_216 fl_X8_28 (by repeat' (first | assumption | exact rF_eq | refine rF_ne (by decide) ?_ | refine rF_a ?_ | exact rA_eq | refine rA_ne (by decide) ?_ | refine rA_f ?_)) (by repeat' (first | assumption | exact rF_eq | refine rF_ne (by decide) ?_ | refine rF_a ?_ | exact rA_eq | refine rA_ne (by decide) ?_ | refine rA_f ?_)) ?_
                    refine g_iload_n (i := 1) dX8_readLine_219 rfl rfl ?_
                    refine g_iald dX8_readLine_220 (by repeat' (first | assumption | exact rF_eq | refine rF_ne (by decide) ?_ | refine rF_a ?_ | exact rA_eq | refine rA_ne (by decide) ?_ | refine rA_f ?_)) (nT (by omega)) (by omega) ?_
                    rw [k3]
                    refine g_iadd dX8_readLine_221 ?_
                    rw [ix_lo]
                    refine g_iload dX8_readLine_222 rfl ?_
                    refine g_iast dX8_readLine_224 (by repeat' (first | assumption | exact rF_eq | refine rF_ne (by decide) ?_ | refine rF_a ?_ | exact rA_eq | refine rA_ne (by decide) ?_ | refine rA_f ?_)) (nT (by omega)) (by omega) ?_
                    refine g_aload_n (i := 0) dX8_readLine_225 rfl rfl ?_
                    refine g_get dX8_readLine_226 fl_X8_28 (by repeat' (first | assumption | exact rF_eq | refine rF_ne (by decide) ?_ | refine rF_a ?_ | exact rA_eq | refine rA_ne (by decide) ?_ | refine rA_f ?_)) (by repeat' (first | assumption | exact rF_eq | refine rF_ne (by decide) ?_ | refine rF_a ?_ | exact rA_eq | refine rA_ne (by decide) ?_ | refine rA_f ?_)) ?_
                    refine g_iload_n (i := 1) dX8_readLine_229 rfl rfl ?_
                    refine g_dup2 dX8_readLine_230 rfl rfl ?_
                    refine g_iald dX8_readLine_231 (by repeat' (first | assumption | exact rF_eq | refine rF_ne (by decide) ?_ | refine rF_a ?_ | exact rA_eq | refine rA_ne (by decide) ?_ | refine rA_f ?_)) (nT (by omega)) (by omega) ?_
                    rw [k3]
                    refine g_iconst (v := 1) dX8_readLine_232 (by decide) ?_
                    refine g_iadd dX8_readLine_233 ?_
                    rw [ni_inc]
                    refine g_iast dX8_readLine_234 (by repeat' (first | assumption | exact rF_eq | refine rF_ne (by decide) ?_ | refine rF_a ?_ | exact rA_eq | refine rA_ne (by decide) ?_ | refine rA_f ?_)) (nT (by omega)) (by omega) ?_
                    refine g_aload_n (i := 0) dX8_readLine_235 rfl rfl ?_
                    refine g_get dX8_readLine_236 fl_X8_44 (by repeat' (first | assumption | exact rF_eq | refine rF_ne (by decide) ?_ | refine rF_a ?_ | exact rA_eq | refine rA_ne (by decide) ?_ | refine rA_f ?_)) (by repeat' (first | assumption | exact rF_eq | refine rF_ne (by decide) ?_ | refine rF_a ?_ | exact rA_eq | refine rA_ne (by decide) ?_ | refine rA_f ?_)) ?_
                    refine g_aload_n (i := 0) dX8_readLine_239 rfl rfl ?_
                    refine g_get dX8_readLine_240 fl_X8_162 (by repeat' (first | assumption | exact rF_eq | refine rF_ne (by decide) ?_ | refine rF_a ?_ | exact rA_eq | refine rA_ne (by decide) ?_ | refine rA_f ?_)) (by repeat' (first | assumption | exact rF_eq | refine rF_ne (by decide) ?_ | refine rF_a ?_ | exact rA_eq | refine rA_ne (by decide) ?_ | refine rA_f ?_)) ?_
                    refine g_dup2 dX8_readLine_243 rfl rfl ?_
                    refine g_iald dX8_readLine_244 (by repeat' (first | assumption | exact rF_eq | refine rF_ne (by decide) ?_ | refine rF_a ?_ | exact rA_eq | refine rA_ne (by decide) ?_ | refine rA_f ?_)) (nT (by omega)) (by omega) ?_
                    rw [i1]
                    refine g_iconst (v := 1) dX8_readLine_245 (by decide) ?_
                    refine g_iadd dX8_readLine_246 ?_
                    rw [ni_inc]
                    refine g_iast dX8_readLine_247 (by repeat' (first | assumption | exact rF_eq | refine rF_ne (by decide) ?_ | refine rF_a ?_ | exact rA_eq | refine rA_ne (by decide) ?_ | refine rA_f ?_)) (nT (by omega)) (by omega) ?_
                    refine g_aload_n (i := 0) dX8_readLine_248 rfl rfl ?_
                    refine g_iload_n (i := 3) dX8_readLine_249 rfl rfl ?_
                    refine g_iconst (v := 1) dX8_readLine_250 (by decide) ?_
                    refine g_iadd dX8_readLine_251 ?_
                    rw [ni_inc]
                    refine g_put dX8_readLine_252 pl_X8_149 (by repeat' (first | assumption | exact rF_eq | refine rF_ne (by decide) ?_ | refine rF_a ?_ | exact rA_eq | refine rA_ne (by decide) ?_ | refine rA_f ?_)) (fun _ => ⟨rfl, rfl⟩) ?_
                    refine g_vret dX8_readLine_255 rfl (hQ _ _ ?_)
                    rw [tok_l he h1 h2 g1 h4 hnp hcc]
                    refine ⟨rfl, ⟨(upd A.1 t (nI (nl + 1)), upd A.2.1 t (nI (e - p)), upd A.2.2.1 t (nI ((catM M (d + 1)).length + 1)), sgL tp A.2.2.2.1 (1600 * t + 8 * nl) p (e - p), loL A.2.2.2.2 t (catM M (d + 1)).length nl), op, ot, upd ins d (nI ((M d).length + 1)), ⟨r1, r2, r3, rfl, r5, r6, r7, r8, r9, r10, r11, r12, r13, r14, b0, rfl, rfl, rfl, rfl, ?_, b6, b7, rfl⟩, invM_line hv (by omega) rfl (by omega) g1.1 hnp hcc, ot_line ho ht (by omega) hnl _ _ _ _⟩, fr_sF (by decide) (fr_sA (by decide) (fr_sA (by decide) (fr_sA (by decide) (fr_sA (by decide) (fr_sA (by decide) (fr_sA (by decide) fr_rf))))))⟩
                    show _ = aI 200000 (loL A.2.2.2.2 t (catM M (d + 1)).length nl)
                    unfold loL
                    rw [if_pos hc1]
                    rfl
                · (try simp (disch := omega) only [nT, t_m1000100, t_m1000010, t_m1000003, t_m1000002, t_m1000001, t_m1000000, t_m65535, t_m1000, t_m3, t_m1, t_0, t_1, t_2, t_3, t_4, t_5, t_6, t_7, t_8, t_9, t_10, t_11, t_12, t_13, t_15, t_16, t_20, t_21, t_22, t_32, t_40, t_41, t_48, t_49, t_57, t_59, t_60, t_63, t_72, t_76, t_88, t_100, t_144, t_200, t_255, t_288, t_400, t_800, t_999, t_1000, t_1024, t_1200, t_1600, t_3200, t_100000, t_200000, t_252645135, t_858993459, t_1431655765, u_m1000002, u_m1000001, u_m1000, u_m3, u_m1, u_0, u_1, u_2, u_3, u_4, u_5, u_7, u_8, u_10, u_11, u_15, u_60, u_100, u_255, u_999, u_1000, u_100000, u_4294967295] at hc149); omega
              · refine g_iload dX8_readLine_146 rfl ?_
                refine g_iload_n (i := 3) dX8_readLine_148 rfl rfl ?_
                refine g_icmp_ge (tgt := 186) dX8_readLine_149 (by decide) (fun hc149 => ?_) (fun hc149 => ?_)
                · (try simp (disch := omega) only [nT, t_m1000100, t_m1000010, t_m1000003, t_m1000002, t_m1000001, t_m1000000, t_m65535, t_m1000, t_m3, t_m1, t_0, t_1, t_2, t_3, t_4, t_5, t_6, t_7, t_8, t_9, t_10, t_11, t_12, t_13, t_15, t_16, t_20, t_21, t_22, t_32, t_40, t_41, t_48, t_49, t_57, t_59, t_60, t_63, t_72, t_76, t_88, t_100, t_144, t_200, t_255, t_288, t_400, t_800, t_999, t_1000, t_1024, t_1200, t_1600, t_3200, t_100000, t_200000, t_252645135, t_858993459, t_1431655765, u_m1000002, u_m1000001, u_m1000, u_m3, u_m1, u_0, u_1, u_2, u_3, u_4, u_5, u_7, u_8, u_10, u_11, u_15, u_60, u_100, u_255, u_999, u_1000, u_100000, u_4294967295] at hc149)
                  refine g_aload_n (i := 0) dX8_readLine_186 rfl rfl ?_
                  refine g_get dX8_readLine_187 fl_X8_22 (by repeat' (first | assumption | exact rF_eq | refine rF_ne (by decide) ?_ | refine rF_a ?_ | exact rA_eq | refine rA_ne (by decide) ?_ | refine rA_f ?_)) (by repeat' (first | assumption | exact rF_eq | refine rF_ne (by decide) ?_ | refine rF_a ?_ | exact rA_eq | refine rA_ne (by decide) ?_ | refine rA_f ?_)) ?_
                  refine g_iload_n (i := 1) dX8_readLine_190 rfl rfl ?_
                  refine g_dup2 dX8_readLine_191 rfl rfl ?_
                  refine g_iald dX8_readLine_192 (by repeat' (first | assumption | exact rF_eq | refine rF_ne (by decide) ?_ | refine rF_a ?_ | exact rA_eq | refine rA_ne (by decide) ?_ | refine rA_f ?_)) (nT (by omega)) (by omega) ?_
                  rw [k1]
                  refine g_iconst (v := 1) dX8_readLine_193 (by decide) ?_
                  refine g_iadd dX8_readLine_194 ?_
                  rw [ni_inc]
                  refine g_iast dX8_readLine_195 (by repeat' (first | assumption | exact rF_eq | refine rF_ne (by decide) ?_ | refine rF_a ?_ | exact rA_eq | refine rA_ne (by decide) ?_ | refine rA_f ?_)) (nT (by omega)) (by omega) ?_
                  refine g_aload_n (i := 0) dX8_readLine_196 rfl rfl ?_
                  refine g_get dX8_readLine_197 fl_X8_28 (by repeat' (first | assumption | exact rF_eq | refine rF_ne (by decide) ?_ | refine rF_a ?_ | exact rA_eq | refine rA_ne (by decide) ?_ | refine rA_f ?_)) (by repeat' (first | assumption | exact rF_eq | refine rF_ne (by decide) ?_ | refine rF_a ?_ | exact rA_eq | refine rA_ne (by decide) ?_ | refine rA_f ?_)) ?_
                  refine g_iload_n (i := 1) dX8_readLine_200 rfl rfl ?_
                  refine g_iald dX8_readLine_201 (by repeat' (first | assumption | exact rF_eq | refine rF_ne (by decide) ?_ | refine rF_a ?_ | exact rA_eq | refine rA_ne (by decide) ?_ | refine rA_f ?_)) (nT (by omega)) (by omega) ?_
                  rw [k3]
                  refine g_ldc dX8_readLine_202 kc_X8_165 ?_
                  refine g_icmp_ge (tgt := 225) dX8_readLine_204 (by decide) (fun hc204 => ?_) (fun hc204 => ?_)
                  · (try simp (disch := omega) only [nT, t_m1000100, t_m1000010, t_m1000003, t_m1000002, t_m1000001, t_m1000000, t_m65535, t_m1000, t_m3, t_m1, t_0, t_1, t_2, t_3, t_4, t_5, t_6, t_7, t_8, t_9, t_10, t_11, t_12, t_13, t_15, t_16, t_20, t_21, t_22, t_32, t_40, t_41, t_48, t_49, t_57, t_59, t_60, t_63, t_72, t_76, t_88, t_100, t_144, t_200, t_255, t_288, t_400, t_800, t_999, t_1000, t_1024, t_1200, t_1600, t_3200, t_100000, t_200000, t_252645135, t_858993459, t_1431655765, u_m1000002, u_m1000001, u_m1000, u_m3, u_m1, u_0, u_1, u_2, u_3, u_4, u_5, u_7, u_8, u_10, u_11, u_15, u_60, u_100, u_255, u_999, u_1000, u_100000, u_4294967295] at hc204)
                    refine g_aload_n (i := 0) dX8_readLine_225 rfl rfl ?_
                    refine g_get dX8_readLine_226 fl_X8_28 (by repeat' (first | assumption | exact rF_eq | refine rF_ne (by decide) ?_ | refine rF_a ?_ | exact rA_eq | refine rA_ne (by decide) ?_ | refine rA_f ?_)) (by repeat' (first | assumption | exact rF_eq | refine rF_ne (by decide) ?_ | refine rF_a ?_ | exact rA_eq | refine rA_ne (by decide) ?_ | refine rA_f ?_)) ?_
                    refine g_iload_n (i := 1) dX8_readLine_229 rfl rfl ?_
                    refine g_dup2 dX8_readLine_230 rfl rfl ?_
                    refine g_iald dX8_readLine_231 (by repeat' (first | assumption | exact rF_eq | refine rF_ne (by decide) ?_ | refine rF_a ?_ | exact rA_eq | refine rA_ne (by decide) ?_ | refine rA_f ?_)) (nT (by omega)) (by omega) ?_
                    rw [k3]
                    refine g_iconst (v := 1) dX8_readLine_232 (by decide) ?_
                    refine g_iadd dX8_readLine_233 ?_
                    rw [ni_inc]
                    refine g_iast dX8_readLine_234 (by repeat' (first | assumption | exact rF_eq | refine rF_ne (by decide) ?_ | refine rF_a ?_ | exact rA_eq | refine rA_ne (by decide) ?_ | refine rA_f ?_)) (nT (by omega)) (by omega) ?_
                    refine g_aload_n (i := 0) dX8_readLine_235 rfl rfl ?_
                    refine g_get dX8_readLine_236 fl_X8_44 (by repeat' (first | assumption | exact rF_eq | refine rF_ne (by decide) ?_ | refine rF_a ?_ | exact rA_eq | refine rA_ne (by decide) ?_ | refine rA_f ?_)) (by repeat' (first | assumption | exact rF_eq | refine rF_ne (by decide) ?_ | refine rF_a ?_ | exact rA_eq | refine rA_ne (by decide) ?_ | refine rA_f ?_)) ?_
                    refine g_aload_n (i := 0) dX8_readLine_239 rfl rfl ?_
                    refine g_get dX8_readLine_240 fl_X8_162 (by repeat' (first | assumption | exact rF_eq | refine rF_ne (by decide) ?_ | refine rF_a ?_ | exact rA_eq | refine rA_ne (by decide) ?_ | refine rA_f ?_)) (by repeat' (first | assumption | exact rF_eq | refine rF_ne (by decide) ?_ | refine rF_a ?_ | exact rA_eq | refine rA_ne (by decide) ?_ | refine rA_f ?_)) ?_
                    refine g_dup2 dX8_readLine_243 rfl rfl ?_
                    refine g_iald dX8_readLine_244 (by repeat' (first | assumption | exact rF_eq | refine rF_ne (by decide) ?_ | refine rF_a ?_ | exact rA_eq | refine rA_ne (by decide) ?_ | refine rA_f ?_)) (nT (by omega)) (by omega) ?_
                    rw [i1]
                    refine g_iconst (v := 1) dX8_readLine_245 (by decide) ?_
                    refine g_iadd dX8_readLine_246 ?_
                    rw [ni_inc]
                    refine g_iast dX8_readLine_247 (by repeat' (first | assumption | exact rF_eq | refine rF_ne (by decide) ?_ | refine rF_a ?_ | exact rA_eq | refine rA_ne (by decide) ?_ | refine rA_f ?_)) (nT (by omega)) (by omega) ?_
                    refine g_aload_n (i := 0) dX8_readLine_248 rfl rfl ?_
                    refine g_iload_n (i := 3) dX8_readLine_249 rfl rfl ?_
                    refine g_iconst (v := 1) dX8_readLine_250 (by decide) ?_
                    refine g_iadd dX8_readLine_251 ?_
                    rw [ni_inc]
                    refine g_put dX8_readLine_252 pl_X8_149 (by repeat' (first | assumption | exact rF_eq | refine rF_ne (by decide) ?_ | refine rF_a ?_ | exact rA_eq | refine rA_ne (by decide) ?_ | refine rA_f ?_)) (fun _ => ⟨rfl, rfl⟩) ?_
                    refine g_vret dX8_readLine_255 rfl (hQ _ _ ?_)
                    rw [tok_l he h1 h2 g1 h4 hnp hcc]
                    refine ⟨rfl, ⟨(upd A.1 t (nI (nl + 1)), upd A.2.1 t (nI (e - p)), upd A.2.2.1 t (nI ((catM M (d + 1)).length + 1)), sgL tp A.2.2.2.1 (1600 * t + 8 * nl) p (e - p), loL A.2.2.2.2 t (catM M (d + 1)).length nl), op, ot, upd ins d (nI ((M d).length + 1)), ⟨r1, r2, r3, rfl, r5, r6, r7, r8, r9, r10, r11, r12, r13, r14, b0, rfl, rfl, rfl, rfl, ?_, b6, b7, rfl⟩, invM_line hv (by omega) rfl (by omega) g1.1 hnp hcc, ot_line ho ht (by omega) hnl _ _ _ _⟩, fr_sF (by decide) (fr_sA (by decide) (fr_sA (by decide) (fr_sA (by decide) (fr_sA (by decide) (fr_sA (by decide) fr_rf)))))⟩
                    show _ = aI 200000 (loL A.2.2.2.2 t (catM M (d + 1)).length nl)
                    unfold loL
                    rw [if_neg hc1]
                    exact b5
                  · (try simp (disch := omega) only [nT, t_m1000100, t_m1000010, t_m1000003, t_m1000002, t_m1000001, t_m1000000, t_m65535, t_m1000, t_m3, t_m1, t_0, t_1, t_2, t_3, t_4, t_5, t_6, t_7, t_8, t_9, t_10, t_11, t_12, t_13, t_15, t_16, t_20, t_21, t_22, t_32, t_40, t_41, t_48, t_49, t_57, t_59, t_60, t_63, t_72, t_76, t_88, t_100, t_144, t_200, t_255, t_288, t_400, t_800, t_999, t_1000, t_1024, t_1200, t_1600, t_3200, t_100000, t_200000, t_252645135, t_858993459, t_1431655765, u_m1000002, u_m1000001, u_m1000, u_m3, u_m1, u_0, u_1, u_2, u_3, u_4, u_5, u_7, u_8, u_10, u_11, u_15, u_60, u_100, u_255, u_999, u_1000, u_100000, u_4294967295] at hc204); omega
                · (try simp (disch := omega) only [nT, t_m1000100, t_m1000010, t_m1000003, t_m1000002, t_m1000001, t_m1000000, t_m65535, t_m1000, t_m3, t_m1, t_0, t_1, t_2, t_3, t_4, t_5, t_6, t_7, t_8, t_9, t_10, t_11, t_12, t_13, t_15, t_16, t_20, t_21, t_22, t_32, t_40, t_41, t_48, t_49, t_57, t_59, t_60, t_63, t_72, t_76, t_88, t_100, t_144, t_200, t_255, t_288, t_400, t_800, t_999, t_1000, t_1024, t_1200, t_1600, t_3200, t_100000, t_200000, t_252645135, t_858993459, t_1431655765, u_m1000002, u_m1000001, u_m1000, u_m3, u_m1, u_0, u_1, u_2, u_3, u_4, u_5, u_7, u_8, u_10, u_11, u_15, u_60, u_100, u_255, u_999, u_1000, u_100000, u_4294967295] at hc149); omega
            | succ m ih =>
              intro k hk
              refine g_iload dX8_readLine_146 rfl ?_
              refine g_iload_n (i := 3) dX8_readLine_148 rfl rfl ?_
              refine g_icmp_ge (tgt := 186) dX8_readLine_149 (by decide) (fun hc149 => ?_) (fun hc149 => ?_)
              · (try simp (disch := omega) only [nT, t_m1000100, t_m1000010, t_m1000003, t_m1000002, t_m1000001, t_m1000000, t_m65535, t_m1000, t_m3, t_m1, t_0, t_1, t_2, t_3, t_4, t_5, t_6, t_7, t_8, t_9, t_10, t_11, t_12, t_13, t_15, t_16, t_20, t_21, t_22, t_32, t_40, t_41, t_48, t_49, t_57, t_59, t_60, t_63, t_72, t_76, t_88, t_100, t_144, t_200, t_255, t_288, t_400, t_800, t_999, t_1000, t_1024, t_1200, t_1600, t_3200, t_100000, t_200000, t_252645135, t_858993459, t_1431655765, u_m1000002, u_m1000001, u_m1000, u_m3, u_m1, u_0, u_1, u_2, u_3, u_4, u_5, u_7, u_8, u_10, u_11, u_15, u_60, u_100, u_255, u_999, u_1000, u_100000, u_4294967295] at hc149); omega
              · (try simp (disch := omega) only [nT, t_m1000100, t_m1000010, t_m1000003, t_m1000002, t_m1000001, t_m1000000, t_m65535, t_m1000, t_m3, t_m1, t_0, t_1, t_2, t_3, t_4, t_5, t_6, t_7, t_8, t_9, t_10, t_11, t_12, t_13, t_15, t_16, t_20, t_21, t_22, t_32, t_40, t_41, t_48, t_49, t_57, t_59, t_60, t_63, t_72, t_76, t_88, t_100, t_144, t_200, t_255, t_288, t_400, t_800, t_999, t_1000, t_1024, t_1200, t_1600, t_3200, t_100000, t_200000, t_252645135, t_858993459, t_1431655765, u_m1000002, u_m1000001, u_m1000, u_m3, u_m1, u_0, u_1, u_2, u_3, u_4, u_5, u_7, u_8, u_10, u_11, u_15, u_60, u_100, u_255, u_999, u_1000, u_100000, u_4294967295] at hc149)
                refine g_aload_n (i := 0) dX8_readLine_152 rfl rfl ?_
                refine g_get dX8_readLine_153 fl_X8_31 (by repeat' (first | assumption | exact rF_eq | refine rF_ne (by decide) ?_ | refine rF_a ?_ | exact rA_eq | refine rA_ne (by decide) ?_ | refine rA_f ?_)) (by repeat' (first | assumption | exact rF_eq | refine rF_ne (by decide) ?_ | refine rF_a ?_ | exact rA_eq | refine rA_ne (by decide) ?_ | refine rA_f ?_)) ?_
                refine g_sipush (v := 1600) dX8_readLine_156 (by decide) ?_
                refine g_iload_n (i := 1) dX8_readLine_159 rfl rfl ?_
                refine g_imul dX8_readLine_160 ?_
                refine g_bipush (v := 8) dX8_readLine_161 (by decide) ?_
                refine g_iload dX8_readLine_163 rfl ?_
                refine g_imul dX8_readLine_165 ?_
                refine g_iadd dX8_readLine_166 ?_
                refine g_iload dX8_readLine_167 rfl ?_
                refine g_iadd dX8_readLine_169 ?_
                refine g_iload_n (i := 2) dX8_readLine_170 rfl rfl ?_
                refine g_isub dX8_readLine_171 ?_
                rw [ix_sg]
                refine g_aload_n (i := 0) dX8_readLine_172 rfl rfl ?_
                refine g_get dX8_readLine_173 fl_X8_19 (by repeat' (first | assumption | exact rF_eq | refine rF_ne (by decide) ?_ | refine rF_a ?_ | exact rA_eq | refine rA_ne (by decide) ?_ | refine rA_f ?_)) (by repeat' (first | assumption | exact rF_eq | refine rF_ne (by decide) ?_ | refine rF_a ?_ | exact rA_eq | refine rA_ne (by decide) ?_ | refine rA_f ?_)) ?_
                refine g_iload dX8_readLine_176 rfl ?_
                refine g_iald dX8_readLine_178 (by repeat' (first | assumption | exact rF_eq | refine rF_ne (by decide) ?_ | refine rF_a ?_ | exact rA_eq | refine rA_ne (by decide) ?_ | refine rA_f ?_)) (nT (by omega)) (by omega) ?_
                refine g_iast dX8_readLine_179 (by repeat' (first | assumption | exact rF_eq | refine rF_ne (by decide) ?_ | refine rF_a ?_ | exact rA_eq | refine rA_ne (by decide) ?_ | refine rA_f ?_)) (nT (by omega)) (by omega) ?_
                refine g_iinc dX8_readLine_180 rfl (Nat.le_of_ble_eq_true rfl) rfl ?_
                refine g_goto (tgt := 146) dX8_readLine_183 (by decide) ?_
                rw [sA_sA, sgL_s, ni_incO, Nat.add_assoc]
                exact ih (k + 1) (by omega)
          refine g_aload_n (i := 0) dX8_readLine_135 rfl rfl ?_
          refine g_get dX8_readLine_136 fl_X8_22 (by repeat' (first | assumption | exact rF_eq | refine rF_ne (by decide) ?_ | refine rF_a ?_ | exact rA_eq | refine rA_ne (by decide) ?_ | refine rA_f ?_)) (by repeat' (first | assumption | exact rF_eq | refine rF_ne (by decide) ?_ | refine rF_a ?_ | exact rA_eq | refine rA_ne (by decide) ?_ | refine rA_f ?_)) ?_
          refine g_iload_n (i := 1) dX8_readLine_139 rfl rfl ?_
          refine g_iald dX8_readLine_140 (by repeat' (first | assumption | exact rF_eq | refine rF_ne (by decide) ?_ | refine rF_a ?_ | exact rA_eq | refine rA_ne (by decide) ?_ | refine rA_f ?_)) (nT (by omega)) (by omega) ?_
          rw [k1]
          refine g_istore dX8_readLine_141 (Nat.le_of_ble_eq_true rfl) rfl ?_
          refine g_iload_n (i := 2) dX8_readLine_143 rfl rfl ?_
          refine g_istore dX8_readLine_144 (Nat.le_of_ble_eq_true rfl) rfl ?_
          have k0 := key2 (e - p) 0 (by omega)
          rw [sgL_0, sA_self (show gA (sA h 50 _) 52 = _ from b4), Nat.add_zero] at k0
          exact k0
        · have hd125 := i_eq.mp hc125; (try simp (disch := omega) only [nT, t_m1000100, t_m1000010, t_m1000003, t_m1000002, t_m1000001, t_m1000000, t_m65535, t_m1000, t_m3, t_m1, t_0, t_1, t_2, t_3, t_4, t_5, t_6, t_7, t_8, t_9, t_10, t_11, t_12, t_13, t_15, t_16, t_20, t_21, t_22, t_32, t_40, t_41, t_48, t_49, t_57, t_59, t_60, t_63, t_72, t_76, t_88, t_100, t_144, t_200, t_255, t_288, t_400, t_800, t_999, t_1000, t_1024, t_1200, t_1600, t_3200, t_100000, t_200000, t_252645135, t_858993459, t_1431655765, u_m1000002, u_m1000001, u_m1000, u_m3, u_m1, u_0, u_1, u_2, u_3, u_4, u_5, u_7, u_8, u_10, u_11, u_15, u_60, u_100, u_255, u_999, u_1000, u_100000, u_4294967295] at hd125)
          refine g_aload_n (i := 0) dX8_readLine_128 rfl rfl ?_
          refine g_iconst (v := 4) dX8_readLine_129 (by decide) ?_
          refine g_iload_n (i := 2) dX8_readLine_130 rfl rfl ?_
          refine g_callV (M' := mX8_bad) dX8_readLine_131 lc_X8_bad ml_X8_158 (c_bad (h := sA h 50 (aI 2 (upd A.2.1 t (nI (e - p))))) r1 r5 4 (nI p)) rfl rfl (by repeat' (first | assumption | exact rF_eq | refine rF_ne (by decide) ?_ | refine rF_a ?_ | exact rA_eq | refine rA_ne (by decide) ?_ | refine rA_f ?_)) rfl ⟨Nat.le_of_ble_eq_true rfl, Nat.le_of_ble_eq_true rfl, Nat.le_of_ble_eq_true rfl, Nat.le_of_ble_eq_true rfl⟩ (Nat.le_of_ble_eq_true rfl) ?_
          intro r_ h_ q_; obtain ⟨q1_, q2_⟩ := q_; have q2_ := q2_.symm; subst q1_; subst q2_
          refine g_vret dX8_readLine_134 rfl (hQ _ _ ?_)
          rw [tok_l4 he h1 h2 g1 h4 (fun q => by first | omega | exact q.2 (by have := hd95; omega)) (by omega)]
          exact ⟨rfl, pn_bad (rm_50 hr _) v2 (ot_pins ht ho _) 4 p (by omega) (by omega) (by omega), fr_sF (by decide) (fr_sF (by decide) (fr_sA (by decide) fr_rf))⟩
      · (try simp (disch := omega) only [nT, t_m1000100, t_m1000010, t_m1000003, t_m1000002, t_m1000001, t_m1000000, t_m65535, t_m1000, t_m3, t_m1, t_0, t_1, t_2, t_3, t_4, t_5, t_6, t_7, t_8, t_9, t_10, t_11, t_12, t_13, t_15, t_16, t_20, t_21, t_22, t_32, t_40, t_41, t_48, t_49, t_57, t_59, t_60, t_63, t_72, t_76, t_88, t_100, t_144, t_200, t_255, t_288, t_400, t_800, t_999, t_1000, t_1024, t_1200, t_1600, t_3200, t_100000, t_200000, t_252645135, t_858993459, t_1431655765, u_m1000002, u_m1000001, u_m1000, u_m3, u_m1, u_0, u_1, u_2, u_3, u_4, u_5, u_7, u_8, u_10, u_11, u_15, u_60, u_100, u_255, u_999, u_1000, u_100000, u_4294967295] at hc83)
        refine g_iload_n (i := 3) dX8_readLine_86 rfl rfl ?_
        refine g_iload_n (i := 2) dX8_readLine_87 rfl rfl ?_
        refine g_isub dX8_readLine_88 ?_
        rw [n_sub hpe]
        refine g_aload_n (i := 0) dX8_readLine_89 rfl rfl ?_
        refine g_get dX8_readLine_90 fl_X8_25 (by repeat' (first | assumption | exact rF_eq | refine rF_ne (by decide) ?_ | refine rF_a ?_ | exact rA_eq | refine rA_ne (by decide) ?_ | refine rA_f ?_)) (by repeat' (first | assumption | exact rF_eq | refine rF_ne (by decide) ?_ | refine rF_a ?_ | exact rA_eq | refine rA_ne (by decide) ?_ | refine rA_f ?_)) ?_
        refine g_iload_n (i := 1) dX8_readLine_93 rfl rfl ?_
        refine g_iald dX8_readLine_94 (by repeat' (first | assumption | exact rF_eq | refine rF_ne (by decide) ?_ | refine rF_a ?_ | exact rA_eq | refine rA_ne (by decide) ?_ | refine rA_f ?_)) (nT (by omega)) (by omega) ?_
        rw [k2]
        refine g_icmp_eq (tgt := 105) dX8_readLine_95 (by decide) (fun hc95 => ?_) (fun hc95 => ?_)
        · have hd95 := i_eq.mp hc95; (try simp (disch := omega) only [nT, t_m1000100, t_m1000010, t_m1000003, t_m1000002, t_m1000001, t_m1000000, t_m65535, t_m1000, t_m3, t_m1, t_0, t_1, t_2, t_3, t_4, t_5, t_6, t_7, t_8, t_9, t_10, t_11, t_12, t_13, t_15, t_16, t_20, t_21, t_22, t_32, t_40, t_41, t_48, t_49, t_57, t_59, t_60, t_63, t_72, t_76, t_88, t_100, t_144, t_200, t_255, t_288, t_400, t_800, t_999, t_1000, t_1024, t_1200, t_1600, t_3200, t_100000, t_200000, t_252645135, t_858993459, t_1431655765, u_m1000002, u_m1000001, u_m1000, u_m3, u_m1, u_0, u_1, u_2, u_3, u_4, u_5, u_7, u_8, u_10, u_11, u_15, u_60, u_100, u_255, u_999, u_1000, u_100000, u_4294967295] at hd95)
          refine g_aload_n (i := 0) dX8_readLine_105 rfl rfl ?_
          refine g_get dX8_readLine_106 fl_X8_25 (by repeat' (first | assumption | exact rF_eq | refine rF_ne (by decide) ?_ | refine rF_a ?_ | exact rA_eq | refine rA_ne (by decide) ?_ | refine rA_f ?_)) (by repeat' (first | assumption | exact rF_eq | refine rF_ne (by decide) ?_ | refine rF_a ?_ | exact rA_eq | refine rA_ne (by decide) ?_ | refine rA_f ?_)) ?_
          refine g_iload_n (i := 1) dX8_readLine_109 rfl rfl ?_
          refine g_iload_n (i := 3) dX8_readLine_110 rfl rfl ?_
          refine g_iload_n (i := 2) dX8_readLine_111 rfl rfl ?_
          refine g_isub dX8_readLine_112 ?_
          rw [n_sub hpe]
          refine g_iast dX8_readLine_113 (by repeat' (first | assumption | exact rF_eq | refine rF_ne (by decide) ?_ | refine rF_a ?_ | exact rA_eq | refine rA_ne (by decide) ?_ | refine rA_f ?_)) (nT (by omega)) (by omega) ?_
          refine g_aload_n (i := 0) dX8_readLine_114 rfl rfl ?_
          refine g_get dX8_readLine_115 fl_X8_44 (by repeat' (first | assumption | exact rF_eq | refine rF_ne (by decide) ?_ | refine rF_a ?_ | exact rA_eq | refine rA_ne (by decide) ?_ | refine rA_f ?_)) (by repeat' (first | assumption | exact rF_eq | refine rF_ne (by decide) ?_ | refine rF_a ?_ | exact rA_eq | refine rA_ne (by decide) ?_ | refine rA_f ?_)) ?_
          refine g_aload_n (i := 0) dX8_readLine_118 rfl rfl ?_
          refine g_get dX8_readLine_119 fl_X8_162 (by repeat' (first | assumption | exact rF_eq | refine rF_ne (by decide) ?_ | refine rF_a ?_ | exact rA_eq | refine rA_ne (by decide) ?_ | refine rA_f ?_)) (by repeat' (first | assumption | exact rF_eq | refine rF_ne (by decide) ?_ | refine rF_a ?_ | exact rA_eq | refine rA_ne (by decide) ?_ | refine rA_f ?_)) ?_
          refine g_iald dX8_readLine_122 (by repeat' (first | assumption | exact rF_eq | refine rF_ne (by decide) ?_ | refine rF_a ?_ | exact rA_eq | refine rA_ne (by decide) ?_ | refine rA_f ?_)) (nT (by omega)) (by omega) ?_
          rw [i1]
          refine g_ldc dX8_readLine_123 kc_X8_165 ?_
          refine g_icmp_ne (tgt := 135) dX8_readLine_125 (by decide) (fun hc125 => ?_) (fun hc125 => ?_)
          · have hd125 := mt i_eq.mpr hc125; (try simp (disch := omega) only [nT, t_m1000100, t_m1000010, t_m1000003, t_m1000002, t_m1000001, t_m1000000, t_m65535, t_m1000, t_m3, t_m1, t_0, t_1, t_2, t_3, t_4, t_5, t_6, t_7, t_8, t_9, t_10, t_11, t_12, t_13, t_15, t_16, t_20, t_21, t_22, t_32, t_40, t_41, t_48, t_49, t_57, t_59, t_60, t_63, t_72, t_76, t_88, t_100, t_144, t_200, t_255, t_288, t_400, t_800, t_999, t_1000, t_1024, t_1200, t_1600, t_3200, t_100000, t_200000, t_252645135, t_858993459, t_1431655765, u_m1000002, u_m1000001, u_m1000, u_m3, u_m1, u_0, u_1, u_2, u_3, u_4, u_5, u_7, u_8, u_10, u_11, u_15, u_60, u_100, u_255, u_999, u_1000, u_100000, u_4294967295] at hd125)
            have hnp : ¬ (0 < nl ∧ e - p ≠ pn) := fun q => by first | omega | exact q.2 (by have := hd95; omega)
            have hcc : ¬ 100000 < (M d).length + 1 := by omega
            have hnl : nl < 200 := by omega
            have key2 : ∀ m k : Nat, k + m = e - p → GG (EM mX8_readLine 1 0 0 Q') 0 0 146 [.ref 44, .int (nI t), .int (nI p), .int (nI e), .int (bI (G = true)), .int (nI nl), .int (nI (p + k))] [] (sA (sA h 50 (aI 2 (upd A.2.1 t (nI (e - p))))) 52 (aI 3200 (sgL tp A.2.2.2.1 (1600 * t + 8 * nl) p k))) := by
              intro m
              induction m with
              | zero =>
                intro k hk
                obtain rfl : k = e - p := by omega
                by_cases hc1 : (catM M (d + 1)).length < 100000
                · refine g_iload dX8_readLine_146 rfl ?_
                  refine g_iload_n (i := 3) dX8_readLine_148 rfl rfl ?_
                  refine g_icmp_ge (tgt := 186) dX8_readLine_149 (by decide) (fun hc149 => ?_) (fun hc149 => ?_)
                  · (try simp (disch := omega) only [nT, t_m1000100, t_m1000010, t_m1000003, t_m1000002, t_m1000001, t_m1000000, t_m65535, t_m1000, t_m3, t_m1, t_0, t_1, t_2, t_3, t_4, t_5, t_6, t_7, t_8, t_9, t_10, t_11, t_12, t_13, t_15, t_16, t_20, t_21, t_22, t_32, t_40, t_41, t_48, t_49, t_57, t_59, t_60, t_63, t_72, t_76, t_88, t_100, t_144, t_200, t_255, t_288, t_400, t_800, t_999, t_1000, t_1024, t_1200, t_1600, t_3200, t_100000, t_200000, t_252645135, t_858993459, t_1431655765, u_m1000002, u_m1000001, u_m1000, u_m3, u_m1, u_0, u_1, u_2, u_3, u_4, u_5, u_7, u_8, u_10, u_11, u_15, u_60, u_100, u_255, u_999, u_1000, u_100000, u_4294967295] at hc149)
                    refine g_aload_n (i := 0) dX8_readLine_186 rfl rfl ?_
                    refine g_get dX8_readLine_187 fl_X8_22 (by repeat' (first | assumption | exact rF_eq | refine rF_ne (by decide) ?_ | refine rF_a ?_ | exact rA_eq | refine rA_ne (by decide) ?_ | refine rA_f ?_)) (by repeat' (first | assumption | exact rF_eq | refine rF_ne (by decide) ?_ | refine rF_a ?_ | exact rA_eq | refine rA_ne (by decide) ?_ | refine rA_f ?_)) ?_
                    refine g_iload_n (i := 1) dX8_readLine_190 rfl rfl ?_
                    refine g_dup2 dX8_readLine_191 rfl rfl ?_
                    refine g_iald dX8_readLine_192 (by repeat' (first | assumption | exact rF_eq | refine rF_ne (by decide) ?_ | refine rF_a ?_ | exact rA_eq | refine rA_ne (by decide) ?_ | refine rA_f ?_)) (nT (by omega)) (by omega) ?_
                    rw [k1]
                    refine g_iconst (v := 1) dX8_readLine_193 (by decide) ?_
                    refine g_iadd dX8_readLine_194 ?_
                    rw [ni_inc]
                    refine g_iast dX8_readLine_195 (by repeat' (first | assumption | exact rF_eq | refine rF_ne (by decide) ?_ | refine rF_a ?_ | exact rA_eq | refine rA_ne (by decide) ?_ | refine rA_f ?_)) (nT (by omega)) (by omega) ?_
                    refine g_aload_n (i := 0) dX8_readLine_196 rfl rfl ?_
                    refine g_get dX8_readLine_197 fl_X8_28 (by repeat' (first | assumption | exact rF_eq | refine rF_ne (by decide) ?_ | refine rF_a ?_ | exact rA_eq | refine rA_ne (by decide) ?_ | refine rA_f ?_)) (by repeat' (first | assumption | exact rF_eq | refine rF_ne (by decide) ?_ | refine rF_a ?_ | exact rA_eq | refine rA_ne (by decide) ?_ | refine rA_f ?_)) ?_
                    refine g_iload_n (i := 1) dX8_readLine_200 rfl rfl ?_
                    refine g_iald dX8_readLine_201 (by repeat' (first | assumption | exact rF_eq | refine rF_ne (by decide) ?_ | refine rF_a ?_ | exact rA_eq | refine rA_ne (by decide) ?_ | refine rA_f ?_)) (nT (by omega)) (by omega) ?_
                    rw [k3]
                    refine g_ldc dX8_readLine_202 kc_X8_165 ?_
                    refine g_icmp_ge (tgt := 225) dX8_readLine_204 (by decide) (fun hc204 => ?_) (fun hc204 => ?_)
                    · (try simp (disch := omega) only [nT, t_m1000100, t_m1000010, t_m1000003, t_m1000002, t_m1000001, t_m1000000, t_m65535, t_m1000, t_m3, t_m1, t_0, t_1, t_2, t_3, t_4, t_5, t_6, t_7, t_8, t_9, t_10, t_11, t_12, t_13, t_15, t_16, t_20, t_21, t_22, t_32, t_40, t_41, t_48, t_49, t_57, t_59, t_60, t_63, t_72, t_76, t_88, t_100, t_144, t_200, t_255, t_288, t_400, t_800, t_999, t_1000, t_1024, t_1200, t_1600, t_3200, t_100000, t_200000, t_252645135, t_858993459, t_1431655765, u_m1000002, u_m1000001, u_m1000, u_m3, u_m1, u_0, u_1, u_2, u_3, u_4, u_5, u_7, u_8, u_10, u_11, u_15, u_60, u_100, u_255, u_999, u_1000, u_100000, u_4294967295] at hc204); omega
                    · (try simp (disch := omega) only [nT, t_m1000100, t_m1000010, t_m1000003, t_m1000002, t_m1000001, t_m1000000, t_m65535, t_m1000, t_m3, t_m1, t_0, t_1, t_2, t_3, t_4, t_5, t_6, t_7, t_8, t_9, t_10, t_11, t_12, t_13, t_15, t_16, t_20, t_21, t_22, t_32, t_40, t_41, t_48, t_49, t_57, t_59, t_60, t_63, t_72, t_76, t_88, t_100, t_144, t_200, t_255, t_288, t_400, t_800, t_999, t_1000, t_1024, t_1200, t_1600, t_3200, t_100000, t_200000, t_252645135, t_858993459, t_1431655765, u_m1000002, u_m1000001, u_m1000, u_m3, u_m1, u_0, u_1, u_2, u_3, u_4, u_5, u_7, u_8, u_10, u_11, u_15, u_60, u_100, u_255, u_999, u_1000, u_100000, u_4294967295] at hc204)
                      refine g_aload_n (i := 0) dX8_readLine_207 rfl rfl ?_
                      refine g_get dX8_readLine_208 fl_X8_35 (by repeat' (first | assumption | exact rF_eq | refine rF_ne (by decide) ?_ | refine rF_a ?_ | exact rA_eq | refine rA_ne (by decide) ?_ | refine rA_f ?_)) (by repeat' (first | assumption | exact rF_eq | refine rF_ne (by decide) ?_ | refine rF_a ?_ | exact rA_eq | refine rA_ne (by decide) ?_ | refine rA_f ?_)) ?_
                      refine g_ldc dX8_readLine_211 kc_X8_165 ?_
                      refine g_iload_n (i := 1) dX8_readLine_213 rfl rfl ?_
                      refine g_imul dX8_readLine_214 ?_
                      refine g_aload_n (i := 0) dX8_readLine_215 rfl rfl ?_
                      refine g_get dX8_readLine_216 fl_X8_28 (by repeat' (first | assumption | exact rF_eq | refine rF_ne (by decide) ?_ | refine rF_a ?_ | exact rA_eq | refine rA_ne (by decide) ?_ | refine rA_f ?_)) (by repeat' (first | assumption | exact rF_eq | refine rF_ne (by decide) ?_ | refine rF_a ?_ | exact rA_eq | refine rA_ne (by decide) ?_ | refine rA_f ?_)) ?_
                      refine g_iload_n (i := 1) dX8_readLine_219 rfl rfl ?_
                      refine g_iald dX8_readLine_220 (by repeat' (first | assumption | exact rF_eq | refine rF_ne (by decide) ?_ | refine rF_a ?_ | exact rA_eq | refine rA_ne (by decide) ?_ | refine rA_f ?_)) (nT (by omega)) (by omega) ?_
                      rw [k3]
                      refine g_iadd dX8_readLine_221 ?_
                      rw [ix_lo]
                      refine g_iload dX8_readLine_222 rfl ?_
                      refine g_iast dX8_readLine_224 (by repeat' (first | assumption | exact rF_eq | refine rF_ne (by decide) ?_ | refine rF_a ?_ | exact rA_eq | refine rA_ne (by decide) ?_ | refine rA_f ?_)) (nT (by omega)) (by omega) ?_
                      refine g_aload_n (i := 0) dX8_readLine_225 rfl rfl ?_
                      refine g_get dX8_readLine_226 fl_X8_28 (by repeat' (first | assumption | exact rF_eq | refine rF_ne (by decide) ?_ | refine rF_a ?_ | exact rA_eq | refine rA_ne (by decide) ?_ | refine rA_f ?_)) (by repeat' (first | assumption | exact rF_eq | refine rF_ne (by decide) ?_ | refine rF_a ?_ | exact rA_eq | refine rA_ne (by decide) ?_ | refine rA_f ?_)) ?_
                      refine g_iload_n (i := 1) dX8_readLine_229 rfl rfl ?_
                      refine g_dup2 dX8_readLine_230 rfl rfl ?_
                      refine g_iald dX8_readLine_231 (by repeat' (first | assumption | exact rF_eq | refine rF_ne (by decide) ?_ | refine rF_a ?_ | exact rA_eq | refine rA_ne (by decide) ?_ | refine rA_f ?_)) (nT (by omega)) (by omega) ?_
                      rw [k3]
                      refine g_iconst (v := 1) dX8_readLine_232 (by decide) ?_
                      refine g_iadd dX8_readLine_233 ?_
                      rw [ni_inc]
                      refine g_iast dX8_readLine_234 (by repeat' (first | assumption | exact rF_eq | refine rF_ne (by decide) ?_ | refine rF_a ?_ | exact rA_eq | refine rA_ne (by decide) ?_ | refine rA_f ?_)) (nT (by omega)) (by omega) ?_
                      refine g_aload_n (i := 0) dX8_readLine_235 rfl rfl ?_
                      refine g_get dX8_readLine_236 fl_X8_44 (by repeat' (first | assumption | exact rF_eq | refine rF_ne (by decide) ?_ | refine rF_a ?_ | exact rA_eq | refine rA_ne (by decide) ?_ | refine rA_f ?_)) (by repeat' (first | assumption | exact rF_eq | refine rF_ne (by decide) ?_ | refine rF_a ?_ | exact rA_eq | refine rA_ne (by decide) ?_ | refine rA_f ?_)) ?_
                      refine g_aload_n (i := 0) dX8_readLine_239 rfl rfl ?_
                      refine g_get dX8_readLine_240 fl_X8_162 (by repeat' (first | assumption | exact rF_eq | refine rF_ne (by decide) ?_ | refine rF_a ?_ | exact rA_eq | refine rA_ne (by decide) ?_ | refine rA_f ?_)) (by repeat' (first | assumption | exact rF_eq | refine rF_ne (by decide) ?_ | refine rF_a ?_ | exact rA_eq | refine rA_ne (by decide) ?_ | refine rA_f ?_)) ?_
                      refine g_dup2 dX8_readLine_243 rfl rfl ?_
                      refine g_iald dX8_readLine_244 (by repeat' (first | assumption | exact rF_eq | refine rF_ne (by decide) ?_ | refine rF_a ?_ | exact rA_eq | refine rA_ne (by decide) ?_ | refine rA_f ?_)) (nT (by omega)) (by omega) ?_
                      rw [i1]
                      refine g_iconst (v := 1) dX8_readLine_245 (by decide) ?_
                      refine g_iadd dX8_readLine_246 ?_
                      rw [ni_inc]
                      refine g_iast dX8_readLine_247 (by repeat' (first | assumption | exact rF_eq | refine rF_ne (by decide) ?_ | refine rF_a ?_ | exact rA_eq | refine rA_ne (by decide) ?_ | refine rA_f ?_)) (nT (by omega)) (by omega) ?_
                      refine g_aload_n (i := 0) dX8_readLine_248 rfl rfl ?_
                      refine g_iload_n (i := 3) dX8_readLine_249 rfl rfl ?_
                      refine g_iconst (v := 1) dX8_readLine_250 (by decide) ?_
                      refine g_iadd dX8_readLine_251 ?_
                      rw [ni_inc]
                      refine g_put dX8_readLine_252 pl_X8_149 (by repeat' (first | assumption | exact rF_eq | refine rF_ne (by decide) ?_ | refine rF_a ?_ | exact rA_eq | refine rA_ne (by decide) ?_ | refine rA_f ?_)) (fun _ => ⟨rfl, rfl⟩) ?_
                      refine g_vret dX8_readLine_255 rfl (hQ _ _ ?_)
                      rw [tok_l he h1 h2 g1 h4 hnp hcc]
                      refine ⟨rfl, ⟨(upd A.1 t (nI (nl + 1)), upd A.2.1 t (nI (e - p)), upd A.2.2.1 t (nI ((catM M (d + 1)).length + 1)), sgL tp A.2.2.2.1 (1600 * t + 8 * nl) p (e - p), loL A.2.2.2.2 t (catM M (d + 1)).length nl), op, ot, upd ins d (nI ((M d).length + 1)), ⟨r1, r2, r3, rfl, r5, r6, r7, r8, r9, r10, r11, r12, r13, r14, b0, rfl, rfl, rfl, rfl, ?_, b6, b7, rfl⟩, invM_line hv (by omega) rfl (by omega) g1.1 hnp hcc, ot_line ho ht (by omega) hnl _ _ _ _⟩, fr_sF (by decide) (fr_sA (by decide) (fr_sA (by decide) (fr_sA (by decide) (fr_sA (by decide) (fr_sA (by decide) (fr_sA (by decide) fr_rf))))))⟩
                      show _ = aI 200000 (loL A.2.2.2.2 t (catM M (d + 1)).length nl)
                      unfold loL
                      rw [if_pos hc1]
                      rfl
                  · (try simp (disch := omega) only [nT, t_m1000100, t_m1000010, t_m1000003, t_m1000002, t_m1000001, t_m1000000, t_m65535, t_m1000, t_m3, t_m1, t_0, t_1, t_2, t_3, t_4, t_5, t_6, t_7, t_8, t_9, t_10, t_11, t_12, t_13, t_15, t_16, t_20, t_21, t_22, t_32, t_40, t_41, t_48, t_49, t_57, t_59, t_60, t_63, t_72, t_76, t_88, t_100, t_144, t_200, t_255, t_288, t_400, t_800, t_999, t_1000, t_1024, t_1200, t_1600, t_3200, t_100000, t_200000, t_252645135, t_858993459, t_1431655765, u_m1000002, u_m1000001, u_m1000, u_m3, u_m1, u_0, u_1, u_2, u_3, u_4, u_5, u_7, u_8, u_10, u_11, u_15, u_60, u_100, u_255, u_999, u_1000, u_100000, u_4294967295] at hc149); omega
                · refine g_iload dX8_readLine_146 rfl ?_
                  refine g_iload_n (i := 3) dX8_readLine_148 rfl rfl ?_
                  refine g_icmp_ge (tgt := 186) dX8_readLine_149 (by decide) (fun hc149 => ?_) (fun hc149 => ?_)
                  · (try simp (disch := omega) only [nT, t_m1000100, t_m1000010, t_m1000003, t_m1000002, t_m1000001, t_m1000000, t_m65535, t_m1000, t_m3, t_m1, t_0, t_1, t_2, t_3, t_4, t_5, t_6, t_7, t_8, t_9, t_10, t_11, t_12, t_13, t_15, t_16, t_20, t_21, t_22, t_32, t_40, t_41, t_48, t_49, t_57, t_59, t_60, t_63, t_72, t_76, t_88, t_100, t_144, t_200, t_255, t_288, t_400, t_800, t_999, t_1000, t_1024, t_1200, t_1600, t_3200, t_100000, t_200000, t_252645135, t_858993459, t_1431655765, u_m1000002, u_m1000001, u_m1000, u_m3, u_m1, u_0, u_1, u_2, u_3, u_4, u_5, u_7, u_8, u_10, u_11, u_15, u_60, u_100, u_255, u_999, u_1000, u_100000, u_4294967295] at hc149)
                    refine g_aload_n (i := 0) dX8_readLine_186 rfl rfl ?_
                    refine g_get dX8_readLine_187 fl_X8_22 (by repeat' (first | assumption | exact rF_eq | refine rF_ne (by decide) ?_ | refine rF_a ?_ | exact rA_eq | refine rA_ne (by decide) ?_ | refine rA_f ?_)) (by repeat' (first | assumption | exact rF_eq | refine rF_ne (by decide) ?_ | refine rF_a ?_ | exact rA_eq | refine rA_ne (by decide) ?_ | refine rA_f ?_)) ?_
                    refine g_iload_n (i := 1) dX8_readLine_190 rfl rfl ?_
                    refine g_dup2 dX8_readLine_191 rfl rfl ?_
                    refine g_iald dX8_readLine_192 (by repeat' (first | assumption | exact rF_eq | refine rF_ne (by decide) ?_ | refine rF_a ?_ | exact rA_eq | refine rA_ne (by decide) ?_ | refine rA_f ?_)) (nT (by omega)) (by omega) ?_
                    rw [k1]
                    refine g_iconst (v := 1) dX8_readLine_193 (by decide) ?_
                    refine g_iadd dX8_readLine_194 ?_
                    rw [ni_inc]
                    refine g_iast dX8_readLine_195 (by repeat' (first | assumption | exact rF_eq | refine rF_ne (by decide) ?_ | refine rF_a ?_ | exact rA_eq | refine rA_ne (by decide) ?_ | refine rA_f ?_)) (nT (by omega)) (by omega) ?_
                    refine g_aload_n (i := 0) dX8_readLine_196 rfl rfl ?_
                    refine g_get dX8_readLine_197 fl_X8_28 (by repeat' (first | assumption | exact rF_eq | refine rF_ne (by decide) ?_ | refine rF_a ?_ | exact rA_eq | refine rA_ne (by decide) ?_ | refine rA_f ?_)) (by repeat' (first | assumption | exact rF_eq | refine rF_ne (by decide) ?_ | refine rF_a ?_ | exact rA_eq | refine rA_ne (by decide) ?_ | refine rA_f ?_)) ?_
                    refine g_iload_n (i := 1) dX8_readLine_200 rfl rfl ?_
                    refine g_iald dX8_readLine_201 (by repeat' (first | assumption | exact rF_eq | refine rF_ne (by decide) ?_ | refine rF_a ?_ | exact rA_eq | refine rA_ne (by decide) ?_ | refine rA_f ?_)) (nT (by omega)) (by omega) ?_
                    rw [k3]
                    refine g_ldc dX8_readLine_202 kc_X8_165 ?_
                    refine g_icmp_ge (tgt := 225) dX8_readLine_204 (by decide) (fun hc204 => ?_) (fun hc204 => ?_)
                    · (try simp (disch := omega) only [nT, t_m1000100, t_m1000010, t_m1000003, t_m1000002, t_m1000001, t_m1000000, t_m65535, t_m1000, t_m3, t_m1, t_0, t_1, t_2, t_3, t_4, t_5, t_6, t_7, t_8, t_9, t_10, t_11, t_12, t_13, t_15, t_16, t_20, t_21, t_22, t_32, t_40, t_41, t_48, t_49, t_57, t_59, t_60, t_63, t_72, t_76, t_88, t_100, t_144, t_200, t_255, t_288, t_400, t_800, t_999, t_1000, t_1024, t_1200, t_1600, t_3200, t_100000, t_200000, t_252645135, t_858993459, t_1431655765, u_m1000002, u_m1000001, u_m1000, u_m3, u_m1, u_0, u_1, u_2, u_3, u_4, u_5, u_7, u_8, u_10, u_11, u_15, u_60, u_100, u_255, u_999, u_1000, u_100000, u_4294967295] at hc204)
                      refine g_aload_n (i := 0) dX8_readLine_225 rfl rfl ?_
                      refine g_get dX8_readLine_226 fl_X8_28 (by repeat' (first | assumption | exact rF_eq | refine rF_ne (by decide) ?_ | refine rF_a ?_ | exact rA_eq | refine rA_ne (by decide) ?_ | refine rA_f ?_)) (by repeat' (first | assumption | exact rF_eq | refine rF_ne (by decide) ?_ | refine rF_a ?_ | exact rA_eq | refine rA_ne (by decide) ?_ | refine rA_f ?_)) ?_
                      refine g_iload_n (i := 1) dX8_readLine_229 rfl rfl ?_
                      refine g_dup2 dX8_readLine_230 rfl rfl ?_
                      refine g_iald dX8_readLine_231 (by repeat' (first | assumption | exact rF_eq | refine rF_ne (by decide) ?_ | refine rF_a ?_ | exact rA_eq | refine rA_ne (by decide) ?_ | refine rA_f ?_)) (nT (by omega)) (by omega) ?_
                      rw [k3]
                      refine g_iconst (v := 1) dX8_readLine_232 (by decide) ?_
                      refine g_iadd dX8_readLine_233 ?_
                      rw [ni_inc]
                      refine g_iast dX8_readLine_234 (by repeat' (first | assumption | exact rF_eq | refine rF_ne (by decide) ?_ | refine rF_a ?_ | exact rA_eq | refine rA_ne (by decide) ?_ | refine rA_f ?_)) (nT (by omega)) (by omega) ?_
                      refine g_aload_n (i := 0) dX8_readLine_235 rfl rfl ?_
                      refine g_get dX8_readLine_236 fl_X8_44 (by repeat' (first | assumption | exact rF_eq | refine rF_ne (by decide) ?_ | refine rF_a ?_ | exact rA_eq | refine rA_ne (by decide) ?_ | refine rA_f ?_)) (by repeat' (first | assumption | exact rF_eq | refine rF_ne (by decide) ?_ | refine rF_a ?_ | exact rA_eq | refine rA_ne (by decide) ?_ | refine rA_f ?_)) ?_
                      refine g_aload_n (i := 0) dX8_readLine_239 rfl rfl ?_
                      refine g_get dX8_readLine_240 fl_X8_162 (by repeat' (first | assumption | exact rF_eq | refine rF_ne (by decide) ?_ | refine rF_a ?_ | exact rA_eq | refine rA_ne (by decide) ?_ | refine rA_f ?_)) (by repeat' (first | assumption | exact rF_eq | refine rF_ne (by decide) ?_ | refine rF_a ?_ | exact rA_eq | refine rA_ne (by decide) ?_ | refine rA_f ?_)) ?_
                      refine g_dup2 dX8_readLine_243 rfl rfl ?_
                      refine g_iald dX8_readLine_244 (by repeat' (first | assumption | exact rF_eq | refine rF_ne (by decide) ?_ | refine rF_a ?_ | exact rA_eq | refine rA_ne (by decide) ?_ | refine rA_f ?_)) (nT (by omega)) (by omega) ?_
                      rw [i1]
                      refine g_iconst (v := 1) dX8_readLine_245 (by decide) ?_
                      refine g_iadd dX8_readLine_246 ?_
                      rw [ni_inc]
                      refine g_iast dX8_readLine_247 (by repeat' (first | assumption | exact rF_eq | refine rF_ne (by decide) ?_ | refine rF_a ?_ | exact rA_eq | refine rA_ne (by decide) ?_ | refine rA_f ?_)) (nT (by omega)) (by omega) ?_
                      refine g_aload_n (i := 0) dX8_readLine_248 rfl rfl ?_
                      refine g_iload_n (i := 3) dX8_readLine_249 rfl rfl ?_
                      refine g_iconst (v := 1) dX8_readLine_250 (by decide) ?_
                      refine g_iadd dX8_readLine_251 ?_
                      rw [ni_inc]
                      refine g_put dX8_readLine_252 pl_X8_149 (by repeat' (first | assumption | exact rF_eq | refine rF_ne (by decide) ?_ | refine rF_a ?_ | exact rA_eq | refine rA_ne (by decide) ?_ | refine rA_f ?_)) (fun _ => ⟨rfl, rfl⟩) ?_
                      refine g_vret dX8_readLine_255 rfl (hQ _ _ ?_)
                      rw [tok_l he h1 h2 g1 h4 hnp hcc]
                      refine ⟨rfl, ⟨(upd A.1 t (nI (nl + 1)), upd A.2.1 t (nI (e - p)), upd A.2.2.1 t (nI ((catM M (d + 1)).length + 1)), sgL tp A.2.2.2.1 (1600 * t + 8 * nl) p (e - p), loL A.2.2.2.2 t (catM M (d + 1)).length nl), op, ot, upd ins d (nI ((M d).length + 1)), ⟨r1, r2, r3, rfl, r5, r6, r7, r8, r9, r10, r11, r12, r13, r14, b0, rfl, rfl, rfl, rfl, ?_, b6, b7, rfl⟩, invM_line hv (by omega) rfl (by omega) g1.1 hnp hcc, ot_line ho ht (by omega) hnl _ _ _ _⟩, fr_sF (by decide) (fr_sA (by decide) (fr_sA (by decide) (fr_sA (by decide) (fr_sA (by decide) (fr_sA (by decide) fr_rf)))))⟩
                      show _ = aI 200000 (loL A.2.2.2.2 t (catM M (d + 1)).length nl)
                      unfold loL
                      rw [if_neg hc1]
                      exact b5
                    · (try simp (disch := omega) only [nT, t_m1000100, t_m1000010, t_m1000003, t_m1000002, t_m1000001, t_m1000000, t_m65535, t_m1000, t_m3, t_m1, t_0, t_1, t_2, t_3, t_4, t_5, t_6, t_7, t_8, t_9, t_10, t_11, t_12, t_13, t_15, t_16, t_20, t_21, t_22, t_32, t_40, t_41, t_48, t_49, t_57, t_59, t_60, t_63, t_72, t_76, t_88, t_100, t_144, t_200, t_255, t_288, t_400, t_800, t_999, t_1000, t_1024, t_1200, t_1600, t_3200, t_100000, t_200000, t_252645135, t_858993459, t_1431655765, u_m1000002, u_m1000001, u_m1000, u_m3, u_m1, u_0, u_1, u_2, u_3, u_4, u_5, u_7, u_8, u_10, u_11, u_15, u_60, u_100, u_255, u_999, u_1000, u_100000, u_4294967295] at hc204); omega
                  · (try simp (disch := omega) only [nT, t_m1000100, t_m1000010, t_m1000003, t_m1000002, t_m1000001, t_m1000000, t_m65535, t_m1000, t_m3, t_m1, t_0, t_1, t_2, t_3, t_4, t_5, t_6, t_7, t_8, t_9, t_10, t_11, t_12, t_13, t_15, t_16, t_20, t_21, t_22, t_32, t_40, t_41, t_48, t_49, t_57, t_59, t_60, t_63, t_72, t_76, t_88, t_100, t_144, t_200, t_255, t_288, t_400, t_800, t_999, t_1000, t_1024, t_1200, t_1600, t_3200, t_100000, t_200000, t_252645135, t_858993459, t_1431655765, u_m1000002, u_m1000001, u_m1000, u_m3, u_m1, u_0, u_1, u_2, u_3, u_4, u_5, u_7, u_8, u_10, u_11, u_15, u_60, u_100, u_255, u_999, u_1000, u_100000, u_4294967295] at hc149); omega
              | succ m ih =>
                intro k hk
                refine g_iload dX8_readLine_146 rfl ?_
                refine g_iload_n (i := 3) dX8_readLine_148 rfl rfl ?_
                refine g_icmp_ge (tgt := 186) dX8_readLine_149 (by decide) (fun hc149 => ?_) (fun hc149 => ?_)
                · (try simp (disch := omega) only [nT, t_m1000100, t_m1000010, t_m1000003, t_m1000002, t_m1000001, t_m1000000, t_m65535, t_m1000, t_m3, t_m1, t_0, t_1, t_2, t_3, t_4, t_5, t_6, t_7, t_8, t_9, t_10, t_11, t_12, t_13, t_15, t_16, t_20, t_21, t_22, t_32, t_40, t_41, t_48, t_49, t_57, t_59, t_60, t_63, t_72, t_76, t_88, t_100, t_144, t_200, t_255, t_288, t_400, t_800, t_999, t_1000, t_1024, t_1200, t_1600, t_3200, t_100000, t_200000, t_252645135, t_858993459, t_1431655765, u_m1000002, u_m1000001, u_m1000, u_m3, u_m1, u_0, u_1, u_2, u_3, u_4, u_5, u_7, u_8, u_10, u_11, u_15, u_60, u_100, u_255, u_999, u_1000, u_100000, u_4294967295] at hc149); omega
                · (try simp (disch := omega) only [nT, t_m1000100, t_m1000010, t_m1000003, t_m1000002, t_m1000001, t_m1000000, t_m65535, t_m1000, t_m3, t_m1, t_0, t_1, t_2, t_3, t_4, t_5, t_6, t_7, t_8, t_9, t_10, t_11, t_12, t_13, t_15, t_16, t_20, t_21, t_22, t_32, t_40, t_41, t_48, t_49, t_57, t_59, t_60, t_63, t_72, t_76, t_88, t_100, t_144, t_200, t_255, t_288, t_400, t_800, t_999, t_1000, t_1024, t_1200, t_1600, t_3200, t_100000, t_200000, t_252645135, t_858993459, t_1431655765, u_m1000002, u_m1000001, u_m1000, u_m3, u_m1, u_0, u_1, u_2, u_3, u_4, u_5, u_7, u_8, u_10, u_11, u_15, u_60, u_100, u_255, u_999, u_1000, u_100000, u_4294967295] at hc149)
                  refine g_aload_n (i := 0) dX8_readLine_152 rfl rfl ?_
                  refine g_get dX8_readLine_153 fl_X8_31 (by repeat' (first | assumption | exact rF_eq | refine rF_ne (by decide) ?_ | refine rF_a ?_ | exact rA_eq | refine rA_ne (by decide) ?_ | refine rA_f ?_)) (by repeat' (first | assumption | exact rF_eq | refine rF_ne (by decide) ?_ | refine rF_a ?_ | exact rA_eq | refine rA_ne (by decide) ?_ | refine rA_f ?_)) ?_
                  refine g_sipush (v := 1600) dX8_readLine_156 (by decide) ?_
                  refine g_iload_n (i := 1) dX8_readLine_159 rfl rfl ?_
                  refine g_imul dX8_readLine_160 ?_
                  refine g_bipush (v := 8) dX8_readLine_161 (by decide) ?_
                  refine g_iload dX8_readLine_163 rfl ?_
                  refine g_imul dX8_readLine_165 ?_
                  refine g_iadd dX8_readLine_166 ?_
                  refine g_iload dX8_readLine_167 rfl ?_
                  refine g_iadd dX8_readLine_169 ?_
                  refine g_iload_n (i := 2) dX8_readLine_170 rfl rfl ?_
                  refine g_isub dX8_readLine_171 ?_
                  rw [ix_sg]
                  refine g_aload_n (i := 0) dX8_readLine_172 rfl rfl ?_
                  refine g_get dX8_readLine_173 fl_X8_19 (by repeat' (first | assumption | exact rF_eq | refine rF_ne (by decide) ?_ | refine rF_a ?_ | exact rA_eq | refine rA_ne (by decide) ?_ | refine rA_f ?_)) (by repeat' (first | assumption | exact rF_eq | refine rF_ne (by decide) ?_ | refine rF_a ?_ | exact rA_eq | refine rA_ne (by decide) ?_ | refine rA_f ?_)) ?_
                  refine g_iload dX8_readLine_176 rfl ?_
                  refine g_iald dX8_readLine_178 (by repeat' (first | assumption | exact rF_eq | refine rF_ne (by decide) ?_ | refine rF_a ?_ | exact rA_eq | refine rA_ne (by decide) ?_ | refine rA_f ?_)) (nT (by omega)) (by omega) ?_
                  refine g_iast dX8_readLine_179 (by repeat' (first | assumption | exact rF_eq | refine rF_ne (by decide) ?_ | refine rF_a ?_ | exact rA_eq | refine rA_ne (by decide) ?_ | refine rA_f ?_)) (nT (by omega)) (by omega) ?_
                  refine g_iinc dX8_readLine_180 rfl (Nat.le_of_ble_eq_true rfl) rfl ?_
                  refine g_goto (tgt := 146) dX8_readLine_183 (by decide) ?_
                  rw [sA_sA, sgL_s, ni_incO, Nat.add_assoc]
                  exact ih (k + 1) (by omega)
            refine g_aload_n (i := 0) dX8_readLine_135 rfl rfl ?_
            refine g_get dX8_readLine_136 fl_X8_22 (by repeat' (first | assumption | exact rF_eq | refine rF_ne (by decide) ?_ | refine rF_a ?_ | exact rA_eq | refine rA_ne (by decide) ?_ | refine rA_f ?_)) (by repeat' (first | assumption | exact rF_eq | refine rF_ne (by decide) ?_ | refine rF_a ?_ | exact rA_eq | refine rA_ne (by decide) ?_ | refine rA_f ?_)) ?_
            refine g_iload_n (i := 1) dX8_readLine_139 rfl rfl ?_
            refine g_iald dX8_readLine_140 (by repeat' (first | assumption | exact rF_eq | refine rF_ne (by decide) ?_ | refine rF_a ?_ | exact rA_eq | refine rA_ne (by decide) ?_ | refine rA_f ?_)) (nT (by omega)) (by omega) ?_
            rw [k1]
            refine g_istore dX8_readLine_141 (Nat.le_of_ble_eq_true rfl) rfl ?_
            refine g_iload_n (i := 2) dX8_readLine_143 rfl rfl ?_
            refine g_istore dX8_readLine_144 (Nat.le_of_ble_eq_true rfl) rfl ?_
            have k0 := key2 (e - p) 0 (by omega)
            rw [sgL_0, sA_self (show gA (sA h 50 _) 52 = _ from b4), Nat.add_zero] at k0
            exact k0
          · have hd125 := i_eq.mp hc125; (try simp (disch := omega) only [nT, t_m1000100, t_m1000010, t_m1000003, t_m1000002, t_m1000001, t_m1000000, t_m65535, t_m1000, t_m3, t_m1, t_0, t_1, t_2, t_3, t_4, t_5, t_6, t_7, t_8, t_9, t_10, t_11, t_12, t_13, t_15, t_16, t_20, t_21, t_22, t_32, t_40, t_41, t_48, t_49, t_57, t_59, t_60, t_63, t_72, t_76, t_88, t_100, t_144, t_200, t_255, t_288, t_400, t_800, t_999, t_1000, t_1024, t_1200, t_1600, t_3200, t_100000, t_200000, t_252645135, t_858993459, t_1431655765, u_m1000002, u_m1000001, u_m1000, u_m3, u_m1, u_0, u_1, u_2, u_3, u_4, u_5, u_7, u_8, u_10, u_11, u_15, u_60, u_100, u_255, u_999, u_1000, u_100000, u_4294967295] at hd125)
            refine g_aload_n (i := 0) dX8_readLine_128 rfl rfl ?_
            refine g_iconst (v := 4) dX8_readLine_129 (by decide) ?_
            refine g_iload_n (i := 2) dX8_readLine_130 rfl rfl ?_
            refine g_callV (M' := mX8_bad) dX8_readLine_131 lc_X8_bad ml_X8_158 (c_bad (h := sA h 50 (aI 2 (upd A.2.1 t (nI (e - p))))) r1 r5 4 (nI p)) rfl rfl (by repeat' (first | assumption | exact rF_eq | refine rF_ne (by decide) ?_ | refine rF_a ?_ | exact rA_eq | refine rA_ne (by decide) ?_ | refine rA_f ?_)) rfl ⟨Nat.le_of_ble_eq_true rfl, Nat.le_of_ble_eq_true rfl, Nat.le_of_ble_eq_true rfl, Nat.le_of_ble_eq_true rfl⟩ (Nat.le_of_ble_eq_true rfl) ?_
            intro r_ h_ q_; obtain ⟨q1_, q2_⟩ := q_; have q2_ := q2_.symm; subst q1_; subst q2_
            refine g_vret dX8_readLine_134 rfl (hQ _ _ ?_)
            rw [tok_l4 he h1 h2 g1 h4 (fun q => by first | omega | exact q.2 (by have := hd95; omega)) (by omega)]
            exact ⟨rfl, pn_bad (rm_50 hr _) v2 (ot_pins ht ho _) 4 p (by omega) (by omega) (by omega), fr_sF (by decide) (fr_sF (by decide) (fr_sA (by decide) fr_rf))⟩
        · have hd95 := mt i_eq.mpr hc95; (try simp (disch := omega) only [nT, t_m1000100, t_m1000010, t_m1000003, t_m1000002, t_m1000001, t_m1000000, t_m65535, t_m1000, t_m3, t_m1, t_0, t_1, t_2, t_3, t_4, t_5, t_6, t_7, t_8, t_9, t_10, t_11, t_12, t_13, t_15, t_16, t_20, t_21, t_22, t_32, t_40, t_41, t_48, t_49, t_57, t_59, t_60, t_63, t_72, t_76, t_88, t_100, t_144, t_200, t_255, t_288, t_400, t_800, t_999, t_1000, t_1024, t_1200, t_1600, t_3200, t_100000, t_200000, t_252645135, t_858993459, t_1431655765, u_m1000002, u_m1000001, u_m1000, u_m3, u_m1, u_0, u_1, u_2, u_3, u_4, u_5, u_7, u_8, u_10, u_11, u_15, u_60, u_100, u_255, u_999, u_1000, u_100000, u_4294967295] at hd95)
          refine g_aload_n (i := 0) dX8_readLine_98 rfl rfl ?_
          refine g_iconst (v := 2) dX8_readLine_99 (by decide) ?_
          refine g_iload_n (i := 2) dX8_readLine_100 rfl rfl ?_
          refine g_callV (M' := mX8_bad) dX8_readLine_101 lc_X8_bad ml_X8_158 (c_bad r1 r5 2 (nI p)) rfl rfl (by repeat' (first | assumption | exact rF_eq | refine rF_ne (by decide) ?_ | refine rF_a ?_ | exact rA_eq | refine rA_ne (by decide) ?_ | refine rA_f ?_)) rfl ⟨Nat.le_of_ble_eq_true rfl, Nat.le_of_ble_eq_true rfl, Nat.le_of_ble_eq_true rfl, Nat.le_of_ble_eq_true rfl⟩ (Nat.le_of_ble_eq_true rfl) ?_
          intro r_ h_ q_; obtain ⟨q1_, q2_⟩ := q_; have q2_ := q2_.symm; subst q1_; subst q2_
          refine g_vret dX8_readLine_104 rfl (hQ _ _ ?_)
          rw [tok_l2 he h1 h2 g1 h4 ⟨by omega, fun q => hc95 (by rw [q])⟩]
          exact ⟨rfl, pn_bad hr v2 ho 2 p (by omega) (by omega) (by omega), fr_sF (by decide) (fr_sF (by decide) fr_rf)⟩
    · have hd67 := i_eq.mp hc67; (try simp (disch := omega) only [nT, t_m1000100, t_m1000010, t_m1000003, t_m1000002, t_m1000001, t_m1000000, t_m65535, t_m1000, t_m3, t_m1, t_0, t_1, t_2, t_3, t_4, t_5, t_6, t_7, t_8, t_9, t_10, t_11, t_12, t_13, t_15, t_16, t_20, t_21, t_22, t_32, t_40, t_41, t_48, t_49, t_57, t_59, t_60, t_63, t_72, t_76, t_88, t_100, t_144, t_200, t_255, t_288, t_400, t_800, t_999, t_1000, t_1024, t_1200, t_1600, t_3200, t_100000, t_200000, t_252645135, t_858993459, t_1431655765, u_m1000002, u_m1000001, u_m1000, u_m3, u_m1, u_0, u_1, u_2, u_3, u_4, u_5, u_7, u_8, u_10, u_11, u_15, u_60, u_100, u_255, u_999, u_1000, u_100000, u_4294967295] at hd67)
      refine g_aload_n (i := 0) dX8_readLine_70 rfl rfl ?_
      refine g_iconst (v := 1) dX8_readLine_71 (by decide) ?_
      refine g_iload_n (i := 2) dX8_readLine_72 rfl rfl ?_
      refine g_callV (M' := mX8_bad) dX8_readLine_73 lc_X8_bad ml_X8_158 (c_bad r1 r5 1 (nI p)) rfl rfl (by repeat' (first | assumption | exact rF_eq | refine rF_ne (by decide) ?_ | refine rF_a ?_ | exact rA_eq | refine rA_ne (by decide) ?_ | refine rA_f ?_)) rfl ⟨Nat.le_of_ble_eq_true rfl, Nat.le_of_ble_eq_true rfl, Nat.le_of_ble_eq_true rfl, Nat.le_of_ble_eq_true rfl⟩ (Nat.le_of_ble_eq_true rfl) ?_
      intro r_ h_ q_; obtain ⟨q1_, q2_⟩ := q_; have q2_ := q2_.symm; subst q1_; subst q2_
      refine g_vret dX8_readLine_76 rfl (hQ _ _ ?_)
      have hn := mt hG.mpr (bI_0.mp hc67)
      rw [show tokB L tp (d, M, T, nl, pn) p = .inl (1, p) by
        rcases hcase with hl | hl
        · exact tok_l1 he h1 h2 hl (by
            by_cases z : 8 < e - p
            · exact Or.inl z
            · exact Or.inr (fun q => hn ⟨hl, by omega, q⟩))
        · exact tok_n1 he rfl h1 h2 hl.1 (Or.inr (Or.inl hl.2))]
      exact ⟨rfl, pn_bad hr v2 ho 1 p (by omega) (by omega) (by omega), fr_sF (by decide) (fr_sF (by decide) fr_rf)⟩
  have key : ∀ (m k : Nat) (g : Bool), k + m = e → ((g && alB isSg tp m k) = true ↔ (e < L ∧ (tp e).toInt = 59) ∧ e - p ≤ 8 ∧ alB isSg tp (e - p) p = true) → GG (EM mX8_readLine 1 0 0 Q') 0 0 28 [.ref 44, .int (nI t), .int (nI p), .int (nI e), .int (bI (g = true)), .int (nI k), hU] [] h := by
    intro m
    induction m with
    | zero =>
      intro k g hk hg
      rw [show alB isSg tp 0 k = true from rfl, Bool.and_true] at hg
      refine g_iload dX8_readLine_28 rfl ?_
      refine g_iload_n (i := 3) dX8_readLine_30 rfl rfl ?_
      refine g_icmp_ge (tgt := 65) dX8_readLine_31 (by decide) (fun hc31 => ?_) (fun hc31 => ?_)
      · (try simp (disch := omega) only [nT, t_m1000100, t_m1000010, t_m1000003, t_m1000002, t_m1000001, t_m1000000, t_m65535, t_m1000, t_m3, t_m1, t_0, t_1, t_2, t_3, t_4, t_5, t_6, t_7, t_8, t_9, t_10, t_11, t_12, t_13, t_15, t_16, t_20, t_21, t_22, t_32, t_40, t_41, t_48, t_49, t_57, t_59, t_60, t_63, t_72, t_76, t_88, t_100, t_144, t_200, t_255, t_288, t_400, t_800, t_999, t_1000, t_1024, t_1200, t_1600, t_3200, t_100000, t_200000, t_252645135, t_858993459, t_1431655765, u_m1000002, u_m1000001, u_m1000, u_m3, u_m1, u_0, u_1, u_2, u_3, u_4, u_5, u_7, u_8, u_10, u_11, u_15, u_60, u_100, u_255, u_999, u_1000, u_100000, u_4294967295] at hc31)
        exact fin g _ hg
      · (try simp (disch := omega) only [nT, t_m1000100, t_m1000010, t_m1000003, t_m1000002, t_m1000001, t_m1000000, t_m65535, t_m1000, t_m3, t_m1, t_0, t_1, t_2, t_3, t_4, t_5, t_6, t_7, t_8, t_9, t_10, t_11, t_12, t_13, t_15, t_16, t_20, t_21, t_22, t_32, t_40, t_41, t_48, t_49, t_57, t_59, t_60, t_63, t_72, t_76, t_88, t_100, t_144, t_200, t_255, t_288, t_400, t_800, t_999, t_1000, t_1024, t_1200, t_1600, t_3200, t_100000, t_200000, t_252645135, t_858993459, t_1431655765, u_m1000002, u_m1000001, u_m1000, u_m3, u_m1, u_0, u_1, u_2, u_3, u_4, u_5, u_7, u_8, u_10, u_11, u_15, u_60, u_100, u_255, u_999, u_1000, u_100000, u_4294967295] at hc31); omega
    | succ m ih =>
      intro k g hk hg
      rw [show alB isSg tp (m + 1) k = (isSg (tp k) && alB isSg tp m (k + 1)) from rfl] at hg
      refine g_iload dX8_readLine_28 rfl ?_
      refine g_iload_n (i := 3) dX8_readLine_30 rfl rfl ?_
      refine g_icmp_ge (tgt := 65) dX8_readLine_31 (by decide) (fun hc31 => ?_) (fun hc31 => ?_)
      · (try simp (disch := omega) only [nT, t_m1000100, t_m1000010, t_m1000003, t_m1000002, t_m1000001, t_m1000000, t_m65535, t_m1000, t_m3, t_m1, t_0, t_1, t_2, t_3, t_4, t_5, t_6, t_7, t_8, t_9, t_10, t_11, t_12, t_13, t_15, t_16, t_20, t_21, t_22, t_32, t_40, t_41, t_48, t_49, t_57, t_59, t_60, t_63, t_72, t_76, t_88, t_100, t_144, t_200, t_255, t_288, t_400, t_800, t_999, t_1000, t_1024, t_1200, t_1600, t_3200, t_100000, t_200000, t_252645135, t_858993459, t_1431655765, u_m1000002, u_m1000001, u_m1000, u_m3, u_m1, u_0, u_1, u_2, u_3, u_4, u_5, u_7, u_8, u_10, u_11, u_15, u_60, u_100, u_255, u_999, u_1000, u_100000, u_4294967295] at hc31); omega
      · (try simp (disch := omega) only [nT, t_m1000100, t_m1000010, t_m1000003, t_m1000002, t_m1000001, t_m1000000, t_m65535, t_m1000, t_m3, t_m1, t_0, t_1, t_2, t_3, t_4, t_5, t_6, t_7, t_8, t_9, t_10, t_11, t_12, t_13, t_15, t_16, t_20, t_21, t_22, t_32, t_40, t_41, t_48, t_49, t_57, t_59, t_60, t_63, t_72, t_76, t_88, t_100, t_144, t_200, t_255, t_288, t_400, t_800, t_999, t_1000, t_1024, t_1200, t_1600, t_3200, t_100000, t_200000, t_252645135, t_858993459, t_1431655765, u_m1000002, u_m1000001, u_m1000, u_m3, u_m1, u_0, u_1, u_2, u_3, u_4, u_5, u_7, u_8, u_10, u_11, u_15, u_60, u_100, u_255, u_999, u_1000, u_100000, u_4294967295] at hc31)
        refine g_iload dX8_readLine_34 rfl ?_
        refine g_if_eq (tgt := 56) dX8_readLine_36 (by decide) (fun hc36 => ?_) (fun hc36 => ?_)
        · have hd36 := i_eq.mp hc36; (try simp (disch := omega) only [nT, t_m1000100, t_m1000010, t_m1000003, t_m1000002, t_m1000001, t_m1000000, t_m65535, t_m1000, t_m3, t_m1, t_0, t_1, t_2, t_3, t_4, t_5, t_6, t_7, t_8, t_9, t_10, t_11, t_12, t_13, t_15, t_16, t_20, t_21, t_22, t_32, t_40, t_41, t_48, t_49, t_57, t_59, t_60, t_63, t_72, t_76, t_88, t_100, t_144, t_200, t_255, t_288, t_400, t_800, t_999, t_1000, t_1024, t_1200, t_1600, t_3200, t_100000, t_200000, t_252645135, t_858993459, t_1431655765, u_m1000002, u_m1000001, u_m1000, u_m3, u_m1, u_0, u_1, u_2, u_3, u_4, u_5, u_7, u_8, u_10, u_11, u_15, u_60, u_100, u_255, u_999, u_1000, u_100000, u_4294967295] at hd36)
          refine g_iconst (v := 0) dX8_readLine_56 (by decide) ?_
          refine g_istore dX8_readLine_57 (Nat.le_of_ble_eq_true rfl) rfl ?_
          refine g_iinc dX8_readLine_59 rfl (Nat.le_of_ble_eq_true rfl) rfl ?_
          refine g_goto (tgt := 28) dX8_readLine_62 (by decide) ?_
          rw [ni_incO]
          first
          | exact ih (k + 1) true (by omega) (by rw [bI_n0.mp hc36, hc49, Bool.true_and, Bool.true_and] at hg; rw [Bool.true_and]; exact hg)
          | exact ih (k + 1) false (by omega) (by rw [bI_n0.mp hc36, Bool.eq_false_iff.mpr hc49, Bool.false_and, Bool.and_false] at hg; rw [Bool.false_and]; exact hg)
          | exact ih (k + 1) false (by omega) (by rw [Bool.eq_false_iff.mpr (bI_0.mp hc36), Bool.false_and] at hg; rw [Bool.false_and]; exact hg)
        · have hd36 := mt i_eq.mpr hc36; (try simp (disch := omega) only [nT, t_m1000100, t_m1000010, t_m1000003, t_m1000002, t_m1000001, t_m1000000, t_m65535, t_m1000, t_m3, t_m1, t_0, t_1, t_2, t_3, t_4, t_5, t_6, t_7, t_8, t_9, t_10, t_11, t_12, t_13, t_15, t_16, t_20, t_21, t_22, t_32, t_40, t_41, t_48, t_49, t_57, t_59, t_60, t_63, t_72, t_76, t_88, t_100, t_144, t_200, t_255, t_288, t_400, t_800, t_999, t_1000, t_1024, t_1200, t_1600, t_3200, t_100000, t_200000, t_252645135, t_858993459, t_1431655765, u_m1000002, u_m1000001, u_m1000, u_m3, u_m1, u_0, u_1, u_2, u_3, u_4, u_5, u_7, u_8, u_10, u_11, u_15, u_60, u_100, u_255, u_999, u_1000, u_100000, u_4294967295] at hd36)
          refine g_aload_n (i := 0) dX8_readLine_39 rfl rfl ?_
          refine g_get dX8_readLine_40 fl_X8_19 (by repeat' (first | assumption | exact rF_eq | refine rF_ne (by decide) ?_ | refine rF_a ?_ | exact rA_eq | refine rA_ne (by decide) ?_ | refine rA_f ?_)) (by repeat' (first | assumption | exact rF_eq | refine rF_ne (by decide) ?_ | refine rF_a ?_ | exact rA_eq | refine rA_ne (by decide) ?_ | refine rA_f ?_)) ?_
          refine g_iload dX8_readLine_43 rfl ?_
          refine g_iald dX8_readLine_45 (by repeat' (first | assumption | exact rF_eq | refine rF_ne (by decide) ?_ | refine rF_a ?_ | exact rA_eq | refine rA_ne (by decide) ?_ | refine rA_f ?_)) (nT (by omega)) (by omega) ?_
          refine g_callS (M' := mX8_isSign) dX8_readLine_46 lc_X8_isSign ml_X8_155 (c_x8sig _ (tp k)) rfl rfl ⟨Nat.le_of_ble_eq_true rfl, Nat.le_of_ble_eq_true rfl, Nat.le_of_ble_eq_true rfl, Nat.le_of_ble_eq_true rfl⟩ (Nat.le_of_ble_eq_true rfl) ?_
          intro r_ h_ q_; obtain ⟨q1_, q2_⟩ := q_; have q2_ := q2_.symm; subst q1_; subst q2_
          refine g_if_eq (tgt := 56) dX8_readLine_49 (by decide) (fun hc49 => ?_) (fun hc49 => ?_)
          · replace hc49 := bI_0.mp hc49
            (try simp (disch := omega) only [nT, t_m1000100, t_m1000010, t_m1000003, t_m1000002, t_m1000001, t_m1000000, t_m65535, t_m1000, t_m3, t_m1, t_0, t_1, t_2, t_3, t_4, t_5, t_6, t_7, t_8, t_9, t_10, t_11, t_12, t_13, t_15, t_16, t_20, t_21, t_22, t_32, t_40, t_41, t_48, t_49, t_57, t_59, t_60, t_63, t_72, t_76, t_88, t_100, t_144, t_200, t_255, t_288, t_400, t_800, t_999, t_1000, t_1024, t_1200, t_1600, t_3200, t_100000, t_200000, t_252645135, t_858993459, t_1431655765, u_m1000002, u_m1000001, u_m1000, u_m3, u_m1, u_0, u_1, u_2, u_3, u_4, u_5, u_7, u_8, u_10, u_11, u_15, u_60, u_100, u_255, u_999, u_1000, u_100000, u_4294967295] at hc49)
            refine g_iconst (v := 0) dX8_readLine_56 (by decide) ?_
            refine g_istore dX8_readLine_57 (Nat.le_of_ble_eq_true rfl) rfl ?_
            refine g_iinc dX8_readLine_59 rfl (Nat.le_of_ble_eq_true rfl) rfl ?_
            refine g_goto (tgt := 28) dX8_readLine_62 (by decide) ?_
            rw [ni_incO]
            first
            | exact ih (k + 1) true (by omega) (by rw [bI_n0.mp hc36, hc49, Bool.true_and, Bool.true_and] at hg; rw [Bool.true_and]; exact hg)
            | exact ih (k + 1) false (by omega) (by rw [bI_n0.mp hc36, Bool.eq_false_iff.mpr hc49, Bool.false_and, Bool.and_false] at hg; rw [Bool.false_and]; exact hg)
            | exact ih (k + 1) false (by omega) (by rw [Bool.eq_false_iff.mpr (bI_0.mp hc36), Bool.false_and] at hg; rw [Bool.false_and]; exact hg)
          · replace hc49 := bI_n0.mp hc49
            (try simp (disch := omega) only [nT, t_m1000100, t_m1000010, t_m1000003, t_m1000002, t_m1000001, t_m1000000, t_m65535, t_m1000, t_m3, t_m1, t_0, t_1, t_2, t_3, t_4, t_5, t_6, t_7, t_8, t_9, t_10, t_11, t_12, t_13, t_15, t_16, t_20, t_21, t_22, t_32, t_40, t_41, t_48, t_49, t_57, t_59, t_60, t_63, t_72, t_76, t_88, t_100, t_144, t_200, t_255, t_288, t_400, t_800, t_999, t_1000, t_1024, t_1200, t_1600, t_3200, t_100000, t_200000, t_252645135, t_858993459, t_1431655765, u_m1000002, u_m1000001, u_m1000, u_m3, u_m1, u_0, u_1, u_2, u_3, u_4, u_5, u_7, u_8, u_10, u_11, u_15, u_60, u_100, u_255, u_999, u_1000, u_100000, u_4294967295] at hc49)
            refine g_iconst (v := 1) dX8_readLine_52 (by decide) ?_
            refine g_goto (tgt := 57) dX8_readLine_53 (by decide) ?_
            refine g_istore dX8_readLine_57 (Nat.le_of_ble_eq_true rfl) rfl ?_
            refine g_iinc dX8_readLine_59 rfl (Nat.le_of_ble_eq_true rfl) rfl ?_
            refine g_goto (tgt := 28) dX8_readLine_62 (by decide) ?_
            rw [ni_incO]
            first
            | exact ih (k + 1) true (by omega) (by rw [bI_n0.mp hc36, hc49, Bool.true_and, Bool.true_and] at hg; rw [Bool.true_and]; exact hg)
            | exact ih (k + 1) false (by omega) (by rw [bI_n0.mp hc36, Bool.eq_false_iff.mpr hc49, Bool.false_and, Bool.and_false] at hg; rw [Bool.false_and]; exact hg)
            | exact ih (k + 1) false (by omega) (by rw [Bool.eq_false_iff.mpr (bI_0.mp hc36), Bool.false_and] at hg; rw [Bool.false_and]; exact hg)
  refine g_iload_n (i := 3) dX8_readLine_0 rfl rfl ?_
  refine g_iload_n (i := 2) dX8_readLine_1 rfl rfl ?_
  refine g_isub dX8_readLine_2 ?_
  rw [n_sub hpe]
  refine g_bipush (v := 8) dX8_readLine_3 (by decide) ?_
  refine g_icmp_gt (tgt := 22) dX8_readLine_5 (by decide) (fun hc5 => ?_) (fun hc5 => ?_)
  · (try simp (disch := omega) only [nT, t_m1000100, t_m1000010, t_m1000003, t_m1000002, t_m1000001, t_m1000000, t_m65535, t_m1000, t_m3, t_m1, t_0, t_1, t_2, t_3, t_4, t_5, t_6, t_7, t_8, t_9, t_10, t_11, t_12, t_13, t_15, t_16, t_20, t_21, t_22, t_32, t_40, t_41, t_48, t_49, t_57, t_59, t_60, t_63, t_72, t_76, t_88, t_100, t_144, t_200, t_255, t_288, t_400, t_800, t_999, t_1000, t_1024, t_1200, t_1600, t_3200, t_100000, t_200000, t_252645135, t_858993459, t_1431655765, u_m1000002, u_m1000001, u_m1000, u_m3, u_m1, u_0, u_1, u_2, u_3, u_4, u_5, u_7, u_8, u_10, u_11, u_15, u_60, u_100, u_255, u_999, u_1000, u_100000, u_4294967295] at hc5)
    refine g_iconst (v := 0) dX8_readLine_22 (by decide) ?_
    refine g_istore dX8_readLine_23 (Nat.le_of_ble_eq_true rfl) rfl ?_
    refine g_iload_n (i := 2) dX8_readLine_25 rfl rfl ?_
    refine g_istore dX8_readLine_26 (Nat.le_of_ble_eq_true rfl) rfl ?_
    first
    | exact key (e - p) p true (by omega) (by rw [Bool.true_and]; exact ⟨fun q => ⟨hby.mp (by omega), by omega, q⟩, fun q => q.2.2⟩)
    | exact key (e - p) p false (by omega) (by rw [Bool.false_and]; exact ⟨fun q => (by cases q), fun q => by first | (exfalso; omega) | (exfalso; have := hby.mpr q.1; omega)⟩)
  · (try simp (disch := omega) only [nT, t_m1000100, t_m1000010, t_m1000003, t_m1000002, t_m1000001, t_m1000000, t_m65535, t_m1000, t_m3, t_m1, t_0, t_1, t_2, t_3, t_4, t_5, t_6, t_7, t_8, t_9, t_10, t_11, t_12, t_13, t_15, t_16, t_20, t_21, t_22, t_32, t_40, t_41, t_48, t_49, t_57, t_59, t_60, t_63, t_72, t_76, t_88, t_100, t_144, t_200, t_255, t_288, t_400, t_800, t_999, t_1000, t_1024, t_1200, t_1600, t_3200, t_100000, t_200000, t_252645135, t_858993459, t_1431655765, u_m1000002, u_m1000001, u_m1000, u_m3, u_m1, u_0, u_1, u_2, u_3, u_4, u_5, u_7, u_8, u_10, u_11, u_15, u_60, u_100, u_255, u_999, u_1000, u_100000, u_4294967295] at hc5)
    refine g_aload_n (i := 0) dX8_readLine_8 rfl rfl ?_
    refine g_iload_n (i := 3) dX8_readLine_9 rfl rfl ?_
    refine g_callV (M' := mX8_byteAt) dX8_readLine_10 lc_X8_byteAt ml_X8_152 (c_byteAt hr v2 heL) rfl rfl (by repeat' (first | assumption | exact rF_eq | refine rF_ne (by decide) ?_ | refine rF_a ?_ | exact rA_eq | refine rA_ne (by decide) ?_ | refine rA_f ?_)) rfl ⟨Nat.le_of_ble_eq_true rfl, Nat.le_of_ble_eq_true rfl, Nat.le_of_ble_eq_true rfl, Nat.le_of_ble_eq_true rfl⟩ (Nat.le_of_ble_eq_true rfl) ?_
    intro r_ h_ q_; obtain ⟨q1_, q2_⟩ := q_; have q2_ := q2_.symm; subst q1_; subst q2_
    refine g_bipush (v := 59) dX8_readLine_13 (by decide) ?_
    refine g_icmp_ne (tgt := 22) dX8_readLine_15 (by decide) (fun hc15 => ?_) (fun hc15 => ?_)
    · have hd15 := mt i_eq.mpr hc15; (try simp (disch := omega) only [nT, t_m1000100, t_m1000010, t_m1000003, t_m1000002, t_m1000001, t_m1000000, t_m65535, t_m1000, t_m3, t_m1, t_0, t_1, t_2, t_3, t_4, t_5, t_6, t_7, t_8, t_9, t_10, t_11, t_12, t_13, t_15, t_16, t_20, t_21, t_22, t_32, t_40, t_41, t_48, t_49, t_57, t_59, t_60, t_63, t_72, t_76, t_88, t_100, t_144, t_200, t_255, t_288, t_400, t_800, t_999, t_1000, t_1024, t_1200, t_1600, t_3200, t_100000, t_200000, t_252645135, t_858993459, t_1431655765, u_m1000002, u_m1000001, u_m1000, u_m3, u_m1, u_0, u_1, u_2, u_3, u_4, u_5, u_7, u_8, u_10, u_11, u_15, u_60, u_100, u_255, u_999, u_1000, u_100000, u_4294967295] at hd15)
      refine g_iconst (v := 0) dX8_readLine_22 (by decide) ?_
      refine g_istore dX8_readLine_23 (Nat.le_of_ble_eq_true rfl) rfl ?_
      refine g_iload_n (i := 2) dX8_readLine_25 rfl rfl ?_
      refine g_istore dX8_readLine_26 (Nat.le_of_ble_eq_true rfl) rfl ?_
      first
      | exact key (e - p) p true (by omega) (by rw [Bool.true_and]; exact ⟨fun q => ⟨hby.mp (by omega), by omega, q⟩, fun q => q.2.2⟩)
      | exact key (e - p) p false (by omega) (by rw [Bool.false_and]; exact ⟨fun q => (by cases q), fun q => by first | (exfalso; omega) | (exfalso; have := hby.mpr q.1; omega)⟩)
    · have hd15 := i_eq.mp hc15; (try simp (disch := omega) only [nT, t_m1000100, t_m1000010, t_m1000003, t_m1000002, t_m1000001, t_m1000000, t_m65535, t_m1000, t_m3, t_m1, t_0, t_1, t_2, t_3, t_4, t_5, t_6, t_7, t_8, t_9, t_10, t_11, t_12, t_13, t_15, t_16, t_20, t_21, t_22, t_32, t_40, t_41, t_48, t_49, t_57, t_59, t_60, t_63, t_72, t_76, t_88, t_100, t_144, t_200, t_255, t_288, t_400, t_800, t_999, t_1000, t_1024, t_1200, t_1600, t_3200, t_100000, t_200000, t_252645135, t_858993459, t_1431655765, u_m1000002, u_m1000001, u_m1000, u_m3, u_m1, u_0, u_1, u_2, u_3, u_4, u_5, u_7, u_8, u_10, u_11, u_15, u_60, u_100, u_255, u_999, u_1000, u_100000, u_4294967295] at hd15)
      refine g_iconst (v := 1) dX8_readLine_18 (by decide) ?_
      refine g_goto (tgt := 23) dX8_readLine_19 (by decide) ?_
      refine g_istore dX8_readLine_23 (Nat.le_of_ble_eq_true rfl) rfl ?_
      refine g_iload_n (i := 2) dX8_readLine_25 rfl rfl ?_
      refine g_istore dX8_readLine_26 (Nat.le_of_ble_eq_true rfl) rfl ?_
      first
      | exact key (e - p) p true (by omega) (by rw [Bool.true_and]; exact ⟨fun q => ⟨hby.mp (by omega), by omega, q⟩, fun q => q.2.2⟩)
      | exact key (e - p) p false (by omega) (by rw [Bool.false_and]; exact ⟨fun q => (by cases q), fun q => by first | (exfalso; omega) | (exfalso; have := hby.mpr q.1; omega)⟩)
end MTok
