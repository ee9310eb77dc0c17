/-! PATTERN: the reference: a NUMBER, an end -/
section MTok2
variable {h : HH} {L t d nl pn p e : Nat} {M : Nat → List Nat} {T : Nat → Nat} {tp : Nat → Int32} {A A0 : AR} {op ot ins : Nat → Int32}
theorem m_readNumber (ht : t < 2) (hr : RmX h L tp p 0 d A op ot ins) (hv : InvM L tp t A op ot ins d M T nl pn p) (ho : OtM t A0 A) (hpL : p < L) (he : fwd isRw L tp p = e) (h1 : ¬ (tp p).toInt = 41) (h2 : ¬ e = p) (h3 : ¬ (e < L ∧ (tp e).toInt = 59)) (hfg : alB isFg tp (e - p) p = true) : CT mX8_readNumber 2 0 0 [.ref 44, .int (nI t), .int (nI p), .int (nI e)] h (fun r h' => r = none ∧ OutM t L tp A0 h' (tokB L tp (d, M, T, nl, pn) p) ∧ Fr saM sfM h h') := by
  have hpe := fwd_le (q := isRw) (tp := tp) (show p ≤ L by omega)
  rw [he] at hpe
  obtain ⟨hpe, heL⟩ := hpe
  have hb2 := fwd_le (q := isBl) (tp := tp) heL
  generalize hb : fwd isBl L tp e = b at hb2
  obtain ⟨heb, hbL⟩ := hb2
  obtain ⟨⟨v1, v2, v3, v4, v5, v6⟩, ⟨k1, k2, k3⟩, k4, k5, k6⟩ := id hv
  have hcat := cat_le (M := M) (d + 1) (fun j hj => (k4 j (by omega)).2)
  obtain ⟨r1, r2, r3, r4, r5, r6, r7, r8, r9, r10, r11, r12, r13, r14, b0, b1, b2, b3, b4, b5, b6, b7, b8⟩ := id hr
  have hby := @byB_eq L tp b 40 (by omega)
  have hr2 := rm_at hr b
  refine CT.go [.ref 44, .int (nI t), .int (nI p), .int (nI e), hU, hU] (by decide +kernel) rfl rfl (fun Q' hQ => ?_)
  have fin : ∀ (v4 : Int32) (v5 : Value), (e - p ≤ 3 → v4 = numB tp (e - p) p 0) → GG (EM mX8_readNumber 2 0 0 Q') 0 0 43 [.ref 44, .int (nI t), .int (nI p), .int (nI e), .int v4, v5] [] h := by
    intro v4 v5 hv4
    refine g_aload_n (i := 0) dX8_readNumber_43 rfl rfl ?_
    refine g_iload_n (i := 3) dX8_readNumber_44 rfl rfl ?_
    refine g_put dX8_readNumber_45 pl_X8_149 (by repeat' (first | assumption | exact rF_eq | (apply rF_nj; focus decide) | (apply rF_nk; focus omega) | refine rF_a ?_ | exact rA_eq | refine rA_ne (by omega) ?_ | refine rA_f ?_)) (fun _ => ⟨rfl, rfl⟩) ?_
    refine g_aload_n (i := 0) dX8_readNumber_48 rfl rfl ?_
    refine g_callV (M' := mX8_skip) dX8_readNumber_49 lc_X8_skip ml_X8_166 (c_skip (rm_at hr e) v2 heL) rfl rfl (by repeat' (first | assumption | exact rF_eq | (apply rF_nj; focus decide) | (apply rF_nk; focus omega) | refine rF_a ?_ | exact rA_eq | refine rA_ne (by omega) ?_ | refine rA_f ?_)) rfl ⟨Nat.le_of_ble_eq_true rfl, Nat.le_of_ble_eq_true rfl, Nat.le_of_ble_eq_true rfl, Nat.le_of_ble_eq_true rfl⟩ (Nat.le_of_ble_eq_true rfl) ?_
    intro r_ h_ q_; obtain ⟨q1_, q2_⟩ := q_; have q2_ := q2_.symm; subst q1_; subst q2_
    rw [sF_sF, hb]
    refine g_iload_n (i := 3) dX8_readNumber_52 rfl rfl ?_
    refine g_iload_n (i := 2) dX8_readNumber_53 rfl rfl ?_
    refine g_isub dX8_readNumber_54 ?_
    rw [n_sub hpe]
    refine g_iconst (v := 3) dX8_readNumber_55 (by decide) ?_
    refine g_icmp_gt (tgt := 72) dX8_readNumber_56 (by decide) (fun hc56 => ?_) (fun hc56 => ?_)
    · (try simp (disch := omega) only [nT, t_m1000100, t_m1000010, t_m1000003, t_m1000002, t_m1000001, t_m1000000, t_m65535, t_m1000, t_m3, t_m1, t_0, t_1, t_2, t_3, t_4, t_5, t_6, t_7, t_8, t_9, t_10, t_11, t_12, t_13, t_15, t_16, t_20, t_21, t_22, t_32, t_40, t_41, t_48, t_49, t_57, t_59, t_60, t_63, t_72, t_76, t_88, t_100, t_144, t_200, t_255, t_288, t_400, t_800, t_999, t_1000, t_1024, t_1200, t_1600, t_3200, t_100000, t_200000, t_252645135, t_858993459, t_1431655765, u_m1000002, u_m1000001, u_m1000, u_m3, u_m1, u_0, u_1, u_2, u_3, u_4, u_5, u_7, u_8, u_10, u_11, u_15, u_60, u_100, u_255, u_999, u_1000, u_100000, u_4294967295] at hc56)
      refine g_aload_n (i := 0) dX8_readNumber_72 rfl rfl ?_
      refine g_iconst (v := 1) dX8_readNumber_73 (by decide) ?_
      refine g_iload_n (i := 2) dX8_readNumber_74 rfl rfl ?_
      refine g_callV (M' := mX8_bad) dX8_readNumber_75 lc_X8_bad ml_X8_158 (c_bad (h := sF h 44 9 (.int (nI b))) r1 r5 1 (nI p)) rfl rfl (by repeat' (first | assumption | exact rF_eq | (apply rF_nj; focus decide) | (apply rF_nk; focus omega) | refine rF_a ?_ | exact rA_eq | refine rA_ne (by omega) ?_ | refine rA_f ?_)) rfl ⟨Nat.le_of_ble_eq_true rfl, Nat.le_of_ble_eq_true rfl, Nat.le_of_ble_eq_true rfl, Nat.le_of_ble_eq_true rfl⟩ (Nat.le_of_ble_eq_true rfl) ?_
      intro r_ h_ q_; obtain ⟨q1_, q2_⟩ := q_; have q2_ := q2_.symm; subst q1_; subst q2_
      have hk := tok_n1 he hb h1 h2 h3 (by first | exact Or.inl (by omega) | exact Or.inr (Or.inr (fun q => by have := hby.mpr q; omega))) (d := d) (M := M) (T := T) (nl := nl) (pn := pn)
      have hpf := pn_bad hr2 v2 ho 1 p (by omega) (by omega) (by omega)
      refine g_goto (tgt := 110) dX8_readNumber_78 (by decide) ?_
      refine g_aload_n (i := 0) dX8_readNumber_110 rfl rfl ?_
      refine g_get dX8_readNumber_111 fl_X8_143 (by repeat' (first | assumption | exact rF_eq | (apply rF_nj; focus decide) | (apply rF_nk; focus omega) | refine rF_a ?_ | exact rA_eq | refine rA_ne (by omega) ?_ | refine rA_f ?_)) (by repeat' (first | assumption | exact rF_eq | (apply rF_nj; focus decide) | (apply rF_nk; focus omega) | refine rF_a ?_ | exact rA_eq | refine rA_ne (by omega) ?_ | refine rA_f ?_)) ?_
      refine g_if_le (tgt := 118) dX8_readNumber_114 (by decide) (fun hc114 => ?_) (fun hc114 => ?_)
      · (try simp (disch := omega) only [nT, t_m1000100, t_m1000010, t_m1000003, t_m1000002, t_m1000001, t_m1000000, t_m65535, t_m1000, t_m3, t_m1, t_0, t_1, t_2, t_3, t_4, t_5, t_6, t_7, t_8, t_9, t_10, t_11, t_12, t_13, t_15, t_16, t_20, t_21, t_22, t_32, t_40, t_41, t_48, t_49, t_57, t_59, t_60, t_63, t_72, t_76, t_88, t_100, t_144, t_200, t_255, t_288, t_400, t_800, t_999, t_1000, t_1024, t_1200, t_1600, t_3200, t_100000, t_200000, t_252645135, t_858993459, t_1431655765, u_m1000002, u_m1000001, u_m1000, u_m3, u_m1, u_0, u_1, u_2, u_3, u_4, u_5, u_7, u_8, u_10, u_11, u_15, u_60, u_100, u_255, u_999, u_1000, u_100000, u_4294967295] at hc114); first
        | exact absurd hc114 (by decide)
        | (have hkk := tok_n he hb h1 h2 h3 hq4 (by rw [hk, nT (by omega)]; omega) (by omega) (d := d) (M := M) (T := T) (nl := nl) (pn := pn)
           rw [hk, nTN (by omega)] at hkk
           refine g_aload_n (i := 0) dX8_readNumber_118 rfl rfl ?_
           refine g_dup dX8_readNumber_119 rfl ?_
           refine g_get dX8_readNumber_120 fl_X8_149 (by repeat' (first | assumption | exact rF_eq | refine rF_ne (by decide) ?_ | refine rF_a ?_ | exact rA_eq | refine rA_ne (by decide) ?_ | refine rA_f ?_)) (by repeat' (first | assumption | exact rF_eq | refine rF_ne (by decide) ?_ | refine rF_a ?_ | exact rA_eq | refine rA_ne (by decide) ?_ | refine rA_f ?_)) ?_
           refine g_iconst (v := 1) dX8_readNumber_123 (by decide) ?_
           refine g_iadd dX8_readNumber_124 ?_
           rw [ni_inc]
           refine g_put dX8_readNumber_125 pl_X8_149 (by repeat' (first | assumption | exact rF_eq | refine rF_ne (by decide) ?_ | refine rF_a ?_ | exact rA_eq | refine rA_ne (by decide) ?_ | refine rA_f ?_)) (fun _ => ⟨rfl, rfl⟩) ?_
           refine g_aload_n (i := 0) dX8_readNumber_128 rfl rfl ?_
           refine g_dup dX8_readNumber_129 rfl ?_
           refine g_get dX8_readNumber_130 fl_X8_162 (by repeat' (first | assumption | exact rF_eq | refine rF_ne (by decide) ?_ | refine rF_a ?_ | exact rA_eq | refine rA_ne (by decide) ?_ | refine rA_f ?_)) (by repeat' (first | assumption | exact rF_eq | refine rF_ne (by decide) ?_ | refine rF_a ?_ | exact rA_eq | refine rA_ne (by decide) ?_ | refine rA_f ?_)) ?_
           refine g_iconst (v := 1) dX8_readNumber_133 (by decide) ?_
           refine g_iadd dX8_readNumber_134 ?_
           rw [ni_inc]
           refine g_put dX8_readNumber_135 pl_X8_162 (by repeat' (first | assumption | exact rF_eq | refine rF_ne (by decide) ?_ | refine rF_a ?_ | exact rA_eq | refine rA_ne (by decide) ?_ | refine rA_f ?_)) (fun _ => ⟨rfl, rfl⟩) ?_
           refine g_aload_n (i := 0) dX8_readNumber_138 rfl rfl ?_
           refine g_get dX8_readNumber_139 fl_X8_38 (by repeat' (first | assumption | exact rF_eq | refine rF_ne (by decide) ?_ | refine rF_a ?_ | exact rA_eq | refine rA_ne (by decide) ?_ | refine rA_f ?_)) (by repeat' (first | assumption | exact rF_eq | refine rF_ne (by decide) ?_ | refine rF_a ?_ | exact rA_eq | refine rA_ne (by decide) ?_ | refine rA_f ?_)) ?_
           refine g_aload_n (i := 0) dX8_readNumber_142 rfl rfl ?_
           refine g_get dX8_readNumber_143 fl_X8_162 (by repeat' (first | assumption | exact rF_eq | refine rF_ne (by decide) ?_ | refine rF_a ?_ | exact rA_eq | refine rA_ne (by decide) ?_ | refine rA_f ?_)) (by repeat' (first | assumption | exact rF_eq | refine rF_ne (by decide) ?_ | refine rF_a ?_ | exact rA_eq | refine rA_ne (by decide) ?_ | refine rA_f ?_)) ?_
           refine g_aload_n (i := 0) dX8_readNumber_146 rfl rfl ?_
           refine g_get dX8_readNumber_147 fl_X8_28 (by repeat' (first | assumption | exact rF_eq | refine rF_ne (by decide) ?_ | refine rF_a ?_ | exact rA_eq | refine rA_ne (by decide) ?_ | refine rA_f ?_)) (by repeat' (first | assumption | exact rF_eq | refine rF_ne (by decide) ?_ | refine rF_a ?_ | exact rA_eq | refine rA_ne (by decide) ?_ | refine rA_f ?_)) ?_
           refine g_iload_n (i := 1) dX8_readNumber_150 rfl rfl ?_
           refine g_iald dX8_readNumber_151 (by repeat' (first | assumption | exact rF_eq | refine rF_ne (by decide) ?_ | refine rF_a ?_ | exact rA_eq | refine rA_ne (by decide) ?_ | refine rA_f ?_)) (nT (by omega)) (by omega) ?_
           rw [k3]
           refine g_iast dX8_readNumber_152 (by repeat' (first | assumption | exact rF_eq | refine rF_ne (by decide) ?_ | refine rF_a ?_ | exact rA_eq | refine rA_ne (by decide) ?_ | refine rA_f ?_)) (nT (by omega)) (by omega) ?_
           refine g_aload_n (i := 0) dX8_readNumber_153 rfl rfl ?_
           refine g_get dX8_readNumber_154 fl_X8_41 (by repeat' (first | assumption | exact rF_eq | refine rF_ne (by decide) ?_ | refine rF_a ?_ | exact rA_eq | refine rA_ne (by decide) ?_ | refine rA_f ?_)) (by repeat' (first | assumption | exact rF_eq | refine rF_ne (by decide) ?_ | refine rF_a ?_ | exact rA_eq | refine rA_ne (by decide) ?_ | refine rA_f ?_)) ?_
           refine g_aload_n (i := 0) dX8_readNumber_157 rfl rfl ?_
           refine g_get dX8_readNumber_158 fl_X8_162 (by repeat' (first | assumption | exact rF_eq | refine rF_ne (by decide) ?_ | refine rF_a ?_ | exact rA_eq | refine rA_ne (by decide) ?_ | refine rA_f ?_)) (by repeat' (first | assumption | exact rF_eq | refine rF_ne (by decide) ?_ | refine rF_a ?_ | exact rA_eq | refine rA_ne (by decide) ?_ | refine rA_f ?_)) ?_
           refine g_iload dX8_readNumber_161 rfl ?_
           refine g_iast dX8_readNumber_163 (by repeat' (first | assumption | exact rF_eq | refine rF_ne (by decide) ?_ | refine rF_a ?_ | exact rA_eq | refine rA_ne (by decide) ?_ | refine rA_f ?_)) (nT (by omega)) (by omega) ?_
           refine g_aload_n (i := 0) dX8_readNumber_164 rfl rfl ?_
           refine g_get dX8_readNumber_165 fl_X8_44 (by repeat' (first | assumption | exact rF_eq | refine rF_ne (by decide) ?_ | refine rF_a ?_ | exact rA_eq | refine rA_ne (by decide) ?_ | refine rA_f ?_)) (by repeat' (first | assumption | exact rF_eq | refine rF_ne (by decide) ?_ | refine rF_a ?_ | exact rA_eq | refine rA_ne (by decide) ?_ | refine rA_f ?_)) ?_
           refine g_aload_n (i := 0) dX8_readNumber_168 rfl rfl ?_
           refine g_get dX8_readNumber_169 fl_X8_162 (by repeat' (first | assumption | exact rF_eq | refine rF_ne (by decide) ?_ | refine rF_a ?_ | exact rA_eq | refine rA_ne (by decide) ?_ | refine rA_f ?_)) (by repeat' (first | assumption | exact rF_eq | refine rF_ne (by decide) ?_ | refine rF_a ?_ | exact rA_eq | refine rA_ne (by decide) ?_ | refine rA_f ?_)) ?_
           refine g_iconst (v := 0) dX8_readNumber_172 (by decide) ?_
           refine g_iast dX8_readNumber_173 (by repeat' (first | assumption | exact rF_eq | refine rF_ne (by decide) ?_ | refine rF_a ?_ | exact rA_eq | refine rA_ne (by decide) ?_ | refine rA_f ?_)) (nT (by omega)) (by omega) ?_
           refine g_vret dX8_readNumber_174 rfl (hQ _ _ ?_)
           rw [hkk]
           exact ⟨rfl, ⟨A, upd op (d + 1) (nI (catM M (d + 1)).length), upd ot (d + 1) (nI k), upd ins (d + 1) 0, ⟨r1, r2, r3, rfl, r5, r6, r7, r8, r9, r10, r11, r12, r13, rfl, b0, b1, b2, b3, b4, b5, rfl, rfl, rfl⟩, invM_open hv (by omega) (by omega) (by omega) (by omega) hk9, ho⟩, fr_sA (by decide) (fr_sA (by decide) (fr_sA (by decide) (fr_sF (by decide) (fr_sF (by decide) (fr_sF (by decide) fr_rf)))))⟩
          )
      · (try simp (disch := omega) only [nT, t_m1000100, t_m1000010, t_m1000003, t_m1000002, t_m1000001, t_m1000000, t_m65535, t_m1000, t_m3, t_m1, t_0, t_1, t_2, t_3, t_4, t_5, t_6, t_7, t_8, t_9, t_10, t_11, t_12, t_13, t_15, t_16, t_20, t_21, t_22, t_32, t_40, t_41, t_48, t_49, t_57, t_59, t_60, t_63, t_72, t_76, t_88, t_100, t_144, t_200, t_255, t_288, t_400, t_800, t_999, t_1000, t_1024, t_1200, t_1600, t_3200, t_100000, t_200000, t_252645135, t_858993459, t_1431655765, u_m1000002, u_m1000001, u_m1000, u_m3, u_m1, u_0, u_1, u_2, u_3, u_4, u_5, u_7, u_8, u_10, u_11, u_15, u_60, u_100, u_255, u_999, u_1000, u_100000, u_4294967295] at hc114); first
        | exact absurd hc114 (by decide)
        | exact g_vret dX8_readNumber_117 rfl (hQ _ _ ⟨rfl, by rw [hk]; exact hpf, fr_sF (by decide) (fr_sF (by decide) (fr_sF (by decide) fr_rf))⟩)
    · (try simp (disch := omega) only [nT, t_m1000100, t_m1000010, t_m1000003, t_m1000002, t_m1000001, t_m1000000, t_m65535, t_m1000, t_m3, t_m1, t_0, t_1, t_2, t_3, t_4, t_5, t_6, t_7, t_8, t_9, t_10, t_11, t_12, t_13, t_15, t_16, t_20, t_21, t_22, t_32, t_40, t_41, t_48, t_49, t_57, t_59, t_60, t_63, t_72, t_76, t_88, t_100, t_144, t_200, t_255, t_288, t_400, t_800, t_999, t_1000, t_1024, t_1200, t_1600, t_3200, t_100000, t_200000, t_252645135, t_858993459, t_1431655765, u_m1000002, u_m1000001, u_m1000, u_m3, u_m1, u_0, u_1, u_2, u_3, u_4, u_5, u_7, u_8, u_10, u_11, u_15, u_60, u_100, u_255, u_999, u_1000, u_100000, u_4294967295] at hc56)
      refine g_aload_n (i := 0) dX8_readNumber_59 rfl rfl ?_
      refine g_aload_n (i := 0) dX8_readNumber_60 rfl rfl ?_
      refine g_get dX8_readNumber_61 fl_X8_149 (by repeat' (first | assumption | exact rF_eq | (apply rF_nj; focus decide) | (apply rF_nk; focus omega) | refine rF_a ?_ | exact rA_eq | refine rA_ne (by omega) ?_ | refine rA_f ?_)) (by repeat' (first | assumption | exact rF_eq | (apply rF_nj; focus decide) | (apply rF_nk; focus omega) | refine rF_a ?_ | exact rA_eq | refine rA_ne (by omega) ?_ | refine rA_f ?_)) ?_
      refine g_callV (M' := mX8_byteAt) dX8_readNumber_64 lc_X8_byteAt ml_X8_152 (c_byteAt hr2 v2 hbL) rfl rfl (by repeat' (first | assumption | exact rF_eq | (apply rF_nj; focus decide) | (apply rF_nk; focus omega) | refine rF_a ?_ | exact rA_eq | refine rA_ne (by omega) ?_ | refine rA_f ?_)) rfl ⟨Nat.le_of_ble_eq_true rfl, Nat.le_of_ble_eq_true rfl, Nat.le_of_ble_eq_true rfl, Nat.le_of_ble_eq_true rfl⟩ (Nat.le_of_ble_eq_true rfl) ?_
      intro r_ h_ q_; obtain ⟨q1_, q2_⟩ := q_; have q2_ := q2_.symm; subst q1_; subst q2_
      refine g_bipush (v := 40) dX8_readNumber_67 (by decide) ?_
      refine g_icmp_eq (tgt := 81) dX8_readNumber_69 (by decide) (fun hc69 => ?_) (fun hc69 => ?_)
      · have hd69 := i_eq.mp hc69; (try simp (disch := omega) only [nT, t_m1000100, t_m1000010, t_m1000003, t_m1000002, t_m1000001, t_m1000000, t_m65535, t_m1000, t_m3, t_m1, t_0, t_1, t_2, t_3, t_4, t_5, t_6, t_7, t_8, t_9, t_10, t_11, t_12, t_13, t_15, t_16, t_20, t_21, t_22, t_32, t_40, t_41, t_48, t_49, t_57, t_59, t_60, t_63, t_72, t_76, t_88, t_100, t_144, t_200, t_255, t_288, t_400, t_800, t_999, t_1000, t_1024, t_1200, t_1600, t_3200, t_100000, t_200000, t_252645135, t_858993459, t_1431655765, u_m1000002, u_m1000001, u_m1000, u_m3, u_m1, u_0, u_1, u_2, u_3, u_4, u_5, u_7, u_8, u_10, u_11, u_15, u_60, u_100, u_255, u_999, u_1000, u_100000, u_4294967295] at hd69)
        have h40 := hby.mp (by omega)
        obtain ⟨k, hk, hk9⟩ := num3 (m := e - p) (p := p) (tp := tp) hfg (by omega)
        have hq4 : ¬ (3 < e - p ∨ ¬ alB isFg tp (e - p) p = true ∨ ¬ (b < L ∧ (tp b).toInt = 40)) := fun q => by rcases q with q | q | q; omega; exact q hfg; exact q h40
        obtain rfl : v4 = nI k := (hv4 (by omega)).trans hk
        refine g_iload dX8_readNumber_81 rfl ?_
        refine g_if_ne (tgt := 95) dX8_readNumber_83 (by decide) (fun hc83 => ?_) (fun hc83 => ?_)
        · have hd83 := mt i_eq.mpr hc83; (try simp (disch := omega) only [nT, t_m1000100, t_m1000010, t_m1000003, t_m1000002, t_m1000001, t_m1000000, t_m65535, t_m1000, t_m3, t_m1, t_0, t_1, t_2, t_3, t_4, t_5, t_6, t_7, t_8, t_9, t_10, t_11, t_12, t_13, t_15, t_16, t_20, t_21, t_22, t_32, t_40, t_41, t_48, t_49, t_57, t_59, t_60, t_63, t_72, t_76, t_88, t_100, t_144, t_200, t_255, t_288, t_400, t_800, t_999, t_1000, t_1024, t_1200, t_1600, t_3200, t_100000, t_200000, t_252645135, t_858993459, t_1431655765, u_m1000002, u_m1000001, u_m1000, u_m3, u_m1, u_0, u_1, u_2, u_3, u_4, u_5, u_7, u_8, u_10, u_11, u_15, u_60, u_100, u_255, u_999, u_1000, u_100000, u_4294967295] at hd83)
          refine g_aload_n (i := 0) dX8_readNumber_95 rfl rfl ?_
          refine g_get dX8_readNumber_96 fl_X8_162 (by repeat' (first | assumption | exact rF_eq | (apply rF_nj; focus decide) | (apply rF_nk; focus omega) | refine rF_a ?_ | exact rA_eq | refine rA_ne (by omega) ?_ | refine rA_f ?_)) (by repeat' (first | assumption | exact rF_eq | (apply rF_nj; focus decide) | (apply rF_nk; focus omega) | refine rF_a ?_ | exact rA_eq | refine rA_ne (by omega) ?_ | refine rA_f ?_)) ?_
          refine g_bipush (v := 6) dX8_readNumber_99 (by decide) ?_
          refine g_icmp_ne (tgt := 110) dX8_readNumber_101 (by decide) (fun hc101 => ?_) (fun hc101 => ?_)
          · have hd101 := mt i_eq.mpr hc101; (try simp (disch := omega) only [nT, t_m1000100, t_m1000010, t_m1000003, t_m1000002, t_m1000001, t_m1000000, t_m65535, t_m1000, t_m3, t_m1, t_0, t_1, t_2, t_3, t_4, t_5, t_6, t_7, t_8, t_9, t_10, t_11, t_12, t_13, t_15, t_16, t_20, t_21, t_22, t_32, t_40, t_41, t_48, t_49, t_57, t_59, t_60, t_63, t_72, t_76, t_88, t_100, t_144, t_200, t_255, t_288, t_400, t_800, t_999, t_1000, t_1024, t_1200, t_1600, t_3200, t_100000, t_200000, t_252645135, t_858993459, t_1431655765, u_m1000002, u_m1000001, u_m1000, u_m3, u_m1, u_0, u_1, u_2, u_3, u_4, u_5, u_7, u_8, u_10, u_11, u_15, u_60, u_100, u_255, u_999, u_1000, u_100000, u_4294967295] at hd101)
            refine g_aload_n (i := 0) dX8_readNumber_110 rfl rfl ?_
            refine g_get dX8_readNumber_111 fl_X8_143 (by repeat' (first | assumption | exact rF_eq | (apply rF_nj; focus decide) | (apply rF_nk; focus omega) | refine rF_a ?_ | exact rA_eq | refine rA_ne (by omega) ?_ | refine rA_f ?_)) (by repeat' (first | assumption | exact rF_eq | (apply rF_nj; focus decide) | (apply rF_nk; focus omega) | refine rF_a ?_ | exact rA_eq | refine rA_ne (by omega) ?_ | refine rA_f ?_)) ?_
            refine g_if_le (tgt := 118) dX8_readNumber_114 (by decide) (fun hc114 => ?_) (fun hc114 => ?_)
            · (try simp (disch := omega) only [nT, t_m1000100, t_m1000010, t_m1000003, t_m1000002, t_m1000001, t_m1000000, t_m65535, t_m1000, t_m3, t_m1, t_0, t_1, t_2, t_3, t_4, t_5, t_6, t_7, t_8, t_9, t_10, t_11, t_12, t_13, t_15, t_16, t_20, t_21, t_22, t_32, t_40, t_41, t_48, t_49, t_57, t_59, t_60, t_63, t_72, t_76, t_88, t_100, t_144, t_200, t_255, t_288, t_400, t_800, t_999, t_1000, t_1024, t_1200, t_1600, t_3200, t_100000, t_200000, t_252645135, t_858993459, t_1431655765, u_m1000002, u_m1000001, u_m1000, u_m3, u_m1, u_0, u_1, u_2, u_3, u_4, u_5, u_7, u_8, u_10, u_11, u_15, u_60, u_100, u_255, u_999, u_1000, u_100000, u_4294967295] at hc114); first
              | exact absurd hc114 (by decide)
              | (have hkk := tok_n he hb h1 h2 h3 hq4 (by rw [hk, nT (by omega)]; omega) (by omega) (d := d) (M := M) (T := T) (nl := nl) (pn := pn)
                 rw [hk, nTN (by omega)] at hkk
                 refine g_aload_n (i := 0) dX8_readNumber_118 rfl rfl ?_
                 refine g_dup dX8_readNumber_119 rfl ?_
                 refine g_get dX8_readNumber_120 fl_X8_149 (by repeat' (first | assumption | exact rF_eq | refine rF_ne (by decide) ?_ | refine rF_a ?_ | exact rA_eq | refine rA_ne (by decide) ?_ | refine rA_f ?_)) (by repeat' (first | assumption | exact rF_eq | refine rF_ne (by decide) ?_ | refine rF_a ?_ | exact rA_eq | refine rA_ne (by decide) ?_ | refine rA_f ?_)) ?_
                 refine g_iconst (v := 1) dX8_readNumber_123 (by decide) ?_
                 refine g_iadd dX8_readNumber_124 ?_
                 rw [ni_inc]
                 refine g_put dX8_readNumber_125 pl_X8_149 (by repeat' (first | assumption | exact rF_eq | refine rF_ne (by decide) ?_ | refine rF_a ?_ | exact rA_eq | refine rA_ne (by decide) ?_ | refine rA_f ?_)) (fun _ => ⟨rfl, rfl⟩) ?_
                 refine g_aload_n (i := 0) dX8_readNumber_128 rfl rfl ?_
                 refine g_dup dX8_readNumber_129 rfl ?_
                 refine g_get dX8_readNumber_130 fl_X8_162 (by repeat' (first | assumption | exact rF_eq | refine rF_ne (by decide) ?_ | refine rF_a ?_ | exact rA_eq | refine rA_ne (by decide) ?_ | refine rA_f ?_)) (by repeat' (first | assumption | exact rF_eq | refine rF_ne (by decide) ?_ | refine rF_a ?_ | exact rA_eq | refine rA_ne (by decide) ?_ | refine rA_f ?_)) ?_
                 refine g_iconst (v := 1) dX8_readNumber_133 (by decide) ?_
                 refine g_iadd dX8_readNumber_134 ?_
                 rw [ni_inc]
                 refine g_put dX8_readNumber_135 pl_X8_162 (by repeat' (first | assumption | exact rF_eq | refine rF_ne (by decide) ?_ | refine rF_a ?_ | exact rA_eq | refine rA_ne (by decide) ?_ | refine rA_f ?_)) (fun _ => ⟨rfl, rfl⟩) ?_
                 refine g_aload_n (i := 0) dX8_readNumber_138 rfl rfl ?_
                 refine g_get dX8_readNumber_139 fl_X8_38 (by repeat' (first | assumption | exact rF_eq | refine rF_ne (by decide) ?_ | refine rF_a ?_ | exact rA_eq | refine rA_ne (by decide) ?_ | refine rA_f ?_)) (by repeat' (first | assumption | exact rF_eq | refine rF_ne (by decide) ?_ | refine rF_a ?_ | exact rA_eq | refine rA_ne (by decide) ?_ | refine rA_f ?_)) ?_
                 refine g_aload_n (i := 0) dX8_readNumber_142 rfl rfl ?_
                 refine g_get dX8_readNumber_143 fl_X8_162 (by repeat' (first | assumption | exact rF_eq | refine rF_ne (by decide) ?_ | refine rF_a ?_ | exact rA_eq | refine rA_ne (by decide) ?_ | refine rA_f ?_)) (by repeat' (first | assumption | exact rF_eq | refine rF_ne (by decide) ?_ | refine rF_a ?_ | exact rA_eq | refine rA_ne (by decide) ?_ | refine rA_f ?_)) ?_
                 refine g_aload_n (i := 0) dX8_readNumber_146 rfl rfl ?_
                 refine g_get dX8_readNumber_147 fl_X8_28 (by repeat' (first | assumption | exact rF_eq | refine rF_ne (by decide) ?_ | refine rF_a ?_ | exact rA_eq | refine rA_ne (by decide) ?_ | refine rA_f ?_)) (by repeat' (first | assumption | exact rF_eq | refine rF_ne (by decide) ?_ | refine rF_a ?_ | exact rA_eq | refine rA_ne (by decide) ?_ | refine rA_f ?_)) ?_
                 refine g_iload_n (i := 1) dX8_readNumber_150 rfl rfl ?_
                 refine g_iald dX8_readNumber_151 (by repeat' (first | assumption | exact rF_eq | refine rF_ne (by decide) ?_ | refine rF_a ?_ | exact rA_eq | refine rA_ne (by decide) ?_ | refine rA_f ?_)) (nT (by omega)) (by omega) ?_
                 rw [k3]
                 refine g_iast dX8_readNumber_152 (by repeat' (first | assumption | exact rF_eq | refine rF_ne (by decide) ?_ | refine rF_a ?_ | exact rA_eq | refine rA_ne (by decide) ?_ | refine rA_f ?_)) (nT (by omega)) (by omega) ?_
                 refine g_aload_n (i := 0) dX8_readNumber_153 rfl rfl ?_
                 refine g_get dX8_readNumber_154 fl_X8_41 (by repeat' (first | assumption | exact rF_eq | refine rF_ne (by decide) ?_ | refine rF_a ?_ | exact rA_eq | refine rA_ne (by decide) ?_ | refine rA_f ?_)) (by repeat' (first | assumption | exact rF_eq | refine rF_ne (by decide) ?_ | refine rF_a ?_ | exact rA_eq | refine rA_ne (by decide) ?_ | refine rA_f ?_)) ?_
                 refine g_aload_n (i := 0) dX8_readNumber_157 rfl rfl ?_
                 refine g_get dX8_readNumber_158 fl_X8_162 (by repeat' (first | assumption | exact rF_eq | refine rF_ne (by decide) ?_ | refine rF_a ?_ | exact rA_eq | refine rA_ne (by decide) ?_ | refine rA_f ?_)) (by repeat' (first | assumption | exact rF_eq | refine rF_ne (by decide) ?_ | refine rF_a ?_ | exact rA_eq | refine rA_ne (by decide) ?_ | refine rA_f ?_)) ?_
                 refine g_iload dX8_readNumber_161 rfl ?_
                 refine g_iast dX8_readNumber_163 (by repeat' (first | assumption | exact rF_eq | refine rF_ne (by decide) ?_ | refine rF_a ?_ | exact rA_eq | refine rA_ne (by decide) ?_ | refine rA_f ?_)) (nT (by omega)) (by omega) ?_
                 refine g_aload_n (i := 0) dX8_readNumber_164 rfl rfl ?_
                 refine g_get dX8_readNumber_165 fl_X8_44 (by repeat' (first | assumption | exact rF_eq | refine rF_ne (by decide) ?_ | refine rF_a ?_ | exact rA_eq | refine rA_ne (by decide) ?_ | refine rA_f ?_)) (by repeat' (first | assumption | exact rF_eq | refine rF_ne (by decide) ?_ | refine rF_a ?_ | exact rA_eq | refine rA_ne (by decide) ?_ | refine rA_f ?_)) ?_
                 refine g_aload_n (i := 0) dX8_readNumber_168 rfl rfl ?_
                 refine g_get dX8_readNumber_169 fl_X8_162 (by repeat' (first | assumption | exact rF_eq | refine rF_ne (by decide) ?_ | refine rF_a ?_ | exact rA_eq | refine rA_ne (by decide) ?_ | refine rA_f ?_)) (by repeat' (first | assumption | exact rF_eq | refine rF_ne (by decide) ?_ | refine rF_a ?_ | exact rA_eq | refine rA_ne (by decide) ?_ | refine rA_f ?_)) ?_
                 refine g_iconst (v := 0) dX8_readNumber_172 (by decide) ?_
                 refine g_iast dX8_readNumber_173 (by repeat' (first | assumption | exact rF_eq | refine rF_ne (by decide) ?_ | refine rF_a ?_ | exact rA_eq | refine rA_ne (by decide) ?_ | refine rA_f ?_)) (nT (by omega)) (by omega) ?_
                 refine g_vret dX8_readNumber_174 rfl (hQ _ _ ?_)
                 rw [hkk]
                 exact ⟨rfl, ⟨A, upd op (d + 1) (nI (catM M (d + 1)).length), upd ot (d + 1) (nI k), upd ins (d + 1) 0, ⟨r1, r2, r3, rfl, r5, r6, r7, r8, r9, r10, r11, r12, r13, rfl, b0, b1, b2, b3, b4, b5, rfl, rfl, rfl⟩, invM_open hv (by omega) (by omega) (by omega) (by omega) hk9, ho⟩, fr_sA (by decide) (fr_sA (by decide) (fr_sA (by decide) (fr_sF (by decide) (fr_sF (by decide) (fr_sF (by decide) fr_rf)))))⟩
                )
            · (try simp (disch := omega) only [nT, t_m1000100, t_m1000010, t_m1000003, t_m1000002, t_m1000001, t_m1000000, t_m65535, t_m1000, t_m3, t_m1, t_0, t_1, t_2, t_3, t_4, t_5, t_6, t_7, t_8, t_9, t_10, t_11, t_12, t_13, t_15, t_16, t_20, t_21, t_22, t_32, t_40, t_41, t_48, t_49, t_57, t_59, t_60, t_63, t_72, t_76, t_88, t_100, t_144, t_200, t_255, t_288, t_400, t_800, t_999, t_1000, t_1024, t_1200, t_1600, t_3200, t_100000, t_200000, t_252645135, t_858993459, t_1431655765, u_m1000002, u_m1000001, u_m1000, u_m3, u_m1, u_0, u_1, u_2, u_3, u_4, u_5, u_7, u_8, u_10, u_11, u_15, u_60, u_100, u_255, u_999, u_1000, u_100000, u_4294967295] at hc114); first
              | exact absurd hc114 (by decide)
              | exact g_vret dX8_readNumber_117 rfl (hQ _ _ ⟨rfl, by rw [hk]; exact hpf, fr_sF (by decide) (fr_sF (by decide) (fr_sF (by decide) fr_rf))⟩)
          · have hd101 := i_eq.mp hc101; (try simp (disch := omega) only [nT, t_m1000100, t_m1000010, t_m1000003, t_m1000002, t_m1000001, t_m1000000, t_m65535, t_m1000, t_m3, t_m1, t_0, t_1, t_2, t_3, t_4, t_5, t_6, t_7, t_8, t_9, t_10, t_11, t_12, t_13, t_15, t_16, t_20, t_21, t_22, t_32, t_40, t_41, t_48, t_49, t_57, t_59, t_60, t_63, t_72, t_76, t_88, t_100, t_144, t_200, t_255, t_288, t_400, t_800, t_999, t_1000, t_1024, t_1200, t_1600, t_3200, t_100000, t_200000, t_252645135, t_858993459, t_1431655765, u_m1000002, u_m1000001, u_m1000, u_m3, u_m1, u_0, u_1, u_2, u_3, u_4, u_5, u_7, u_8, u_10, u_11, u_15, u_60, u_100, u_255, u_999, u_1000, u_100000, u_4294967295] at hd101)
            refine g_aload_n (i := 0) dX8_readNumber_104 rfl rfl ?_
            refine g_iconst (v := 4) dX8_readNumber_105 (by decide) ?_
            refine g_iload_n (i := 2) dX8_readNumber_106 rfl rfl ?_
            refine g_callV (M' := mX8_bad) dX8_readNumber_107 lc_X8_bad ml_X8_158 (c_bad (h := sF h 44 9 (.int (nI b))) r1 r5 4 (nI p)) rfl rfl (by repeat' (first | assumption | exact rF_eq | (apply rF_nj; focus decide) | (apply rF_nk; focus omega) | refine rF_a ?_ | exact rA_eq | refine rA_ne (by omega) ?_ | refine rA_f ?_)) rfl ⟨Nat.le_of_ble_eq_true rfl, Nat.le_of_ble_eq_true rfl, Nat.le_of_ble_eq_true rfl, Nat.le_of_ble_eq_true rfl⟩ (Nat.le_of_ble_eq_true rfl) ?_
            intro r_ h_ q_; obtain ⟨q1_, q2_⟩ := q_; have q2_ := q2_.symm; subst q1_; subst q2_
            have hk := tok_n4 he hb h1 h2 h3 hq4 (by rw [hk, nT (by omega)]; omega) (by omega) (d := d) (M := M) (T := T) (nl := nl) (pn := pn)
            have hpf := pn_bad hr2 v2 ho 4 p (by omega) (by omega) (by omega)
            refine g_aload_n (i := 0) dX8_readNumber_110 rfl rfl ?_
            refine g_get dX8_readNumber_111 fl_X8_143 (by repeat' (first | assumption | exact rF_eq | (apply rF_nj; focus decide) | (apply rF_nk; focus omega) | refine rF_a ?_ | exact rA_eq | refine rA_ne (by omega) ?_ | refine rA_f ?_)) (by repeat' (first | assumption | exact rF_eq | (apply rF_nj; focus decide) | (apply rF_nk; focus omega) | refine rF_a ?_ | exact rA_eq | refine rA_ne (by omega) ?_ | refine rA_f ?_)) ?_
            refine g_if_le (tgt := 118) dX8_readNumber_114 (by decide) (fun hc114 => ?_) (fun hc114 => ?_)
            · (try simp (disch := omega) only [nT, t_m1000100, t_m1000010, t_m1000003, t_m1000002, t_m1000001, t_m1000000, t_m65535, t_m1000, t_m3, t_m1, t_0, t_1, t_2, t_3, t_4, t_5, t_6, t_7, t_8, t_9, t_10, t_11, t_12, t_13, t_15, t_16, t_20, t_21, t_22, t_32, t_40, t_41, t_48, t_49, t_57, t_59, t_60, t_63, t_72, t_76, t_88, t_100, t_144, t_200, t_255, t_288, t_400, t_800, t_999, t_1000, t_1024, t_1200, t_1600, t_3200, t_100000, t_200000, t_252645135, t_858993459, t_1431655765, u_m1000002, u_m1000001, u_m1000, u_m3, u_m1, u_0, u_1, u_2, u_3, u_4, u_5, u_7, u_8, u_10, u_11, u_15, u_60, u_100, u_255, u_999, u_1000, u_100000, u_4294967295] at hc114); first
              | exact absurd hc114 (by decide)
              | (have hkk := tok_n he hb h1 h2 h3 hq4 (by rw [hk, nT (by omega)]; omega) (by omega) (d := d) (M := M) (T := T) (nl := nl) (pn := pn)
                 rw [hk, nTN (by omega)] at hkk
                 refine g_aload_n (i := 0) dX8_readNumber_118 rfl rfl ?_
                 refine g_dup dX8_readNumber_119 rfl ?_
                 refine g_get dX8_readNumber_120 fl_X8_149 (by repeat' (first | assumption | exact rF_eq | refine rF_ne (by decide) ?_ | refine rF_a ?_ | exact rA_eq | refine rA_ne (by decide) ?_ | refine rA_f ?_)) (by repeat' (first | assumption | exact rF_eq | refine rF_ne (by decide) ?_ | refine rF_a ?_ | exact rA_eq | refine rA_ne (by decide) ?_ | refine rA_f ?_)) ?_
                 refine g_iconst (v := 1) dX8_readNumber_123 (by decide) ?_
                 refine g_iadd dX8_readNumber_124 ?_
                 rw [ni_inc]
                 refine g_put dX8_readNumber_125 pl_X8_149 (by repeat' (first | assumption | exact rF_eq | refine rF_ne (by decide) ?_ | refine rF_a ?_ | exact rA_eq | refine rA_ne (by decide) ?_ | refine rA_f ?_)) (fun _ => ⟨rfl, rfl⟩) ?_
                 refine g_aload_n (i := 0) dX8_readNumber_128 rfl rfl ?_
                 refine g_dup dX8_readNumber_129 rfl ?_
                 refine g_get dX8_readNumber_130 fl_X8_162 (by repeat' (first | assumption | exact rF_eq | refine rF_ne (by decide) ?_ | refine rF_a ?_ | exact rA_eq | refine rA_ne (by decide) ?_ | refine rA_f ?_)) (by repeat' (first | assumption | exact rF_eq | refine rF_ne (by decide) ?_ | refine rF_a ?_ | exact rA_eq | refine rA_ne (by decide) ?_ | refine rA_f ?_)) ?_
                 refine g_iconst (v := 1) dX8_readNumber_133 (by decide) ?_
                 refine g_iadd dX8_readNumber_134 ?_
                 rw [ni_inc]
                 refine g_put dX8_readNumber_135 pl_X8_162 (by repeat' (first | assumption | exact rF_eq | refine rF_ne (by decide) ?_ | refine rF_a ?_ | exact rA_eq | refine rA_ne (by decide) ?_ | refine rA_f ?_)) (fun _ => ⟨rfl, rfl⟩) ?_
                 refine g_aload_n (i := 0) dX8_readNumber_138 rfl rfl ?_
                 refine g_get dX8_readNumber_139 fl_X8_38 (by repeat' (first | assumption | exact rF_eq | refine rF_ne (by decide) ?_ | refine rF_a ?_ | exact rA_eq | refine rA_ne (by decide) ?_ | refine rA_f ?_)) (by repeat' (first | assumption | exact rF_eq | refine rF_ne (by decide) ?_ | refine rF_a ?_ | exact rA_eq | refine rA_ne (by decide) ?_ | refine rA_f ?_)) ?_
                 refine g_aload_n (i := 0) dX8_readNumber_142 rfl rfl ?_
                 refine g_get dX8_readNumber_143 fl_X8_162 (by repeat' (first | assumption | exact rF_eq | refine rF_ne (by decide) ?_ | refine rF_a ?_ | exact rA_eq | refine rA_ne (by decide) ?_ | refine rA_f ?_)) (by repeat' (first | assumption | exact rF_eq | refine rF_ne (by decide) ?_ | refine rF_a ?_ | exact rA_eq | refine rA_ne (by decide) ?_ | refine rA_f ?_)) ?_
                 refine g_aload_n (i := 0) dX8_readNumber_146 rfl rfl ?_
                 refine g_get dX8_readNumber_147 fl_X8_28 (by repeat' (first | assumption | exact rF_eq | refine rF_ne (by decide) ?_ | refine rF_a ?_ | exact rA_eq | refine rA_ne (by decide) ?_ | refine rA_f ?_)) (by repeat' (first | assumption | exact rF_eq | refine rF_ne (by decide) ?_ | refine rF_a ?_ | exact rA_eq | refine rA_ne (by decide) ?_ | refine rA_f ?_)) ?_
                 refine g_iload_n (i := 1) dX8_readNumber_150 rfl rfl ?_
                 refine g_iald dX8_readNumber_151 (by repeat' (first | assumption | exact rF_eq | refine rF_ne (by decide) ?_ | refine rF_a ?_ | exact rA_eq | refine rA_ne (by decide) ?_ | refine rA_f ?_)) (nT (by omega)) (by omega) ?_
                 rw [k3]
                 refine g_iast dX8_readNumber_152 (by repeat' (first | assumption | exact rF_eq | refine rF_ne (by decide) ?_ | refine rF_a ?_ | exact rA_eq | refine rA_ne (by decide) ?_ | refine rA_f ?_)) (nT (by omega)) (by omega) ?_
                 refine g_aload_n (i := 0) dX8_readNumber_153 rfl rfl ?_
                 refine g_get dX8_readNumber_154 fl_X8_41 (by repeat' (first | assumption | exact rF_eq | refine rF_ne (by decide) ?_ | refine rF_a ?_ | exact rA_eq | refine rA_ne (by decide) ?_ | refine rA_f ?_)) (by repeat' (first | assumption | exact rF_eq | refine rF_ne (by decide) ?_ | refine rF_a ?_ | exact rA_eq | refine rA_ne (by decide) ?_ | refine rA_f ?_)) ?_
                 refine g_aload_n (i := 0) dX8_readNumber_157 rfl rfl ?_
                 refine g_get dX8_readNumber_158 fl_X8_162 (by repeat' (first | assumption | exact rF_eq | refine rF_ne (by decide) ?_ | refine rF_a ?_ | exact rA_eq | refine rA_ne (by decide) ?_ | refine rA_f ?_)) (by repeat' (first | assumption | exact rF_eq | refine rF_ne (by decide) ?_ | refine rF_a ?_ | exact rA_eq | refine rA_ne (by decide) ?_ | refine rA_f ?_)) ?_
                 refine g_iload dX8_readNumber_161 rfl ?_
                 refine g_iast dX8_readNumber_163 (by repeat' (first | assumption | exact rF_eq | refine rF_ne (by decide) ?_ | refine rF_a ?_ | exact rA_eq | refine rA_ne (by decide) ?_ | refine rA_f ?_)) (nT (by omega)) (by omega) ?_
                 refine g_aload_n (i := 0) dX8_readNumber_164 rfl rfl ?_
                 refine g_get dX8_readNumber_165 fl_X8_44 (by repeat' (first | assumption | exact rF_eq | refine rF_ne (by decide) ?_ | refine rF_a ?_ | exact rA_eq | refine rA_ne (by decide) ?_ | refine rA_f ?_)) (by repeat' (first | assumption | exact rF_eq | refine rF_ne (by decide) ?_ | refine rF_a ?_ | exact rA_eq | refine rA_ne (by decide) ?_ | refine rA_f ?_)) ?_
                 refine g_aload_n (i := 0) dX8_readNumber_168 rfl rfl ?_
                 refine g_get dX8_readNumber_169 fl_X8_162 (by repeat' (first | assumption | exact rF_eq | refine rF_ne (by decide) ?_ | refine rF_a ?_ | exact rA_eq | refine rA_ne (by decide) ?_ | refine rA_f ?_)) (by repeat' (first | assumption | exact rF_eq | refine rF_ne (by decide) ?_ | refine rF_a ?_ | exact rA_eq | refine rA_ne (by decide) ?_ | refine rA_f ?_)) ?_
                 refine g_iconst (v := 0) dX8_readNumber_172 (by decide) ?_
                 refine g_iast dX8_readNumber_173 (by repeat' (first | assumption | exact rF_eq | refine rF_ne (by decide) ?_ | refine rF_a ?_ | exact rA_eq | refine rA_ne (by decide) ?_ | refine rA_f ?_)) (nT (by omega)) (by omega) ?_
                 refine g_vret dX8_readNumber_174 rfl (hQ _ _ ?_)
                 rw [hkk]
                 exact ⟨rfl, ⟨A, upd op (d + 1) (nI (catM M (d + 1)).length), upd ot (d + 1) (nI k), upd ins (d + 1) 0, ⟨r1, r2, r3, rfl, r5, r6, r7, r8, r9, r10, r11, r12, r13, rfl, b0, b1, b2, b3, b4, b5, rfl, rfl, rfl⟩, invM_open hv (by omega) (by omega) (by omega) (by omega) hk9, ho⟩, fr_sA (by decide) (fr_sA (by decide) (fr_sA (by decide) (fr_sF (by decide) (fr_sF (by decide) (fr_sF (by decide) fr_rf)))))⟩
                )
            · (try simp (disch := omega) only [nT, t_m1000100, t_m1000010, t_m1000003, t_m1000002, t_m1000001, t_m1000000, t_m65535, t_m1000, t_m3, t_m1, t_0, t_1, t_2, t_3, t_4, t_5, t_6, t_7, t_8, t_9, t_10, t_11, t_12, t_13, t_15, t_16, t_20, t_21, t_22, t_32, t_40, t_41, t_48, t_49, t_57, t_59, t_60, t_63, t_72, t_76, t_88, t_100, t_144, t_200, t_255, t_288, t_400, t_800, t_999, t_1000, t_1024, t_1200, t_1600, t_3200, t_100000, t_200000, t_252645135, t_858993459, t_1431655765, u_m1000002, u_m1000001, u_m1000, u_m3, u_m1, u_0, u_1, u_2, u_3, u_4, u_5, u_7, u_8, u_10, u_11, u_15, u_60, u_100, u_255, u_999, u_1000, u_100000, u_4294967295] at hc114); first
              | exact absurd hc114 (by decide)
              | exact g_vret dX8_readNumber_117 rfl (hQ _ _ ⟨rfl, by rw [hk]; exact hpf, fr_sF (by decide) (fr_sF (by decide) (fr_sF (by decide) fr_rf))⟩)
        · have hd83 := i_eq.mp hc83; (try simp (disch := omega) only [nT, t_m1000100, t_m1000010, t_m1000003, t_m1000002, t_m1000001, t_m1000000, t_m65535, t_m1000, t_m3, t_m1, t_0, t_1, t_2, t_3, t_4, t_5, t_6, t_7, t_8, t_9, t_10, t_11, t_12, t_13, t_15, t_16, t_20, t_21, t_22, t_32, t_40, t_41, t_48, t_49, t_57, t_59, t_60, t_63, t_72, t_76, t_88, t_100, t_144, t_200, t_255, t_288, t_400, t_800, t_999, t_1000, t_1024, t_1200, t_1600, t_3200, t_100000, t_200000, t_252645135, t_858993459, t_1431655765, u_m1000002, u_m1000001, u_m1000, u_m3, u_m1, u_0, u_1, u_2, u_3, u_4, u_5, u_7, u_8, u_10, u_11, u_15, u_60, u_100, u_255, u_999, u_1000, u_100000, u_4294967295] at hd83)
          refine g_aload_n (i := 0) dX8_readNumber_86 rfl rfl ?_
          refine g_iconst (v := 3) dX8_readNumber_87 (by decide) ?_
          refine g_iload_n (i := 2) dX8_readNumber_88 rfl rfl ?_
          refine g_callV (M' := mX8_bad) dX8_readNumber_89 lc_X8_bad ml_X8_158 (c_bad (h := sF h 44 9 (.int (nI b))) r1 r5 3 (nI p)) rfl rfl (by repeat' (first | assumption | exact rF_eq | (apply rF_nj; focus decide) | (apply rF_nk; focus omega) | refine rF_a ?_ | exact rA_eq | refine rA_ne (by omega) ?_ | refine rA_f ?_)) rfl ⟨Nat.le_of_ble_eq_true rfl, Nat.le_of_ble_eq_true rfl, Nat.le_of_ble_eq_true rfl, Nat.le_of_ble_eq_true rfl⟩ (Nat.le_of_ble_eq_true rfl) ?_
          intro r_ h_ q_; obtain ⟨q1_, q2_⟩ := q_; have q2_ := q2_.symm; subst q1_; subst q2_
          have hk := tok_n3 he hb h1 h2 h3 hq4 (by rw [hk, nT (by omega)]; omega) (d := d) (M := M) (T := T) (nl := nl) (pn := pn)
          have hpf := pn_bad hr2 v2 ho 3 p (by omega) (by omega) (by omega)
          refine g_goto (tgt := 110) dX8_readNumber_92 (by decide) ?_
          refine g_aload_n (i := 0) dX8_readNumber_110 rfl rfl ?_
          refine g_get dX8_readNumber_111 fl_X8_143 (by repeat' (first | assumption | exact rF_eq | (apply rF_nj; focus decide) | (apply rF_nk; focus omega) | refine rF_a ?_ | exact rA_eq | refine rA_ne (by omega) ?_ | refine rA_f ?_)) (by repeat' (first | assumption | exact rF_eq | (apply rF_nj; focus decide) | (apply rF_nk; focus omega) | refine rF_a ?_ | exact rA_eq | refine rA_ne (by omega) ?_ | refine rA_f ?_)) ?_
          refine g_if_le (tgt := 118) dX8_readNumber_114 (by decide) (fun hc114 => ?_) (fun hc114 => ?_)
          · (try simp (disch := omega) only [nT, t_m1000100, t_m1000010, t_m1000003, t_m1000002, t_m1000001, t_m1000000, t_m65535, t_m1000, t_m3, t_m1, t_0, t_1, t_2, t_3, t_4, t_5, t_6, t_7, t_8, t_9, t_10, t_11, t_12, t_13, t_15, t_16, t_20, t_21, t_22, t_32, t_40, t_41, t_48, t_49, t_57, t_59, t_60, t_63, t_72, t_76, t_88, t_100, t_144, t_200, t_255, t_288, t_400, t_800, t_999, t_1000, t_1024, t_1200, t_1600, t_3200, t_100000, t_200000, t_252645135, t_858993459, t_1431655765, u_m1000002, u_m1000001, u_m1000, u_m3, u_m1, u_0, u_1, u_2, u_3, u_4, u_5, u_7, u_8, u_10, u_11, u_15, u_60, u_100, u_255, u_999, u_1000, u_100000, u_4294967295] at hc114); first
            | exact absurd hc114 (by decide)
            | (have hkk := tok_n he hb h1 h2 h3 hq4 (by rw [hk, nT (by omega)]; omega) (by omega) (d := d) (M := M) (T := T) (nl := nl) (pn := pn)
               rw [hk, nTN (by omega)] at hkk
               refine g_aload_n (i := 0) dX8_readNumber_118 rfl rfl ?_
               refine g_dup dX8_readNumber_119 rfl ?_
               refine g_get dX8_readNumber_120 fl_X8_149 (by repeat' (first | assumption | exact rF_eq | refine rF_ne (by decide) ?_ | refine rF_a ?_ | exact rA_eq | refine rA_ne (by decide) ?_ | refine rA_f ?_)) (by repeat' (first | assumption | exact rF_eq | refine rF_ne (by decide) ?_ | refine rF_a ?_ | exact rA_eq | refine rA_ne (by decide) ?_ | refine rA_f ?_)) ?_
               refine g_iconst (v := 1) dX8_readNumber_123 (by decide) ?_
               refine g_iadd dX8_readNumber_124 ?_
               rw [ni_inc]
               refine g_put dX8_readNumber_125 pl_X8_149 (by repeat' (first | assumption | exact rF_eq | refine rF_ne (by decide) ?_ | refine rF_a ?_ | exact rA_eq | refine rA_ne (by decide) ?_ | refine rA_f ?_)) (fun _ => ⟨rfl, rfl⟩) ?_
               refine g_aload_n (i := 0) dX8_readNumber_128 rfl rfl ?_
               refine g_dup dX8_readNumber_129 rfl ?_
               refine g_get dX8_readNumber_130 fl_X8_162 (by repeat' (first | assumption | exact rF_eq | refine rF_ne (by decide) ?_ | refine rF_a ?_ | exact rA_eq | refine rA_ne (by decide) ?_ | refine rA_f ?_)) (by repeat' (first | assumption | exact rF_eq | refine rF_ne (by decide) ?_ | refine rF_a ?_ | exact rA_eq | refine rA_ne (by decide) ?_ | refine rA_f ?_)) ?_
               refine g_iconst (v := 1) dX8_readNumber_133 (by decide) ?_
               refine g_iadd dX8_readNumber_134 ?_
               rw [ni_inc]
               refine g_put dX8_readNumber_135 pl_X8_162 (by repeat' (first | assumption | exact rF_eq | refine rF_ne (by decide) ?_ | refine rF_a ?_ | exact rA_eq | refine rA_ne (by decide) ?_ | refine rA_f ?_)) (fun _ => ⟨rfl, rfl⟩) ?_
               refine g_aload_n (i := 0) dX8_readNumber_138 rfl rfl ?_
               refine g_get dX8_readNumber_139 fl_X8_38 (by repeat' (first | assumption | exact rF_eq | refine rF_ne (by decide) ?_ | refine rF_a ?_ | exact rA_eq | refine rA_ne (by decide) ?_ | refine rA_f ?_)) (by repeat' (first | assumption | exact rF_eq | refine rF_ne (by decide) ?_ | refine rF_a ?_ | exact rA_eq | refine rA_ne (by decide) ?_ | refine rA_f ?_)) ?_
               refine g_aload_n (i := 0) dX8_readNumber_142 rfl rfl ?_
               refine g_get dX8_readNumber_143 fl_X8_162 (by repeat' (first | assumption | exact rF_eq | refine rF_ne (by decide) ?_ | refine rF_a ?_ | exact rA_eq | refine rA_ne (by decide) ?_ | refine rA_f ?_)) (by repeat' (first | assumption | exact rF_eq | refine rF_ne (by decide) ?_ | refine rF_a ?_ | exact rA_eq | refine rA_ne (by decide) ?_ | refine rA_f ?_)) ?_
               refine g_aload_n (i := 0) dX8_readNumber_146 rfl rfl ?_
               refine g_get dX8_readNumber_147 fl_X8_28 (by repeat' (first | assumption | exact rF_eq | refine rF_ne (by decide) ?_ | refine rF_a ?_ | exact rA_eq | refine rA_ne (by decide) ?_ | refine rA_f ?_)) (by repeat' (first | assumption | exact rF_eq | refine rF_ne (by decide) ?_ | refine rF_a ?_ | exact rA_eq | refine rA_ne (by decide) ?_ | refine rA_f ?_)) ?_
               refine g_iload_n (i := 1) dX8_readNumber_150 rfl rfl ?_
               refine g_iald dX8_readNumber_151 (by repeat' (first | assumption | exact rF_eq | refine rF_ne (by decide) ?_ | refine rF_a ?_ | exact rA_eq | refine rA_ne (by decide) ?_ | refine rA_f ?_)) (nT (by omega)) (by omega) ?_
               rw [k3]
               refine g_iast dX8_readNumber_152 (by repeat' (first | assumption | exact rF_eq | refine rF_ne (by decide) ?_ | refine rF_a ?_ | exact rA_eq | refine rA_ne (by decide) ?_ | refine rA_f ?_)) (nT (by omega)) (by omega) ?_
               refine g_aload_n (i := 0) dX8_readNumber_153 rfl rfl ?_
               refine g_get dX8_readNumber_154 fl_X8_41 (by repeat' (first | assumption | exact rF_eq | refine rF_ne (by decide) ?_ | refine rF_a ?_ | exact rA_eq | refine rA_ne (by decide) ?_ | refine rA_f ?_)) (by repeat' (first | assumption | exact rF_eq | refine rF_ne (by decide) ?_ | refine rF_a ?_ | exact rA_eq | refine rA_ne (by decide) ?_ | refine rA_f ?_)) ?_
               refine g_aload_n (i := 0) dX8_readNumber_157 rfl rfl ?_
               refine g_get dX8_readNumber_158 fl_X8_162 (by repeat' (first | assumption | exact rF_eq | refine rF_ne (by decide) ?_ | refine rF_a ?_ | exact rA_eq | refine rA_ne (by decide) ?_ | refine rA_f ?_)) (by repeat' (first | assumption | exact rF_eq | refine rF_ne (by decide) ?_ | refine rF_a ?_ | exact rA_eq | refine rA_ne (by decide) ?_ | refine rA_f ?_)) ?_
               refine g_iload dX8_readNumber_161 rfl ?_
               refine g_iast dX8_readNumber_163 (by repeat' (first | assumption | exact rF_eq | refine rF_ne (by decide) ?_ | refine rF_a ?_ | exact rA_eq | refine rA_ne (by decide) ?_ | refine rA_f ?_)) (nT (by omega)) (by omega) ?_
               refine g_aload_n (i := 0) dX8_readNumber_164 rfl rfl ?_
               refine g_get dX8_readNumber_165 fl_X8_44 (by repeat' (first | assumption | exact rF_eq | refine rF_ne (by decide) ?_ | refine rF_a ?_ | exact rA_eq | refine rA_ne (by decide) ?_ | refine rA_f ?_)) (by repeat' (first | assumption | exact rF_eq | refine rF_ne (by decide) ?_ | refine rF_a ?_ | exact rA_eq | refine rA_ne (by decide) ?_ | refine rA_f ?_)) ?_
               refine g_aload_n (i := 0) dX8_readNumber_168 rfl rfl ?_
               refine g_get dX8_readNumber_169 fl_X8_162 (by repeat' (first | assumption | exact rF_eq | refine rF_ne (by decide) ?_ | refine rF_a ?_ | exact rA_eq | refine rA_ne (by decide) ?_ | refine rA_f ?_)) (by repeat' (first | assumption | exact rF_eq | refine rF_ne (by decide) ?_ | refine rF_a ?_ | exact rA_eq | refine rA_ne (by decide) ?_ | refine rA_f ?_)) ?_
               refine g_iconst (v := 0) dX8_readNumber_172 (by decide) ?_
               refine g_iast dX8_readNumber_173 (by repeat' (first | assumption | exact rF_eq | refine rF_ne (by decide) ?_ | refine rF_a ?_ | exact rA_eq | refine rA_ne (by decide) ?_ | refine rA_f ?_)) (nT (by omega)) (by omega) ?_
               refine g_vret dX8_readNumber_174 rfl (hQ _ _ ?_)
               rw [hkk]
               exact ⟨rfl, ⟨A, upd op (d + 1) (nI (catM M (d + 1)).length), upd ot (d + 1) (nI k), upd ins (d + 1) 0, ⟨r1, r2, r3, rfl, r5, r6, r7, r8, r9, r10, r11, r12, r13, rfl, b0, b1, b2, b3, b4, b5, rfl, rfl, rfl⟩, invM_open hv (by omega) (by omega) (by omega) (by omega) hk9, ho⟩, fr_sA (by decide) (fr_sA (by decide) (fr_sA (by decide) (fr_sF (by decide) (fr_sF (by decide) (fr_sF (by decide) fr_rf)))))⟩
              )
          · (try simp (disch := omega) only [nT, t_m1000100, t_m1000010, t_m1000003, t_m1000002, t_m1000001, t_m1000000, t_m65535, t_m1000, t_m3, t_m1, t_0, t_1, t_2, t_3, t_4, t_5, t_6, t_7, t_8, t_9, t_10, t_11, t_12, t_13, t_15, t_16, t_20, t_21, t_22, t_32, t_40, t_41, t_48, t_49, t_57, t_59, t_60, t_63, t_72, t_76, t_88, t_100, t_144, t_200, t_255, t_288, t_400, t_800, t_999, t_1000, t_1024, t_1200, t_1600, t_3200, t_100000, t_200000, t_252645135, t_858993459, t_1431655765, u_m1000002, u_m1000001, u_m1000, u_m3, u_m1, u_0, u_1, u_2, u_3, u_4, u_5, u_7, u_8, u_10, u_11, u_15, u_60, u_100, u_255, u_999, u_1000, u_100000, u_4294967295] at hc114); first
            | exact absurd hc114 (by decide)
            | exact g_vret dX8_readNumber_117 rfl (hQ _ _ ⟨rfl, by rw [hk]; exact hpf, fr_sF (by decide) (fr_sF (by decide) (fr_sF (by decide) fr_rf))⟩)
      · have hd69 := mt i_eq.mpr hc69; (try simp (disch := omega) only [nT, t_m1000100, t_m1000010, t_m1000003, t_m1000002, t_m1000001, t_m1000000, t_m65535, t_m1000, t_m3, t_m1, t_0, t_1, t_2, t_3, t_4, t_5, t_6, t_7, t_8, t_9, t_10, t_11, t_12, t_13, t_15, t_16, t_20, t_21, t_22, t_32, t_40, t_41, t_48, t_49, t_57, t_59, t_60, t_63, t_72, t_76, t_88, t_100, t_144, t_200, t_255, t_288, t_400, t_800, t_999, t_1000, t_1024, t_1200, t_1600, t_3200, t_100000, t_200000, t_252645135, t_858993459, t_1431655765, u_m1000002, u_m1000001, u_m1000, u_m3, u_m1, u_0, u_1, u_2, u_3, u_4, u_5, u_7, u_8, u_10, u_11, u_15, u_60, u_100, u_255, u_999, u_1000, u_100000, u_4294967295] at hd69)
        refine g_aload_n (i := 0) dX8_readNumber_72 rfl rfl ?_
        refine g_iconst (v := 1) dX8_readNumber_73 (by decide) ?_
        refine g_iload_n (i := 2) dX8_readNumber_74 rfl rfl ?_
        refine g_callV (M' := mX8_bad) dX8_readNumber_75 lc_X8_bad ml_X8_158 (c_bad (h := sF h 44 9 (.int (nI b))) r1 r5 1 (nI p)) rfl rfl (by repeat' (first | assumption | exact rF_eq | (apply rF_nj; focus decide) | (apply rF_nk; focus omega) | refine rF_a ?_ | exact rA_eq | refine rA_ne (by omega) ?_ | refine rA_f ?_)) rfl ⟨Nat.le_of_ble_eq_true rfl, Nat.le_of_ble_eq_true rfl, Nat.le_of_ble_eq_true rfl, Nat.le_of_ble_eq_true rfl⟩ (Nat.le_of_ble_eq_true rfl) ?_
        intro r_ h_ q_; obtain ⟨q1_, q2_⟩ := q_; have q2_ := q2_.symm; subst q1_; subst q2_
        have hk := tok_n1 he hb h1 h2 h3 (by first | exact Or.inl (by omega) | exact Or.inr (Or.inr (fun q => by have := hby.mpr q; omega))) (d := d) (M := M) (T := T) (nl := nl) (pn := pn)
        have hpf := pn_bad hr2 v2 ho 1 p (by omega) (by omega) (by omega)
        refine g_goto (tgt := 110) dX8_readNumber_78 (by decide) ?_
        refine g_aload_n (i := 0) dX8_readNumber_110 rfl rfl ?_
        refine g_get dX8_readNumber_111 fl_X8_143 (by repeat' (first | assumption | exact rF_eq | (apply rF_nj; focus decide) | (apply rF_nk; focus omega) | refine rF_a ?_ | exact rA_eq | refine rA_ne (by omega) ?_ | refine rA_f ?_)) (by repeat' (first | assumption | exact rF_eq | (apply rF_nj; focus decide) | (apply rF_nk; focus omega) | refine rF_a ?_ | exact rA_eq | refine rA_ne (by omega) ?_ | refine rA_f ?_)) ?_
        refine g_if_le (tgt := 118) dX8_readNumber_114 (by decide) (fun hc114 => ?_) (fun hc114 => ?_)
        · (try simp (disch := omega) only [nT, t_m1000100, t_m1000010, t_m1000003, t_m1000002, t_m1000001, t_m1000000, t_m65535, t_m1000, t_m3, t_m1, t_0, t_1, t_2, t_3, t_4, t_5, t_6, t_7, t_8, t_9, t_10, t_11, t_12, t_13, t_15, t_16, t_20, t_21, t_22, t_32, t_40, t_41, t_48, t_49, t_57, t_59, t_60, t_63, t_72, t_76, t_88, t_100, t_144, t_200, t_255, t_288, t_400, t_800, t_999, t_1000, t_1024, t_1200, t_1600, t_3200, t_100000, t_200000, t_252645135, t_858993459, t_1431655765, u_m1000002, u_m1000001, u_m1000, u_m3, u_m1, u_0, u_1, u_2, u_3, u_4, u_5, u_7, u_8, u_10, u_11, u_15, u_60, u_100, u_255, u_999, u_1000, u_100000, u_4294967295] at hc114); first
          | exact absurd hc114 (by decide)
          | (have hkk := tok_n he hb h1 h2 h3 hq4 (by rw [hk, nT (by omega)]; omega) (by omega) (d := d) (M := M) (T := T) (nl := nl) (pn := pn)
             rw [hk, nTN (by omega)] at hkk
             refine g_aload_n (i := 0) dX8_readNumber_118 rfl rfl ?_
             refine g_dup dX8_readNumber_119 rfl ?_
             refine g_get dX8_readNumber_120 fl_X8_149 (by repeat' (first | assumption | exact rF_eq | refine rF_ne (by decide) ?_ | refine rF_a ?_ | exact rA_eq | refine rA_ne (by decide) ?_ | refine rA_f ?_)) (by repeat' (first | assumption | exact rF_eq | refine rF_ne (by decide) ?_ | refine rF_a ?_ | exact rA_eq | refine rA_ne (by decide) ?_ | refine rA_f ?_)) ?_
             refine g_iconst (v := 1) dX8_readNumber_123 (by decide) ?_
             refine g_iadd dX8_readNumber_124 ?_
             rw [ni_inc]
             refine g_put dX8_readNumber_125 pl_X8_149 (by repeat' (first | assumption | exact rF_eq | refine rF_ne (by decide) ?_ | refine rF_a ?_ | exact rA_eq | refine rA_ne (by decide) ?_ | refine rA_f ?_)) (fun _ => ⟨rfl, rfl⟩) ?_
             refine g_aload_n (i := 0) dX8_readNumber_128 rfl rfl ?_
             refine g_dup dX8_readNumber_129 rfl ?_
             refine g_get dX8_readNumber_130 fl_X8_162 (by repeat' (first | assumption | exact rF_eq | refine rF_ne (by decide) ?_ | refine rF_a ?_ | exact rA_eq | refine rA_ne (by decide) ?_ | refine rA_f ?_)) (by repeat' (first | assumption | exact rF_eq | refine rF_ne (by decide) ?_ | refine rF_a ?_ | exact rA_eq | refine rA_ne (by decide) ?_ | refine rA_f ?_)) ?_
             refine g_iconst (v := 1) dX8_readNumber_133 (by decide) ?_
             refine g_iadd dX8_readNumber_134 ?_
             rw [ni_inc]
             refine g_put dX8_readNumber_135 pl_X8_162 (by repeat' (first | assumption | exact rF_eq | refine rF_ne (by decide) ?_ | refine rF_a ?_ | exact rA_eq | refine rA_ne (by decide) ?_ | refine rA_f ?_)) (fun _ => ⟨rfl, rfl⟩) ?_
             refine g_aload_n (i := 0) dX8_readNumber_138 rfl rfl ?_
             refine g_get dX8_readNumber_139 fl_X8_38 (by repeat' (first | assumption | exact rF_eq | refine rF_ne (by decide) ?_ | refine rF_a ?_ | exact rA_eq | refine rA_ne (by decide) ?_ | refine rA_f ?_)) (by repeat' (first | assumption | exact rF_eq | refine rF_ne (by decide) ?_ | refine rF_a ?_ | exact rA_eq | refine rA_ne (by decide) ?_ | refine rA_f ?_)) ?_
             refine g_aload_n (i := 0) dX8_readNumber_142 rfl rfl ?_
             refine g_get dX8_readNumber_143 fl_X8_162 (by repeat' (first | assumption | exact rF_eq | refine rF_ne (by decide) ?_ | refine rF_a ?_ | exact rA_eq | refine rA_ne (by decide) ?_ | refine rA_f ?_)) (by repeat' (first | assumption | exact rF_eq | refine rF_ne (by decide) ?_ | refine rF_a ?_ | exact rA_eq | refine rA_ne (by decide) ?_ | refine rA_f ?_)) ?_
             refine g_aload_n (i := 0) dX8_readNumber_146 rfl rfl ?_
             refine g_get dX8_readNumber_147 fl_X8_28 (by repeat' (first | assumption | exact rF_eq | refine rF_ne (by decide) ?_ | refine rF_a ?_ | exact rA_eq | refine rA_ne (by decide) ?_ | refine rA_f ?_)) (by repeat' (first | assumption | exact rF_eq | refine rF_ne (by decide) ?_ | refine rF_a ?_ | exact rA_eq | refine rA_ne (by decide) ?_ | refine rA_f ?_)) ?_
             refine g_iload_n (i := 1) dX8_readNumber_150 rfl rfl ?_
             refine g_iald dX8_readNumber_151 (by repeat' (first | assumption | exact rF_eq | refine rF_ne (by decide) ?_ | refine rF_a ?_ | exact rA_eq | refine rA_ne (by decide) ?_ | refine rA_f ?_)) (nT (by omega)) (by omega) ?_
             rw [k3]
             refine g_iast dX8_readNumber_152 (by repeat' (first | assumption | exact rF_eq | refine rF_ne (by decide) ?_ | refine rF_a ?_ | exact rA_eq | refine rA_ne (by decide) ?_ | refine rA_f ?_)) (nT (by omega)) (by omega) ?_
             refine g_aload_n (i := 0) dX8_readNumber_153 rfl rfl ?_
             refine g_get dX8_readNumber_154 fl_X8_41 (by repeat' (first | assumption | exact rF_eq | refine rF_ne (by decide) ?_ | refine rF_a ?_ | exact rA_eq | refine rA_ne (by decide) ?_ | refine rA_f ?_)) (by repeat' (first | assumption | exact rF_eq | refine rF_ne (by decide) ?_ | refine rF_a ?_ | exact rA_eq | refine rA_ne (by decide) ?_ | refine rA_f ?_)) ?_
             refine g_aload_n (i := 0) dX8_readNumber_157 rfl rfl ?_
             refine g_get dX8_readNumber_158 fl_X8_162 (by repeat' (first | assumption | exact rF_eq | refine rF_ne (by decide) ?_ | refine rF_a ?_ | exact rA_eq | refine rA_ne (by decide) ?_ | refine rA_f ?_)) (by repeat' (first | assumption | exact rF_eq | refine rF_ne (by decide) ?_ | refine rF_a ?_ | exact rA_eq | refine rA_ne (by decide) ?_ | refine rA_f ?_)) ?_
             refine g_iload dX8_readNumber_161 rfl ?_
             refine g_iast dX8_readNumber_163 (by repeat' (first | assumption | exact rF_eq | refine rF_ne (by decide) ?_ | refine rF_a ?_ | exact rA_eq | refine rA_ne (by decide) ?_ | refine rA_f ?_)) (nT (by omega)) (by omega) ?_
             refine g_aload_n (i := 0) dX8_readNumber_164 rfl rfl ?_
             refine g_get dX8_readNumber_165 fl_X8_44 (by repeat' (first | assumption | exact rF_eq | refine rF_ne (by decide) ?_ | refine rF_a ?_ | exact rA_eq | refine rA_ne (by decide) ?_ | refine rA_f ?_)) (by repeat' (first | assumption | exact rF_eq | refine rF_ne (by decide) ?_ | refine rF_a ?_ | exact rA_eq | refine rA_ne (by decide) ?_ | refine rA_f ?_)) ?_
             refine g_aload_n (i := 0) dX8_readNumber_168 rfl rfl ?_
             refine g_get dX8_readNumber_169 fl_X8_162 (by repeat' (first | assumption | exact rF_eq | refine rF_ne (by decide) ?_ | refine rF_a ?_ | exact rA_eq | refine rA_ne (by decide) ?_ | refine rA_f ?_)) (by repeat' (first | assumption | exact rF_eq | refine rF_ne (by decide) ?_ | refine rF_a ?_ | exact rA_eq | refine rA_ne (by decide) ?_ | refine rA_f ?_)) ?_
             refine g_iconst (v := 0) dX8_readNumber_172 (by decide) ?_
             refine g_iast dX8_readNumber_173 (by repeat' (first | assumption | exact rF_eq | refine rF_ne (by decide) ?_ | refine rF_a ?_ | exact rA_eq | refine rA_ne (by decide) ?_ | refine rA_f ?_)) (nT (by omega)) (by omega) ?_
             refine g_vret dX8_readNumber_174 rfl (hQ _ _ ?_)
             rw [hkk]
             exact ⟨rfl, ⟨A, upd op (d + 1) (nI (catM M (d + 1)).length), upd ot (d + 1) (nI k), upd ins (d + 1) 0, ⟨r1, r2, r3, rfl, r5, r6, r7, r8, r9, r10, r11, r12, r13, rfl, b0, b1, b2, b3, b4, b5, rfl, rfl, rfl⟩, invM_open hv (by omega) (by omega) (by omega) (by omega) hk9, ho⟩, fr_sA (by decide) (fr_sA (by decide) (fr_sA (by decide) (fr_sF (by decide) (fr_sF (by decide) (fr_sF (by decide) fr_rf)))))⟩
            )
        · (try simp (disch := omega) only [nT, t_m1000100, t_m1000010, t_m1000003, t_m1000002, t_m1000001, t_m1000000, t_m65535, t_m1000, t_m3, t_m1, t_0, t_1, t_2, t_3, t_4, t_5, t_6, t_7, t_8, t_9, t_10, t_11, t_12, t_13, t_15, t_16, t_20, t_21, t_22, t_32, t_40, t_41, t_48, t_49, t_57, t_59, t_60, t_63, t_72, t_76, t_88, t_100, t_144, t_200, t_255, t_288, t_400, t_800, t_999, t_1000, t_1024, t_1200, t_1600, t_3200, t_100000, t_200000, t_252645135, t_858993459, t_1431655765, u_m1000002, u_m1000001, u_m1000, u_m3, u_m1, u_0, u_1, u_2, u_3, u_4, u_5, u_7, u_8, u_10, u_11, u_15, u_60, u_100, u_255, u_999, u_1000, u_100000, u_4294967295] at hc114); first
          | exact absurd hc114 (by decide)
          | exact g_vret dX8_readNumber_117 rfl (hQ _ _ ⟨rfl, by rw [hk]; exact hpf, fr_sF (by decide) (fr_sF (by decide) (fr_sF (by decide) fr_rf))⟩)
  have key : ∀ (m k : Nat) (v : Int32), k + m = e → e - p ≤ 3 → numB tp m k v = numB tp (e - p) p 0 → GG (EM mX8_readNumber 2 0 0 Q') 0 0 6 [.ref 44, .int (nI t), .int (nI p), .int (nI e), .int v, .int (nI k)] [] h := by
    intro m
    induction m with
    | zero =>
      intro k v hk h3 hvv
      refine g_iload dX8_readNumber_6 rfl ?_
      refine g_iload_n (i := 3) dX8_readNumber_8 rfl rfl ?_
      refine g_icmp_ge (tgt := 43) dX8_readNumber_9 (by decide) (fun hc9 => ?_) (fun hc9 => ?_)
      · (try simp (disch := omega) only [nT, t_m1000100, t_m1000010, t_m1000003, t_m1000002, t_m1000001, t_m1000000, t_m65535, t_m1000, t_m3, t_m1, t_0, t_1, t_2, t_3, t_4, t_5, t_6, t_7, t_8, t_9, t_10, t_11, t_12, t_13, t_15, t_16, t_20, t_21, t_22, t_32, t_40, t_41, t_48, t_49, t_57, t_59, t_60, t_63, t_72, t_76, t_88, t_100, t_144, t_200, t_255, t_288, t_400, t_800, t_999, t_1000, t_1024, t_1200, t_1600, t_3200, t_100000, t_200000, t_252645135, t_858993459, t_1431655765, u_m1000002, u_m1000001, u_m1000, u_m3, u_m1, u_0, u_1, u_2, u_3, u_4, u_5, u_7, u_8, u_10, u_11, u_15, u_60, u_100, u_255, u_999, u_1000, u_100000, u_4294967295] at hc9)
        exact fin v _ (fun _ => hvv)
      · (try simp (disch := omega) only [nT, t_m1000100, t_m1000010, t_m1000003, t_m1000002, t_m1000001, t_m1000000, t_m65535, t_m1000, t_m3, t_m1, t_0, t_1, t_2, t_3, t_4, t_5, t_6, t_7, t_8, t_9, t_10, t_11, t_12, t_13, t_15, t_16, t_20, t_21, t_22, t_32, t_40, t_41, t_48, t_49, t_57, t_59, t_60, t_63, t_72, t_76, t_88, t_100, t_144, t_200, t_255, t_288, t_400, t_800, t_999, t_1000, t_1024, t_1200, t_1600, t_3200, t_100000, t_200000, t_252645135, t_858993459, t_1431655765, u_m1000002, u_m1000001, u_m1000, u_m3, u_m1, u_0, u_1, u_2, u_3, u_4, u_5, u_7, u_8, u_10, u_11, u_15, u_60, u_100, u_255, u_999, u_1000, u_100000, u_4294967295] at hc9); omega
    | succ m ih =>
      intro k v hk h3 hvv
      rw [show numB tp (m + 1) k v = numB tp m (k + 1) (10 * v + tp k - 48) from rfl] at hvv
      refine g_iload dX8_readNumber_6 rfl ?_
      refine g_iload_n (i := 3) dX8_readNumber_8 rfl rfl ?_
      refine g_icmp_ge (tgt := 43) dX8_readNumber_9 (by decide) (fun hc9 => ?_) (fun hc9 => ?_)
      · (try simp (disch := omega) only [nT, t_m1000100, t_m1000010, t_m1000003, t_m1000002, t_m1000001, t_m1000000, t_m65535, t_m1000, t_m3, t_m1, t_0, t_1, t_2, t_3, t_4, t_5, t_6, t_7, t_8, t_9, t_10, t_11, t_12, t_13, t_15, t_16, t_20, t_21, t_22, t_32, t_40, t_41, t_48, t_49, t_57, t_59, t_60, t_63, t_72, t_76, t_88, t_100, t_144, t_200, t_255, t_288, t_400, t_800, t_999, t_1000, t_1024, t_1200, t_1600, t_3200, t_100000, t_200000, t_252645135, t_858993459, t_1431655765, u_m1000002, u_m1000001, u_m1000, u_m3, u_m1, u_0, u_1, u_2, u_3, u_4, u_5, u_7, u_8, u_10, u_11, u_15, u_60, u_100, u_255, u_999, u_1000, u_100000, u_4294967295] at hc9); omega
      · (try simp (disch := omega) only [nT, t_m1000100, t_m1000010, t_m1000003, t_m1000002, t_m1000001, t_m1000000, t_m65535, t_m1000, t_m3, t_m1, t_0, t_1, t_2, t_3, t_4, t_5, t_6, t_7, t_8, t_9, t_10, t_11, t_12, t_13, t_15, t_16, t_20, t_21, t_22, t_32, t_40, t_41, t_48, t_49, t_57, t_59, t_60, t_63, t_72, t_76, t_88, t_100, t_144, t_200, t_255, t_288, t_400, t_800, t_999, t_1000, t_1024, t_1200, t_1600, t_3200, t_100000, t_200000, t_252645135, t_858993459, t_1431655765, u_m1000002, u_m1000001, u_m1000, u_m3, u_m1, u_0, u_1, u_2, u_3, u_4, u_5, u_7, u_8, u_10, u_11, u_15, u_60, u_100, u_255, u_999, u_1000, u_100000, u_4294967295] at hc9)
        refine g_iload_n (i := 3) dX8_readNumber_12 rfl rfl ?_
        refine g_iload_n (i := 2) dX8_readNumber_13 rfl rfl ?_
        refine g_isub dX8_readNumber_14 ?_
        rw [n_sub hpe]
        refine g_iconst (v := 3) dX8_readNumber_15 (by decide) ?_
        refine g_icmp_gt (tgt := 43) dX8_readNumber_16 (by decide) (fun hc16 => ?_) (fun hc16 => ?_)
        · (try simp (disch := omega) only [nT, t_m1000100, t_m1000010, t_m1000003, t_m1000002, t_m1000001, t_m1000000, t_m65535, t_m1000, t_m3, t_m1, t_0, t_1, t_2, t_3, t_4, t_5, t_6, t_7, t_8, t_9, t_10, t_11, t_12, t_13, t_15, t_16, t_20, t_21, t_22, t_32, t_40, t_41, t_48, t_49, t_57, t_59, t_60, t_63, t_72, t_76, t_88, t_100, t_144, t_200, t_255, t_288, t_400, t_800, t_999, t_1000, t_1024, t_1200, t_1600, t_3200, t_100000, t_200000, t_252645135, t_858993459, t_1431655765, u_m1000002, u_m1000001, u_m1000, u_m3, u_m1, u_0, u_1, u_2, u_3, u_4, u_5, u_7, u_8, u_10, u_11, u_15, u_60, u_100, u_255, u_999, u_1000, u_100000, u_4294967295] at hc16); omega
        · (try simp (disch := omega) only [nT, t_m1000100, t_m1000010, t_m1000003, t_m1000002, t_m1000001, t_m1000000, t_m65535, t_m1000, t_m3, t_m1, t_0, t_1, t_2, t_3, t_4, t_5, t_6, t_7, t_8, t_9, t_10, t_11, t_12, t_13, t_15, t_16, t_20, t_21, t_22, t_32, t_40, t_41, t_48, t_49, t_57, t_59, t_60, t_63, t_72, t_76, t_88, t_100, t_144, t_200, t_255, t_288, t_400, t_800, t_999, t_1000, t_1024, t_1200, t_1600, t_3200, t_100000, t_200000, t_252645135, t_858993459, t_1431655765, u_m1000002, u_m1000001, u_m1000, u_m3, u_m1, u_0, u_1, u_2, u_3, u_4, u_5, u_7, u_8, u_10, u_11, u_15, u_60, u_100, u_255, u_999, u_1000, u_100000, u_4294967295] at hc16)
          refine g_bipush (v := 10) dX8_readNumber_19 (by decide) ?_
          refine g_iload dX8_readNumber_21 rfl ?_
          refine g_imul dX8_readNumber_23 ?_
          refine g_aload_n (i := 0) dX8_readNumber_24 rfl rfl ?_
          refine g_get dX8_readNumber_25 fl_X8_19 (by repeat' (first | assumption | exact rF_eq | refine rF_ne (by decide) ?_ | refine rF_a ?_ | exact rA_eq | refine rA_ne (by decide) ?_ | refine rA_f ?_)) (by repeat' (first | assumption | exact rF_eq | refine rF_ne (by decide) ?_ | refine rF_a ?_ | exact rA_eq | refine rA_ne (by decide) ?_ | refine rA_f ?_)) ?_
          refine g_iload dX8_readNumber_28 rfl ?_
          refine g_iald dX8_readNumber_30 (by repeat' (first | assumption | exact rF_eq | refine rF_ne (by decide) ?_ | refine rF_a ?_ | exact rA_eq | refine rA_ne (by decide) ?_ | refine rA_f ?_)) (nT (by omega)) (by omega) ?_
          refine g_iadd dX8_readNumber_31 ?_
          refine g_bipush (v := 48) dX8_readNumber_32 (by decide) ?_
          refine g_isub dX8_readNumber_34 ?_
          refine g_istore dX8_readNumber_35 (Nat.le_of_ble_eq_true rfl) rfl ?_
          refine g_iinc dX8_readNumber_37 rfl (Nat.le_of_ble_eq_true rfl) rfl ?_
          refine g_goto (tgt := 6) dX8_readNumber_40 (by decide) ?_
          rw [ni_incO]
          exact ih (k + 1) _ (by omega) h3 hvv
  by_cases h33 : e - p ≤ 3
  · refine g_iconst (v := 0) dX8_readNumber_0 (by decide) ?_
    refine g_istore dX8_readNumber_1 (Nat.le_of_ble_eq_true rfl) rfl ?_
    refine g_iload_n (i := 2) dX8_readNumber_3 rfl rfl ?_
    refine g_istore dX8_readNumber_4 (Nat.le_of_ble_eq_true rfl) rfl ?_
    exact key (e - p) p 0 (by omega) h33 rfl
  · refine g_iconst (v := 0) dX8_readNumber_0 (by decide) ?_
    refine g_istore dX8_readNumber_1 (Nat.le_of_ble_eq_true rfl) rfl ?_
    refine g_iload_n (i := 2) dX8_readNumber_3 rfl rfl ?_
    refine g_istore dX8_readNumber_4 (Nat.le_of_ble_eq_true rfl) rfl ?_
    refine g_iload dX8_readNumber_6 rfl ?_
    refine g_iload_n (i := 3) dX8_readNumber_8 rfl rfl ?_
    refine g_icmp_ge (tgt := 43) dX8_readNumber_9 (by decide) (fun hc9 => ?_) (fun hc9 => ?_)
    · (try simp (disch := omega) only [nT, t_m1000100, t_m1000010, t_m1000003, t_m1000002, t_m1000001, t_m1000000, t_m65535, t_m1000, t_m3, t_m1, t_0, t_1, t_2, t_3, t_4, t_5, t_6, t_7, t_8, t_9, t_10, t_11, t_12, t_13, t_15, t_16, t_20, t_21, t_22, t_32, t_40, t_41, t_48, t_49, t_57, t_59, t_60, t_63, t_72, t_76, t_88, t_100, t_144, t_200, t_255, t_288, t_400, t_800, t_999, t_1000, t_1024, t_1200, t_1600, t_3200, t_100000, t_200000, t_252645135, t_858993459, t_1431655765, u_m1000002, u_m1000001, u_m1000, u_m3, u_m1, u_0, u_1, u_2, u_3, u_4, u_5, u_7, u_8, u_10, u_11, u_15, u_60, u_100, u_255, u_999, u_1000, u_100000, u_4294967295] at hc9); omega
    · (try simp (disch := omega) only [nT, t_m1000100, t_m1000010, t_m1000003, t_m1000002, t_m1000001, t_m1000000, t_m65535, t_m1000, t_m3, t_m1, t_0, t_1, t_2, t_3, t_4, t_5, t_6, t_7, t_8, t_9, t_10, t_11, t_12, t_13, t_15, t_16, t_20, t_21, t_22, t_32, t_40, t_41, t_48, t_49, t_57, t_59, t_60, t_63, t_72, t_76, t_88, t_100, t_144, t_200, t_255, t_288, t_400, t_800, t_999, t_1000, t_1024, t_1200, t_1600, t_3200, t_100000, t_200000, t_252645135, t_858993459, t_1431655765, u_m1000002, u_m1000001, u_m1000, u_m3, u_m1, u_0, u_1, u_2, u_3, u_4, u_5, u_7, u_8, u_10, u_11, u_15, u_60, u_100, u_255, u_999, u_1000, u_100000, u_4294967295] at hc9)
      refine g_iload_n (i := 3) dX8_readNumber_12 rfl rfl ?_
      refine g_iload_n (i := 2) dX8_readNumber_13 rfl rfl ?_
      refine g_isub dX8_readNumber_14 ?_
      rw [n_sub hpe]
      refine g_iconst (v := 3) dX8_readNumber_15 (by decide) ?_
      refine g_icmp_gt (tgt := 43) dX8_readNumber_16 (by decide) (fun hc16 => ?_) (fun hc16 => ?_)
      · (try simp (disch := omega) only [nT, t_m1000100, t_m1000010, t_m1000003, t_m1000002, t_m1000001, t_m1000000, t_m65535, t_m1000, t_m3, t_m1, t_0, t_1, t_2, t_3, t_4, t_5, t_6, t_7, t_8, t_9, t_10, t_11, t_12, t_13, t_15, t_16, t_20, t_21, t_22, t_32, t_40, t_41, t_48, t_49, t_57, t_59, t_60, t_63, t_72, t_76, t_88, t_100, t_144, t_200, t_255, t_288, t_400, t_800, t_999, t_1000, t_1024, t_1200, t_1600, t_3200, t_100000, t_200000, t_252645135, t_858993459, t_1431655765, u_m1000002, u_m1000001, u_m1000, u_m3, u_m1, u_0, u_1, u_2, u_3, u_4, u_5, u_7, u_8, u_10, u_11, u_15, u_60, u_100, u_255, u_999, u_1000, u_100000, u_4294967295] at hc16)
        exact fin 0 _ (fun q => absurd q h33)
      · (try simp (disch := omega) only [nT, t_m1000100, t_m1000010, t_m1000003, t_m1000002, t_m1000001, t_m1000000, t_m65535, t_m1000, t_m3, t_m1, t_0, t_1, t_2, t_3, t_4, t_5, t_6, t_7, t_8, t_9, t_10, t_11, t_12, t_13, t_15, t_16, t_20, t_21, t_22, t_32, t_40, t_41, t_48, t_49, t_57, t_59, t_60, t_63, t_72, t_76, t_88, t_100, t_144, t_200, t_255, t_288, t_400, t_800, t_999, t_1000, t_1024, t_1200, t_1600, t_3200, t_100000, t_200000, t_252645135, t_858993459, t_1431655765, u_m1000002, u_m1000001, u_m1000, u_m3, u_m1, u_0, u_1, u_2, u_3, u_4, u_5, u_7, u_8, u_10, u_11, u_15, u_60, u_100, u_255, u_999, u_1000, u_100000, u_4294967295] at hc16); omega
/-- the loops of an end: lo goes on from c -/
def LoP (lo : Nat → Int32) (fr : Nat → Nat) (Z : List Nat) (t nl c : Nat) : Prop := ∀ x q, Z[x]? = some q → x < c → x < 100000 → ∃ l, l < nl ∧ lo (100000 * t + x) = nI l ∧ fr l = q
theorem m_close (ht : t < 2) (hr : RmX h L tp p 0 d A op ot ins) (hv : InvM L tp t A op ot ins d M T nl pn p) (ho : OtM t A0 A) (hpL : p < L) (h1 : (tp p).toInt = 41) : CT mX8_close 1 0 0 [.ref 44, .int (nI t)] h (fun r h' => r = none ∧ OutM t L tp A0 h' (tokB L tp (d, M, T, nl, pn) p) ∧ Fr saM sfM h h') := by
  obtain ⟨⟨v1, v2, v3, v4, v5, v6⟩, ⟨k1, k2, k3⟩, k4, k5, fr, f1, f2⟩ := id hv
  have hcat := cat_le (M := M) (d + 1) (fun j hj => (k4 j (by omega)).2)
  obtain ⟨r1, r2, r3, r4, r5, r6, r7, r8, r9, r10, r11, r12, r13, r14, b0, b1, b2, b3, b4, b5, b6, b7, b8⟩ := id hr
  refine CT.go [.ref 44, .int (nI t), hU, hU, hU, hU, hU] (by decide +kernel) rfl rfl (fun Q' hQ => ?_)
  rcases d with _ | d
  · refine g_aload_n (i := 0) dX8_close_0 rfl rfl ?_
    refine g_get dX8_close_1 fl_X8_162 (by repeat' (first | assumption | exact rF_eq | refine rF_ne (by decide) ?_ | refine rF_a ?_ | exact rA_eq | refine rA_ne (by decide) ?_ | refine rA_f ?_)) (by repeat' (first | assumption | exact rF_eq | refine rF_ne (by decide) ?_ | refine rF_a ?_ | exact rA_eq | refine rA_ne (by decide) ?_ | refine rA_f ?_)) ?_
    refine g_if_ne (tgt := 17) dX8_close_4 (by decide) (fun hc4 => ?_) (fun hc4 => ?_)
    · have hd4 := mt i_eq.mpr hc4; (try simp (disch := omega) only [nT, t_m1000100, t_m1000010, t_m1000003, t_m1000002, t_m1000001, t_m1000000, t_m65535, t_m1000, t_m3, t_m1, t_0, t_1, t_2, t_3, t_4, t_5, t_6, t_7, t_8, t_9, t_10, t_11, t_12, t_13, t_15, t_16, t_20, t_21, t_22, t_32, t_40, t_41, t_48, t_49, t_57, t_59, t_60, t_63, t_72, t_76, t_88, t_100, t_144, t_200, t_255, t_288, t_400, t_800, t_999, t_1000, t_1024, t_1200, t_1600, t_3200, t_100000, t_200000, t_252645135, t_858993459, t_1431655765, u_m1000002, u_m1000001, u_m1000, u_m3, u_m1, u_0, u_1, u_2, u_3, u_4, u_5, u_7, u_8, u_10, u_11, u_15, u_60, u_100, u_255, u_999, u_1000, u_100000, u_4294967295] at hd4); exact absurd rfl hc4
    · have hd4 := i_eq.mp hc4; (try simp (disch := omega) only [nT, t_m1000100, t_m1000010, t_m1000003, t_m1000002, t_m1000001, t_m1000000, t_m65535, t_m1000, t_m3, t_m1, t_0, t_1, t_2, t_3, t_4, t_5, t_6, t_7, t_8, t_9, t_10, t_11, t_12, t_13, t_15, t_16, t_20, t_21, t_22, t_32, t_40, t_41, t_48, t_49, t_57, t_59, t_60, t_63, t_72, t_76, t_88, t_100, t_144, t_200, t_255, t_288, t_400, t_800, t_999, t_1000, t_1024, t_1200, t_1600, t_3200, t_100000, t_200000, t_252645135, t_858993459, t_1431655765, u_m1000002, u_m1000001, u_m1000, u_m3, u_m1, u_0, u_1, u_2, u_3, u_4, u_5, u_7, u_8, u_10, u_11, u_15, u_60, u_100, u_255, u_999, u_1000, u_100000, u_4294967295] at hd4)
      refine g_aload_n (i := 0) dX8_close_7 rfl rfl ?_
      refine g_iconst (v := 1) dX8_close_8 (by decide) ?_
      refine g_aload_n (i := 0) dX8_close_9 rfl rfl ?_
      refine g_get dX8_close_10 fl_X8_149 (by repeat' (first | assumption | exact rF_eq | refine rF_ne (by decide) ?_ | refine rF_a ?_ | exact rA_eq | refine rA_ne (by decide) ?_ | refine rA_f ?_)) (by repeat' (first | assumption | exact rF_eq | refine rF_ne (by decide) ?_ | refine rF_a ?_ | exact rA_eq | refine rA_ne (by decide) ?_ | refine rA_f ?_)) ?_
      refine g_callV (M' := mX8_bad) dX8_close_13 lc_X8_bad ml_X8_158 (c_bad r1 r5 1 (nI p)) rfl rfl (by repeat' (first | assumption | exact rF_eq | refine rF_ne (by decide) ?_ | refine rF_a ?_ | exact rA_eq | refine rA_ne (by decide) ?_ | refine rA_f ?_)) rfl ⟨Nat.le_of_ble_eq_true rfl, Nat.le_of_ble_eq_true rfl, Nat.le_of_ble_eq_true rfl, Nat.le_of_ble_eq_true rfl⟩ (Nat.le_of_ble_eq_true rfl) ?_
      intro r_ h_ q_; obtain ⟨q1_, q2_⟩ := q_; have q2_ := q2_.symm; subst q1_; subst q2_
      refine g_vret dX8_close_16 rfl (hQ _ _ ?_)
      rw [tok_c1 h1 rfl]
      exact ⟨rfl, pn_bad hr v2 ho 1 p (by omega) (by omega) (by omega), fr_sF (by decide) (fr_sF (by decide) fr_rf)⟩
  · obtain ⟨i1, i2⟩ := k4 (d + 1) (by omega)
    obtain ⟨j1, j2⟩ := k4 d (by omega)
    obtain ⟨o1, o2, o3, o4⟩ := k5 (d + 1) (by omega) (by omega)
    have hmul : T (d + 1) * (M (d + 1)).length ≤ 999 * 100000 := Nat.mul_le_mul o4 i2
    have hcat2 : (catM M (d + 1 + 1)).length = (catM M (d + 1)).length + (M (d + 1)).length := by
      show (catM M (d + 1) ++ M (d + 1)).length = _
      rw [List.length_append]
    have hTn : nL ((M d).length + T (d + 1) * (M (d + 1)).length) = nL ((M d).length + T (d + 1) * (M (d + 1)).length) := rfl
    have hnT := @nL_T ((M d).length + T (d + 1) * (M (d + 1)).length) (by omega)
    have hu := u_100000
    refine g_aload_n (i := 0) dX8_close_0 rfl rfl ?_
    refine g_get dX8_close_1 fl_X8_162 (by repeat' (first | assumption | exact rF_eq | refine rF_ne (by decide) ?_ | refine rF_a ?_ | exact rA_eq | refine rA_ne (by decide) ?_ | refine rA_f ?_)) (by repeat' (first | assumption | exact rF_eq | refine rF_ne (by decide) ?_ | refine rF_a ?_ | exact rA_eq | refine rA_ne (by decide) ?_ | refine rA_f ?_)) ?_
    refine g_if_ne (tgt := 17) dX8_close_4 (by decide) (fun hc4 => ?_) (fun hc4 => ?_)
    · have hd4 := mt i_eq.mpr hc4; (try simp (disch := omega) only [nT, t_m1000100, t_m1000010, t_m1000003, t_m1000002, t_m1000001, t_m1000000, t_m65535, t_m1000, t_m3, t_m1, t_0, t_1, t_2, t_3, t_4, t_5, t_6, t_7, t_8, t_9, t_10, t_11, t_12, t_13, t_15, t_16, t_20, t_21, t_22, t_32, t_40, t_41, t_48, t_49, t_57, t_59, t_60, t_63, t_72, t_76, t_88, t_100, t_144, t_200, t_255, t_288, t_400, t_800, t_999, t_1000, t_1024, t_1200, t_1600, t_3200, t_100000, t_200000, t_252645135, t_858993459, t_1431655765, u_m1000002, u_m1000001, u_m1000, u_m3, u_m1, u_0, u_1, u_2, u_3, u_4, u_5, u_7, u_8, u_10, u_11, u_15, u_60, u_100, u_255, u_999, u_1000, u_100000, u_4294967295] at hd4)
      refine g_aload_n (i := 0) dX8_close_17 rfl rfl ?_
      refine g_get dX8_close_18 fl_X8_44 (by repeat' (first | assumption | exact rF_eq | refine rF_ne (by decide) ?_ | refine rF_a ?_ | exact rA_eq | refine rA_ne (by decide) ?_ | refine rA_f ?_)) (by repeat' (first | assumption | exact rF_eq | refine rF_ne (by decide) ?_ | refine rF_a ?_ | exact rA_eq | refine rA_ne (by decide) ?_ | refine rA_f ?_)) ?_
      refine g_aload_n (i := 0) dX8_close_21 rfl rfl ?_
      refine g_get dX8_close_22 fl_X8_162 (by repeat' (first | assumption | exact rF_eq | refine rF_ne (by decide) ?_ | refine rF_a ?_ | exact rA_eq | refine rA_ne (by decide) ?_ | refine rA_f ?_)) (by repeat' (first | assumption | exact rF_eq | refine rF_ne (by decide) ?_ | refine rF_a ?_ | exact rA_eq | refine rA_ne (by decide) ?_ | refine rA_f ?_)) ?_
      refine g_iconst (v := 1) dX8_close_25 (by decide) ?_
      refine g_isub dX8_close_26 ?_
      rw [n_m1]
      refine g_iald dX8_close_27 (by repeat' (first | assumption | exact rF_eq | refine rF_ne (by decide) ?_ | refine rF_a ?_ | exact rA_eq | refine rA_ne (by decide) ?_ | refine rA_f ?_)) (nT (by omega)) (by omega) ?_
      rw [j1]
      refine g_i2l dX8_close_28 ?_
      refine g_aload_n (i := 0) dX8_close_29 rfl rfl ?_
      refine g_get dX8_close_30 fl_X8_44 (by repeat' (first | assumption | exact rF_eq | refine rF_ne (by decide) ?_ | refine rF_a ?_ | exact rA_eq | refine rA_ne (by decide) ?_ | refine rA_f ?_)) (by repeat' (first | assumption | exact rF_eq | refine rF_ne (by decide) ?_ | refine rF_a ?_ | exact rA_eq | refine rA_ne (by decide) ?_ | refine rA_f ?_)) ?_
      refine g_aload_n (i := 0) dX8_close_33 rfl rfl ?_
      refine g_get dX8_close_34 fl_X8_162 (by repeat' (first | assumption | exact rF_eq | refine rF_ne (by decide) ?_ | refine rF_a ?_ | exact rA_eq | refine rA_ne (by decide) ?_ | refine rA_f ?_)) (by repeat' (first | assumption | exact rF_eq | refine rF_ne (by decide) ?_ | refine rF_a ?_ | exact rA_eq | refine rA_ne (by decide) ?_ | refine rA_f ?_)) ?_
      refine g_iald dX8_close_37 (by repeat' (first | assumption | exact rF_eq | refine rF_ne (by decide) ?_ | refine rF_a ?_ | exact rA_eq | refine rA_ne (by decide) ?_ | refine rA_f ?_)) (nT (by omega)) (by omega) ?_
      rw [i1]
      refine g_i2l dX8_close_38 ?_
      refine g_aload_n (i := 0) dX8_close_39 rfl rfl ?_
      refine g_get dX8_close_40 fl_X8_41 (by repeat' (first | assumption | exact rF_eq | refine rF_ne (by decide) ?_ | refine rF_a ?_ | exact rA_eq | refine rA_ne (by decide) ?_ | refine rA_f ?_)) (by repeat' (first | assumption | exact rF_eq | refine rF_ne (by decide) ?_ | refine rF_a ?_ | exact rA_eq | refine rA_ne (by decide) ?_ | refine rA_f ?_)) ?_
      refine g_aload_n (i := 0) dX8_close_43 rfl rfl ?_
      refine g_get dX8_close_44 fl_X8_162 (by repeat' (first | assumption | exact rF_eq | refine rF_ne (by decide) ?_ | refine rF_a ?_ | exact rA_eq | refine rA_ne (by decide) ?_ | refine rA_f ?_)) (by repeat' (first | assumption | exact rF_eq | refine rF_ne (by decide) ?_ | refine rF_a ?_ | exact rA_eq | refine rA_ne (by decide) ?_ | refine rA_f ?_)) ?_
      refine g_iald dX8_close_47 (by repeat' (first | assumption | exact rF_eq | refine rF_ne (by decide) ?_ | refine rF_a ?_ | exact rA_eq | refine rA_ne (by decide) ?_ | refine rA_f ?_)) (nT (by omega)) (by omega) ?_
      rw [o2]
      refine g_i2l dX8_close_48 ?_
      refine g_lmul dX8_close_49 ?_
      refine g_ladd dX8_close_50 ?_
      rw [nI_L (by omega), nI_L (by omega), nI_L (by omega), nL_mul, nL_add, Nat.mul_comm (M (d + 1)).length]
      refine g_lstore_n (i := 2) dX8_close_51 rfl (Nat.le_of_ble_eq_true rfl) rfl ?_
      refine g_lload_n (i := 2) dX8_close_52 rfl rfl ?_
      refine g_ldc2 dX8_close_53 kc_X8_169 ?_
      refine g_lcmp dX8_close_56 ?_
      refine g_if_le (tgt := 70) dX8_close_57 (by decide) (fun hc57 => ?_) (fun hc57 => ?_)
      · replace hc57 := lc_le.mp hc57; (try simp only [l_add32, l_i] at hc57)
        (try simp (disch := omega) only [nT, t_m1000100, t_m1000010, t_m1000003, t_m1000002, t_m1000001, t_m1000000, t_m65535, t_m1000, t_m3, t_m1, t_0, t_1, t_2, t_3, t_4, t_5, t_6, t_7, t_8, t_9, t_10, t_11, t_12, t_13, t_15, t_16, t_20, t_21, t_22, t_32, t_40, t_41, t_48, t_49, t_57, t_59, t_60, t_63, t_72, t_76, t_88, t_100, t_144, t_200, t_255, t_288, t_400, t_800, t_999, t_1000, t_1024, t_1200, t_1600, t_3200, t_100000, t_200000, t_252645135, t_858993459, t_1431655765, u_m1000002, u_m1000001, u_m1000, u_m3, u_m1, u_0, u_1, u_2, u_3, u_4, u_5, u_7, u_8, u_10, u_11, u_15, u_60, u_100, u_255, u_999, u_1000, u_100000, u_4294967295] at hc57)
        have hov : ¬ 100000 < (M d).length + T (d + 1) * (M (d + 1)).length := by omega
        generalize hN : (M (d + 1)).length = N at *
        generalize hB : (catM M (d + 1)).length = B at *
        have key : ∀ (m u : Nat) (cs lo : Nat → Int32) (v6 : Value), u + m = T (d + 1) → 1 ≤ u → cs t = nI (B + u * N) → OtM t A0 (A.1, A.2.1, cs, A.2.2.2.1, lo) → LoP lo fr (catM M (d + 1) ++ repL (T (d + 1)) (M (d + 1))) t nl (B + u * N) → GG (EM mX8_close 1 0 0 Q') 0 0 84 [.ref 44, .int (nI t), .long (nL ((M d).length + T (d + 1) * N)), hU, .int (nI N), .int (nI u), v6] [] (sA (sA h 51 (aI 2 cs)) 53 (aI 200000 lo)) := by
          intro m
          induction m with
          | zero =>
            intro u cs lo v6 hu1 hu2 hcs hoo hlo
            obtain rfl : u = T (d + 1) := by omega
            refine g_iload dX8_close_84 rfl ?_
            refine g_aload_n (i := 0) dX8_close_86 rfl rfl ?_
            refine g_get dX8_close_87 fl_X8_41 (by repeat' (first | assumption | exact rF_eq | refine rF_ne (by decide) ?_ | refine rF_a ?_ | exact rA_eq | refine rA_ne (by decide) ?_ | refine rA_f ?_)) (by repeat' (first | assumption | exact rF_eq | refine rF_ne (by decide) ?_ | refine rF_a ?_ | exact rA_eq | refine rA_ne (by decide) ?_ | refine rA_f ?_)) ?_
            refine g_aload_n (i := 0) dX8_close_90 rfl rfl ?_
            refine g_get dX8_close_91 fl_X8_162 (by repeat' (first | assumption | exact rF_eq | refine rF_ne (by decide) ?_ | refine rF_a ?_ | exact rA_eq | refine rA_ne (by decide) ?_ | refine rA_f ?_)) (by repeat' (first | assumption | exact rF_eq | refine rF_ne (by decide) ?_ | refine rF_a ?_ | exact rA_eq | refine rA_ne (by decide) ?_ | refine rA_f ?_)) ?_
            refine g_iald dX8_close_94 (by repeat' (first | assumption | exact rF_eq | refine rF_ne (by decide) ?_ | refine rF_a ?_ | exact rA_eq | refine rA_ne (by decide) ?_ | refine rA_f ?_)) (nT (by omega)) (by omega) ?_
            rw [o2]
            refine g_icmp_ge (tgt := 179) dX8_close_95 (by decide) (fun hc95 => ?_) (fun hc95 => ?_)
            · (try simp (disch := omega) only [nT, t_m1000100, t_m1000010, t_m1000003, t_m1000002, t_m1000001, t_m1000000, t_m65535, t_m1000, t_m3, t_m1, t_0, t_1, t_2, t_3, t_4, t_5, t_6, t_7, t_8, t_9, t_10, t_11, t_12, t_13, t_15, t_16, t_20, t_21, t_22, t_32, t_40, t_41, t_48, t_49, t_57, t_59, t_60, t_63, t_72, t_76, t_88, t_100, t_144, t_200, t_255, t_288, t_400, t_800, t_999, t_1000, t_1024, t_1200, t_1600, t_3200, t_100000, t_200000, t_252645135, t_858993459, t_1431655765, u_m1000002, u_m1000001, u_m1000, u_m3, u_m1, u_0, u_1, u_2, u_3, u_4, u_5, u_7, u_8, u_10, u_11, u_15, u_60, u_100, u_255, u_999, u_1000, u_100000, u_4294967295] at hc95)
              refine g_aload_n (i := 0) dX8_close_179 rfl rfl ?_
              refine g_dup dX8_close_180 rfl ?_
              refine g_get dX8_close_181 fl_X8_162 (by repeat' (first | assumption | exact rF_eq | refine rF_ne (by decide) ?_ | refine rF_a ?_ | exact rA_eq | refine rA_ne (by decide) ?_ | refine rA_f ?_)) (by repeat' (first | assumption | exact rF_eq | refine rF_ne (by decide) ?_ | refine rF_a ?_ | exact rA_eq | refine rA_ne (by decide) ?_ | refine rA_f ?_)) ?_
              refine g_iconst (v := 1) dX8_close_184 (by decide) ?_
              refine g_isub dX8_close_185 ?_
              rw [n_m1]
              refine g_put dX8_close_186 pl_X8_162 (by repeat' (first | assumption | exact rF_eq | refine rF_ne (by decide) ?_ | refine rF_a ?_ | exact rA_eq | refine rA_ne (by decide) ?_ | refine rA_f ?_)) (fun _ => ⟨rfl, rfl⟩) ?_
              refine g_aload_n (i := 0) dX8_close_189 rfl rfl ?_
              refine g_get dX8_close_190 fl_X8_44 (by repeat' (first | assumption | exact rF_eq | refine rF_ne (by decide) ?_ | refine rF_a ?_ | exact rA_eq | refine rA_ne (by decide) ?_ | refine rA_f ?_)) (by repeat' (first | assumption | exact rF_eq | refine rF_ne (by decide) ?_ | refine rF_a ?_ | exact rA_eq | refine rA_ne (by decide) ?_ | refine rA_f ?_)) ?_
              refine g_aload_n (i := 0) dX8_close_193 rfl rfl ?_
              refine g_get dX8_close_194 fl_X8_162 (by repeat' (first | assumption | exact rF_eq | refine rF_ne (by decide) ?_ | refine rF_a ?_ | exact rA_eq | refine rA_ne (by decide) ?_ | refine rA_f ?_)) (by repeat' (first | assumption | exact rF_eq | refine rF_ne (by decide) ?_ | refine rF_a ?_ | exact rA_eq | refine rA_ne (by decide) ?_ | refine rA_f ?_)) ?_
              refine g_lload_n (i := 2) dX8_close_197 rfl rfl ?_
              refine g_l2i dX8_close_198 ?_
              rw [nL_I (by omega)]
              refine g_iast dX8_close_199 (by repeat' (first | assumption | exact rF_eq | refine rF_ne (by decide) ?_ | refine rF_a ?_ | exact rA_eq | refine rA_ne (by decide) ?_ | refine rA_f ?_)) (nT (by omega)) (by omega) ?_
              refine g_aload_n (i := 0) dX8_close_200 rfl rfl ?_
              refine g_dup dX8_close_201 rfl ?_
              refine g_get dX8_close_202 fl_X8_149 (by repeat' (first | assumption | exact rF_eq | refine rF_ne (by decide) ?_ | refine rF_a ?_ | exact rA_eq | refine rA_ne (by decide) ?_ | refine rA_f ?_)) (by repeat' (first | assumption | exact rF_eq | refine rF_ne (by decide) ?_ | refine rF_a ?_ | exact rA_eq | refine rA_ne (by decide) ?_ | refine rA_f ?_)) ?_
              refine g_iconst (v := 1) dX8_close_205 (by decide) ?_
              refine g_iadd dX8_close_206 ?_
              rw [ni_inc]
              refine g_put dX8_close_207 pl_X8_149 (by repeat' (first | assumption | exact rF_eq | refine rF_ne (by decide) ?_ | refine rF_a ?_ | exact rA_eq | refine rA_ne (by decide) ?_ | refine rA_f ?_)) (fun _ => ⟨rfl, rfl⟩) ?_
              refine g_vret dX8_close_210 rfl (hQ _ _ ?_)
              rw [tok_c h1 (by omega) (by rw [Nat.add_sub_cancel, hN]; exact hov)]
              have hi := invM_close (cs := cs) (lo := lo) (fr := fr) hv hpL (by rw [hN]; exact hov) (by rw [hB, hN]; exact hcs) f1 (fun c q hq hc => hlo c q hq (by have := (List.getElem?_eq_some_iff.mp hq).1; rw [List.length_append, repL_len, hB, hN] at this; exact this) hc)
              rw [hN] at hi
              exact ⟨rfl, ⟨(A.1, A.2.1, cs, A.2.2.2.1, lo), op, ot, upd ins d (nI ((M d).length + T (d + 1) * N)), ⟨r1, r2, r3, rfl, r5, r6, r7, r8, r9, r10, r11, r12, r13, rfl, b0, b1, b2, rfl, b4, rfl, b6, b7, rfl⟩, hi, hoo⟩, fr_sF (by decide) (fr_sA (by decide) (fr_sF (by decide) (fr_sA (by decide) (fr_sA (by decide) fr_rf))))⟩
            · (try simp (disch := omega) only [nT, t_m1000100, t_m1000010, t_m1000003, t_m1000002, t_m1000001, t_m1000000, t_m65535, t_m1000, t_m3, t_m1, t_0, t_1, t_2, t_3, t_4, t_5, t_6, t_7, t_8, t_9, t_10, t_11, t_12, t_13, t_15, t_16, t_20, t_21, t_22, t_32, t_40, t_41, t_48, t_49, t_57, t_59, t_60, t_63, t_72, t_76, t_88, t_100, t_144, t_200, t_255, t_288, t_400, t_800, t_999, t_1000, t_1024, t_1200, t_1600, t_3200, t_100000, t_200000, t_252645135, t_858993459, t_1431655765, u_m1000002, u_m1000001, u_m1000, u_m3, u_m1, u_0, u_1, u_2, u_3, u_4, u_5, u_7, u_8, u_10, u_11, u_15, u_60, u_100, u_255, u_999, u_1000, u_100000, u_4294967295] at hc95); omega
          | succ m ih =>
            intro u cs lo v6 hu1 hu2 hcs hoo hlo
            have hun : (u + 1) * N ≤ T (d + 1) * N := Nat.mul_le_mul_right N (by omega)
            rw [Nat.succ_mul] at hun
            have huN : N ≤ u * N := Nat.le_mul_of_pos_left N (by omega)
            have keyI : ∀ (r k : Nat) (cs lo : Nat → Int32), k + r = N → cs t = nI (B + u * N + k) → OtM t A0 (A.1, A.2.1, cs, A.2.2.2.1, lo) → LoP lo fr (catM M (d + 1) ++ repL (T (d + 1)) (M (d + 1))) t nl (B + u * N + k) → GG (EM mX8_close 1 0 0 Q') 0 0 101 [.ref 44, .int (nI t), .long (nL ((M d).length + T (d + 1) * N)), hU, .int (nI N), .int (nI u), .int (nI k)] [] (sA (sA h 51 (aI 2 cs)) 53 (aI 200000 lo)) := by
              intro r
              induction r with
              | zero =>
                intro k cs lo hk hcs hoo hlo
                obtain rfl : k = N := by omega
                refine g_iload dX8_close_101 rfl ?_
                refine g_iload dX8_close_103 rfl ?_
                refine g_icmp_ge (tgt := 173) dX8_close_105 (by decide) (fun hc105 => ?_) (fun hc105 => ?_)
                · (try simp (disch := omega) only [nT, t_m1000100, t_m1000010, t_m1000003, t_m1000002, t_m1000001, t_m1000000, t_m65535, t_m1000, t_m3, t_m1, t_0, t_1, t_2, t_3, t_4, t_5, t_6, t_7, t_8, t_9, t_10, t_11, t_12, t_13, t_15, t_16, t_20, t_21, t_22, t_32, t_40, t_41, t_48, t_49, t_57, t_59, t_60, t_63, t_72, t_76, t_88, t_100, t_144, t_200, t_255, t_288, t_400, t_800, t_999, t_1000, t_1024, t_1200, t_1600, t_3200, t_100000, t_200000, t_252645135, t_858993459, t_1431655765, u_m1000002, u_m1000001, u_m1000, u_m3, u_m1, u_0, u_1, u_2, u_3, u_4, u_5, u_7, u_8, u_10, u_11, u_15, u_60, u_100, u_255, u_999, u_1000, u_100000, u_4294967295] at hc105)
                  refine g_iinc dX8_close_173 rfl (Nat.le_of_ble_eq_true rfl) rfl ?_
                  refine g_goto (tgt := 84) dX8_close_176 (by decide) ?_
                  rw [ni_incO]
                  exact ih (u + 1) cs lo _ (by omega) (by omega) (by rw [Nat.succ_mul, ← Nat.add_assoc]; exact hcs) hoo (by rw [Nat.succ_mul, ← Nat.add_assoc]; exact hlo)
                · (try simp (disch := omega) only [nT, t_m1000100, t_m1000010, t_m1000003, t_m1000002, t_m1000001, t_m1000000, t_m65535, t_m1000, t_m3, t_m1, t_0, t_1, t_2, t_3, t_4, t_5, t_6, t_7, t_8, t_9, t_10, t_11, t_12, t_13, t_15, t_16, t_20, t_21, t_22, t_32, t_40, t_41, t_48, t_49, t_57, t_59, t_60, t_63, t_72, t_76, t_88, t_100, t_144, t_200, t_255, t_288, t_400, t_800, t_999, t_1000, t_1024, t_1200, t_1600, t_3200, t_100000, t_200000, t_252645135, t_858993459, t_1431655765, u_m1000002, u_m1000001, u_m1000, u_m3, u_m1, u_0, u_1, u_2, u_3, u_4, u_5, u_7, u_8, u_10, u_11, u_15, u_60, u_100, u_255, u_999, u_1000, u_100000, u_4294967295] at hc105); omega
              | succ r ihr =>
                intro k cs lo hk hcs hoo hlo
                have hlen : (catM M (d + 1) ++ repL (T (d + 1)) (M (d + 1))).length = B + T (d + 1) * N := by rw [List.length_append, repL_len, hB, hN]
                have hzk : (catM M (d + 1) ++ repL (T (d + 1)) (M (d + 1)))[B + k]? = (M (d + 1))[k]? := by
                  rw [List.getElem?_append_right (by omega), hB, show B + k - B = k by omega, repL_get _ _ _ (by rw [hN]; omega), hN, Nat.mod_eq_of_lt (by omega)]
                have hzc : (catM M (d + 1) ++ repL (T (d + 1)) (M (d + 1)))[B + u * N + k]? = (M (d + 1))[k]? := by
                  rw [List.getElem?_append_right (by omega), hB, show B + u * N + k - B = k + u * N by omega, repL_get _ _ _ (by rw [hN]; omega), hN, Nat.add_mul_mod_self_right, Nat.mod_eq_of_lt (by omega)]
                have hcs2 : upd cs t (nI (B + u * N + k + 1)) t = nI (B + u * N + (k + 1)) := upd_s
                by_cases hc1 : B + u * N + k < 100000
                · obtain ⟨l, l1, l2, l3⟩ := hlo (B + k) ((M (d + 1))[k]'(by omega)) (by rw [hzk]; exact List.getElem?_eq_getElem (by omega)) (by omega) (by omega)
                  have hlo2 : LoP (upd lo (100000 * t + (B + u * N + k)) (nI l)) fr (catM M (d + 1) ++ repL (T (d + 1)) (M (d + 1))) t nl (B + u * N + (k + 1)) := by
                    intro x q hq hx1 hx2
                    by_cases hx : x = B + u * N + k
                    · subst hx
                      rw [hzc, List.getElem?_eq_getElem (by omega)] at hq
                      cases hq
                      exact ⟨l, l1, upd_s, l3⟩
                    · rw [upd_n (by omega)]
                      exact hlo x q hq (by omega) hx2
                  have hoo2 : OtM t A0 (A.1, A.2.1, upd cs t (nI (B + u * N + k + 1)), A.2.2.2.1, upd lo (100000 * t + (B + u * N + k)) (nI l)) := ot_tr hoo ⟨rfl, rfl, upd_n (by omega), fun _ _ => rfl, fun i hi => upd_n (by omega)⟩
                  refine g_iload dX8_close_101 rfl ?_
                  refine g_iload dX8_close_103 rfl ?_
                  refine g_icmp_ge (tgt := 173) dX8_close_105 (by decide) (fun hc105 => ?_) (fun hc105 => ?_)
                  · (try simp (disch := omega) only [nT, t_m1000100, t_m1000010, t_m1000003, t_m1000002, t_m1000001, t_m1000000, t_m65535, t_m1000, t_m3, t_m1, t_0, t_1, t_2, t_3, t_4, t_5, t_6, t_7, t_8, t_9, t_10, t_11, t_12, t_13, t_15, t_16, t_20, t_21, t_22, t_32, t_40, t_41, t_48, t_49, t_57, t_59, t_60, t_63, t_72, t_76, t_88, t_100, t_144, t_200, t_255, t_288, t_400, t_800, t_999, t_1000, t_1024, t_1200, t_1600, t_3200, t_100000, t_200000, t_252645135, t_858993459, t_1431655765, u_m1000002, u_m1000001, u_m1000, u_m3, u_m1, u_0, u_1, u_2, u_3, u_4, u_5, u_7, u_8, u_10, u_11, u_15, u_60, u_100, u_255, u_999, u_1000, u_100000, u_4294967295] at hc105); omega
                  · (try simp (disch := omega) only [nT, t_m1000100, t_m1000010, t_m1000003, t_m1000002, t_m1000001, t_m1000000, t_m65535, t_m1000, t_m3, t_m1, t_0, t_1, t_2, t_3, t_4, t_5, t_6, t_7, t_8, t_9, t_10, t_11, t_12, t_13, t_15, t_16, t_20, t_21, t_22, t_32, t_40, t_41, t_48, t_49, t_57, t_59, t_60, t_63, t_72, t_76, t_88, t_100, t_144, t_200, t_255, t_288, t_400, t_800, t_999, t_1000, t_1024, t_1200, t_1600, t_3200, t_100000, t_200000, t_252645135, t_858993459, t_1431655765, u_m1000002, u_m1000001, u_m1000, u_m3, u_m1, u_0, u_1, u_2, u_3, u_4, u_5, u_7, u_8, u_10, u_11, u_15, u_60, u_100, u_255, u_999, u_1000, u_100000, u_4294967295] at hc105)
                    refine g_aload_n (i := 0) dX8_close_108 rfl rfl ?_
                    refine g_get dX8_close_109 fl_X8_28 (by repeat' (first | assumption | exact rF_eq | refine rF_ne (by decide) ?_ | refine rF_a ?_ | exact rA_eq | refine rA_ne (by decide) ?_ | refine rA_f ?_)) (by repeat' (first | assumption | exact rF_eq | refine rF_ne (by decide) ?_ | refine rF_a ?_ | exact rA_eq | refine rA_ne (by decide) ?_ | refine rA_f ?_)) ?_
                    refine g_iload_n (i := 1) dX8_close_112 rfl rfl ?_
                    refine g_iald dX8_close_113 (by repeat' (first | assumption | exact rF_eq | refine rF_ne (by decide) ?_ | refine rF_a ?_ | exact rA_eq | refine rA_ne (by decide) ?_ | refine rA_f ?_)) (nT (by omega)) (by omega) ?_
                    rw [hcs]
                    refine g_ldc dX8_close_114 kc_X8_165 ?_
                    refine g_icmp_ge (tgt := 157) dX8_close_116 (by decide) (fun hc116 => ?_) (fun hc116 => ?_)
                    · (try simp (disch := omega) only [nT, t_m1000100, t_m1000010, t_m1000003, t_m1000002, t_m1000001, t_m1000000, t_m65535, t_m1000, t_m3, t_m1, t_0, t_1, t_2, t_3, t_4, t_5, t_6, t_7, t_8, t_9, t_10, t_11, t_12, t_13, t_15, t_16, t_20, t_21, t_22, t_32, t_40, t_41, t_48, t_49, t_57, t_59, t_60, t_63, t_72, t_76, t_88, t_100, t_144, t_200, t_255, t_288, t_400, t_800, t_999, t_1000, t_1024, t_1200, t_1600, t_3200, t_100000, t_200000, t_252645135, t_858993459, t_1431655765, u_m1000002, u_m1000001, u_m1000, u_m3, u_m1, u_0, u_1, u_2, u_3, u_4, u_5, u_7, u_8, u_10, u_11, u_15, u_60, u_100, u_255, u_999, u_1000, u_100000, u_4294967295] at hc116); omega
                    · (try simp (disch := omega) only [nT, t_m1000100, t_m1000010, t_m1000003, t_m1000002, t_m1000001, t_m1000000, t_m65535, t_m1000, t_m3, t_m1, t_0, t_1, t_2, t_3, t_4, t_5, t_6, t_7, t_8, t_9, t_10, t_11, t_12, t_13, t_15, t_16, t_20, t_21, t_22, t_32, t_40, t_41, t_48, t_49, t_57, t_59, t_60, t_63, t_72, t_76, t_88, t_100, t_144, t_200, t_255, t_288, t_400, t_800, t_999, t_1000, t_1024, t_1200, t_1600, t_3200, t_100000, t_200000, t_252645135, t_858993459, t_1431655765, u_m1000002, u_m1000001, u_m1000, u_m3, u_m1, u_0, u_1, u_2, u_3, u_4, u_5, u_7, u_8, u_10, u_11, u_15, u_60, u_100, u_255, u_999, u_1000, u_100000, u_4294967295] at hc116)
                      refine g_aload_n (i := 0) dX8_close_119 rfl rfl ?_
                      refine g_get dX8_close_120 fl_X8_35 (by repeat' (first | assumption | exact rF_eq | refine rF_ne (by decide) ?_ | refine rF_a ?_ | exact rA_eq | refine rA_ne (by decide) ?_ | refine rA_f ?_)) (by repeat' (first | assumption | exact rF_eq | refine rF_ne (by decide) ?_ | refine rF_a ?_ | exact rA_eq | refine rA_ne (by decide) ?_ | refine rA_f ?_)) ?_
                      refine g_ldc dX8_close_123 kc_X8_165 ?_
                      refine g_iload_n (i := 1) dX8_close_125 rfl rfl ?_
                      refine g_imul dX8_close_126 ?_
                      refine g_aload_n (i := 0) dX8_close_127 rfl rfl ?_
                      refine g_get dX8_close_128 fl_X8_28 (by repeat' (first | assumption | exact rF_eq | refine rF_ne (by decide) ?_ | refine rF_a ?_ | exact rA_eq | refine rA_ne (by decide) ?_ | refine rA_f ?_)) (by repeat' (first | assumption | exact rF_eq | refine rF_ne (by decide) ?_ | refine rF_a ?_ | exact rA_eq | refine rA_ne (by decide) ?_ | refine rA_f ?_)) ?_
                      refine g_iload_n (i := 1) dX8_close_131 rfl rfl ?_
                      refine g_iald dX8_close_132 (by repeat' (first | assumption | exact rF_eq | refine rF_ne (by decide) ?_ | refine rF_a ?_ | exact rA_eq | refine rA_ne (by decide) ?_ | refine rA_f ?_)) (nT (by omega)) (by omega) ?_
                      rw [hcs]
                      refine g_iadd dX8_close_133 ?_
                      rw [ix_lo]
                      refine g_aload_n (i := 0) dX8_close_134 rfl rfl ?_
                      refine g_get dX8_close_135 fl_X8_35 (by repeat' (first | assumption | exact rF_eq | refine rF_ne (by decide) ?_ | refine rF_a ?_ | exact rA_eq | refine rA_ne (by decide) ?_ | refine rA_f ?_)) (by repeat' (first | assumption | exact rF_eq | refine rF_ne (by decide) ?_ | refine rF_a ?_ | exact rA_eq | refine rA_ne (by decide) ?_ | refine rA_f ?_)) ?_
                      refine g_ldc dX8_close_138 kc_X8_165 ?_
                      refine g_iload_n (i := 1) dX8_close_140 rfl rfl ?_
                      refine g_imul dX8_close_141 ?_
                      refine g_aload_n (i := 0) dX8_close_142 rfl rfl ?_
                      refine g_get dX8_close_143 fl_X8_38 (by repeat' (first | assumption | exact rF_eq | refine rF_ne (by decide) ?_ | refine rF_a ?_ | exact rA_eq | refine rA_ne (by decide) ?_ | refine rA_f ?_)) (by repeat' (first | assumption | exact rF_eq | refine rF_ne (by decide) ?_ | refine rF_a ?_ | exact rA_eq | refine rA_ne (by decide) ?_ | refine rA_f ?_)) ?_
                      refine g_aload_n (i := 0) dX8_close_146 rfl rfl ?_
                      refine g_get dX8_close_147 fl_X8_162 (by repeat' (first | assumption | exact rF_eq | refine rF_ne (by decide) ?_ | refine rF_a ?_ | exact rA_eq | refine rA_ne (by decide) ?_ | refine rA_f ?_)) (by repeat' (first | assumption | exact rF_eq | refine rF_ne (by decide) ?_ | refine rF_a ?_ | exact rA_eq | refine rA_ne (by decide) ?_ | refine rA_f ?_)) ?_
                      refine g_iald dX8_close_150 (by repeat' (first | assumption | exact rF_eq | refine rF_ne (by decide) ?_ | refine rF_a ?_ | exact rA_eq | refine rA_ne (by decide) ?_ | refine rA_f ?_)) (nT (by omega)) (by omega) ?_
                      rw [o1]
                      refine g_iadd dX8_close_151 ?_
                      rw [ix_lo]
                      refine g_iload dX8_close_152 rfl ?_
                      refine g_iadd dX8_close_154 ?_
                      rw [ni_add, show 100000 * t + B + k = 100000 * t + (B + k) from Nat.add_assoc _ _ _]
                      refine g_iald dX8_close_155 (by repeat' (first | assumption | exact rF_eq | refine rF_ne (by decide) ?_ | refine rF_a ?_ | exact rA_eq | refine rA_ne (by decide) ?_ | refine rA_f ?_)) (nT (by omega)) (by omega) ?_
                      rw [l2]
                      refine g_iast dX8_close_156 (by repeat' (first | assumption | exact rF_eq | refine rF_ne (by decide) ?_ | refine rF_a ?_ | exact rA_eq | refine rA_ne (by decide) ?_ | refine rA_f ?_)) (nT (by omega)) (by omega) ?_
                      refine g_aload_n (i := 0) dX8_close_157 rfl rfl ?_
                      refine g_get dX8_close_158 fl_X8_28 (by repeat' (first | assumption | exact rF_eq | refine rF_ne (by decide) ?_ | refine rF_a ?_ | exact rA_eq | refine rA_ne (by decide) ?_ | refine rA_f ?_)) (by repeat' (first | assumption | exact rF_eq | refine rF_ne (by decide) ?_ | refine rF_a ?_ | exact rA_eq | refine rA_ne (by decide) ?_ | refine rA_f ?_)) ?_
                      refine g_iload_n (i := 1) dX8_close_161 rfl rfl ?_
                      refine g_dup2 dX8_close_162 rfl rfl ?_
                      refine g_iald dX8_close_163 (by repeat' (first | assumption | exact rF_eq | refine rF_ne (by decide) ?_ | refine rF_a ?_ | exact rA_eq | refine rA_ne (by decide) ?_ | refine rA_f ?_)) (nT (by omega)) (by omega) ?_
                      rw [hcs]
                      refine g_iconst (v := 1) dX8_close_164 (by decide) ?_
                      refine g_iadd dX8_close_165 ?_
                      rw [ni_inc]
                      refine g_iast dX8_close_166 (by repeat' (first | assumption | exact rF_eq | refine rF_ne (by decide) ?_ | refine rF_a ?_ | exact rA_eq | refine rA_ne (by decide) ?_ | refine rA_f ?_)) (nT (by omega)) (by omega) ?_
                      refine g_iinc dX8_close_167 rfl (Nat.le_of_ble_eq_true rfl) rfl ?_
                      refine g_goto (tgt := 101) dX8_close_170 (by decide) ?_
                      rw [ni_incO, sA_sA, sA_comm _ _ _ (by decide), sA_sA]
                      exact ihr (k + 1) _ _ (by omega) hcs2 hoo2 hlo2
                · have hlo2 : LoP lo fr (catM M (d + 1) ++ repL (T (d + 1)) (M (d + 1))) t nl (B + u * N + (k + 1)) := fun x q hq hx1 hx2 => hlo x q hq (by omega) hx2
                  have hoo2 : OtM t A0 (A.1, A.2.1, upd cs t (nI (B + u * N + k + 1)), A.2.2.2.1, lo) := ot_tr hoo ⟨rfl, rfl, upd_n (by omega), fun _ _ => rfl, fun _ _ => rfl⟩
                  refine g_iload dX8_close_101 rfl ?_
                  refine g_iload dX8_close_103 rfl ?_
                  refine g_icmp_ge (tgt := 173) dX8_close_105 (by decide) (fun hc105 => ?_) (fun hc105 => ?_)
                  · (try simp (disch := omega) only [nT, t_m1000100, t_m1000010, t_m1000003, t_m1000002, t_m1000001, t_m1000000, t_m65535, t_m1000, t_m3, t_m1, t_0, t_1, t_2, t_3, t_4, t_5, t_6, t_7, t_8, t_9, t_10, t_11, t_12, t_13, t_15, t_16, t_20, t_21, t_22, t_32, t_40, t_41, t_48, t_49, t_57, t_59, t_60, t_63, t_72, t_76, t_88, t_100, t_144, t_200, t_255, t_288, t_400, t_800, t_999, t_1000, t_1024, t_1200, t_1600, t_3200, t_100000, t_200000, t_252645135, t_858993459, t_1431655765, u_m1000002, u_m1000001, u_m1000, u_m3, u_m1, u_0, u_1, u_2, u_3, u_4, u_5, u_7, u_8, u_10, u_11, u_15, u_60, u_100, u_255, u_999, u_1000, u_100000, u_4294967295] at hc105); omega
                  · (try simp (disch := omega) only [nT, t_m1000100, t_m1000010, t_m1000003, t_m1000002, t_m1000001, t_m1000000, t_m65535, t_m1000, t_m3, t_m1, t_0, t_1, t_2, t_3, t_4, t_5, t_6, t_7, t_8, t_9, t_10, t_11, t_12, t_13, t_15, t_16, t_20, t_21, t_22, t_32, t_40, t_41, t_48, t_49, t_57, t_59, t_60, t_63, t_72, t_76, t_88, t_100, t_144, t_200, t_255, t_288, t_400, t_800, t_999, t_1000, t_1024, t_1200, t_1600, t_3200, t_100000, t_200000, t_252645135, t_858993459, t_1431655765, u_m1000002, u_m1000001, u_m1000, u_m3, u_m1, u_0, u_1, u_2, u_3, u_4, u_5, u_7, u_8, u_10, u_11, u_15, u_60, u_100, u_255, u_999, u_1000, u_100000, u_4294967295] at hc105)
                    refine g_aload_n (i := 0) dX8_close_108 rfl rfl ?_
                    refine g_get dX8_close_109 fl_X8_28 (by repeat' (first | assumption | exact rF_eq | refine rF_ne (by decide) ?_ | refine rF_a ?_ | exact rA_eq | refine rA_ne (by decide) ?_ | refine rA_f ?_)) (by repeat' (first | assumption | exact rF_eq | refine rF_ne (by decide) ?_ | refine rF_a ?_ | exact rA_eq | refine rA_ne (by decide) ?_ | refine rA_f ?_)) ?_
                    refine g_iload_n (i := 1) dX8_close_112 rfl rfl ?_
                    refine g_iald dX8_close_113 (by repeat' (first | assumption | exact rF_eq | refine rF_ne (by decide) ?_ | refine rF_a ?_ | exact rA_eq | refine rA_ne (by decide) ?_ | refine rA_f ?_)) (nT (by omega)) (by omega) ?_
                    rw [hcs]
                    refine g_ldc dX8_close_114 kc_X8_165 ?_
                    refine g_icmp_ge (tgt := 157) dX8_close_116 (by decide) (fun hc116 => ?_) (fun hc116 => ?_)
                    · (try simp (disch := omega) only [nT, t_m1000100, t_m1000010, t_m1000003, t_m1000002, t_m1000001, t_m1000000, t_m65535, t_m1000, t_m3, t_m1, t_0, t_1, t_2, t_3, t_4, t_5, t_6, t_7, t_8, t_9, t_10, t_11, t_12, t_13, t_15, t_16, t_20, t_21, t_22, t_32, t_40, t_41, t_48, t_49, t_57, t_59, t_60, t_63, t_72, t_76, t_88, t_100, t_144, t_200, t_255, t_288, t_400, t_800, t_999, t_1000, t_1024, t_1200, t_1600, t_3200, t_100000, t_200000, t_252645135, t_858993459, t_1431655765, u_m1000002, u_m1000001, u_m1000, u_m3, u_m1, u_0, u_1, u_2, u_3, u_4, u_5, u_7, u_8, u_10, u_11, u_15, u_60, u_100, u_255, u_999, u_1000, u_100000, u_4294967295] at hc116)
                      refine g_aload_n (i := 0) dX8_close_157 rfl rfl ?_
                      refine g_get dX8_close_158 fl_X8_28 (by repeat' (first | assumption | exact rF_eq | refine rF_ne (by decide) ?_ | refine rF_a ?_ | exact rA_eq | refine rA_ne (by decide) ?_ | refine rA_f ?_)) (by repeat' (first | assumption | exact rF_eq | refine rF_ne (by decide) ?_ | refine rF_a ?_ | exact rA_eq | refine rA_ne (by decide) ?_ | refine rA_f ?_)) ?_
                      refine g_iload_n (i := 1) dX8_close_161 rfl rfl ?_
                      refine g_dup2 dX8_close_162 rfl rfl ?_
                      refine g_iald dX8_close_163 (by repeat' (first | assumption | exact rF_eq | refine rF_ne (by decide) ?_ | refine rF_a ?_ | exact rA_eq | refine rA_ne (by decide) ?_ | refine rA_f ?_)) (nT (by omega)) (by omega) ?_
                      rw [hcs]
                      refine g_iconst (v := 1) dX8_close_164 (by decide) ?_
                      refine g_iadd dX8_close_165 ?_
                      rw [ni_inc]
                      refine g_iast dX8_close_166 (by repeat' (first | assumption | exact rF_eq | refine rF_ne (by decide) ?_ | refine rF_a ?_ | exact rA_eq | refine rA_ne (by decide) ?_ | refine rA_f ?_)) (nT (by omega)) (by omega) ?_
                      refine g_iinc dX8_close_167 rfl (Nat.le_of_ble_eq_true rfl) rfl ?_
                      refine g_goto (tgt := 101) dX8_close_170 (by decide) ?_
                      rw [ni_incO, sA_comm _ _ _ (by decide), sA_sA]
                      exact ihr (k + 1) _ _ (by omega) hcs2 hoo2 hlo2
                    · (try simp (disch := omega) only [nT, t_m1000100, t_m1000010, t_m1000003, t_m1000002, t_m1000001, t_m1000000, t_m65535, t_m1000, t_m3, t_m1, t_0, t_1, t_2, t_3, t_4, t_5, t_6, t_7, t_8, t_9, t_10, t_11, t_12, t_13, t_15, t_16, t_20, t_21, t_22, t_32, t_40, t_41, t_48, t_49, t_57, t_59, t_60, t_63, t_72, t_76, t_88, t_100, t_144, t_200, t_255, t_288, t_400, t_800, t_999, t_1000, t_1024, t_1200, t_1600, t_3200, t_100000, t_200000, t_252645135, t_858993459, t_1431655765, u_m1000002, u_m1000001, u_m1000, u_m3, u_m1, u_0, u_1, u_2, u_3, u_4, u_5, u_7, u_8, u_10, u_11, u_15, u_60, u_100, u_255, u_999, u_1000, u_100000, u_4294967295] at hc116); omega
            refine g_iload dX8_close_84 rfl ?_
            refine g_aload_n (i := 0) dX8_close_86 rfl rfl ?_
            refine g_get dX8_close_87 fl_X8_41 (by repeat' (first | assumption | exact rF_eq | refine rF_ne (by decide) ?_ | refine rF_a ?_ | exact rA_eq | refine rA_ne (by decide) ?_ | refine rA_f ?_)) (by repeat' (first | assumption | exact rF_eq | refine rF_ne (by decide) ?_ | refine rF_a ?_ | exact rA_eq | refine rA_ne (by decide) ?_ | refine rA_f ?_)) ?_
            refine g_aload_n (i := 0) dX8_close_90 rfl rfl ?_
            refine g_get dX8_close_91 fl_X8_162 (by repeat' (first | assumption | exact rF_eq | refine rF_ne (by decide) ?_ | refine rF_a ?_ | exact rA_eq | refine rA_ne (by decide) ?_ | refine rA_f ?_)) (by repeat' (first | assumption | exact rF_eq | refine rF_ne (by decide) ?_ | refine rF_a ?_ | exact rA_eq | refine rA_ne (by decide) ?_ | refine rA_f ?_)) ?_
            refine g_iald dX8_close_94 (by repeat' (first | assumption | exact rF_eq | refine rF_ne (by decide) ?_ | refine rF_a ?_ | exact rA_eq | refine rA_ne (by decide) ?_ | refine rA_f ?_)) (nT (by omega)) (by omega) ?_
            rw [o2]
            refine g_icmp_ge (tgt := 179) dX8_close_95 (by decide) (fun hc95 => ?_) (fun hc95 => ?_)
            · (try simp (disch := omega) only [nT, t_m1000100, t_m1000010, t_m1000003, t_m1000002, t_m1000001, t_m1000000, t_m65535, t_m1000, t_m3, t_m1, t_0, t_1, t_2, t_3, t_4, t_5, t_6, t_7, t_8, t_9, t_10, t_11, t_12, t_13, t_15, t_16, t_20, t_21, t_22, t_32, t_40, t_41, t_48, t_49, t_57, t_59, t_60, t_63, t_72, t_76, t_88, t_100, t_144, t_200, t_255, t_288, t_400, t_800, t_999, t_1000, t_1024, t_1200, t_1600, t_3200, t_100000, t_200000, t_252645135, t_858993459, t_1431655765, u_m1000002, u_m1000001, u_m1000, u_m3, u_m1, u_0, u_1, u_2, u_3, u_4, u_5, u_7, u_8, u_10, u_11, u_15, u_60, u_100, u_255, u_999, u_1000, u_100000, u_4294967295] at hc95); omega
            · (try simp (disch := omega) only [nT, t_m1000100, t_m1000010, t_m1000003, t_m1000002, t_m1000001, t_m1000000, t_m65535, t_m1000, t_m3, t_m1, t_0, t_1, t_2, t_3, t_4, t_5, t_6, t_7, t_8, t_9, t_10, t_11, t_12, t_13, t_15, t_16, t_20, t_21, t_22, t_32, t_40, t_41, t_48, t_49, t_57, t_59, t_60, t_63, t_72, t_76, t_88, t_100, t_144, t_200, t_255, t_288, t_400, t_800, t_999, t_1000, t_1024, t_1200, t_1600, t_3200, t_100000, t_200000, t_252645135, t_858993459, t_1431655765, u_m1000002, u_m1000001, u_m1000, u_m3, u_m1, u_0, u_1, u_2, u_3, u_4, u_5, u_7, u_8, u_10, u_11, u_15, u_60, u_100, u_255, u_999, u_1000, u_100000, u_4294967295] at hc95)
              refine g_iconst (v := 0) dX8_close_98 (by decide) ?_
              refine g_istore dX8_close_99 (Nat.le_of_ble_eq_true rfl) rfl ?_
              exact keyI N 0 cs lo (by omega) hcs hoo hlo
        refine g_aload_n (i := 0) dX8_close_70 rfl rfl ?_
        refine g_get dX8_close_71 fl_X8_44 (by repeat' (first | assumption | exact rF_eq | refine rF_ne (by decide) ?_ | refine rF_a ?_ | exact rA_eq | refine rA_ne (by decide) ?_ | refine rA_f ?_)) (by repeat' (first | assumption | exact rF_eq | refine rF_ne (by decide) ?_ | refine rF_a ?_ | exact rA_eq | refine rA_ne (by decide) ?_ | refine rA_f ?_)) ?_
        refine g_aload_n (i := 0) dX8_close_74 rfl rfl ?_
        refine g_get dX8_close_75 fl_X8_162 (by repeat' (first | assumption | exact rF_eq | refine rF_ne (by decide) ?_ | refine rF_a ?_ | exact rA_eq | refine rA_ne (by decide) ?_ | refine rA_f ?_)) (by repeat' (first | assumption | exact rF_eq | refine rF_ne (by decide) ?_ | refine rF_a ?_ | exact rA_eq | refine rA_ne (by decide) ?_ | refine rA_f ?_)) ?_
        refine g_iald dX8_close_78 (by repeat' (first | assumption | exact rF_eq | refine rF_ne (by decide) ?_ | refine rF_a ?_ | exact rA_eq | refine rA_ne (by decide) ?_ | refine rA_f ?_)) (nT (by omega)) (by omega) ?_
        rw [i1]
        refine g_istore dX8_close_79 (Nat.le_of_ble_eq_true rfl) rfl ?_
        refine g_iconst (v := 1) dX8_close_81 (by decide) ?_
        refine g_istore dX8_close_82 (Nat.le_of_ble_eq_true rfl) rfl ?_
        have k0 := key (T (d + 1) - 1) 1 A.2.2.1 A.2.2.2.2 hU (by omega) (by omega) (by rw [k3, hcat2, Nat.one_mul]) ho ?_
        · rw [sA_self b3, sA_self b5] at k0
          exact k0
        · intro x q hq hx1 hx2
          refine f2 x q ?_ hx2
          rw [← hq]
          show (catM M (d + 1) ++ M (d + 1))[x]? = _
          obtain ⟨y, hy⟩ : ∃ y, T (d + 1) = y + 1 := ⟨T (d + 1) - 1, by omega⟩
          rw [hy, repL_s, ← List.append_assoc]
          exact (List.getElem?_append_left (by rw [List.length_append, hB, hN]; omega)).symm
      · replace hc57 := lc_gt.mp hc57; (try simp only [l_add32, l_i] at hc57)
        (try simp (disch := omega) only [nT, t_m1000100, t_m1000010, t_m1000003, t_m1000002, t_m1000001, t_m1000000, t_m65535, t_m1000, t_m3, t_m1, t_0, t_1, t_2, t_3, t_4, t_5, t_6, t_7, t_8, t_9, t_10, t_11, t_12, t_13, t_15, t_16, t_20, t_21, t_22, t_32, t_40, t_41, t_48, t_49, t_57, t_59, t_60, t_63, t_72, t_76, t_88, t_100, t_144, t_200, t_255, t_288, t_400, t_800, t_999, t_1000, t_1024, t_1200, t_1600, t_3200, t_100000, t_200000, t_252645135, t_858993459, t_1431655765, u_m1000002, u_m1000001, u_m1000, u_m3, u_m1, u_0, u_1, u_2, u_3, u_4, u_5, u_7, u_8, u_10, u_11, u_15, u_60, u_100, u_255, u_999, u_1000, u_100000, u_4294967295] at hc57)
        refine g_aload_n (i := 0) dX8_close_60 rfl rfl ?_
        refine g_iconst (v := 4) dX8_close_61 (by decide) ?_
        refine g_aload_n (i := 0) dX8_close_62 rfl rfl ?_
        refine g_get dX8_close_63 fl_X8_149 (by repeat' (first | assumption | exact rF_eq | refine rF_ne (by decide) ?_ | refine rF_a ?_ | exact rA_eq | refine rA_ne (by decide) ?_ | refine rA_f ?_)) (by repeat' (first | assumption | exact rF_eq | refine rF_ne (by decide) ?_ | refine rF_a ?_ | exact rA_eq | refine rA_ne (by decide) ?_ | refine rA_f ?_)) ?_
        refine g_callV (M' := mX8_bad) dX8_close_66 lc_X8_bad ml_X8_158 (c_bad r1 r5 4 (nI p)) rfl rfl (by repeat' (first | assumption | exact rF_eq | refine rF_ne (by decide) ?_ | refine rF_a ?_ | exact rA_eq | refine rA_ne (by decide) ?_ | refine rA_f ?_)) rfl ⟨Nat.le_of_ble_eq_true rfl, Nat.le_of_ble_eq_true rfl, Nat.le_of_ble_eq_true rfl, Nat.le_of_ble_eq_true rfl⟩ (Nat.le_of_ble_eq_true rfl) ?_
        intro r_ h_ q_; obtain ⟨q1_, q2_⟩ := q_; have q2_ := q2_.symm; subst q1_; subst q2_
        refine g_vret dX8_close_69 rfl (hQ _ _ ?_)
        rw [tok_c4 h1 (by omega) (by rw [Nat.add_sub_cancel]; omega)]
        exact ⟨rfl, pn_bad hr v2 ho 4 p (by omega) (by omega) (by omega), fr_sF (by decide) (fr_sF (by decide) fr_rf)⟩
    · have hd4 := i_eq.mp hc4; (try simp (disch := omega) only [nT, t_m1000100, t_m1000010, t_m1000003, t_m1000002, t_m1000001, t_m1000000, t_m65535, t_m1000, t_m3, t_m1, t_0, t_1, t_2, t_3, t_4, t_5, t_6, t_7, t_8, t_9, t_10, t_11, t_12, t_13, t_15, t_16, t_20, t_21, t_22, t_32, t_40, t_41, t_48, t_49, t_57, t_59, t_60, t_63, t_72, t_76, t_88, t_100, t_144, t_200, t_255, t_288, t_400, t_800, t_999, t_1000, t_1024, t_1200, t_1600, t_3200, t_100000, t_200000, t_252645135, t_858993459, t_1431655765, u_m1000002, u_m1000001, u_m1000, u_m3, u_m1, u_0, u_1, u_2, u_3, u_4, u_5, u_7, u_8, u_10, u_11, u_15, u_60, u_100, u_255, u_999, u_1000, u_100000, u_4294967295] at hd4); omega
end MTok2
