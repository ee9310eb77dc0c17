/-! order: the reference fills its table -/
theorem mk_ne : ∀ S, S < 1024 → 1 ≤ S → 0 < cnt S.testBit 10 0 := by decide +kernel
theorem wfs_le {n : Nat} {tt ss : Nat → Nat} (h9 : ∀ t, tt t ≤ 999) {c : Nat} (hc : c < 10) (p : Nat → Bool) (t : Nat) : wfs n tt ss c p t < 1000000000000000 := by
  have h1 := Nat.mul_le_mul_right (10 ^ (c + 1)) (h9 t)
  have h2 := Nat.mul_le_mul (show 10 - ss t ≤ 10 by omega) (lst_le (n := n) (ss := ss) h9 c (dlt p t))
  have h3 : 999 * 10 ^ (c + 1) + 10 * (999 * c * 10 ^ c) < 1000000000000000 := by
    have : ∀ c, c < 10 → 999 * 10 ^ (c + 1) + 10 * (999 * c * 10 ^ c) < 1000000000000000 := by decide +kernel
    exact this c hc
  unfold wfs
  omega
def oL : Option Nat → Int64
  | none => -1
  | some x => nL x
theorem oL_n {b : Option Nat} (hb : ∀ x, b = some x → x < 1000000000000000) : ((oL b).toInt < 0 ↔ b = none) ∧ ∀ x, b = some x → (oL b).toInt = (x : Int) := by
  rcases b with _ | x
  · exact ⟨⟨fun _ => rfl, fun _ => by decide⟩, fun x h => by cases h⟩
  · have h1 := hb x rfl
    have h2 : (oL (some x)).toInt = (x : Int) := nL_T (by omega)
    exact ⟨⟨fun h => by omega, fun h => by cases h⟩, fun y h => by cases h; exact h2⟩
abbrev LfO (T : TS) (S : Nat) (lf : Nat → Int64) : Prop := ∀ R, R < S → lf R = nL (lst T.1 (ttO T) (ssO T) (cnt R.testBit T.1 0) R.testBit)
theorem fill_in {T : TS} (hT : WfT T) {h : HH} {fl : Nat → Int32} {lf : Nat → Int64} (hs : TsM h T.1 T.2.1 T.2.2.1 T.2.2.2.1 T.2.2.2.2.1 T.2.2.2.2.2.1 fl) (h45 : gF h 44 45 = .ref 72) (h72 : gA h 72 = aJ 1024 lf) {S c : Nat} (hS : S < 2 ^ T.1) (hc : cnt S.testBit T.1 0 = c + 1) (hl : LfO T S lf) {Q' : Option Value → HH → Prop} {z : Option Nat} (K : ∀ v4 v5 v6, GG (EM mX8_order 2 0 0 Q') 0 0 78 [.ref 44, .int (nI S), .long (oL z), hU, v4, v5, v6] [] h) : ∀ m k b v5 v6, k + m = T.1 → (∀ x, b = some x → x < 1000000000000000) → mno (wfs T.1 (ttO T) (ssO T) c S.testBit) S.testBit m k b = z → GG (EM mX8_order 2 0 0 Q') 0 0 24 [.ref 44, .int (nI S), .long (oL b), hU, .int (nI k), v5, v6] [] h := by
  obtain ⟨e1, e2, e3, e4, e5, e6, e7, e8, e9, e10, e11, e12, e13, e14⟩ := id hs
  have hT1 := hT.1
  have hp2 := (mk_pow T.1 (by omega)).2.2
  intro m
  induction m with
  | zero =>
    intro k b v5 v6 hk hb he
    obtain rfl : b = z := he
    refine g_iload dX8_order_24 rfl ?_
    refine g_aload_n (i := 0) dX8_order_26 rfl rfl ?_
    refine g_get dX8_order_27 fl_X8_197 (by repeat' (first | assumption | exact rF_eq | refine rF_ne (by decide) ?_ | refine rF_a ?_ | exact rA_eq | refine rA_ne (by decide) ?_ | refine rA_f ?_)) (by repeat' (first | assumption | exact rF_eq | refine rF_ne (by decide) ?_ | refine rF_a ?_ | exact rA_eq | refine rA_ne (by decide) ?_ | refine rA_f ?_)) ?_
    refine g_icmp_ge (tgt := 78) dX8_order_30 (by decide) (fun hc30 => ?_) (fun hc30 => ?_)
    · (try simp (disch := omega) only [nT, t_m1000100, t_m1000010, t_m1000003, t_m1000002, t_m1000001, t_m1000000, t_m65535, t_m1000, t_m3, t_m1, t_0, t_1, t_2, t_3, t_4, t_5, t_6, t_7, t_8, t_9, t_10, t_11, t_12, t_13, t_15, t_16, t_20, t_21, t_22, t_32, t_40, t_41, t_48, t_49, t_57, t_59, t_60, t_63, t_72, t_76, t_88, t_100, t_144, t_200, t_255, t_288, t_400, t_800, t_999, t_1000, t_1024, t_1200, t_1600, t_3200, t_100000, t_200000, t_252645135, t_858993459, t_1431655765, u_m1000002, u_m1000001, u_m1000, u_m3, u_m1, u_0, u_1, u_2, u_3, u_4, u_5, u_7, u_8, u_10, u_11, u_15, u_60, u_100, u_255, u_999, u_1000, u_100000, u_4294967295] at hc30)
      exact K _ _ _
    · (try simp (disch := omega) only [nT, t_m1000100, t_m1000010, t_m1000003, t_m1000002, t_m1000001, t_m1000000, t_m65535, t_m1000, t_m3, t_m1, t_0, t_1, t_2, t_3, t_4, t_5, t_6, t_7, t_8, t_9, t_10, t_11, t_12, t_13, t_15, t_16, t_20, t_21, t_22, t_32, t_40, t_41, t_48, t_49, t_57, t_59, t_60, t_63, t_72, t_76, t_88, t_100, t_144, t_200, t_255, t_288, t_400, t_800, t_999, t_1000, t_1024, t_1200, t_1600, t_3200, t_100000, t_200000, t_252645135, t_858993459, t_1431655765, u_m1000002, u_m1000001, u_m1000, u_m3, u_m1, u_0, u_1, u_2, u_3, u_4, u_5, u_7, u_8, u_10, u_11, u_15, u_60, u_100, u_255, u_999, u_1000, u_100000, u_4294967295] at hc30); omega
  | succ m ih =>
    intro k b v5 v6 hk hb he
    have hbit := mk_bit S (by omega) k (by omega)
    unfold mno at he
    by_cases hm : S.testBit k = true
    · rw [if_pos hm] at hbit he
      have hd := mk_del S (by omega) k (by omega) hm
      have hc2 := (cnt_dlt hm T.1 0).1 (by omega)
      have hl2 : lf (S ^^^ 2 ^ k) = nL (lst T.1 (ttO T) (ssO T) c (dlt S.testBit k)) := by
        rw [hl _ hd.2, mk_dlt hm, show cnt (dlt S.testBit k) T.1 0 = c by omega]
      have hcl := cnt_le S.testBit T.1 0
      have hw := wfs_le (n := T.1) (tt := ttO T) (ss := ssO T) (fun t => (ttO_p hT t).2.1) (show c < 10 by omega) S.testBit k
      have hwT := @nL_T (wfs T.1 (ttO T) (ssO T) c S.testBit k) (by omega)
      have ho := oL_n hb
      refine g_iload dX8_order_24 rfl ?_
      refine g_aload_n (i := 0) dX8_order_26 rfl rfl ?_
      refine g_get dX8_order_27 fl_X8_197 (by repeat' (first | assumption | exact rF_eq | refine rF_ne (by decide) ?_ | refine rF_a ?_ | exact rA_eq | refine rA_ne (by decide) ?_ | refine rA_f ?_)) (by repeat' (first | assumption | exact rF_eq | refine rF_ne (by decide) ?_ | refine rF_a ?_ | exact rA_eq | refine rA_ne (by decide) ?_ | refine rA_f ?_)) ?_
      refine g_icmp_ge (tgt := 78) dX8_order_30 (by decide) (fun hc30 => ?_) (fun hc30 => ?_)
      · (try simp (disch := omega) only [nT, t_m1000100, t_m1000010, t_m1000003, t_m1000002, t_m1000001, t_m1000000, t_m65535, t_m1000, t_m3, t_m1, t_0, t_1, t_2, t_3, t_4, t_5, t_6, t_7, t_8, t_9, t_10, t_11, t_12, t_13, t_15, t_16, t_20, t_21, t_22, t_32, t_40, t_41, t_48, t_49, t_57, t_59, t_60, t_63, t_72, t_76, t_88, t_100, t_144, t_200, t_255, t_288, t_400, t_800, t_999, t_1000, t_1024, t_1200, t_1600, t_3200, t_100000, t_200000, t_252645135, t_858993459, t_1431655765, u_m1000002, u_m1000001, u_m1000, u_m3, u_m1, u_0, u_1, u_2, u_3, u_4, u_5, u_7, u_8, u_10, u_11, u_15, u_60, u_100, u_255, u_999, u_1000, u_100000, u_4294967295] at hc30); omega
      · (try simp (disch := omega) only [nT, t_m1000100, t_m1000010, t_m1000003, t_m1000002, t_m1000001, t_m1000000, t_m65535, t_m1000, t_m3, t_m1, t_0, t_1, t_2, t_3, t_4, t_5, t_6, t_7, t_8, t_9, t_10, t_11, t_12, t_13, t_15, t_16, t_20, t_21, t_22, t_32, t_40, t_41, t_48, t_49, t_57, t_59, t_60, t_63, t_72, t_76, t_88, t_100, t_144, t_200, t_255, t_288, t_400, t_800, t_999, t_1000, t_1024, t_1200, t_1600, t_3200, t_100000, t_200000, t_252645135, t_858993459, t_1431655765, u_m1000002, u_m1000001, u_m1000, u_m3, u_m1, u_0, u_1, u_2, u_3, u_4, u_5, u_7, u_8, u_10, u_11, u_15, u_60, u_100, u_255, u_999, u_1000, u_100000, u_4294967295] at hc30)
        refine g_iload_n (i := 1) dX8_order_33 rfl rfl ?_
        refine g_iload dX8_order_34 rfl ?_
        refine g_ishr dX8_order_36 ?_
        refine g_iconst (v := 1) dX8_order_37 (by decide) ?_
        refine g_iand dX8_order_38 ?_
        rw [hbit]
        refine g_iconst (v := 1) dX8_order_39 (by decide) ?_
        refine g_icmp_ne (tgt := 72) dX8_order_40 (by decide) (fun hc40 => ?_) (fun hc40 => ?_)
        · have hd40 := mt i_eq.mpr hc40; (try simp (disch := omega) only [nT, t_m1000100, t_m1000010, t_m1000003, t_m1000002, t_m1000001, t_m1000000, t_m65535, t_m1000, t_m3, t_m1, t_0, t_1, t_2, t_3, t_4, t_5, t_6, t_7, t_8, t_9, t_10, t_11, t_12, t_13, t_15, t_16, t_20, t_21, t_22, t_32, t_40, t_41, t_48, t_49, t_57, t_59, t_60, t_63, t_72, t_76, t_88, t_100, t_144, t_200, t_255, t_288, t_400, t_800, t_999, t_1000, t_1024, t_1200, t_1600, t_3200, t_100000, t_200000, t_252645135, t_858993459, t_1431655765, u_m1000002, u_m1000001, u_m1000, u_m3, u_m1, u_0, u_1, u_2, u_3, u_4, u_5, u_7, u_8, u_10, u_11, u_15, u_60, u_100, u_255, u_999, u_1000, u_100000, u_4294967295] at hd40); exact absurd rfl hc40
        · have hd40 := i_eq.mp hc40; (try simp (disch := omega) only [nT, t_m1000100, t_m1000010, t_m1000003, t_m1000002, t_m1000001, t_m1000000, t_m65535, t_m1000, t_m3, t_m1, t_0, t_1, t_2, t_3, t_4, t_5, t_6, t_7, t_8, t_9, t_10, t_11, t_12, t_13, t_15, t_16, t_20, t_21, t_22, t_32, t_40, t_41, t_48, t_49, t_57, t_59, t_60, t_63, t_72, t_76, t_88, t_100, t_144, t_200, t_255, t_288, t_400, t_800, t_999, t_1000, t_1024, t_1200, t_1600, t_3200, t_100000, t_200000, t_252645135, t_858993459, t_1431655765, u_m1000002, u_m1000001, u_m1000, u_m3, u_m1, u_0, u_1, u_2, u_3, u_4, u_5, u_7, u_8, u_10, u_11, u_15, u_60, u_100, u_255, u_999, u_1000, u_100000, u_4294967295] at hd40)
          refine g_aload_n (i := 0) dX8_order_43 rfl rfl ?_
          refine g_iload_n (i := 1) dX8_order_44 rfl rfl ?_
          refine g_iload dX8_order_45 rfl ?_
          refine g_callV (M' := mX8_withFirst) dX8_order_47 lc_X8_withFirst ml_X8_260 (c_withFirst hT hs h45 h72 hS (t := k) (by omega) hm hc hl2) rfl rfl (by repeat' (first | assumption | exact rF_eq | refine rF_ne (by decide) ?_ | refine rF_a ?_ | exact rA_eq | refine rA_ne (by decide) ?_ | refine rA_f ?_)) rfl ⟨Nat.le_of_ble_eq_true rfl, Nat.le_of_ble_eq_true rfl, Nat.le_of_ble_eq_true rfl, Nat.le_of_ble_eq_true rfl⟩ (Nat.le_of_ble_eq_true rfl) ?_
          intro r_ h_ q_; obtain ⟨q1_, q2_⟩ := q_; have q2_ := q2_.symm; subst q1_; subst q2_
          refine g_lstore dX8_order_50 (Nat.le_of_ble_eq_true rfl) rfl ?_
          refine g_lload_n (i := 2) dX8_order_52 rfl rfl ?_
          refine g_lconst (v := 0) dX8_order_53 (by decide) ?_
          refine g_lcmp dX8_order_54 ?_
          refine g_if_lt (tgt := 65) dX8_order_55 (by decide) (fun hc55 => ?_) (fun hc55 => ?_)
          · replace hc55 := lc_lt.mp hc55; (try simp only [l_add32, l_i] at hc55)
            (try simp (disch := omega) only [nT, t_m1000100, t_m1000010, t_m1000003, t_m1000002, t_m1000001, t_m1000000, t_m65535, t_m1000, t_m3, t_m1, t_0, t_1, t_2, t_3, t_4, t_5, t_6, t_7, t_8, t_9, t_10, t_11, t_12, t_13, t_15, t_16, t_20, t_21, t_22, t_32, t_40, t_41, t_48, t_49, t_57, t_59, t_60, t_63, t_72, t_76, t_88, t_100, t_144, t_200, t_255, t_288, t_400, t_800, t_999, t_1000, t_1024, t_1200, t_1600, t_3200, t_100000, t_200000, t_252645135, t_858993459, t_1431655765, u_m1000002, u_m1000001, u_m1000, u_m3, u_m1, u_0, u_1, u_2, u_3, u_4, u_5, u_7, u_8, u_10, u_11, u_15, u_60, u_100, u_255, u_999, u_1000, u_100000, u_4294967295] at hc55)
            refine g_lload dX8_order_65 rfl ?_
            refine g_goto (tgt := 71) dX8_order_67 (by decide) ?_
            refine g_lstore_n (i := 2) dX8_order_71 rfl (Nat.le_of_ble_eq_true rfl) rfl ?_
            refine g_iinc dX8_order_72 rfl (Nat.le_of_ble_eq_true rfl) rfl ?_
            refine g_goto (tgt := 24) dX8_order_75 (by decide) ?_
            rw [ni_incO]
            first
            | exact ih (k + 1) (some (wfs T.1 (ttO T) (ssO T) c S.testBit k)) _ _ (by omega) (fun x hx => by cases hx; exact hw) (by
                rw [← he]
                rcases b with _ | x
                · rfl
                · have := ho.2 x rfl
                  dsimp only
                  rw [if_pos (by omega)])
            | exact ih (k + 1) b _ _ (by omega) hb (by
                rw [← he]
                rcases b with _ | x
                · have := ho.1.mpr rfl
                  omega
                · have := ho.2 x rfl
                  dsimp only
                  rw [if_neg (by omega)])
          · replace hc55 := lc_ge.mp hc55; (try simp only [l_add32, l_i] at hc55)
            (try simp (disch := omega) only [nT, t_m1000100, t_m1000010, t_m1000003, t_m1000002, t_m1000001, t_m1000000, t_m65535, t_m1000, t_m3, t_m1, t_0, t_1, t_2, t_3, t_4, t_5, t_6, t_7, t_8, t_9, t_10, t_11, t_12, t_13, t_15, t_16, t_20, t_21, t_22, t_32, t_40, t_41, t_48, t_49, t_57, t_59, t_60, t_63, t_72, t_76, t_88, t_100, t_144, t_200, t_255, t_288, t_400, t_800, t_999, t_1000, t_1024, t_1200, t_1600, t_3200, t_100000, t_200000, t_252645135, t_858993459, t_1431655765, u_m1000002, u_m1000001, u_m1000, u_m3, u_m1, u_0, u_1, u_2, u_3, u_4, u_5, u_7, u_8, u_10, u_11, u_15, u_60, u_100, u_255, u_999, u_1000, u_100000, u_4294967295] at hc55)
            refine g_lload dX8_order_58 rfl ?_
            refine g_lload_n (i := 2) dX8_order_60 rfl rfl ?_
            refine g_lcmp dX8_order_61 ?_
            refine g_if_ge (tgt := 70) dX8_order_62 (by decide) (fun hc62 => ?_) (fun hc62 => ?_)
            · replace hc62 := lc_ge.mp hc62; (try simp only [l_add32, l_i] at hc62)
              (try simp (disch := omega) only [nT, t_m1000100, t_m1000010, t_m1000003, t_m1000002, t_m1000001, t_m1000000, t_m65535, t_m1000, t_m3, t_m1, t_0, t_1, t_2, t_3, t_4, t_5, t_6, t_7, t_8, t_9, t_10, t_11, t_12, t_13, t_15, t_16, t_20, t_21, t_22, t_32, t_40, t_41, t_48, t_49, t_57, t_59, t_60, t_63, t_72, t_76, t_88, t_100, t_144, t_200, t_255, t_288, t_400, t_800, t_999, t_1000, t_1024, t_1200, t_1600, t_3200, t_100000, t_200000, t_252645135, t_858993459, t_1431655765, u_m1000002, u_m1000001, u_m1000, u_m3, u_m1, u_0, u_1, u_2, u_3, u_4, u_5, u_7, u_8, u_10, u_11, u_15, u_60, u_100, u_255, u_999, u_1000, u_100000, u_4294967295] at hc62)
              refine g_lload_n (i := 2) dX8_order_70 rfl rfl ?_
              refine g_lstore_n (i := 2) dX8_order_71 rfl (Nat.le_of_ble_eq_true rfl) rfl ?_
              refine g_iinc dX8_order_72 rfl (Nat.le_of_ble_eq_true rfl) rfl ?_
              refine g_goto (tgt := 24) dX8_order_75 (by decide) ?_
              rw [ni_incO]
              first
              | exact ih (k + 1) (some (wfs T.1 (ttO T) (ssO T) c S.testBit k)) _ _ (by omega) (fun x hx => by cases hx; exact hw) (by
                  rw [← he]
                  rcases b with _ | x
                  · rfl
                  · have := ho.2 x rfl
                    dsimp only
                    rw [if_pos (by omega)])
              | exact ih (k + 1) b _ _ (by omega) hb (by
                  rw [← he]
                  rcases b with _ | x
                  · have := ho.1.mpr rfl
                    omega
                  · have := ho.2 x rfl
                    dsimp only
                    rw [if_neg (by omega)])
            · replace hc62 := lc_lt.mp hc62; (try simp only [l_add32, l_i] at hc62)
              (try simp (disch := omega) only [nT, t_m1000100, t_m1000010, t_m1000003, t_m1000002, t_m1000001, t_m1000000, t_m65535, t_m1000, t_m3, t_m1, t_0, t_1, t_2, t_3, t_4, t_5, t_6, t_7, t_8, t_9, t_10, t_11, t_12, t_13, t_15, t_16, t_20, t_21, t_22, t_32, t_40, t_41, t_48, t_49, t_57, t_59, t_60, t_63, t_72, t_76, t_88, t_100, t_144, t_200, t_255, t_288, t_400, t_800, t_999, t_1000, t_1024, t_1200, t_1600, t_3200, t_100000, t_200000, t_252645135, t_858993459, t_1431655765, u_m1000002, u_m1000001, u_m1000, u_m3, u_m1, u_0, u_1, u_2, u_3, u_4, u_5, u_7, u_8, u_10, u_11, u_15, u_60, u_100, u_255, u_999, u_1000, u_100000, u_4294967295] at hc62)
              refine g_lload dX8_order_65 rfl ?_
              refine g_goto (tgt := 71) dX8_order_67 (by decide) ?_
              refine g_lstore_n (i := 2) dX8_order_71 rfl (Nat.le_of_ble_eq_true rfl) rfl ?_
              refine g_iinc dX8_order_72 rfl (Nat.le_of_ble_eq_true rfl) rfl ?_
              refine g_goto (tgt := 24) dX8_order_75 (by decide) ?_
              rw [ni_incO]
              first
              | exact ih (k + 1) (some (wfs T.1 (ttO T) (ssO T) c S.testBit k)) _ _ (by omega) (fun x hx => by cases hx; exact hw) (by
                  rw [← he]
                  rcases b with _ | x
                  · rfl
                  · have := ho.2 x rfl
                    dsimp only
                    rw [if_pos (by omega)])
              | exact ih (k + 1) b _ _ (by omega) hb (by
                  rw [← he]
                  rcases b with _ | x
                  · have := ho.1.mpr rfl
                    omega
                  · have := ho.2 x rfl
                    dsimp only
                    rw [if_neg (by omega)])
    · rw [if_neg hm] at hbit he
      refine g_iload dX8_order_24 rfl ?_
      refine g_aload_n (i := 0) dX8_order_26 rfl rfl ?_
      refine g_get dX8_order_27 fl_X8_197 (by repeat' (first | assumption | exact rF_eq | refine rF_ne (by decide) ?_ | refine rF_a ?_ | exact rA_eq | refine rA_ne (by decide) ?_ | refine rA_f ?_)) (by repeat' (first | assumption | exact rF_eq | refine rF_ne (by decide) ?_ | refine rF_a ?_ | exact rA_eq | refine rA_ne (by decide) ?_ | refine rA_f ?_)) ?_
      refine g_icmp_ge (tgt := 78) dX8_order_30 (by decide) (fun hc30 => ?_) (fun hc30 => ?_)
      · (try simp (disch := omega) only [nT, t_m1000100, t_m1000010, t_m1000003, t_m1000002, t_m1000001, t_m1000000, t_m65535, t_m1000, t_m3, t_m1, t_0, t_1, t_2, t_3, t_4, t_5, t_6, t_7, t_8, t_9, t_10, t_11, t_12, t_13, t_15, t_16, t_20, t_21, t_22, t_32, t_40, t_41, t_48, t_49, t_57, t_59, t_60, t_63, t_72, t_76, t_88, t_100, t_144, t_200, t_255, t_288, t_400, t_800, t_999, t_1000, t_1024, t_1200, t_1600, t_3200, t_100000, t_200000, t_252645135, t_858993459, t_1431655765, u_m1000002, u_m1000001, u_m1000, u_m3, u_m1, u_0, u_1, u_2, u_3, u_4, u_5, u_7, u_8, u_10, u_11, u_15, u_60, u_100, u_255, u_999, u_1000, u_100000, u_4294967295] at hc30); omega
      · (try simp (disch := omega) only [nT, t_m1000100, t_m1000010, t_m1000003, t_m1000002, t_m1000001, t_m1000000, t_m65535, t_m1000, t_m3, t_m1, t_0, t_1, t_2, t_3, t_4, t_5, t_6, t_7, t_8, t_9, t_10, t_11, t_12, t_13, t_15, t_16, t_20, t_21, t_22, t_32, t_40, t_41, t_48, t_49, t_57, t_59, t_60, t_63, t_72, t_76, t_88, t_100, t_144, t_200, t_255, t_288, t_400, t_800, t_999, t_1000, t_1024, t_1200, t_1600, t_3200, t_100000, t_200000, t_252645135, t_858993459, t_1431655765, u_m1000002, u_m1000001, u_m1000, u_m3, u_m1, u_0, u_1, u_2, u_3, u_4, u_5, u_7, u_8, u_10, u_11, u_15, u_60, u_100, u_255, u_999, u_1000, u_100000, u_4294967295] at hc30)
        refine g_iload_n (i := 1) dX8_order_33 rfl rfl ?_
        refine g_iload dX8_order_34 rfl ?_
        refine g_ishr dX8_order_36 ?_
        refine g_iconst (v := 1) dX8_order_37 (by decide) ?_
        refine g_iand dX8_order_38 ?_
        rw [hbit]
        refine g_iconst (v := 1) dX8_order_39 (by decide) ?_
        refine g_icmp_ne (tgt := 72) dX8_order_40 (by decide) (fun hc40 => ?_) (fun hc40 => ?_)
        · have hd40 := mt i_eq.mpr hc40; (try simp (disch := omega) only [nT, t_m1000100, t_m1000010, t_m1000003, t_m1000002, t_m1000001, t_m1000000, t_m65535, t_m1000, t_m3, t_m1, t_0, t_1, t_2, t_3, t_4, t_5, t_6, t_7, t_8, t_9, t_10, t_11, t_12, t_13, t_15, t_16, t_20, t_21, t_22, t_32, t_40, t_41, t_48, t_49, t_57, t_59, t_60, t_63, t_72, t_76, t_88, t_100, t_144, t_200, t_255, t_288, t_400, t_800, t_999, t_1000, t_1024, t_1200, t_1600, t_3200, t_100000, t_200000, t_252645135, t_858993459, t_1431655765, u_m1000002, u_m1000001, u_m1000, u_m3, u_m1, u_0, u_1, u_2, u_3, u_4, u_5, u_7, u_8, u_10, u_11, u_15, u_60, u_100, u_255, u_999, u_1000, u_100000, u_4294967295] at hd40)
          refine g_iinc dX8_order_72 rfl (Nat.le_of_ble_eq_true rfl) rfl ?_
          refine g_goto (tgt := 24) dX8_order_75 (by decide) ?_
          rw [ni_incO]
          exact ih (k + 1) b _ _ (by omega) hb he
        · have hd40 := i_eq.mp hc40; (try simp (disch := omega) only [nT, t_m1000100, t_m1000010, t_m1000003, t_m1000002, t_m1000001, t_m1000000, t_m65535, t_m1000, t_m3, t_m1, t_0, t_1, t_2, t_3, t_4, t_5, t_6, t_7, t_8, t_9, t_10, t_11, t_12, t_13, t_15, t_16, t_20, t_21, t_22, t_32, t_40, t_41, t_48, t_49, t_57, t_59, t_60, t_63, t_72, t_76, t_88, t_100, t_144, t_200, t_255, t_288, t_400, t_800, t_999, t_1000, t_1024, t_1200, t_1600, t_3200, t_100000, t_200000, t_252645135, t_858993459, t_1431655765, u_m1000002, u_m1000001, u_m1000, u_m3, u_m1, u_0, u_1, u_2, u_3, u_4, u_5, u_7, u_8, u_10, u_11, u_15, u_60, u_100, u_255, u_999, u_1000, u_100000, u_4294967295] at hd40); exact absurd hc40 (by decide)
