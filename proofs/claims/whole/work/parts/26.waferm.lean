/-! wafers, the reference -/
theorem c_isOn (h : HH) (x y : Int32) : CT mX8_isOn 1 0 0 [.int x, .int y] h (fun r h' => r = some (.int (bI ((0 ≤ x.toInt ∧ x.toInt < 12) ∧ 0 ≤ y.toInt ∧ y.toInt < 12))) ∧ h' = h) := by
  refine CT.go [.int x, .int y] (by decide +kernel) rfl rfl (fun Q' hQ => ?_)
  refine g_iload_n (i := 0) dX8_isOn_0 rfl rfl ?_
  refine g_i2l dX8_isOn_1 ?_
  refine g_lconst (v := 0) dX8_isOn_2 (by decide) ?_
  refine g_ldc2 dX8_isOn_3 kc_X8_266 ?_
  refine g_callS (M' := mX8_in) dX8_isOn_6 lc_X8_in ml_X8_116 (c_in h x.toInt64 0 11 0 11 rfl rfl) rfl rfl ⟨Nat.le_of_ble_eq_true rfl, Nat.le_of_ble_eq_true rfl, Nat.le_of_ble_eq_true rfl, Nat.le_of_ble_eq_true rfl⟩ (Nat.le_of_ble_eq_true rfl) ?_
  intro r_ h_ q_; obtain ⟨q1_, q2_⟩ := q_; have q2_ := q2_.symm; subst q1_; subst q2_
  rw [l_i]
  refine g_if_eq (tgt := 28) dX8_isOn_9 (by decide) (fun hc9 => ?_) (fun hc9 => ?_)
  · replace hc9 := bI_0.mp hc9
    (try simp (disch := omega) only [nT, t_m1000100, t_m1000010, t_m1000003, t_m1000002, t_m1000001, t_m1000000, t_m65535, t_m1000, t_m3, t_m1, t_0, t_1, t_2, t_3, t_4, t_5, t_6, t_7, t_8, t_9, t_10, t_11, t_12, t_13, t_15, t_16, t_20, t_21, t_22, t_32, t_40, t_41, t_48, t_49, t_57, t_59, t_60, t_63, t_72, t_76, t_88, t_100, t_144, t_200, t_255, t_288, t_400, t_800, t_999, t_1000, t_1024, t_1200, t_1600, t_3200, t_100000, t_200000, t_252645135, t_858993459, t_1431655765, u_m1000002, u_m1000001, u_m1000, u_m3, u_m1, u_0, u_1, u_2, u_3, u_4, u_5, u_7, u_8, u_10, u_11, u_15, u_60, u_100, u_255, u_999, u_1000, u_100000, u_4294967295] at hc9)
    rw [bI_f (by omega)] at hQ
    refine g_iconst (v := 0) dX8_isOn_28 (by decide) ?_
    refine g_iret dX8_isOn_29 rfl (rfl) (hQ _ _ ?_)
    exact ⟨rfl, rfl⟩
  · replace hc9 := bI_n0.mp hc9
    (try simp (disch := omega) only [nT, t_m1000100, t_m1000010, t_m1000003, t_m1000002, t_m1000001, t_m1000000, t_m65535, t_m1000, t_m3, t_m1, t_0, t_1, t_2, t_3, t_4, t_5, t_6, t_7, t_8, t_9, t_10, t_11, t_12, t_13, t_15, t_16, t_20, t_21, t_22, t_32, t_40, t_41, t_48, t_49, t_57, t_59, t_60, t_63, t_72, t_76, t_88, t_100, t_144, t_200, t_255, t_288, t_400, t_800, t_999, t_1000, t_1024, t_1200, t_1600, t_3200, t_100000, t_200000, t_252645135, t_858993459, t_1431655765, u_m1000002, u_m1000001, u_m1000, u_m3, u_m1, u_0, u_1, u_2, u_3, u_4, u_5, u_7, u_8, u_10, u_11, u_15, u_60, u_100, u_255, u_999, u_1000, u_100000, u_4294967295] at hc9)
    refine g_iload_n (i := 1) dX8_isOn_12 rfl rfl ?_
    refine g_i2l dX8_isOn_13 ?_
    refine g_lconst (v := 0) dX8_isOn_14 (by decide) ?_
    refine g_ldc2 dX8_isOn_15 kc_X8_266 ?_
    refine g_callS (M' := mX8_in) dX8_isOn_18 lc_X8_in ml_X8_116 (c_in h y.toInt64 0 11 0 11 rfl rfl) rfl rfl ⟨Nat.le_of_ble_eq_true rfl, Nat.le_of_ble_eq_true rfl, Nat.le_of_ble_eq_true rfl, Nat.le_of_ble_eq_true rfl⟩ (Nat.le_of_ble_eq_true rfl) ?_
    intro r_ h_ q_; obtain ⟨q1_, q2_⟩ := q_; have q2_ := q2_.symm; subst q1_; subst q2_
    rw [l_i]
    refine g_if_eq (tgt := 28) dX8_isOn_21 (by decide) (fun hc21 => ?_) (fun hc21 => ?_)
    · replace hc21 := bI_0.mp hc21
      (try simp (disch := omega) only [nT, t_m1000100, t_m1000010, t_m1000003, t_m1000002, t_m1000001, t_m1000000, t_m65535, t_m1000, t_m3, t_m1, t_0, t_1, t_2, t_3, t_4, t_5, t_6, t_7, t_8, t_9, t_10, t_11, t_12, t_13, t_15, t_16, t_20, t_21, t_22, t_32, t_40, t_41, t_48, t_49, t_57, t_59, t_60, t_63, t_72, t_76, t_88, t_100, t_144, t_200, t_255, t_288, t_400, t_800, t_999, t_1000, t_1024, t_1200, t_1600, t_3200, t_100000, t_200000, t_252645135, t_858993459, t_1431655765, u_m1000002, u_m1000001, u_m1000, u_m3, u_m1, u_0, u_1, u_2, u_3, u_4, u_5, u_7, u_8, u_10, u_11, u_15, u_60, u_100, u_255, u_999, u_1000, u_100000, u_4294967295] at hc21)
      rw [bI_f (by omega)] at hQ
      refine g_iconst (v := 0) dX8_isOn_28 (by decide) ?_
      refine g_iret dX8_isOn_29 rfl (rfl) (hQ _ _ ?_)
      exact ⟨rfl, rfl⟩
    · replace hc21 := bI_n0.mp hc21
      (try simp (disch := omega) only [nT, t_m1000100, t_m1000010, t_m1000003, t_m1000002, t_m1000001, t_m1000000, t_m65535, t_m1000, t_m3, t_m1, t_0, t_1, t_2, t_3, t_4, t_5, t_6, t_7, t_8, t_9, t_10, t_11, t_12, t_13, t_15, t_16, t_20, t_21, t_22, t_32, t_40, t_41, t_48, t_49, t_57, t_59, t_60, t_63, t_72, t_76, t_88, t_100, t_144, t_200, t_255, t_288, t_400, t_800, t_999, t_1000, t_1024, t_1200, t_1600, t_3200, t_100000, t_200000, t_252645135, t_858993459, t_1431655765, u_m1000002, u_m1000001, u_m1000, u_m3, u_m1, u_0, u_1, u_2, u_3, u_4, u_5, u_7, u_8, u_10, u_11, u_15, u_60, u_100, u_255, u_999, u_1000, u_100000, u_4294967295] at hc21)
      rw [bI_t ⟨by omega, by omega⟩] at hQ
      refine g_iconst (v := 1) dX8_isOn_24 (by decide) ?_
      refine g_goto (tgt := 29) dX8_isOn_25 (by decide) ?_
      refine g_iret dX8_isOn_29 rfl (rfl) (hQ _ _ ?_)
      exact ⟨rfl, rfl⟩
abbrev wM (W : WA) (w : Nat) : Nat → Nat := if w = 0 then W.1 else W.2
theorem dm_w (W : WA) {w p : Nat} (hw : w < 2) (hp : p < 144) : dm W (144 * w + p) = wM W w p := by
  unfold dm wM
  rcases (by omega : w = 0 ∨ w = 1) with rfl | rfl
  · rw [if_pos (by omega), if_pos rfl, Nat.mul_zero, Nat.zero_add]
  · rw [if_neg (by omega), if_neg (by omega), show 144 * 1 + p - 144 = p by omega]
theorem wM_w (W : WA) {w : Nat} (hw : w < 2) : wOf W (nI w) = wM W w := by
  unfold wOf wM
  rcases (by omega : w = 0 ∨ w = 1) with rfl | rfl <;> rfl
abbrev DiM (W : WA) (h : HH) : Prop := gA h 44 = aO 8 ∧ gF h 44 46 = .ref 73 ∧ gA h 73 = aI 288 (fun p => nI (dm W p))
theorem c_dieAt {W : WA} {h : HH} (hg : DiM W h) {w : Nat} (hw : w < 2) (x y : Int32) : CT mX8_dieAt 2 0 0 [.ref 44, .int (nI w), .int x, .int y] h (fun r h' => r = some (.int (nI (atW (wM W w) x.toInt y.toInt))) ∧ h' = h) := by
  obtain ⟨e1, e2, e3⟩ := hg
  refine CT.go [.ref 44, .int (nI w), .int x, .int y] (by decide +kernel) rfl rfl (fun Q' hQ => ?_)
  refine g_iload_n (i := 2) dX8_dieAt_0 rfl rfl ?_
  refine g_iload_n (i := 3) dX8_dieAt_1 rfl rfl ?_
  refine g_callS (M' := mX8_isOn) dX8_dieAt_2 lc_X8_isOn ml_X8_268 (c_isOn h x y) rfl rfl ⟨Nat.le_of_ble_eq_true rfl, Nat.le_of_ble_eq_true rfl, Nat.le_of_ble_eq_true rfl, Nat.le_of_ble_eq_true rfl⟩ (Nat.le_of_ble_eq_true rfl) ?_
  intro r_ h_ q_; obtain ⟨q1_, q2_⟩ := q_; have q2_ := q2_.symm; subst q1_; subst q2_
  refine g_if_eq (tgt := 28) dX8_dieAt_5 (by decide) (fun hc5 => ?_) (fun hc5 => ?_)
  · replace hc5 := bI_0.mp hc5
    (try simp (disch := omega) only [nT, t_m1000100, t_m1000010, t_m1000003, t_m1000002, t_m1000001, t_m1000000, t_m65535, t_m1000, t_m3, t_m1, t_0, t_1, t_2, t_3, t_4, t_5, t_6, t_7, t_8, t_9, t_10, t_11, t_12, t_13, t_15, t_16, t_20, t_21, t_22, t_32, t_40, t_41, t_48, t_49, t_57, t_59, t_60, t_63, t_72, t_76, t_88, t_100, t_144, t_200, t_255, t_288, t_400, t_800, t_999, t_1000, t_1024, t_1200, t_1600, t_3200, t_100000, t_200000, t_252645135, t_858993459, t_1431655765, u_m1000002, u_m1000001, u_m1000, u_m3, u_m1, u_0, u_1, u_2, u_3, u_4, u_5, u_7, u_8, u_10, u_11, u_15, u_60, u_100, u_255, u_999, u_1000, u_100000, u_4294967295] at hc5)
    have e : atW (wM W w) x.toInt y.toInt = _ := if_neg (by omega)
    rw [e] at hQ
    refine g_iconst (v := 0) dX8_dieAt_28 (by decide) ?_
    refine g_iret dX8_dieAt_29 rfl (rfl) (hQ _ _ ?_)
    exact ⟨rfl, rfl⟩
  · replace hc5 := bI_n0.mp hc5
    (try simp (disch := omega) only [nT, t_m1000100, t_m1000010, t_m1000003, t_m1000002, t_m1000001, t_m1000000, t_m65535, t_m1000, t_m3, t_m1, t_0, t_1, t_2, t_3, t_4, t_5, t_6, t_7, t_8, t_9, t_10, t_11, t_12, t_13, t_15, t_16, t_20, t_21, t_22, t_32, t_40, t_41, t_48, t_49, t_57, t_59, t_60, t_63, t_72, t_76, t_88, t_100, t_144, t_200, t_255, t_288, t_400, t_800, t_999, t_1000, t_1024, t_1200, t_1600, t_3200, t_100000, t_200000, t_252645135, t_858993459, t_1431655765, u_m1000002, u_m1000001, u_m1000, u_m3, u_m1, u_0, u_1, u_2, u_3, u_4, u_5, u_7, u_8, u_10, u_11, u_15, u_60, u_100, u_255, u_999, u_1000, u_100000, u_4294967295] at hc5)
    obtain ⟨a, ha, rfl, hta⟩ := n_of (n := 12) (x := x) (by omega) (by omega)
    obtain ⟨b, hb, rfl, htb⟩ := n_of (n := 12) (x := y) (by omega) (by omega)
    have e : atW (wM W w) (nI a).toInt (nI b).toInt = _ := if_pos (by omega)
    rw [hta, htb, Int.toNat_natCast, Int.toNat_natCast, ← dm_w W hw (by omega)] at e
    rw [hta, htb, e] at hQ
    refine g_aload_n (i := 0) dX8_dieAt_8 rfl rfl ?_
    refine g_get dX8_dieAt_9 fl_X8_101 (by repeat' (first | assumption | exact rF_eq | refine rF_ne (by decide) ?_ | refine rF_a ?_ | exact rA_eq | refine rA_ne (by decide) ?_ | refine rA_f ?_)) (by repeat' (first | assumption | exact rF_eq | refine rF_ne (by decide) ?_ | refine rF_a ?_ | exact rA_eq | refine rA_ne (by decide) ?_ | refine rA_f ?_)) ?_
    refine g_sipush (v := 144) dX8_dieAt_12 (by decide) ?_
    refine g_iload_n (i := 1) dX8_dieAt_15 rfl rfl ?_
    refine g_imul dX8_dieAt_16 ?_
    refine g_bipush (v := 12) dX8_dieAt_17 (by decide) ?_
    refine g_iload_n (i := 3) dX8_dieAt_19 rfl rfl ?_
    refine g_imul dX8_dieAt_20 ?_
    refine g_iadd dX8_dieAt_21 ?_
    refine g_iload_n (i := 2) dX8_dieAt_22 rfl rfl ?_
    refine g_iadd dX8_dieAt_23 ?_
    rw [show (12 : Int32) = nI 12 from rfl, show (144 : Int32) = nI 144 from rfl, pk_mul, pk_mul, ni_add, ni_add, Nat.add_assoc (144 * w)]
    refine g_iald dX8_dieAt_24 (by repeat' (first | assumption | exact rF_eq | refine rF_ne (by decide) ?_ | refine rF_a ?_ | exact rA_eq | refine rA_ne (by decide) ?_ | refine rA_f ?_)) (nT (by omega)) (by omega) ?_
    refine g_goto (tgt := 29) dX8_dieAt_25 (by decide) ?_
    refine g_iret dX8_dieAt_29 rfl (rfl) (hQ _ _ ?_)
    exact ⟨rfl, rfl⟩
theorem dm_u (W : WA) {a0 q : Nat} (h0 : a0 < 2) (hq : q < 144) (v : Nat) : upd (fun p => nI (dm W p)) (144 * a0 + q) (nI v) = fun p => nI (dm (if nI a0 = 0 then (fun p => if p = q then v else W.1 p, W.2) else (W.1, fun p => if p = q then v else W.2 p)) p) := by
  funext p
  unfold upd dm
  rcases (by omega : a0 = 0 ∨ a0 = 1) with rfl | rfl
  · rw [if_pos (show nI 0 = 0 from rfl)]
    dsimp only
    by_cases q1 : p = 144 * 0 + q
    · rw [if_pos q1, if_pos (show p < 144 by omega), if_pos (show p = q by omega)]
    · rw [if_neg q1]
      by_cases q2 : p < 144
      · rw [if_pos q2, if_pos q2, if_neg (show ¬ p = q by omega)]
      · rw [if_neg q2, if_neg q2]
  · rw [if_neg (show ¬ nI 1 = 0 by decide)]
    dsimp only
    by_cases q1 : p = 144 * 1 + q
    · rw [if_pos q1, if_neg (show ¬ p < 144 by omega), if_pos (show p - 144 = q by omega)]
    · rw [if_neg q1]
      by_cases q2 : p < 144
      · rw [if_pos q2, if_pos q2]
      · rw [if_neg q2, if_neg q2, if_neg (show ¬ p - 144 = q by omega)]
theorem gwm_f {W : WA} {h : HH} (hg : GWM W h) : DiM W (sF h 44 0 (.int 0)) := ⟨hg.1, hg.2.1, hg.2.2.2.2⟩
theorem m_die {W : WA} (hW : WfW W) {h : HH} (hg : GWM W h) (w x y b : Int32) : CT mX8_die 3 0 0 [.ref 44, .int w, .int x, .int y, .int b] h (fun r h' => r = some (.int (opDie W w x y b).1) ∧ GWM (opDie W w x y b).2 h' ∧ Fr [73] [(44, 0)] h h') := by
  have hg2 := gwm_f hg
  obtain ⟨e1, e2, e3, e4, e5⟩ := id hg
  refine CT.go [.ref 44, .int w, .int x, .int y, .int b, hU] (by decide +kernel) rfl rfl (fun Q' hQ => ?_)
  refine g_aload_n (i := 0) dX8_die_0 rfl rfl ?_
  refine g_iconst (v := 0) dX8_die_1 (by decide) ?_
  refine g_put dX8_die_2 pl_X8_107 (by repeat' (first | assumption | exact rF_eq | refine rF_ne (by decide) ?_ | refine rF_a ?_ | exact rA_eq | refine rA_ne (by decide) ?_ | refine rA_f ?_)) (fun _ => ⟨rfl, rfl⟩) ?_
  refine g_iload_n (i := 1) dX8_die_5 rfl rfl ?_
  refine g_i2l dX8_die_6 ?_
  refine g_lconst (v := 0) dX8_die_7 (by decide) ?_
  refine g_lconst (v := 1) dX8_die_8 (by decide) ?_
  refine g_callS (M' := mX8_in) dX8_die_9 lc_X8_in ml_X8_116 (c_in _ w.toInt64 0 1 0 1 rfl rfl) rfl rfl ⟨Nat.le_of_ble_eq_true rfl, Nat.le_of_ble_eq_true rfl, Nat.le_of_ble_eq_true rfl, Nat.le_of_ble_eq_true rfl⟩ (Nat.le_of_ble_eq_true rfl) ?_
  intro r_ h_ q_; obtain ⟨q1_, q2_⟩ := q_; have q2_ := q2_.symm; subst q1_; subst q2_
  rw [l_i]
  refine g_if_eq (tgt := 43) dX8_die_12 (by decide) (fun hc12 => ?_) (fun hc12 => ?_)
  · replace hc12 := bI_0.mp hc12
    (try simp (disch := omega) only [nT, t_m1000100, t_m1000010, t_m1000003, t_m1000002, t_m1000001, t_m1000000, t_m65535, t_m1000, t_m3, t_m1, t_0, t_1, t_2, t_3, t_4, t_5, t_6, t_7, t_8, t_9, t_10, t_11, t_12, t_13, t_15, t_16, t_20, t_21, t_22, t_32, t_40, t_41, t_48, t_49, t_57, t_59, t_60, t_63, t_72, t_76, t_88, t_100, t_144, t_200, t_255, t_288, t_400, t_800, t_999, t_1000, t_1024, t_1200, t_1600, t_3200, t_100000, t_200000, t_252645135, t_858993459, t_1431655765, u_m1000002, u_m1000001, u_m1000, u_m3, u_m1, u_0, u_1, u_2, u_3, u_4, u_5, u_7, u_8, u_10, u_11, u_15, u_60, u_100, u_255, u_999, u_1000, u_100000, u_4294967295] at hc12)
    rw [show opDie W w x y b = _ from if_pos (by first | omega | exact Or.inr (Or.inr ⟨by omega, by assumption⟩))] at hQ
    refine g_ldc dX8_die_43 kc_X8_126 ?_
    refine g_iret dX8_die_45 rfl (rfl) (hQ _ _ ?_)
    exact ⟨rfl, hg, fr_sF (by decide) fr_rf⟩
  · replace hc12 := bI_n0.mp hc12
    (try simp (disch := omega) only [nT, t_m1000100, t_m1000010, t_m1000003, t_m1000002, t_m1000001, t_m1000000, t_m65535, t_m1000, t_m3, t_m1, t_0, t_1, t_2, t_3, t_4, t_5, t_6, t_7, t_8, t_9, t_10, t_11, t_12, t_13, t_15, t_16, t_20, t_21, t_22, t_32, t_40, t_41, t_48, t_49, t_57, t_59, t_60, t_63, t_72, t_76, t_88, t_100, t_144, t_200, t_255, t_288, t_400, t_800, t_999, t_1000, t_1024, t_1200, t_1600, t_3200, t_100000, t_200000, t_252645135, t_858993459, t_1431655765, u_m1000002, u_m1000001, u_m1000, u_m3, u_m1, u_0, u_1, u_2, u_3, u_4, u_5, u_7, u_8, u_10, u_11, u_15, u_60, u_100, u_255, u_999, u_1000, u_100000, u_4294967295] at hc12)
    refine g_iload_n (i := 2) dX8_die_15 rfl rfl ?_
    refine g_iload_n (i := 3) dX8_die_16 rfl rfl ?_
    refine g_callS (M' := mX8_isOn) dX8_die_17 lc_X8_isOn ml_X8_268 (c_isOn _ x y) rfl rfl ⟨Nat.le_of_ble_eq_true rfl, Nat.le_of_ble_eq_true rfl, Nat.le_of_ble_eq_true rfl, Nat.le_of_ble_eq_true rfl⟩ (Nat.le_of_ble_eq_true rfl) ?_
    intro r_ h_ q_; obtain ⟨q1_, q2_⟩ := q_; have q2_ := q2_.symm; subst q1_; subst q2_
    refine g_if_eq (tgt := 43) dX8_die_20 (by decide) (fun hc20 => ?_) (fun hc20 => ?_)
    · replace hc20 := bI_0.mp hc20
      (try simp (disch := omega) only [nT, t_m1000100, t_m1000010, t_m1000003, t_m1000002, t_m1000001, t_m1000000, t_m65535, t_m1000, t_m3, t_m1, t_0, t_1, t_2, t_3, t_4, t_5, t_6, t_7, t_8, t_9, t_10, t_11, t_12, t_13, t_15, t_16, t_20, t_21, t_22, t_32, t_40, t_41, t_48, t_49, t_57, t_59, t_60, t_63, t_72, t_76, t_88, t_100, t_144, t_200, t_255, t_288, t_400, t_800, t_999, t_1000, t_1024, t_1200, t_1600, t_3200, t_100000, t_200000, t_252645135, t_858993459, t_1431655765, u_m1000002, u_m1000001, u_m1000, u_m3, u_m1, u_0, u_1, u_2, u_3, u_4, u_5, u_7, u_8, u_10, u_11, u_15, u_60, u_100, u_255, u_999, u_1000, u_100000, u_4294967295] at hc20)
      rw [show opDie W w x y b = _ from if_pos (by first | omega | exact Or.inr (Or.inr ⟨by omega, by assumption⟩))] at hQ
      refine g_ldc dX8_die_43 kc_X8_126 ?_
      refine g_iret dX8_die_45 rfl (rfl) (hQ _ _ ?_)
      exact ⟨rfl, hg, fr_sF (by decide) fr_rf⟩
    · replace hc20 := bI_n0.mp hc20
      (try simp (disch := omega) only [nT, t_m1000100, t_m1000010, t_m1000003, t_m1000002, t_m1000001, t_m1000000, t_m65535, t_m1000, t_m3, t_m1, t_0, t_1, t_2, t_3, t_4, t_5, t_6, t_7, t_8, t_9, t_10, t_11, t_12, t_13, t_15, t_16, t_20, t_21, t_22, t_32, t_40, t_41, t_48, t_49, t_57, t_59, t_60, t_63, t_72, t_76, t_88, t_100, t_144, t_200, t_255, t_288, t_400, t_800, t_999, t_1000, t_1024, t_1200, t_1600, t_3200, t_100000, t_200000, t_252645135, t_858993459, t_1431655765, u_m1000002, u_m1000001, u_m1000, u_m3, u_m1, u_0, u_1, u_2, u_3, u_4, u_5, u_7, u_8, u_10, u_11, u_15, u_60, u_100, u_255, u_999, u_1000, u_100000, u_4294967295] at hc20)
      refine g_iload dX8_die_23 rfl ?_
      refine g_ldc dX8_die_25 kc_X8_142 ?_
      refine g_icmp_eq (tgt := 46) dX8_die_27 (by decide) (fun hc27 => ?_) (fun hc27 => ?_)
      · have hd27 := i_eq.mp hc27; (try simp (disch := omega) only [nT, t_m1000100, t_m1000010, t_m1000003, t_m1000002, t_m1000001, t_m1000000, t_m65535, t_m1000, t_m3, t_m1, t_0, t_1, t_2, t_3, t_4, t_5, t_6, t_7, t_8, t_9, t_10, t_11, t_12, t_13, t_15, t_16, t_20, t_21, t_22, t_32, t_40, t_41, t_48, t_49, t_57, t_59, t_60, t_63, t_72, t_76, t_88, t_100, t_144, t_200, t_255, t_288, t_400, t_800, t_999, t_1000, t_1024, t_1200, t_1600, t_3200, t_100000, t_200000, t_252645135, t_858993459, t_1431655765, u_m1000002, u_m1000001, u_m1000, u_m3, u_m1, u_0, u_1, u_2, u_3, u_4, u_5, u_7, u_8, u_10, u_11, u_15, u_60, u_100, u_255, u_999, u_1000, u_100000, u_4294967295] at hd27)
        have hb : (0 ≤ b.toInt ∧ b.toInt < 16) ∨ b = -1000000 := by first | (left; omega) | (right; assumption)
        have e : opDie W w x y b = _ := if_neg (fun q => q.elim (fun q => by omega) (fun q => q.elim (fun q => by omega) (fun q => hb.elim q.1 q.2)))
        have hv0 : b = -1000000 → (if b = -1000000 then 0 else b.toInt.toNat + 1) = 0 := fun q => if_pos q
        have hv1 : ¬ b = -1000000 → b + 1 = nI (if b = -1000000 then 0 else b.toInt.toNat + 1) := fun q => by
          obtain ⟨j, hj, q1, hjt⟩ := n_of (n := 16) (hb.resolve_right q).1 (hb.resolve_right q).2
          rw [if_neg q, q1, nTN (by omega), ni_inc]
        generalize (if b = -1000000 then 0 else b.toInt.toNat + 1) = v at e hv0 hv1
        obtain ⟨a0, ha0, rfl, hta0⟩ := n_of (n := 2) (x := w) (by omega) (by omega)
        obtain ⟨a1, ha1, rfl, hta1⟩ := n_of (n := 12) (x := x) (by omega) (by omega)
        obtain ⟨a2, ha2, rfl, hta2⟩ := n_of (n := 12) (x := y) (by omega) (by omega)
        rw [nTN (by omega), nTN (by omega), wM_w W ha0] at e
        have e9 : atW (wM W a0) (nI a1).toInt (nI a2).toInt = _ := if_pos (by omega)
        rw [show (nI a1).toInt.toNat = a1 by omega, show (nI a2).toInt.toNat = a2 by omega] at e9
        have hle : wM W a0 (12 * a2 + a1) ≤ 16 := by unfold wM; have := hW (12 * a2 + a1) (by omega); split <;> omega
        have fin : GWM (if nI a0 = 0 then (fun p => if p = 12 * a2 + a1 then v else W.1 p, W.2) else (W.1, fun p => if p = 12 * a2 + a1 then v else W.2 p)) (sA (sF h 44 0 (.int 0)) 73 (aI 288 (upd (fun p => nI (dm W p)) (144 * a0 + (12 * a2 + a1)) (nI v)))) := ⟨e1, e2, e3, e4, congrArg (aI 288) (dm_u W ha0 (by omega) v)⟩
        refine g_aload_n (i := 0) dX8_die_46 rfl rfl ?_
        refine g_iload_n (i := 1) dX8_die_47 rfl rfl ?_
        refine g_iload_n (i := 2) dX8_die_48 rfl rfl ?_
        refine g_iload_n (i := 3) dX8_die_49 rfl rfl ?_
        refine g_callV (M' := mX8_dieAt) dX8_die_50 lc_X8_dieAt ml_X8_272 (c_dieAt hg2 ha0 (nI a1) (nI a2)) rfl rfl (by repeat' (first | assumption | exact rF_eq | refine rF_ne (by decide) ?_ | refine rF_a ?_ | exact rA_eq | refine rA_ne (by decide) ?_ | refine rA_f ?_)) rfl ⟨Nat.le_of_ble_eq_true rfl, Nat.le_of_ble_eq_true rfl, Nat.le_of_ble_eq_true rfl, Nat.le_of_ble_eq_true rfl⟩ (Nat.le_of_ble_eq_true rfl) ?_
        intro r_ h_ q_; obtain ⟨q1_, q2_⟩ := q_; have q2_ := q2_.symm; subst q1_; subst q2_
        rw [e9]
        refine g_istore dX8_die_53 (Nat.le_of_ble_eq_true rfl) rfl ?_
        refine g_aload_n (i := 0) dX8_die_55 rfl rfl ?_
        refine g_get dX8_die_56 fl_X8_101 (by repeat' (first | assumption | exact rF_eq | refine rF_ne (by decide) ?_ | refine rF_a ?_ | exact rA_eq | refine rA_ne (by decide) ?_ | refine rA_f ?_)) (by repeat' (first | assumption | exact rF_eq | refine rF_ne (by decide) ?_ | refine rF_a ?_ | exact rA_eq | refine rA_ne (by decide) ?_ | refine rA_f ?_)) ?_
        refine g_sipush (v := 144) dX8_die_59 (by decide) ?_
        refine g_iload_n (i := 1) dX8_die_62 rfl rfl ?_
        refine g_imul dX8_die_63 ?_
        refine g_bipush (v := 12) dX8_die_64 (by decide) ?_
        refine g_iload_n (i := 3) dX8_die_66 rfl rfl ?_
        refine g_imul dX8_die_67 ?_
        refine g_iadd dX8_die_68 ?_
        refine g_iload_n (i := 2) dX8_die_69 rfl rfl ?_
        refine g_iadd dX8_die_70 ?_
        refine g_iload dX8_die_71 rfl ?_
        refine g_ldc dX8_die_73 kc_X8_142 ?_
        refine g_icmp_ne (tgt := 82) dX8_die_75 (by decide) (fun hc75 => ?_) (fun hc75 => ?_)
        · have hd75 := mt i_eq.mpr hc75; (try simp (disch := omega) only [nT, t_m1000100, t_m1000010, t_m1000003, t_m1000002, t_m1000001, t_m1000000, t_m65535, t_m1000, t_m3, t_m1, t_0, t_1, t_2, t_3, t_4, t_5, t_6, t_7, t_8, t_9, t_10, t_11, t_12, t_13, t_15, t_16, t_20, t_21, t_22, t_32, t_40, t_41, t_48, t_49, t_57, t_59, t_60, t_63, t_72, t_76, t_88, t_100, t_144, t_200, t_255, t_288, t_400, t_800, t_999, t_1000, t_1024, t_1200, t_1600, t_3200, t_100000, t_200000, t_252645135, t_858993459, t_1431655765, u_m1000002, u_m1000001, u_m1000, u_m3, u_m1, u_0, u_1, u_2, u_3, u_4, u_5, u_7, u_8, u_10, u_11, u_15, u_60, u_100, u_255, u_999, u_1000, u_100000, u_4294967295] at hd75)
          refine g_iload dX8_die_82 rfl ?_
          refine g_iconst (v := 1) dX8_die_84 (by decide) ?_
          refine g_iadd dX8_die_85 ?_
          rw [hv1 hc75]
          rw [show (12 : Int32) = nI 12 from rfl, show (144 : Int32) = nI 144 from rfl, pk_mul, pk_mul, ni_add, ni_add, Nat.add_assoc (144 * a0)]
          refine g_iast dX8_die_86 (by repeat' (first | assumption | exact rF_eq | refine rF_ne (by decide) ?_ | refine rF_a ?_ | exact rA_eq | refine rA_ne (by decide) ?_ | refine rA_f ?_)) (nT (by omega)) (by omega) ?_
          refine g_iload dX8_die_87 rfl ?_
          refine g_if_ne (tgt := 97) dX8_die_89 (by decide) (fun hc89 => ?_) (fun hc89 => ?_)
          · have hd89 := mt i_eq.mpr hc89; (try simp (disch := omega) only [nT, t_m1000100, t_m1000010, t_m1000003, t_m1000002, t_m1000001, t_m1000000, t_m65535, t_m1000, t_m3, t_m1, t_0, t_1, t_2, t_3, t_4, t_5, t_6, t_7, t_8, t_9, t_10, t_11, t_12, t_13, t_15, t_16, t_20, t_21, t_22, t_32, t_40, t_41, t_48, t_49, t_57, t_59, t_60, t_63, t_72, t_76, t_88, t_100, t_144, t_200, t_255, t_288, t_400, t_800, t_999, t_1000, t_1024, t_1200, t_1600, t_3200, t_100000, t_200000, t_252645135, t_858993459, t_1431655765, u_m1000002, u_m1000001, u_m1000, u_m3, u_m1, u_0, u_1, u_2, u_3, u_4, u_5, u_7, u_8, u_10, u_11, u_15, u_60, u_100, u_255, u_999, u_1000, u_100000, u_4294967295] at hd89)
            refine g_iload dX8_die_97 rfl ?_
            refine g_iconst (v := 1) dX8_die_99 (by decide) ?_
            refine g_isub dX8_die_100 ?_
            refine g_iret dX8_die_101 rfl (rfl) (hQ _ _ ?_)
            rw [e]
            refine ⟨?_, fin, fr_sA (by decide) (fr_sF (by decide) fr_rf)⟩
            first
            | (rw [show wM W a0 (12 * a2 + a1) = 0 by omega]; rfl)
            | (rw [bv_p (by omega), ← n_sub (by omega : 1 ≤ wM W a0 (12 * a2 + a1))]; rfl)
          · have hd89 := i_eq.mp hc89; (try simp (disch := omega) only [nT, t_m1000100, t_m1000010, t_m1000003, t_m1000002, t_m1000001, t_m1000000, t_m65535, t_m1000, t_m3, t_m1, t_0, t_1, t_2, t_3, t_4, t_5, t_6, t_7, t_8, t_9, t_10, t_11, t_12, t_13, t_15, t_16, t_20, t_21, t_22, t_32, t_40, t_41, t_48, t_49, t_57, t_59, t_60, t_63, t_72, t_76, t_88, t_100, t_144, t_200, t_255, t_288, t_400, t_800, t_999, t_1000, t_1024, t_1200, t_1600, t_3200, t_100000, t_200000, t_252645135, t_858993459, t_1431655765, u_m1000002, u_m1000001, u_m1000, u_m3, u_m1, u_0, u_1, u_2, u_3, u_4, u_5, u_7, u_8, u_10, u_11, u_15, u_60, u_100, u_255, u_999, u_1000, u_100000, u_4294967295] at hd89)
            refine g_ldc dX8_die_92 kc_X8_142 ?_
            refine g_goto (tgt := 101) dX8_die_94 (by decide) ?_
            refine g_iret dX8_die_101 rfl (rfl) (hQ _ _ ?_)
            rw [e]
            refine ⟨?_, fin, fr_sA (by decide) (fr_sF (by decide) fr_rf)⟩
            first
            | (rw [show wM W a0 (12 * a2 + a1) = 0 by omega]; rfl)
            | (rw [bv_p (by omega), ← n_sub (by omega : 1 ≤ wM W a0 (12 * a2 + a1))]; rfl)
        · have hd75 := i_eq.mp hc75; (try simp (disch := omega) only [nT, t_m1000100, t_m1000010, t_m1000003, t_m1000002, t_m1000001, t_m1000000, t_m65535, t_m1000, t_m3, t_m1, t_0, t_1, t_2, t_3, t_4, t_5, t_6, t_7, t_8, t_9, t_10, t_11, t_12, t_13, t_15, t_16, t_20, t_21, t_22, t_32, t_40, t_41, t_48, t_49, t_57, t_59, t_60, t_63, t_72, t_76, t_88, t_100, t_144, t_200, t_255, t_288, t_400, t_800, t_999, t_1000, t_1024, t_1200, t_1600, t_3200, t_100000, t_200000, t_252645135, t_858993459, t_1431655765, u_m1000002, u_m1000001, u_m1000, u_m3, u_m1, u_0, u_1, u_2, u_3, u_4, u_5, u_7, u_8, u_10, u_11, u_15, u_60, u_100, u_255, u_999, u_1000, u_100000, u_4294967295] at hd75)
          obtain rfl : v = 0 := hv0 hc75
          refine g_iconst (v := 0) dX8_die_78 (by decide) ?_
          refine g_goto (tgt := 86) dX8_die_79 (by decide) ?_
          rw [show (12 : Int32) = nI 12 from rfl, show (144 : Int32) = nI 144 from rfl, pk_mul, pk_mul, ni_add, ni_add, Nat.add_assoc (144 * a0)]
          refine g_iast dX8_die_86 (by repeat' (first | assumption | exact rF_eq | refine rF_ne (by decide) ?_ | refine rF_a ?_ | exact rA_eq | refine rA_ne (by decide) ?_ | refine rA_f ?_)) (nT (by omega)) (by omega) ?_
          refine g_iload dX8_die_87 rfl ?_
          refine g_if_ne (tgt := 97) dX8_die_89 (by decide) (fun hc89 => ?_) (fun hc89 => ?_)
          · have hd89 := mt i_eq.mpr hc89; (try simp (disch := omega) only [nT, t_m1000100, t_m1000010, t_m1000003, t_m1000002, t_m1000001, t_m1000000, t_m65535, t_m1000, t_m3, t_m1, t_0, t_1, t_2, t_3, t_4, t_5, t_6, t_7, t_8, t_9, t_10, t_11, t_12, t_13, t_15, t_16, t_20, t_21, t_22, t_32, t_40, t_41, t_48, t_49, t_57, t_59, t_60, t_63, t_72, t_76, t_88, t_100, t_144, t_200, t_255, t_288, t_400, t_800, t_999, t_1000, t_1024, t_1200, t_1600, t_3200, t_100000, t_200000, t_252645135, t_858993459, t_1431655765, u_m1000002, u_m1000001, u_m1000, u_m3, u_m1, u_0, u_1, u_2, u_3, u_4, u_5, u_7, u_8, u_10, u_11, u_15, u_60, u_100, u_255, u_999, u_1000, u_100000, u_4294967295] at hd89)
            refine g_iload dX8_die_97 rfl ?_
            refine g_iconst (v := 1) dX8_die_99 (by decide) ?_
            refine g_isub dX8_die_100 ?_
            refine g_iret dX8_die_101 rfl (rfl) (hQ _ _ ?_)
            rw [e]
            refine ⟨?_, fin, fr_sA (by decide) (fr_sF (by decide) fr_rf)⟩
            first
            | (rw [show wM W a0 (12 * a2 + a1) = 0 by omega]; rfl)
            | (rw [bv_p (by omega), ← n_sub (by omega : 1 ≤ wM W a0 (12 * a2 + a1))]; rfl)
          · have hd89 := i_eq.mp hc89; (try simp (disch := omega) only [nT, t_m1000100, t_m1000010, t_m1000003, t_m1000002, t_m1000001, t_m1000000, t_m65535, t_m1000, t_m3, t_m1, t_0, t_1, t_2, t_3, t_4, t_5, t_6, t_7, t_8, t_9, t_10, t_11, t_12, t_13, t_15, t_16, t_20, t_21, t_22, t_32, t_40, t_41, t_48, t_49, t_57, t_59, t_60, t_63, t_72, t_76, t_88, t_100, t_144, t_200, t_255, t_288, t_400, t_800, t_999, t_1000, t_1024, t_1200, t_1600, t_3200, t_100000, t_200000, t_252645135, t_858993459, t_1431655765, u_m1000002, u_m1000001, u_m1000, u_m3, u_m1, u_0, u_1, u_2, u_3, u_4, u_5, u_7, u_8, u_10, u_11, u_15, u_60, u_100, u_255, u_999, u_1000, u_100000, u_4294967295] at hd89)
            refine g_ldc dX8_die_92 kc_X8_142 ?_
            refine g_goto (tgt := 101) dX8_die_94 (by decide) ?_
            refine g_iret dX8_die_101 rfl (rfl) (hQ _ _ ?_)
            rw [e]
            refine ⟨?_, fin, fr_sA (by decide) (fr_sF (by decide) fr_rf)⟩
            first
            | (rw [show wM W a0 (12 * a2 + a1) = 0 by omega]; rfl)
            | (rw [bv_p (by omega), ← n_sub (by omega : 1 ≤ wM W a0 (12 * a2 + a1))]; rfl)
      · have hd27 := mt i_eq.mpr hc27; (try simp (disch := omega) only [nT, t_m1000100, t_m1000010, t_m1000003, t_m1000002, t_m1000001, t_m1000000, t_m65535, t_m1000, t_m3, t_m1, t_0, t_1, t_2, t_3, t_4, t_5, t_6, t_7, t_8, t_9, t_10, t_11, t_12, t_13, t_15, t_16, t_20, t_21, t_22, t_32, t_40, t_41, t_48, t_49, t_57, t_59, t_60, t_63, t_72, t_76, t_88, t_100, t_144, t_200, t_255, t_288, t_400, t_800, t_999, t_1000, t_1024, t_1200, t_1600, t_3200, t_100000, t_200000, t_252645135, t_858993459, t_1431655765, u_m1000002, u_m1000001, u_m1000, u_m3, u_m1, u_0, u_1, u_2, u_3, u_4, u_5, u_7, u_8, u_10, u_11, u_15, u_60, u_100, u_255, u_999, u_1000, u_100000, u_4294967295] at hd27)
        refine g_iload dX8_die_30 rfl ?_
        refine g_i2l dX8_die_32 ?_
        refine g_lconst (v := 0) dX8_die_33 (by decide) ?_
        refine g_ldc2 dX8_die_34 kc_X8_202 ?_
        refine g_callS (M' := mX8_in) dX8_die_37 lc_X8_in ml_X8_116 (c_in _ b.toInt64 0 15 0 15 rfl rfl) rfl rfl ⟨Nat.le_of_ble_eq_true rfl, Nat.le_of_ble_eq_true rfl, Nat.le_of_ble_eq_true rfl, Nat.le_of_ble_eq_true rfl⟩ (Nat.le_of_ble_eq_true rfl) ?_
        intro r_ h_ q_; obtain ⟨q1_, q2_⟩ := q_; have q2_ := q2_.symm; subst q1_; subst q2_
        rw [l_i]
        refine g_if_ne (tgt := 46) dX8_die_40 (by decide) (fun hc40 => ?_) (fun hc40 => ?_)
        · replace hc40 := bI_n0.mp hc40
          (try simp (disch := omega) only [nT, t_m1000100, t_m1000010, t_m1000003, t_m1000002, t_m1000001, t_m1000000, t_m65535, t_m1000, t_m3, t_m1, t_0, t_1, t_2, t_3, t_4, t_5, t_6, t_7, t_8, t_9, t_10, t_11, t_12, t_13, t_15, t_16, t_20, t_21, t_22, t_32, t_40, t_41, t_48, t_49, t_57, t_59, t_60, t_63, t_72, t_76, t_88, t_100, t_144, t_200, t_255, t_288, t_400, t_800, t_999, t_1000, t_1024, t_1200, t_1600, t_3200, t_100000, t_200000, t_252645135, t_858993459, t_1431655765, u_m1000002, u_m1000001, u_m1000, u_m3, u_m1, u_0, u_1, u_2, u_3, u_4, u_5, u_7, u_8, u_10, u_11, u_15, u_60, u_100, u_255, u_999, u_1000, u_100000, u_4294967295] at hc40)
          have hb : (0 ≤ b.toInt ∧ b.toInt < 16) ∨ b = -1000000 := by first | (left; omega) | (right; assumption)
          have e : opDie W w x y b = _ := if_neg (fun q => q.elim (fun q => by omega) (fun q => q.elim (fun q => by omega) (fun q => hb.elim q.1 q.2)))
          have hv0 : b = -1000000 → (if b = -1000000 then 0 else b.toInt.toNat + 1) = 0 := fun q => if_pos q
          have hv1 : ¬ b = -1000000 → b + 1 = nI (if b = -1000000 then 0 else b.toInt.toNat + 1) := fun q => by
            obtain ⟨j, hj, q1, hjt⟩ := n_of (n := 16) (hb.resolve_right q).1 (hb.resolve_right q).2
            rw [if_neg q, q1, nTN (by omega), ni_inc]
          generalize (if b = -1000000 then 0 else b.toInt.toNat + 1) = v at e hv0 hv1
          obtain ⟨a0, ha0, rfl, hta0⟩ := n_of (n := 2) (x := w) (by omega) (by omega)
          obtain ⟨a1, ha1, rfl, hta1⟩ := n_of (n := 12) (x := x) (by omega) (by omega)
          obtain ⟨a2, ha2, rfl, hta2⟩ := n_of (n := 12) (x := y) (by omega) (by omega)
          rw [nTN (by omega), nTN (by omega), wM_w W ha0] at e
          have e9 : atW (wM W a0) (nI a1).toInt (nI a2).toInt = _ := if_pos (by omega)
          rw [show (nI a1).toInt.toNat = a1 by omega, show (nI a2).toInt.toNat = a2 by omega] at e9
          have hle : wM W a0 (12 * a2 + a1) ≤ 16 := by unfold wM; have := hW (12 * a2 + a1) (by omega); split <;> omega
          have fin : GWM (if nI a0 = 0 then (fun p => if p = 12 * a2 + a1 then v else W.1 p, W.2) else (W.1, fun p => if p = 12 * a2 + a1 then v else W.2 p)) (sA (sF h 44 0 (.int 0)) 73 (aI 288 (upd (fun p => nI (dm W p)) (144 * a0 + (12 * a2 + a1)) (nI v)))) := ⟨e1, e2, e3, e4, congrArg (aI 288) (dm_u W ha0 (by omega) v)⟩
          refine g_aload_n (i := 0) dX8_die_46 rfl rfl ?_
          refine g_iload_n (i := 1) dX8_die_47 rfl rfl ?_
          refine g_iload_n (i := 2) dX8_die_48 rfl rfl ?_
          refine g_iload_n (i := 3) dX8_die_49 rfl rfl ?_
          refine g_callV (M' := mX8_dieAt) dX8_die_50 lc_X8_dieAt ml_X8_272 (c_dieAt hg2 ha0 (nI a1) (nI a2)) rfl rfl (by repeat' (first | assumption | exact rF_eq | refine rF_ne (by decide) ?_ | refine rF_a ?_ | exact rA_eq | refine rA_ne (by decide) ?_ | refine rA_f ?_)) rfl ⟨Nat.le_of_ble_eq_true rfl, Nat.le_of_ble_eq_true rfl, Nat.le_of_ble_eq_true rfl, Nat.le_of_ble_eq_true rfl⟩ (Nat.le_of_ble_eq_true rfl) ?_
          intro r_ h_ q_; obtain ⟨q1_, q2_⟩ := q_; have q2_ := q2_.symm; subst q1_; subst q2_
          rw [e9]
          refine g_istore dX8_die_53 (Nat.le_of_ble_eq_true rfl) rfl ?_
          refine g_aload_n (i := 0) dX8_die_55 rfl rfl ?_
          refine g_get dX8_die_56 fl_X8_101 (by repeat' (first | assumption | exact rF_eq | refine rF_ne (by decide) ?_ | refine rF_a ?_ | exact rA_eq | refine rA_ne (by decide) ?_ | refine rA_f ?_)) (by repeat' (first | assumption | exact rF_eq | refine rF_ne (by decide) ?_ | refine rF_a ?_ | exact rA_eq | refine rA_ne (by decide) ?_ | refine rA_f ?_)) ?_
          refine g_sipush (v := 144) dX8_die_59 (by decide) ?_
          refine g_iload_n (i := 1) dX8_die_62 rfl rfl ?_
          refine g_imul dX8_die_63 ?_
          refine g_bipush (v := 12) dX8_die_64 (by decide) ?_
          refine g_iload_n (i := 3) dX8_die_66 rfl rfl ?_
          refine g_imul dX8_die_67 ?_
          refine g_iadd dX8_die_68 ?_
          refine g_iload_n (i := 2) dX8_die_69 rfl rfl ?_
          refine g_iadd dX8_die_70 ?_
          refine g_iload dX8_die_71 rfl ?_
          refine g_ldc dX8_die_73 kc_X8_142 ?_
          refine g_icmp_ne (tgt := 82) dX8_die_75 (by decide) (fun hc75 => ?_) (fun hc75 => ?_)
          · have hd75 := mt i_eq.mpr hc75; (try simp (disch := omega) only [nT, t_m1000100, t_m1000010, t_m1000003, t_m1000002, t_m1000001, t_m1000000, t_m65535, t_m1000, t_m3, t_m1, t_0, t_1, t_2, t_3, t_4, t_5, t_6, t_7, t_8, t_9, t_10, t_11, t_12, t_13, t_15, t_16, t_20, t_21, t_22, t_32, t_40, t_41, t_48, t_49, t_57, t_59, t_60, t_63, t_72, t_76, t_88, t_100, t_144, t_200, t_255, t_288, t_400, t_800, t_999, t_1000, t_1024, t_1200, t_1600, t_3200, t_100000, t_200000, t_252645135, t_858993459, t_1431655765, u_m1000002, u_m1000001, u_m1000, u_m3, u_m1, u_0, u_1, u_2, u_3, u_4, u_5, u_7, u_8, u_10, u_11, u_15, u_60, u_100, u_255, u_999, u_1000, u_100000, u_4294967295] at hd75)
            refine g_iload dX8_die_82 rfl ?_
            refine g_iconst (v := 1) dX8_die_84 (by decide) ?_
            refine g_iadd dX8_die_85 ?_
            rw [hv1 hc75]
            rw [show (12 : Int32) = nI 12 from rfl, show (144 : Int32) = nI 144 from rfl, pk_mul, pk_mul, ni_add, ni_add, Nat.add_assoc (144 * a0)]
            refine g_iast dX8_die_86 (by repeat' (first | assumption | exact rF_eq | refine rF_ne (by decide) ?_ | refine rF_a ?_ | exact rA_eq | refine rA_ne (by decide) ?_ | refine rA_f ?_)) (nT (by omega)) (by omega) ?_
            refine g_iload dX8_die_87 rfl ?_
            refine g_if_ne (tgt := 97) dX8_die_89 (by decide) (fun hc89 => ?_) (fun hc89 => ?_)
            · have hd89 := mt i_eq.mpr hc89; (try simp (disch := omega) only [nT, t_m1000100, t_m1000010, t_m1000003, t_m1000002, t_m1000001, t_m1000000, t_m65535, t_m1000, t_m3, t_m1, t_0, t_1, t_2, t_3, t_4, t_5, t_6, t_7, t_8, t_9, t_10, t_11, t_12, t_13, t_15, t_16, t_20, t_21, t_22, t_32, t_40, t_41, t_48, t_49, t_57, t_59, t_60, t_63, t_72, t_76, t_88, t_100, t_144, t_200, t_255, t_288, t_400, t_800, t_999, t_1000, t_1024, t_1200, t_1600, t_3200, t_100000, t_200000, t_252645135, t_858993459, t_1431655765, u_m1000002, u_m1000001, u_m1000, u_m3, u_m1, u_0, u_1, u_2, u_3, u_4, u_5, u_7, u_8, u_10, u_11, u_15, u_60, u_100, u_255, u_999, u_1000, u_100000, u_4294967295] at hd89)
              refine g_iload dX8_die_97 rfl ?_
              refine g_iconst (v := 1) dX8_die_99 (by decide) ?_
              refine g_isub dX8_die_100 ?_
              refine g_iret dX8_die_101 rfl (rfl) (hQ _ _ ?_)
              rw [e]
              refine ⟨?_, fin, fr_sA (by decide) (fr_sF (by decide) fr_rf)⟩
              first
              | (rw [show wM W a0 (12 * a2 + a1) = 0 by omega]; rfl)
              | (rw [bv_p (by omega), ← n_sub (by omega : 1 ≤ wM W a0 (12 * a2 + a1))]; rfl)
            · have hd89 := i_eq.mp hc89; (try simp (disch := omega) only [nT, t_m1000100, t_m1000010, t_m1000003, t_m1000002, t_m1000001, t_m1000000, t_m65535, t_m1000, t_m3, t_m1, t_0, t_1, t_2, t_3, t_4, t_5, t_6, t_7, t_8, t_9, t_10, t_11, t_12, t_13, t_15, t_16, t_20, t_21, t_22, t_32, t_40, t_41, t_48, t_49, t_57, t_59, t_60, t_63, t_72, t_76, t_88, t_100, t_144, t_200, t_255, t_288, t_400, t_800, t_999, t_1000, t_1024, t_1200, t_1600, t_3200, t_100000, t_200000, t_252645135, t_858993459, t_1431655765, u_m1000002, u_m1000001, u_m1000, u_m3, u_m1, u_0, u_1, u_2, u_3, u_4, u_5, u_7, u_8, u_10, u_11, u_15, u_60, u_100, u_255, u_999, u_1000, u_100000, u_4294967295] at hd89)
              refine g_ldc dX8_die_92 kc_X8_142 ?_
              refine g_goto (tgt := 101) dX8_die_94 (by decide) ?_
              refine g_iret dX8_die_101 rfl (rfl) (hQ _ _ ?_)
              rw [e]
              refine ⟨?_, fin, fr_sA (by decide) (fr_sF (by decide) fr_rf)⟩
              first
              | (rw [show wM W a0 (12 * a2 + a1) = 0 by omega]; rfl)
              | (rw [bv_p (by omega), ← n_sub (by omega : 1 ≤ wM W a0 (12 * a2 + a1))]; rfl)
          · have hd75 := i_eq.mp hc75; (try simp (disch := omega) only [nT, t_m1000100, t_m1000010, t_m1000003, t_m1000002, t_m1000001, t_m1000000, t_m65535, t_m1000, t_m3, t_m1, t_0, t_1, t_2, t_3, t_4, t_5, t_6, t_7, t_8, t_9, t_10, t_11, t_12, t_13, t_15, t_16, t_20, t_21, t_22, t_32, t_40, t_41, t_48, t_49, t_57, t_59, t_60, t_63, t_72, t_76, t_88, t_100, t_144, t_200, t_255, t_288, t_400, t_800, t_999, t_1000, t_1024, t_1200, t_1600, t_3200, t_100000, t_200000, t_252645135, t_858993459, t_1431655765, u_m1000002, u_m1000001, u_m1000, u_m3, u_m1, u_0, u_1, u_2, u_3, u_4, u_5, u_7, u_8, u_10, u_11, u_15, u_60, u_100, u_255, u_999, u_1000, u_100000, u_4294967295] at hd75)
            obtain rfl : v = 0 := hv0 hc75
            refine g_iconst (v := 0) dX8_die_78 (by decide) ?_
            refine g_goto (tgt := 86) dX8_die_79 (by decide) ?_
            rw [show (12 : Int32) = nI 12 from rfl, show (144 : Int32) = nI 144 from rfl, pk_mul, pk_mul, ni_add, ni_add, Nat.add_assoc (144 * a0)]
            refine g_iast dX8_die_86 (by repeat' (first | assumption | exact rF_eq | refine rF_ne (by decide) ?_ | refine rF_a ?_ | exact rA_eq | refine rA_ne (by decide) ?_ | refine rA_f ?_)) (nT (by omega)) (by omega) ?_
            refine g_iload dX8_die_87 rfl ?_
            refine g_if_ne (tgt := 97) dX8_die_89 (by decide) (fun hc89 => ?_) (fun hc89 => ?_)
            · have hd89 := mt i_eq.mpr hc89; (try simp (disch := omega) only [nT, t_m1000100, t_m1000010, t_m1000003, t_m1000002, t_m1000001, t_m1000000, t_m65535, t_m1000, t_m3, t_m1, t_0, t_1, t_2, t_3, t_4, t_5, t_6, t_7, t_8, t_9, t_10, t_11, t_12, t_13, t_15, t_16, t_20, t_21, t_22, t_32, t_40, t_41, t_48, t_49, t_57, t_59, t_60, t_63, t_72, t_76, t_88, t_100, t_144, t_200, t_255, t_288, t_400, t_800, t_999, t_1000, t_1024, t_1200, t_1600, t_3200, t_100000, t_200000, t_252645135, t_858993459, t_1431655765, u_m1000002, u_m1000001, u_m1000, u_m3, u_m1, u_0, u_1, u_2, u_3, u_4, u_5, u_7, u_8, u_10, u_11, u_15, u_60, u_100, u_255, u_999, u_1000, u_100000, u_4294967295] at hd89)
              refine g_iload dX8_die_97 rfl ?_
              refine g_iconst (v := 1) dX8_die_99 (by decide) ?_
              refine g_isub dX8_die_100 ?_
              refine g_iret dX8_die_101 rfl (rfl) (hQ _ _ ?_)
              rw [e]
              refine ⟨?_, fin, fr_sA (by decide) (fr_sF (by decide) fr_rf)⟩
              first
              | (rw [show wM W a0 (12 * a2 + a1) = 0 by omega]; rfl)
              | (rw [bv_p (by omega), ← n_sub (by omega : 1 ≤ wM W a0 (12 * a2 + a1))]; rfl)
            · have hd89 := i_eq.mp hc89; (try simp (disch := omega) only [nT, t_m1000100, t_m1000010, t_m1000003, t_m1000002, t_m1000001, t_m1000000, t_m65535, t_m1000, t_m3, t_m1, t_0, t_1, t_2, t_3, t_4, t_5, t_6, t_7, t_8, t_9, t_10, t_11, t_12, t_13, t_15, t_16, t_20, t_21, t_22, t_32, t_40, t_41, t_48, t_49, t_57, t_59, t_60, t_63, t_72, t_76, t_88, t_100, t_144, t_200, t_255, t_288, t_400, t_800, t_999, t_1000, t_1024, t_1200, t_1600, t_3200, t_100000, t_200000, t_252645135, t_858993459, t_1431655765, u_m1000002, u_m1000001, u_m1000, u_m3, u_m1, u_0, u_1, u_2, u_3, u_4, u_5, u_7, u_8, u_10, u_11, u_15, u_60, u_100, u_255, u_999, u_1000, u_100000, u_4294967295] at hd89)
              refine g_ldc dX8_die_92 kc_X8_142 ?_
              refine g_goto (tgt := 101) dX8_die_94 (by decide) ?_
              refine g_iret dX8_die_101 rfl (rfl) (hQ _ _ ?_)
              rw [e]
              refine ⟨?_, fin, fr_sA (by decide) (fr_sF (by decide) fr_rf)⟩
              first
              | (rw [show wM W a0 (12 * a2 + a1) = 0 by omega]; rfl)
              | (rw [bv_p (by omega), ← n_sub (by omega : 1 ≤ wM W a0 (12 * a2 + a1))]; rfl)
        · replace hc40 := bI_0.mp hc40
          (try simp (disch := omega) only [nT, t_m1000100, t_m1000010, t_m1000003, t_m1000002, t_m1000001, t_m1000000, t_m65535, t_m1000, t_m3, t_m1, t_0, t_1, t_2, t_3, t_4, t_5, t_6, t_7, t_8, t_9, t_10, t_11, t_12, t_13, t_15, t_16, t_20, t_21, t_22, t_32, t_40, t_41, t_48, t_49, t_57, t_59, t_60, t_63, t_72, t_76, t_88, t_100, t_144, t_200, t_255, t_288, t_400, t_800, t_999, t_1000, t_1024, t_1200, t_1600, t_3200, t_100000, t_200000, t_252645135, t_858993459, t_1431655765, u_m1000002, u_m1000001, u_m1000, u_m3, u_m1, u_0, u_1, u_2, u_3, u_4, u_5, u_7, u_8, u_10, u_11, u_15, u_60, u_100, u_255, u_999, u_1000, u_100000, u_4294967295] at hc40)
          rw [show opDie W w x y b = _ from if_pos (by first | omega | exact Or.inr (Or.inr ⟨by omega, by assumption⟩))] at hQ
          refine g_ldc dX8_die_43 kc_X8_126 ?_
          refine g_iret dX8_die_45 rfl (rfl) (hQ _ _ ?_)
          exact ⟨rfl, hg, fr_sF (by decide) fr_rf⟩
