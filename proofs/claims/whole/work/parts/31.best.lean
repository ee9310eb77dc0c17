/-! join and best, the reference -/
theorem c_isMove (h : HH) (d : Int32) : CT mX8_isMove 1 0 0 [.int d] h (fun r h' => r = some (.int (bI (-3 ≤ d.toInt ∧ d.toInt ≤ 3))) ∧ h' = h) := by
  refine CT.go [.int d] (by decide +kernel) rfl rfl (fun Q' hQ => ?_)
  refine g_iload_n (i := 0) dX8_isMove_0 rfl rfl ?_
  refine g_i2l dX8_isMove_1 ?_
  refine g_ldc2 dX8_isMove_2 kc_X8_276 ?_
  refine g_ldc2 dX8_isMove_5 kc_X8_210 ?_
  refine g_callS (M' := mX8_in) dX8_isMove_8 lc_X8_in ml_X8_116 (c_in h d.toInt64 (-3) 3 (-3) 3 rfl rfl) rfl rfl ⟨Nat.le_of_ble_eq_true rfl, Nat.le_of_ble_eq_true rfl, Nat.le_of_ble_eq_true rfl, Nat.le_of_ble_eq_true rfl⟩ (Nat.le_of_ble_eq_true rfl) ?_
  intro r_ h_ q_; obtain ⟨q1_, q2_⟩ := q_; have q2_ := q2_.symm; subst q1_; subst q2_
  rw [l_i]
  refine g_iret dX8_isMove_11 rfl (bI_nar _) (hQ _ _ ?_)
  exact ⟨rfl, rfl⟩
theorem m_join {W : WA} (hW : WfW W) {h : HH} (hg : GWM W h) (dx dy a : Int32) : CT mX8_join 4 0 0 [.ref 44, .int dx, .int dy, .int a] h (fun r h' => r = some (.int (opJoin W dx dy a)) ∧ GWM W h' ∧ Fr [74] [(44, 0)] h h') := by
  obtain ⟨e1, e2, e3, ⟨f0, e4⟩, e5⟩ := id hg
  obtain ⟨N, hN⟩ : ∃ N : Nat, N = 144 := ⟨_, rfl⟩
  have e := opJoin_N hN W dx dy a
  refine CT.go [.ref 44, .int dx, .int dy, .int a] (by decide +kernel) rfl rfl (fun Q' hQ => ?_)
  refine g_aload_n (i := 0) dX8_join_0 rfl rfl ?_
  refine g_iconst (v := 0) dX8_join_1 (by decide) ?_
  refine g_put dX8_join_2 pl_X8_107 (by repeat' (first | assumption | exact rF_eq | refine rF_ne (by decide) ?_ | refine rF_a ?_ | exact rA_eq | refine rA_ne (by decide) ?_ | refine rA_f ?_)) (fun _ => ⟨rfl, rfl⟩) ?_
  refine g_iload_n (i := 1) dX8_join_5 rfl rfl ?_
  refine g_callS (M' := mX8_isMove) dX8_join_6 lc_X8_isMove ml_X8_278 (c_isMove _ dx) rfl rfl ⟨Nat.le_of_ble_eq_true rfl, Nat.le_of_ble_eq_true rfl, Nat.le_of_ble_eq_true rfl, Nat.le_of_ble_eq_true rfl⟩ (Nat.le_of_ble_eq_true rfl) ?_
  intro r_ h_ q_; obtain ⟨q1_, q2_⟩ := q_; have q2_ := q2_.symm; subst q1_; subst q2_
  refine g_if_eq (tgt := 31) dX8_join_9 (by decide) (fun hc9 => ?_) (fun hc9 => ?_)
  · replace hc9 := bI_0.mp hc9
    (try simp (disch := omega) only [nT, t_m1000100, t_m1000010, t_m1000003, t_m1000002, t_m1000001, t_m1000000, t_m65535, t_m1000, t_m3, t_m1, t_0, t_1, t_2, t_3, t_4, t_5, t_6, t_7, t_8, t_9, t_10, t_11, t_12, t_13, t_15, t_16, t_20, t_21, t_22, t_32, t_40, t_41, t_48, t_49, t_57, t_59, t_60, t_63, t_72, t_76, t_88, t_100, t_144, t_200, t_255, t_288, t_400, t_800, t_999, t_1000, t_1024, t_1200, t_1600, t_3200, t_100000, t_200000, t_252645135, t_858993459, t_1431655765, u_m1000002, u_m1000001, u_m1000, u_m3, u_m1, u_0, u_1, u_2, u_3, u_4, u_5, u_7, u_8, u_10, u_11, u_15, u_60, u_100, u_255, u_999, u_1000, u_100000, u_4294967295] at hc9)
    rw [if_pos (by omega)] at e
    refine g_ldc dX8_join_31 kc_X8_126 ?_
    refine g_iret dX8_join_33 rfl (rfl) (hQ _ _ ?_)
    rw [e]; exact ⟨rfl, hg, fr_sF (by decide) fr_rf⟩
  · replace hc9 := bI_n0.mp hc9
    (try simp (disch := omega) only [nT, t_m1000100, t_m1000010, t_m1000003, t_m1000002, t_m1000001, t_m1000000, t_m65535, t_m1000, t_m3, t_m1, t_0, t_1, t_2, t_3, t_4, t_5, t_6, t_7, t_8, t_9, t_10, t_11, t_12, t_13, t_15, t_16, t_20, t_21, t_22, t_32, t_40, t_41, t_48, t_49, t_57, t_59, t_60, t_63, t_72, t_76, t_88, t_100, t_144, t_200, t_255, t_288, t_400, t_800, t_999, t_1000, t_1024, t_1200, t_1600, t_3200, t_100000, t_200000, t_252645135, t_858993459, t_1431655765, u_m1000002, u_m1000001, u_m1000, u_m3, u_m1, u_0, u_1, u_2, u_3, u_4, u_5, u_7, u_8, u_10, u_11, u_15, u_60, u_100, u_255, u_999, u_1000, u_100000, u_4294967295] at hc9)
    refine g_iload_n (i := 2) dX8_join_12 rfl rfl ?_
    refine g_callS (M' := mX8_isMove) dX8_join_13 lc_X8_isMove ml_X8_278 (c_isMove _ dy) rfl rfl ⟨Nat.le_of_ble_eq_true rfl, Nat.le_of_ble_eq_true rfl, Nat.le_of_ble_eq_true rfl, Nat.le_of_ble_eq_true rfl⟩ (Nat.le_of_ble_eq_true rfl) ?_
    intro r_ h_ q_; obtain ⟨q1_, q2_⟩ := q_; have q2_ := q2_.symm; subst q1_; subst q2_
    refine g_if_eq (tgt := 31) dX8_join_16 (by decide) (fun hc16 => ?_) (fun hc16 => ?_)
    · replace hc16 := bI_0.mp hc16
      (try simp (disch := omega) only [nT, t_m1000100, t_m1000010, t_m1000003, t_m1000002, t_m1000001, t_m1000000, t_m65535, t_m1000, t_m3, t_m1, t_0, t_1, t_2, t_3, t_4, t_5, t_6, t_7, t_8, t_9, t_10, t_11, t_12, t_13, t_15, t_16, t_20, t_21, t_22, t_32, t_40, t_41, t_48, t_49, t_57, t_59, t_60, t_63, t_72, t_76, t_88, t_100, t_144, t_200, t_255, t_288, t_400, t_800, t_999, t_1000, t_1024, t_1200, t_1600, t_3200, t_100000, t_200000, t_252645135, t_858993459, t_1431655765, u_m1000002, u_m1000001, u_m1000, u_m3, u_m1, u_0, u_1, u_2, u_3, u_4, u_5, u_7, u_8, u_10, u_11, u_15, u_60, u_100, u_255, u_999, u_1000, u_100000, u_4294967295] at hc16)
      rw [if_pos (by omega)] at e
      refine g_ldc dX8_join_31 kc_X8_126 ?_
      refine g_iret dX8_join_33 rfl (rfl) (hQ _ _ ?_)
      rw [e]; exact ⟨rfl, hg, fr_sF (by decide) fr_rf⟩
    · replace hc16 := bI_n0.mp hc16
      (try simp (disch := omega) only [nT, t_m1000100, t_m1000010, t_m1000003, t_m1000002, t_m1000001, t_m1000000, t_m65535, t_m1000, t_m3, t_m1, t_0, t_1, t_2, t_3, t_4, t_5, t_6, t_7, t_8, t_9, t_10, t_11, t_12, t_13, t_15, t_16, t_20, t_21, t_22, t_32, t_40, t_41, t_48, t_49, t_57, t_59, t_60, t_63, t_72, t_76, t_88, t_100, t_144, t_200, t_255, t_288, t_400, t_800, t_999, t_1000, t_1024, t_1200, t_1600, t_3200, t_100000, t_200000, t_252645135, t_858993459, t_1431655765, u_m1000002, u_m1000001, u_m1000, u_m3, u_m1, u_0, u_1, u_2, u_3, u_4, u_5, u_7, u_8, u_10, u_11, u_15, u_60, u_100, u_255, u_999, u_1000, u_100000, u_4294967295] at hc16)
      refine g_iload_n (i := 3) dX8_join_19 rfl rfl ?_
      refine g_i2l dX8_join_20 ?_
      refine g_lconst (v := 0) dX8_join_21 (by decide) ?_
      refine g_ldc2 dX8_join_22 kc_X8_210 ?_
      refine g_callS (M' := mX8_in) dX8_join_25 lc_X8_in ml_X8_116 (c_in _ a.toInt64 0 3 0 3 rfl rfl) rfl rfl ⟨Nat.le_of_ble_eq_true rfl, Nat.le_of_ble_eq_true rfl, Nat.le_of_ble_eq_true rfl, Nat.le_of_ble_eq_true rfl⟩ (Nat.le_of_ble_eq_true rfl) ?_
      intro r_ h_ q_; obtain ⟨q1_, q2_⟩ := q_; have q2_ := q2_.symm; subst q1_; subst q2_
      rw [l_i]
      refine g_if_ne (tgt := 34) dX8_join_28 (by decide) (fun hc28 => ?_) (fun hc28 => ?_)
      · replace hc28 := bI_n0.mp hc28
        (try simp (disch := omega) only [nT, t_m1000100, t_m1000010, t_m1000003, t_m1000002, t_m1000001, t_m1000000, t_m65535, t_m1000, t_m3, t_m1, t_0, t_1, t_2, t_3, t_4, t_5, t_6, t_7, t_8, t_9, t_10, t_11, t_12, t_13, t_15, t_16, t_20, t_21, t_22, t_32, t_40, t_41, t_48, t_49, t_57, t_59, t_60, t_63, t_72, t_76, t_88, t_100, t_144, t_200, t_255, t_288, t_400, t_800, t_999, t_1000, t_1024, t_1200, t_1600, t_3200, t_100000, t_200000, t_252645135, t_858993459, t_1431655765, u_m1000002, u_m1000001, u_m1000, u_m3, u_m1, u_0, u_1, u_2, u_3, u_4, u_5, u_7, u_8, u_10, u_11, u_15, u_60, u_100, u_255, u_999, u_1000, u_100000, u_4294967295] at hc28)
        rw [if_neg (by omega)] at e
        refine g_aload_n (i := 0) dX8_join_34 rfl rfl ?_
        refine g_iload_n (i := 1) dX8_join_35 rfl rfl ?_
        refine g_iload_n (i := 2) dX8_join_36 rfl rfl ?_
        refine g_callV (M' := mX8_findJoin) dX8_join_37 lc_X8_findJoin ml_X8_281 (c_findJoin hW (gwm_f hg) (f0 := f0) e3 e4 (dx := dx) (dy := dy) (by omega) (by omega) (by omega) (by omega)) rfl rfl (by repeat' (first | assumption | exact rF_eq | refine rF_ne (by decide) ?_ | refine rF_a ?_ | exact rA_eq | refine rA_ne (by decide) ?_ | refine rA_f ?_)) rfl ⟨Nat.le_of_ble_eq_true rfl, Nat.le_of_ble_eq_true rfl, Nat.le_of_ble_eq_true rfl, Nat.le_of_ble_eq_true rfl⟩ (Nat.le_of_ble_eq_true rfl) ?_
        intro r_ h_ q_; obtain ⟨rfl, f, rfl, q0, q1, q2, q3⟩ := q_
        rw [← hN] at q0 q1 q2 q3
        obtain ⟨b, hb, rfl, htb⟩ := n_of (n := 4) (x := a) (by omega) (by omega)
        refine g_aload_n (i := 0) dX8_join_40 rfl rfl ?_
        refine g_get dX8_join_41 fl_X8_104 (by repeat' (first | assumption | exact rF_eq | refine rF_ne (by decide) ?_ | refine rF_a ?_ | exact rA_eq | refine rA_ne (by decide) ?_ | refine rA_f ?_)) (by repeat' (first | assumption | exact rF_eq | refine rF_ne (by decide) ?_ | refine rF_a ?_ | exact rA_eq | refine rA_ne (by decide) ?_ | refine rA_f ?_)) ?_
        refine g_iload_n (i := 3) dX8_join_44 rfl rfl ?_
        refine g_iald dX8_join_45 (by repeat' (first | assumption | exact rF_eq | refine rF_ne (by decide) ?_ | refine rF_a ?_ | exact rA_eq | refine rA_ne (by decide) ?_ | refine rA_f ?_)) (htb) (hb) ?_
        refine g_iret dX8_join_46 rfl (rfl) (hQ _ _ ?_)
        rw [e]
        refine ⟨?_, ⟨e1, e2, e3, ⟨_, rfl⟩, e5⟩, fr_sA (by decide) (fr_sF (by decide) fr_rf)⟩
        rcases (by omega : b = 0 ∨ b = 1 ∨ b = 2 ∨ b = 3) with rfl | rfl | rfl | rfl
        · rw [q0]; rfl
        · rw [q1]; rfl
        · rw [q2]; rfl
        · rw [q3]; rfl
      · replace hc28 := bI_0.mp hc28
        (try simp (disch := omega) only [nT, t_m1000100, t_m1000010, t_m1000003, t_m1000002, t_m1000001, t_m1000000, t_m65535, t_m1000, t_m3, t_m1, t_0, t_1, t_2, t_3, t_4, t_5, t_6, t_7, t_8, t_9, t_10, t_11, t_12, t_13, t_15, t_16, t_20, t_21, t_22, t_32, t_40, t_41, t_48, t_49, t_57, t_59, t_60, t_63, t_72, t_76, t_88, t_100, t_144, t_200, t_255, t_288, t_400, t_800, t_999, t_1000, t_1024, t_1200, t_1600, t_3200, t_100000, t_200000, t_252645135, t_858993459, t_1431655765, u_m1000002, u_m1000001, u_m1000, u_m3, u_m1, u_0, u_1, u_2, u_3, u_4, u_5, u_7, u_8, u_10, u_11, u_15, u_60, u_100, u_255, u_999, u_1000, u_100000, u_4294967295] at hc28)
        rw [if_pos (by omega)] at e
        refine g_ldc dX8_join_31 kc_X8_126 ?_
        refine g_iret dX8_join_33 rfl (rfl) (hQ _ _ ?_)
        rw [e]; exact ⟨rfl, hg, fr_sF (by decide) fr_rf⟩
def BsM (S T : Nat → Nat) (a : Int32) (b : Nat) (x6 x7 : Value) : List Value := [.ref 44, .int a, .int (d3 (b / 7)), .int (d3 (b % 7)), .int (nI (S b)), .int (nI (T b)), x6, x7]
def QtM (W : WA) (S T : Nat → Nat) : Prop := (∀ r k, k < 7 → cnt (j1 W (d3 r).toInt (d3 k).toInt) 144 0 = S (7 * r + k) ∧ cnt (j0 W (d3 r).toInt (d3 k).toInt) 144 0 = T (7 * r + k)) ∧ ∀ i, S i ≤ 144 ∧ T i ≤ 144
theorem best_mi {W : WA} (hW : WfW W) {h : HH} (hg : DiM W h) (h47 : gF h 44 47 = .ref 74) {a : Int32} {Q' : Option Value → HH → Prop} {S T : Nat → Nat} (hq : QtM W S T) {z m r : Nat} (hr : r + m = 6) (ih : ∀ b f (v7 : Value), b < 49 → bst S T (7 * m) (7 * (r + 1)) b = z → GG (EM mX8_best 4 0 0 Q') 0 0 36 (BsM S T a b (.int (d3 (r + 1))) v7) [] (sA h 74 (aI 4 f))) : ∀ n k b f, k + n = 7 → b < 49 → bst S T (7 * m + n) (7 * r + k) b = z → GG (EM mX8_best 4 0 0 Q') 0 0 46 (BsM S T a b (.int (d3 r)) (.int (d3 k))) [] (sA h 74 (aI 4 f)) := by
  have e1 := hg.1
  intro n
  induction n with
  | zero =>
    intro k b f hk hb he
    obtain rfl : k = 7 := by omega
    have hk3 := @d3_T 7 (by omega)
    unfold BsM
    refine g_iload dX8_best_46 rfl ?_
    refine g_iconst (v := 3) dX8_best_48 (by decide) ?_
    refine g_icmp_gt (tgt := 127) dX8_best_49 (by decide) (fun hc49 => ?_) (fun hc49 => ?_)
    · (try simp (disch := omega) only [nT, t_m1000100, t_m1000010, t_m1000003, t_m1000002, t_m1000001, t_m1000000, t_m65535, t_m1000, t_m3, t_m1, t_0, t_1, t_2, t_3, t_4, t_5, t_6, t_7, t_8, t_9, t_10, t_11, t_12, t_13, t_15, t_16, t_20, t_21, t_22, t_32, t_40, t_41, t_48, t_49, t_57, t_59, t_60, t_63, t_72, t_76, t_88, t_100, t_144, t_200, t_255, t_288, t_400, t_800, t_999, t_1000, t_1024, t_1200, t_1600, t_3200, t_100000, t_200000, t_252645135, t_858993459, t_1431655765, u_m1000002, u_m1000001, u_m1000, u_m3, u_m1, u_0, u_1, u_2, u_3, u_4, u_5, u_7, u_8, u_10, u_11, u_15, u_60, u_100, u_255, u_999, u_1000, u_100000, u_4294967295] at hc49)
      refine g_iinc dX8_best_127 rfl (Nat.le_of_ble_eq_true rfl) rfl ?_
      refine g_goto (tgt := 36) dX8_best_130 (by decide) ?_
      rw [d3_i]
      exact ih b f _ hb he
    · (try simp (disch := omega) only [nT, t_m1000100, t_m1000010, t_m1000003, t_m1000002, t_m1000001, t_m1000000, t_m65535, t_m1000, t_m3, t_m1, t_0, t_1, t_2, t_3, t_4, t_5, t_6, t_7, t_8, t_9, t_10, t_11, t_12, t_13, t_15, t_16, t_20, t_21, t_22, t_32, t_40, t_41, t_48, t_49, t_57, t_59, t_60, t_63, t_72, t_76, t_88, t_100, t_144, t_200, t_255, t_288, t_400, t_800, t_999, t_1000, t_1024, t_1200, t_1600, t_3200, t_100000, t_200000, t_252645135, t_858993459, t_1431655765, u_m1000002, u_m1000001, u_m1000, u_m3, u_m1, u_0, u_1, u_2, u_3, u_4, u_5, u_7, u_8, u_10, u_11, u_15, u_60, u_100, u_255, u_999, u_1000, u_100000, u_4294967295] at hc49); omega
  | succ n ihn =>
    intro k b f hk hb he
    have hr3 := @d3_T r (by omega)
    have hk3 := @d3_T k (by omega)
    have l1 := hq.2 b
    have l3 := hq.2 (7 * r + k)
    rw [← Nat.add_assoc, bst] at he
    unfold BsM
    have k121 : ∀ b' f', b' < 49 → bst S T (7 * m + n) (7 * r + k + 1) b' = z → GG (EM mX8_best 4 0 0 Q') 0 0 121 [.ref 44, .int a, .int (d3 (b' / 7)), .int (d3 (b' % 7)), .int (nI (S b')), .int (nI (T b')), .int (d3 r), .int (d3 k)] [] (sA h 74 (aI 4 f')) := by
      intro b' f' hb' he'
      refine g_iinc dX8_best_121 rfl (Nat.le_of_ble_eq_true rfl) rfl ?_
      refine g_goto (tgt := 46) dX8_best_124 (by decide) ?_
      rw [d3_i]
      exact ihn (k + 1) b' f' (by omega) hb' he'
    refine g_iload dX8_best_46 rfl ?_
    refine g_iconst (v := 3) dX8_best_48 (by decide) ?_
    refine g_icmp_gt (tgt := 127) dX8_best_49 (by decide) (fun hc49 => ?_) (fun hc49 => ?_)
    · (try simp (disch := omega) only [nT, t_m1000100, t_m1000010, t_m1000003, t_m1000002, t_m1000001, t_m1000000, t_m65535, t_m1000, t_m3, t_m1, t_0, t_1, t_2, t_3, t_4, t_5, t_6, t_7, t_8, t_9, t_10, t_11, t_12, t_13, t_15, t_16, t_20, t_21, t_22, t_32, t_40, t_41, t_48, t_49, t_57, t_59, t_60, t_63, t_72, t_76, t_88, t_100, t_144, t_200, t_255, t_288, t_400, t_800, t_999, t_1000, t_1024, t_1200, t_1600, t_3200, t_100000, t_200000, t_252645135, t_858993459, t_1431655765, u_m1000002, u_m1000001, u_m1000, u_m3, u_m1, u_0, u_1, u_2, u_3, u_4, u_5, u_7, u_8, u_10, u_11, u_15, u_60, u_100, u_255, u_999, u_1000, u_100000, u_4294967295] at hc49); omega
    · (try simp (disch := omega) only [nT, t_m1000100, t_m1000010, t_m1000003, t_m1000002, t_m1000001, t_m1000000, t_m65535, t_m1000, t_m3, t_m1, t_0, t_1, t_2, t_3, t_4, t_5, t_6, t_7, t_8, t_9, t_10, t_11, t_12, t_13, t_15, t_16, t_20, t_21, t_22, t_32, t_40, t_41, t_48, t_49, t_57, t_59, t_60, t_63, t_72, t_76, t_88, t_100, t_144, t_200, t_255, t_288, t_400, t_800, t_999, t_1000, t_1024, t_1200, t_1600, t_3200, t_100000, t_200000, t_252645135, t_858993459, t_1431655765, u_m1000002, u_m1000001, u_m1000, u_m3, u_m1, u_0, u_1, u_2, u_3, u_4, u_5, u_7, u_8, u_10, u_11, u_15, u_60, u_100, u_255, u_999, u_1000, u_100000, u_4294967295] at hc49)
      refine g_aload_n (i := 0) dX8_best_52 rfl rfl ?_
      refine g_iload dX8_best_53 rfl ?_
      refine g_iload dX8_best_55 rfl ?_
      refine g_callV (M' := mX8_findJoin) dX8_best_57 lc_X8_findJoin ml_X8_281 (c_findJoin hW (h := sA h 74 (aI 4 f)) hg (f0 := f) h47 rfl (dx := d3 r) (dy := d3 k) (by omega) (by omega) (by omega) (by omega)) rfl rfl (by repeat' (first | assumption | exact rF_eq | refine rF_ne (by decide) ?_ | refine rF_a ?_ | exact rA_eq | refine rA_ne (by decide) ?_ | refine rA_f ?_)) rfl ⟨Nat.le_of_ble_eq_true rfl, Nat.le_of_ble_eq_true rfl, Nat.le_of_ble_eq_true rfl, Nat.le_of_ble_eq_true rfl⟩ (Nat.le_of_ble_eq_true rfl) ?_
      intro r_ h_ q_; obtain ⟨rfl, f', rfl, q0, q1, -, -⟩ := q_
      rw [sA_sA]
      rw [(hq.1 r k (by omega)).1] at q1
      rw [(hq.1 r k (by omega)).2] at q0
      refine g_iload_n (i := 2) dX8_best_60 rfl rfl ?_
      refine g_ldc dX8_best_61 kc_X8_142 ?_
      refine g_icmp_eq (tgt := 99) dX8_best_63 (by decide) (fun hc63 => ?_) (fun hc63 => ?_)
      · have hd63 := i_eq.mp hc63; (try simp (disch := omega) only [nT, t_m1000100, t_m1000010, t_m1000003, t_m1000002, t_m1000001, t_m1000000, t_m65535, t_m1000, t_m3, t_m1, t_0, t_1, t_2, t_3, t_4, t_5, t_6, t_7, t_8, t_9, t_10, t_11, t_12, t_13, t_15, t_16, t_20, t_21, t_22, t_32, t_40, t_41, t_48, t_49, t_57, t_59, t_60, t_63, t_72, t_76, t_88, t_100, t_144, t_200, t_255, t_288, t_400, t_800, t_999, t_1000, t_1024, t_1200, t_1600, t_3200, t_100000, t_200000, t_252645135, t_858993459, t_1431655765, u_m1000002, u_m1000001, u_m1000, u_m3, u_m1, u_0, u_1, u_2, u_3, u_4, u_5, u_7, u_8, u_10, u_11, u_15, u_60, u_100, u_255, u_999, u_1000, u_100000, u_4294967295] at hd63); exact absurd hc63 (d3_n (by omega))
      · have hd63 := mt i_eq.mpr hc63; (try simp (disch := omega) only [nT, t_m1000100, t_m1000010, t_m1000003, t_m1000002, t_m1000001, t_m1000000, t_m65535, t_m1000, t_m3, t_m1, t_0, t_1, t_2, t_3, t_4, t_5, t_6, t_7, t_8, t_9, t_10, t_11, t_12, t_13, t_15, t_16, t_20, t_21, t_22, t_32, t_40, t_41, t_48, t_49, t_57, t_59, t_60, t_63, t_72, t_76, t_88, t_100, t_144, t_200, t_255, t_288, t_400, t_800, t_999, t_1000, t_1024, t_1200, t_1600, t_3200, t_100000, t_200000, t_252645135, t_858993459, t_1431655765, u_m1000002, u_m1000001, u_m1000, u_m3, u_m1, u_0, u_1, u_2, u_3, u_4, u_5, u_7, u_8, u_10, u_11, u_15, u_60, u_100, u_255, u_999, u_1000, u_100000, u_4294967295] at hd63)
        refine g_aload_n (i := 0) dX8_best_66 rfl rfl ?_
        refine g_get dX8_best_67 fl_X8_104 (by repeat' (first | assumption | exact rF_eq | refine rF_ne (by decide) ?_ | refine rF_a ?_ | exact rA_eq | refine rA_ne (by decide) ?_ | refine rA_f ?_)) (by repeat' (first | assumption | exact rF_eq | refine rF_ne (by decide) ?_ | refine rF_a ?_ | exact rA_eq | refine rA_ne (by decide) ?_ | refine rA_f ?_)) ?_
        refine g_iconst (v := 1) dX8_best_70 (by decide) ?_
        refine g_iald dX8_best_71 (by repeat' (first | assumption | exact rF_eq | refine rF_ne (by decide) ?_ | refine rF_a ?_ | exact rA_eq | refine rA_ne (by decide) ?_ | refine rA_f ?_)) ((show (1 : Int32).toInt = ((1 : Nat) : Int) from rfl)) (by decide) ?_
        rw [q1]
        refine g_iload dX8_best_72 rfl ?_
        refine g_icmp_gt (tgt := 99) dX8_best_74 (by decide) (fun hc74 => ?_) (fun hc74 => ?_)
        · (try simp (disch := omega) only [nT, t_m1000100, t_m1000010, t_m1000003, t_m1000002, t_m1000001, t_m1000000, t_m65535, t_m1000, t_m3, t_m1, t_0, t_1, t_2, t_3, t_4, t_5, t_6, t_7, t_8, t_9, t_10, t_11, t_12, t_13, t_15, t_16, t_20, t_21, t_22, t_32, t_40, t_41, t_48, t_49, t_57, t_59, t_60, t_63, t_72, t_76, t_88, t_100, t_144, t_200, t_255, t_288, t_400, t_800, t_999, t_1000, t_1024, t_1200, t_1600, t_3200, t_100000, t_200000, t_252645135, t_858993459, t_1431655765, u_m1000002, u_m1000001, u_m1000, u_m3, u_m1, u_0, u_1, u_2, u_3, u_4, u_5, u_7, u_8, u_10, u_11, u_15, u_60, u_100, u_255, u_999, u_1000, u_100000, u_4294967295] at hc74)
          refine g_iload dX8_best_99 rfl ?_
          refine g_istore_n (i := 2) dX8_best_101 rfl (Nat.le_of_ble_eq_true rfl) rfl ?_
          refine g_iload dX8_best_102 rfl ?_
          refine g_istore_n (i := 3) dX8_best_104 rfl (Nat.le_of_ble_eq_true rfl) rfl ?_
          refine g_aload_n (i := 0) dX8_best_105 rfl rfl ?_
          refine g_get dX8_best_106 fl_X8_104 (by repeat' (first | assumption | exact rF_eq | refine rF_ne (by decide) ?_ | refine rF_a ?_ | exact rA_eq | refine rA_ne (by decide) ?_ | refine rA_f ?_)) (by repeat' (first | assumption | exact rF_eq | refine rF_ne (by decide) ?_ | refine rF_a ?_ | exact rA_eq | refine rA_ne (by decide) ?_ | refine rA_f ?_)) ?_
          refine g_iconst (v := 1) dX8_best_109 (by decide) ?_
          refine g_iald dX8_best_110 (by repeat' (first | assumption | exact rF_eq | refine rF_ne (by decide) ?_ | refine rF_a ?_ | exact rA_eq | refine rA_ne (by decide) ?_ | refine rA_f ?_)) ((show (1 : Int32).toInt = ((1 : Nat) : Int) from rfl)) (by decide) ?_
          rw [q1]
          refine g_istore dX8_best_111 (Nat.le_of_ble_eq_true rfl) rfl ?_
          refine g_aload_n (i := 0) dX8_best_113 rfl rfl ?_
          refine g_get dX8_best_114 fl_X8_104 (by repeat' (first | assumption | exact rF_eq | refine rF_ne (by decide) ?_ | refine rF_a ?_ | exact rA_eq | refine rA_ne (by decide) ?_ | refine rA_f ?_)) (by repeat' (first | assumption | exact rF_eq | refine rF_ne (by decide) ?_ | refine rF_a ?_ | exact rA_eq | refine rA_ne (by decide) ?_ | refine rA_f ?_)) ?_
          refine g_iconst (v := 0) dX8_best_117 (by decide) ?_
          refine g_iald dX8_best_118 (by repeat' (first | assumption | exact rF_eq | refine rF_ne (by decide) ?_ | refine rF_a ?_ | exact rA_eq | refine rA_ne (by decide) ?_ | refine rA_f ?_)) ((show (0 : Int32).toInt = ((0 : Nat) : Int) from rfl)) (by decide) ?_
          rw [q0]
          refine g_istore dX8_best_119 (Nat.le_of_ble_eq_true rfl) rfl ?_
          first
          | (rw [if_pos (by omega)] at he
             have k1 := k121 (7 * r + k) f' (by omega) he
             rw [show (7 * r + k) / 7 = r by omega, show (7 * r + k) % 7 = k by omega] at k1
             exact k1)
          | (rw [if_neg (by omega)] at he
             exact k121 b f' hb he)
        · (try simp (disch := omega) only [nT, t_m1000100, t_m1000010, t_m1000003, t_m1000002, t_m1000001, t_m1000000, t_m65535, t_m1000, t_m3, t_m1, t_0, t_1, t_2, t_3, t_4, t_5, t_6, t_7, t_8, t_9, t_10, t_11, t_12, t_13, t_15, t_16, t_20, t_21, t_22, t_32, t_40, t_41, t_48, t_49, t_57, t_59, t_60, t_63, t_72, t_76, t_88, t_100, t_144, t_200, t_255, t_288, t_400, t_800, t_999, t_1000, t_1024, t_1200, t_1600, t_3200, t_100000, t_200000, t_252645135, t_858993459, t_1431655765, u_m1000002, u_m1000001, u_m1000, u_m3, u_m1, u_0, u_1, u_2, u_3, u_4, u_5, u_7, u_8, u_10, u_11, u_15, u_60, u_100, u_255, u_999, u_1000, u_100000, u_4294967295] at hc74)
          refine g_aload_n (i := 0) dX8_best_77 rfl rfl ?_
          refine g_get dX8_best_78 fl_X8_104 (by repeat' (first | assumption | exact rF_eq | refine rF_ne (by decide) ?_ | refine rF_a ?_ | exact rA_eq | refine rA_ne (by decide) ?_ | refine rA_f ?_)) (by repeat' (first | assumption | exact rF_eq | refine rF_ne (by decide) ?_ | refine rF_a ?_ | exact rA_eq | refine rA_ne (by decide) ?_ | refine rA_f ?_)) ?_
          refine g_iconst (v := 1) dX8_best_81 (by decide) ?_
          refine g_iald dX8_best_82 (by repeat' (first | assumption | exact rF_eq | refine rF_ne (by decide) ?_ | refine rF_a ?_ | exact rA_eq | refine rA_ne (by decide) ?_ | refine rA_f ?_)) ((show (1 : Int32).toInt = ((1 : Nat) : Int) from rfl)) (by decide) ?_
          rw [q1]
          refine g_iload dX8_best_83 rfl ?_
          refine g_icmp_ne (tgt := 121) dX8_best_85 (by decide) (fun hc85 => ?_) (fun hc85 => ?_)
          · have hd85 := mt i_eq.mpr hc85; (try simp (disch := omega) only [nT, t_m1000100, t_m1000010, t_m1000003, t_m1000002, t_m1000001, t_m1000000, t_m65535, t_m1000, t_m3, t_m1, t_0, t_1, t_2, t_3, t_4, t_5, t_6, t_7, t_8, t_9, t_10, t_11, t_12, t_13, t_15, t_16, t_20, t_21, t_22, t_32, t_40, t_41, t_48, t_49, t_57, t_59, t_60, t_63, t_72, t_76, t_88, t_100, t_144, t_200, t_255, t_288, t_400, t_800, t_999, t_1000, t_1024, t_1200, t_1600, t_3200, t_100000, t_200000, t_252645135, t_858993459, t_1431655765, u_m1000002, u_m1000001, u_m1000, u_m3, u_m1, u_0, u_1, u_2, u_3, u_4, u_5, u_7, u_8, u_10, u_11, u_15, u_60, u_100, u_255, u_999, u_1000, u_100000, u_4294967295] at hd85)
            first
            | (rw [if_pos (by omega)] at he
               have k1 := k121 (7 * r + k) f' (by omega) he
               rw [show (7 * r + k) / 7 = r by omega, show (7 * r + k) % 7 = k by omega] at k1
               exact k1)
            | (rw [if_neg (by omega)] at he
               exact k121 b f' hb he)
          · have hd85 := i_eq.mp hc85; (try simp (disch := omega) only [nT, t_m1000100, t_m1000010, t_m1000003, t_m1000002, t_m1000001, t_m1000000, t_m65535, t_m1000, t_m3, t_m1, t_0, t_1, t_2, t_3, t_4, t_5, t_6, t_7, t_8, t_9, t_10, t_11, t_12, t_13, t_15, t_16, t_20, t_21, t_22, t_32, t_40, t_41, t_48, t_49, t_57, t_59, t_60, t_63, t_72, t_76, t_88, t_100, t_144, t_200, t_255, t_288, t_400, t_800, t_999, t_1000, t_1024, t_1200, t_1600, t_3200, t_100000, t_200000, t_252645135, t_858993459, t_1431655765, u_m1000002, u_m1000001, u_m1000, u_m3, u_m1, u_0, u_1, u_2, u_3, u_4, u_5, u_7, u_8, u_10, u_11, u_15, u_60, u_100, u_255, u_999, u_1000, u_100000, u_4294967295] at hd85)
            refine g_aload_n (i := 0) dX8_best_88 rfl rfl ?_
            refine g_get dX8_best_89 fl_X8_104 (by repeat' (first | assumption | exact rF_eq | refine rF_ne (by decide) ?_ | refine rF_a ?_ | exact rA_eq | refine rA_ne (by decide) ?_ | refine rA_f ?_)) (by repeat' (first | assumption | exact rF_eq | refine rF_ne (by decide) ?_ | refine rF_a ?_ | exact rA_eq | refine rA_ne (by decide) ?_ | refine rA_f ?_)) ?_
            refine g_iconst (v := 0) dX8_best_92 (by decide) ?_
            refine g_iald dX8_best_93 (by repeat' (first | assumption | exact rF_eq | refine rF_ne (by decide) ?_ | refine rF_a ?_ | exact rA_eq | refine rA_ne (by decide) ?_ | refine rA_f ?_)) ((show (0 : Int32).toInt = ((0 : Nat) : Int) from rfl)) (by decide) ?_
            rw [q0]
            refine g_iload dX8_best_94 rfl ?_
            refine g_icmp_ge (tgt := 121) dX8_best_96 (by decide) (fun hc96 => ?_) (fun hc96 => ?_)
            · (try simp (disch := omega) only [nT, t_m1000100, t_m1000010, t_m1000003, t_m1000002, t_m1000001, t_m1000000, t_m65535, t_m1000, t_m3, t_m1, t_0, t_1, t_2, t_3, t_4, t_5, t_6, t_7, t_8, t_9, t_10, t_11, t_12, t_13, t_15, t_16, t_20, t_21, t_22, t_32, t_40, t_41, t_48, t_49, t_57, t_59, t_60, t_63, t_72, t_76, t_88, t_100, t_144, t_200, t_255, t_288, t_400, t_800, t_999, t_1000, t_1024, t_1200, t_1600, t_3200, t_100000, t_200000, t_252645135, t_858993459, t_1431655765, u_m1000002, u_m1000001, u_m1000, u_m3, u_m1, u_0, u_1, u_2, u_3, u_4, u_5, u_7, u_8, u_10, u_11, u_15, u_60, u_100, u_255, u_999, u_1000, u_100000, u_4294967295] at hc96)
              first
              | (rw [if_pos (by omega)] at he
                 have k1 := k121 (7 * r + k) f' (by omega) he
                 rw [show (7 * r + k) / 7 = r by omega, show (7 * r + k) % 7 = k by omega] at k1
                 exact k1)
              | (rw [if_neg (by omega)] at he
                 exact k121 b f' hb he)
            · (try simp (disch := omega) only [nT, t_m1000100, t_m1000010, t_m1000003, t_m1000002, t_m1000001, t_m1000000, t_m65535, t_m1000, t_m3, t_m1, t_0, t_1, t_2, t_3, t_4, t_5, t_6, t_7, t_8, t_9, t_10, t_11, t_12, t_13, t_15, t_16, t_20, t_21, t_22, t_32, t_40, t_41, t_48, t_49, t_57, t_59, t_60, t_63, t_72, t_76, t_88, t_100, t_144, t_200, t_255, t_288, t_400, t_800, t_999, t_1000, t_1024, t_1200, t_1600, t_3200, t_100000, t_200000, t_252645135, t_858993459, t_1431655765, u_m1000002, u_m1000001, u_m1000, u_m3, u_m1, u_0, u_1, u_2, u_3, u_4, u_5, u_7, u_8, u_10, u_11, u_15, u_60, u_100, u_255, u_999, u_1000, u_100000, u_4294967295] at hc96)
              refine g_iload dX8_best_99 rfl ?_
              refine g_istore_n (i := 2) dX8_best_101 rfl (Nat.le_of_ble_eq_true rfl) rfl ?_
              refine g_iload dX8_best_102 rfl ?_
              refine g_istore_n (i := 3) dX8_best_104 rfl (Nat.le_of_ble_eq_true rfl) rfl ?_
              refine g_aload_n (i := 0) dX8_best_105 rfl rfl ?_
              refine g_get dX8_best_106 fl_X8_104 (by repeat' (first | assumption | exact rF_eq | refine rF_ne (by decide) ?_ | refine rF_a ?_ | exact rA_eq | refine rA_ne (by decide) ?_ | refine rA_f ?_)) (by repeat' (first | assumption | exact rF_eq | refine rF_ne (by decide) ?_ | refine rF_a ?_ | exact rA_eq | refine rA_ne (by decide) ?_ | refine rA_f ?_)) ?_
              refine g_iconst (v := 1) dX8_best_109 (by decide) ?_
              refine g_iald dX8_best_110 (by repeat' (first | assumption | exact rF_eq | refine rF_ne (by decide) ?_ | refine rF_a ?_ | exact rA_eq | refine rA_ne (by decide) ?_ | refine rA_f ?_)) ((show (1 : Int32).toInt = ((1 : Nat) : Int) from rfl)) (by decide) ?_
              rw [q1]
              refine g_istore dX8_best_111 (Nat.le_of_ble_eq_true rfl) rfl ?_
              refine g_aload_n (i := 0) dX8_best_113 rfl rfl ?_
              refine g_get dX8_best_114 fl_X8_104 (by repeat' (first | assumption | exact rF_eq | refine rF_ne (by decide) ?_ | refine rF_a ?_ | exact rA_eq | refine rA_ne (by decide) ?_ | refine rA_f ?_)) (by repeat' (first | assumption | exact rF_eq | refine rF_ne (by decide) ?_ | refine rF_a ?_ | exact rA_eq | refine rA_ne (by decide) ?_ | refine rA_f ?_)) ?_
              refine g_iconst (v := 0) dX8_best_117 (by decide) ?_
              refine g_iald dX8_best_118 (by repeat' (first | assumption | exact rF_eq | refine rF_ne (by decide) ?_ | refine rF_a ?_ | exact rA_eq | refine rA_ne (by decide) ?_ | refine rA_f ?_)) ((show (0 : Int32).toInt = ((0 : Nat) : Int) from rfl)) (by decide) ?_
              rw [q0]
              refine g_istore dX8_best_119 (Nat.le_of_ble_eq_true rfl) rfl ?_
              first
              | (rw [if_pos (by omega)] at he
                 have k1 := k121 (7 * r + k) f' (by omega) he
                 rw [show (7 * r + k) / 7 = r by omega, show (7 * r + k) % 7 = k by omega] at k1
                 exact k1)
              | (rw [if_neg (by omega)] at he
                 exact k121 b f' hb he)
theorem m_best {W : WA} (hW : WfW W) {h : HH} (hg : GWM W h) (a : Int32) : CT mX8_best 4 0 0 [.ref 44, .int a] h (fun r h' => r = some (.int (opBest W a)) ∧ GWM W h' ∧ Fr [74] [(44, 0)] h h') := by
  obtain ⟨e1, e2, e3, ⟨f0, e4⟩, e5⟩ := id hg
  have e0 : (0 ≤ a.toInt ∧ a.toInt < 3) → opBest W a = _ := fun q => if_neg (by omega)
  have hq : QtM W (bS W) (bT W) := ⟨fun r k hk => ⟨by rw [bS, show (7 * r + k) / 7 = r by omega, show (7 * r + k) % 7 = k by omega], by rw [bT, show (7 * r + k) / 7 = r by omega, show (7 * r + k) % 7 = k by omega]⟩, fun i => ⟨bS_le W i, bT_le W i⟩⟩
  generalize bS W = S at e0 hq
  generalize bT W = T at e0 hq
  refine CT.go [.ref 44, .int a, hU, hU, hU, hU, hU, hU] (by decide +kernel) rfl rfl (fun Q' hQ => ?_)
  have fin : ∀ v f, v = opBest W a → Q' (some (.int v)) (sA (sF h 44 0 (.int 0)) 74 (aI 4 f)) := fun v f q => hQ _ _ ⟨by rw [q], ⟨e1, e2, e3, ⟨_, rfl⟩, e5⟩, fr_sA (by decide) (fr_sF (by decide) fr_rf)⟩
  refine g_aload_n (i := 0) dX8_best_0 rfl rfl ?_
  refine g_iconst (v := 0) dX8_best_1 (by decide) ?_
  refine g_put dX8_best_2 pl_X8_107 (by repeat' (first | assumption | exact rF_eq | refine rF_ne (by decide) ?_ | refine rF_a ?_ | exact rA_eq | refine rA_ne (by decide) ?_ | refine rA_f ?_)) (fun _ => ⟨rfl, rfl⟩) ?_
  refine g_iload_n (i := 1) dX8_best_5 rfl rfl ?_
  refine g_i2l dX8_best_6 ?_
  refine g_lconst (v := 0) dX8_best_7 (by decide) ?_
  refine g_ldc2 dX8_best_8 kc_X8_124 ?_
  refine g_callS (M' := mX8_in) dX8_best_11 lc_X8_in ml_X8_116 (c_in _ a.toInt64 0 2 0 2 rfl rfl) rfl rfl ⟨Nat.le_of_ble_eq_true rfl, Nat.le_of_ble_eq_true rfl, Nat.le_of_ble_eq_true rfl, Nat.le_of_ble_eq_true rfl⟩ (Nat.le_of_ble_eq_true rfl) ?_
  intro r_ h_ q_; obtain ⟨q1_, q2_⟩ := q_; have q2_ := q2_.symm; subst q1_; subst q2_
  rw [l_i]
  refine g_if_ne (tgt := 20) dX8_best_14 (by decide) (fun hc14 => ?_) (fun hc14 => ?_)
  · replace hc14 := bI_n0.mp hc14
    (try simp (disch := omega) only [nT, t_m1000100, t_m1000010, t_m1000003, t_m1000002, t_m1000001, t_m1000000, t_m65535, t_m1000, t_m3, t_m1, t_0, t_1, t_2, t_3, t_4, t_5, t_6, t_7, t_8, t_9, t_10, t_11, t_12, t_13, t_15, t_16, t_20, t_21, t_22, t_32, t_40, t_41, t_48, t_49, t_57, t_59, t_60, t_63, t_72, t_76, t_88, t_100, t_144, t_200, t_255, t_288, t_400, t_800, t_999, t_1000, t_1024, t_1200, t_1600, t_3200, t_100000, t_200000, t_252645135, t_858993459, t_1431655765, u_m1000002, u_m1000001, u_m1000, u_m3, u_m1, u_0, u_1, u_2, u_3, u_4, u_5, u_7, u_8, u_10, u_11, u_15, u_60, u_100, u_255, u_999, u_1000, u_100000, u_4294967295] at hc14)
    refine g_ldc dX8_best_20 kc_X8_142 ?_
    refine g_istore_n (i := 2) dX8_best_22 rfl (Nat.le_of_ble_eq_true rfl) rfl ?_
    refine g_ldc dX8_best_23 kc_X8_142 ?_
    refine g_istore_n (i := 3) dX8_best_25 rfl (Nat.le_of_ble_eq_true rfl) rfl ?_
    refine g_iconst (v := 0) dX8_best_26 (by decide) ?_
    refine g_istore dX8_best_27 (Nat.le_of_ble_eq_true rfl) rfl ?_
    refine g_iconst (v := 0) dX8_best_29 (by decide) ?_
    refine g_istore dX8_best_30 (Nat.le_of_ble_eq_true rfl) rfl ?_
    refine g_bipush (v := (-3)) dX8_best_32 (by decide) ?_
    refine g_istore dX8_best_34 (Nat.le_of_ble_eq_true rfl) rfl ?_
    have e := e0 (by omega)
    obtain ⟨N, hN⟩ : ∃ N : Nat, N = 48 := ⟨_, rfl⟩
    rw [← hN] at e
    generalize hz : bst S T N 1 0 = z at e
    show GG _ _ _ _ [.ref 44, .int a, .int (-1000000), .int (-1000000), .int 0, .int 0, .int (d3 0), hU] _ _
    rw [← sA_self (h := sF h 44 0 (.int 0)) e4]
    have hg2 : DiM W (sF h 44 0 (.int 0)) := gwm_f hg
    have h47 : gF (sF h 44 0 (.int 0)) 44 47 = .ref 74 := e3
    generalize sF h 44 0 (.int 0) = hh at hg2 h47 fin ⊢
    have g1 := hg2.1
    have key : ∀ m r b f (v7 : Value), r + m = 7 → b < 49 → bst S T (7 * m) (7 * r) b = z → GG (EM mX8_best 4 0 0 Q') 0 0 36 (BsM S T a b (.int (d3 r)) v7) [] (sA hh 74 (aI 4 f)) := by
      intro m
      induction m with
      | zero =>
        intro r b f v7 hr hb he
        obtain rfl : b = z := he
        have hr3 := @d3_T r (by omega)
        unfold BsM
        refine g_iload dX8_best_36 rfl ?_
        refine g_iconst (v := 3) dX8_best_38 (by decide) ?_
        refine g_icmp_gt (tgt := 133) dX8_best_39 (by decide) (fun hc39 => ?_) (fun hc39 => ?_)
        · (try simp (disch := omega) only [nT, t_m1000100, t_m1000010, t_m1000003, t_m1000002, t_m1000001, t_m1000000, t_m65535, t_m1000, t_m3, t_m1, t_0, t_1, t_2, t_3, t_4, t_5, t_6, t_7, t_8, t_9, t_10, t_11, t_12, t_13, t_15, t_16, t_20, t_21, t_22, t_32, t_40, t_41, t_48, t_49, t_57, t_59, t_60, t_63, t_72, t_76, t_88, t_100, t_144, t_200, t_255, t_288, t_400, t_800, t_999, t_1000, t_1024, t_1200, t_1600, t_3200, t_100000, t_200000, t_252645135, t_858993459, t_1431655765, u_m1000002, u_m1000001, u_m1000, u_m3, u_m1, u_0, u_1, u_2, u_3, u_4, u_5, u_7, u_8, u_10, u_11, u_15, u_60, u_100, u_255, u_999, u_1000, u_100000, u_4294967295] at hc39)
          refine g_iload_n (i := 1) dX8_best_133 rfl rfl ?_
          refine g_if_ne (tgt := 141) dX8_best_134 (by decide) (fun hc134 => ?_) (fun hc134 => ?_)
          · have hd134 := mt i_eq.mpr hc134; (try simp (disch := omega) only [nT, t_m1000100, t_m1000010, t_m1000003, t_m1000002, t_m1000001, t_m1000000, t_m65535, t_m1000, t_m3, t_m1, t_0, t_1, t_2, t_3, t_4, t_5, t_6, t_7, t_8, t_9, t_10, t_11, t_12, t_13, t_15, t_16, t_20, t_21, t_22, t_32, t_40, t_41, t_48, t_49, t_57, t_59, t_60, t_63, t_72, t_76, t_88, t_100, t_144, t_200, t_255, t_288, t_400, t_800, t_999, t_1000, t_1024, t_1200, t_1600, t_3200, t_100000, t_200000, t_252645135, t_858993459, t_1431655765, u_m1000002, u_m1000001, u_m1000, u_m3, u_m1, u_0, u_1, u_2, u_3, u_4, u_5, u_7, u_8, u_10, u_11, u_15, u_60, u_100, u_255, u_999, u_1000, u_100000, u_4294967295] at hd134)
            refine g_iload_n (i := 1) dX8_best_141 rfl rfl ?_
            refine g_iconst (v := 1) dX8_best_142 (by decide) ?_
            refine g_icmp_ne (tgt := 150) dX8_best_143 (by decide) (fun hc143 => ?_) (fun hc143 => ?_)
            · have hd143 := mt i_eq.mpr hc143; (try simp (disch := omega) only [nT, t_m1000100, t_m1000010, t_m1000003, t_m1000002, t_m1000001, t_m1000000, t_m65535, t_m1000, t_m3, t_m1, t_0, t_1, t_2, t_3, t_4, t_5, t_6, t_7, t_8, t_9, t_10, t_11, t_12, t_13, t_15, t_16, t_20, t_21, t_22, t_32, t_40, t_41, t_48, t_49, t_57, t_59, t_60, t_63, t_72, t_76, t_88, t_100, t_144, t_200, t_255, t_288, t_400, t_800, t_999, t_1000, t_1024, t_1200, t_1600, t_3200, t_100000, t_200000, t_252645135, t_858993459, t_1431655765, u_m1000002, u_m1000001, u_m1000, u_m3, u_m1, u_0, u_1, u_2, u_3, u_4, u_5, u_7, u_8, u_10, u_11, u_15, u_60, u_100, u_255, u_999, u_1000, u_100000, u_4294967295] at hd143)
              refine g_iload dX8_best_150 rfl ?_
              refine g_iret dX8_best_152 rfl rfl (fin _ f ?_)
              first
              | (rw [e, if_neg (fun q => by have := congrArg Int32.toInt q; rw [t_2] at this; omega), if_pos (by assumption)])
              | (rw [e, if_neg (fun q => by have := congrArg Int32.toInt q; rw [t_2] at this; omega), if_neg (by assumption)])
              | (rw [e, if_pos (i_eq.mpr (by rw [t_2]; omega))])
            · have hd143 := i_eq.mp hc143; (try simp (disch := omega) only [nT, t_m1000100, t_m1000010, t_m1000003, t_m1000002, t_m1000001, t_m1000000, t_m65535, t_m1000, t_m3, t_m1, t_0, t_1, t_2, t_3, t_4, t_5, t_6, t_7, t_8, t_9, t_10, t_11, t_12, t_13, t_15, t_16, t_20, t_21, t_22, t_32, t_40, t_41, t_48, t_49, t_57, t_59, t_60, t_63, t_72, t_76, t_88, t_100, t_144, t_200, t_255, t_288, t_400, t_800, t_999, t_1000, t_1024, t_1200, t_1600, t_3200, t_100000, t_200000, t_252645135, t_858993459, t_1431655765, u_m1000002, u_m1000001, u_m1000, u_m3, u_m1, u_0, u_1, u_2, u_3, u_4, u_5, u_7, u_8, u_10, u_11, u_15, u_60, u_100, u_255, u_999, u_1000, u_100000, u_4294967295] at hd143)
              refine g_iload_n (i := 3) dX8_best_146 rfl rfl ?_
              refine g_goto (tgt := 152) dX8_best_147 (by decide) ?_
              refine g_iret dX8_best_152 rfl rfl (fin _ f ?_)
              first
              | (rw [e, if_neg (fun q => by have := congrArg Int32.toInt q; rw [t_2] at this; omega), if_pos (by assumption)])
              | (rw [e, if_neg (fun q => by have := congrArg Int32.toInt q; rw [t_2] at this; omega), if_neg (by assumption)])
              | (rw [e, if_pos (i_eq.mpr (by rw [t_2]; omega))])
          · have hd134 := i_eq.mp hc134; (try simp (disch := omega) only [nT, t_m1000100, t_m1000010, t_m1000003, t_m1000002, t_m1000001, t_m1000000, t_m65535, t_m1000, t_m3, t_m1, t_0, t_1, t_2, t_3, t_4, t_5, t_6, t_7, t_8, t_9, t_10, t_11, t_12, t_13, t_15, t_16, t_20, t_21, t_22, t_32, t_40, t_41, t_48, t_49, t_57, t_59, t_60, t_63, t_72, t_76, t_88, t_100, t_144, t_200, t_255, t_288, t_400, t_800, t_999, t_1000, t_1024, t_1200, t_1600, t_3200, t_100000, t_200000, t_252645135, t_858993459, t_1431655765, u_m1000002, u_m1000001, u_m1000, u_m3, u_m1, u_0, u_1, u_2, u_3, u_4, u_5, u_7, u_8, u_10, u_11, u_15, u_60, u_100, u_255, u_999, u_1000, u_100000, u_4294967295] at hd134)
            refine g_iload_n (i := 2) dX8_best_137 rfl rfl ?_
            refine g_goto (tgt := 152) dX8_best_138 (by decide) ?_
            refine g_iret dX8_best_152 rfl rfl (fin _ f ?_)
            first
            | (rw [e, if_neg (fun q => by have := congrArg Int32.toInt q; rw [t_2] at this; omega), if_pos (by assumption)])
            | (rw [e, if_neg (fun q => by have := congrArg Int32.toInt q; rw [t_2] at this; omega), if_neg (by assumption)])
            | (rw [e, if_pos (i_eq.mpr (by rw [t_2]; omega))])
        · (try simp (disch := omega) only [nT, t_m1000100, t_m1000010, t_m1000003, t_m1000002, t_m1000001, t_m1000000, t_m65535, t_m1000, t_m3, t_m1, t_0, t_1, t_2, t_3, t_4, t_5, t_6, t_7, t_8, t_9, t_10, t_11, t_12, t_13, t_15, t_16, t_20, t_21, t_22, t_32, t_40, t_41, t_48, t_49, t_57, t_59, t_60, t_63, t_72, t_76, t_88, t_100, t_144, t_200, t_255, t_288, t_400, t_800, t_999, t_1000, t_1024, t_1200, t_1600, t_3200, t_100000, t_200000, t_252645135, t_858993459, t_1431655765, u_m1000002, u_m1000001, u_m1000, u_m3, u_m1, u_0, u_1, u_2, u_3, u_4, u_5, u_7, u_8, u_10, u_11, u_15, u_60, u_100, u_255, u_999, u_1000, u_100000, u_4294967295] at hc39); omega
      | succ m ih =>
        intro r b f v7 hr hb he
        have hr3 := @d3_T r (by omega)
        unfold BsM
        refine g_iload dX8_best_36 rfl ?_
        refine g_iconst (v := 3) dX8_best_38 (by decide) ?_
        refine g_icmp_gt (tgt := 133) dX8_best_39 (by decide) (fun hc39 => ?_) (fun hc39 => ?_)
        · (try simp (disch := omega) only [nT, t_m1000100, t_m1000010, t_m1000003, t_m1000002, t_m1000001, t_m1000000, t_m65535, t_m1000, t_m3, t_m1, t_0, t_1, t_2, t_3, t_4, t_5, t_6, t_7, t_8, t_9, t_10, t_11, t_12, t_13, t_15, t_16, t_20, t_21, t_22, t_32, t_40, t_41, t_48, t_49, t_57, t_59, t_60, t_63, t_72, t_76, t_88, t_100, t_144, t_200, t_255, t_288, t_400, t_800, t_999, t_1000, t_1024, t_1200, t_1600, t_3200, t_100000, t_200000, t_252645135, t_858993459, t_1431655765, u_m1000002, u_m1000001, u_m1000, u_m3, u_m1, u_0, u_1, u_2, u_3, u_4, u_5, u_7, u_8, u_10, u_11, u_15, u_60, u_100, u_255, u_999, u_1000, u_100000, u_4294967295] at hc39); omega
        · (try simp (disch := omega) only [nT, t_m1000100, t_m1000010, t_m1000003, t_m1000002, t_m1000001, t_m1000000, t_m65535, t_m1000, t_m3, t_m1, t_0, t_1, t_2, t_3, t_4, t_5, t_6, t_7, t_8, t_9, t_10, t_11, t_12, t_13, t_15, t_16, t_20, t_21, t_22, t_32, t_40, t_41, t_48, t_49, t_57, t_59, t_60, t_63, t_72, t_76, t_88, t_100, t_144, t_200, t_255, t_288, t_400, t_800, t_999, t_1000, t_1024, t_1200, t_1600, t_3200, t_100000, t_200000, t_252645135, t_858993459, t_1431655765, u_m1000002, u_m1000001, u_m1000, u_m3, u_m1, u_0, u_1, u_2, u_3, u_4, u_5, u_7, u_8, u_10, u_11, u_15, u_60, u_100, u_255, u_999, u_1000, u_100000, u_4294967295] at hc39)
          refine g_bipush (v := (-3)) dX8_best_42 (by decide) ?_
          refine g_istore dX8_best_44 (Nat.le_of_ble_eq_true rfl) rfl ?_
          exact best_mi hW hg2 h47 hq (m := m) (r := r) (by omega) (fun b f v7 hb he => ih (r + 1) b f v7 (by omega) hb he) 7 0 b f (by omega) hb he
    have l0 := hq.2 0
    have r3 := @d3_T 0 (by omega)
    have q9 : cnt (j1 W (d3 0).toInt (d3 0).toInt) 144 0 = S 0 ∧ cnt (j0 W (d3 0).toInt (d3 0).toInt) 144 0 = T 0 := hq.1 0 0 (by omega)
    have k121 : ∀ f, GG (EM mX8_best 4 0 0 Q') 0 0 121 [.ref 44, .int a, .int (d3 0), .int (d3 0), .int (nI (S 0)), .int (nI (T 0)), .int (d3 0), .int (d3 0)] [] (sA hh 74 (aI 4 f)) := by
      intro f
      refine g_iinc dX8_best_121 rfl (Nat.le_of_ble_eq_true rfl) rfl ?_
      refine g_goto (tgt := 46) dX8_best_124 (by decide) ?_
      rw [d3_i]
      exact best_mi hW hg2 h47 hq (m := 6) (r := 0) (by omega) (fun b f v7 hb he => key 6 1 b f v7 (by omega) hb he) 6 1 0 f (by omega) (by omega) (by rw [← hz, hN])
    have z3 : (-3 : Int32) = d3 0 := rfl
    generalize d3 0 = z0 at k121 r3 q9 z3 ⊢
    clear key
    refine g_iload dX8_best_36 rfl ?_
    refine g_iconst (v := 3) dX8_best_38 (by decide) ?_
    refine g_icmp_gt (tgt := 133) dX8_best_39 (by decide) (fun hc39 => ?_) (fun hc39 => ?_)
    · (try simp (disch := omega) only [nT, t_m1000100, t_m1000010, t_m1000003, t_m1000002, t_m1000001, t_m1000000, t_m65535, t_m1000, t_m3, t_m1, t_0, t_1, t_2, t_3, t_4, t_5, t_6, t_7, t_8, t_9, t_10, t_11, t_12, t_13, t_15, t_16, t_20, t_21, t_22, t_32, t_40, t_41, t_48, t_49, t_57, t_59, t_60, t_63, t_72, t_76, t_88, t_100, t_144, t_200, t_255, t_288, t_400, t_800, t_999, t_1000, t_1024, t_1200, t_1600, t_3200, t_100000, t_200000, t_252645135, t_858993459, t_1431655765, u_m1000002, u_m1000001, u_m1000, u_m3, u_m1, u_0, u_1, u_2, u_3, u_4, u_5, u_7, u_8, u_10, u_11, u_15, u_60, u_100, u_255, u_999, u_1000, u_100000, u_4294967295] at hc39); omega
    · (try simp (disch := omega) only [nT, t_m1000100, t_m1000010, t_m1000003, t_m1000002, t_m1000001, t_m1000000, t_m65535, t_m1000, t_m3, t_m1, t_0, t_1, t_2, t_3, t_4, t_5, t_6, t_7, t_8, t_9, t_10, t_11, t_12, t_13, t_15, t_16, t_20, t_21, t_22, t_32, t_40, t_41, t_48, t_49, t_57, t_59, t_60, t_63, t_72, t_76, t_88, t_100, t_144, t_200, t_255, t_288, t_400, t_800, t_999, t_1000, t_1024, t_1200, t_1600, t_3200, t_100000, t_200000, t_252645135, t_858993459, t_1431655765, u_m1000002, u_m1000001, u_m1000, u_m3, u_m1, u_0, u_1, u_2, u_3, u_4, u_5, u_7, u_8, u_10, u_11, u_15, u_60, u_100, u_255, u_999, u_1000, u_100000, u_4294967295] at hc39)
      refine g_bipush (v := (-3)) dX8_best_42 (by decide) ?_
      rw [z3]
      refine g_istore dX8_best_44 (Nat.le_of_ble_eq_true rfl) rfl ?_
      show GG _ _ _ _ [.ref 44, .int a, .int (-1000000), .int (-1000000), .int 0, .int 0, .int z0, .int z0] _ _
      refine g_iload dX8_best_46 rfl ?_
      refine g_iconst (v := 3) dX8_best_48 (by decide) ?_
      refine g_icmp_gt (tgt := 127) dX8_best_49 (by decide) (fun hc49 => ?_) (fun hc49 => ?_)
      · (try simp (disch := omega) only [nT, t_m1000100, t_m1000010, t_m1000003, t_m1000002, t_m1000001, t_m1000000, t_m65535, t_m1000, t_m3, t_m1, t_0, t_1, t_2, t_3, t_4, t_5, t_6, t_7, t_8, t_9, t_10, t_11, t_12, t_13, t_15, t_16, t_20, t_21, t_22, t_32, t_40, t_41, t_48, t_49, t_57, t_59, t_60, t_63, t_72, t_76, t_88, t_100, t_144, t_200, t_255, t_288, t_400, t_800, t_999, t_1000, t_1024, t_1200, t_1600, t_3200, t_100000, t_200000, t_252645135, t_858993459, t_1431655765, u_m1000002, u_m1000001, u_m1000, u_m3, u_m1, u_0, u_1, u_2, u_3, u_4, u_5, u_7, u_8, u_10, u_11, u_15, u_60, u_100, u_255, u_999, u_1000, u_100000, u_4294967295] at hc49); omega
      · (try simp (disch := omega) only [nT, t_m1000100, t_m1000010, t_m1000003, t_m1000002, t_m1000001, t_m1000000, t_m65535, t_m1000, t_m3, t_m1, t_0, t_1, t_2, t_3, t_4, t_5, t_6, t_7, t_8, t_9, t_10, t_11, t_12, t_13, t_15, t_16, t_20, t_21, t_22, t_32, t_40, t_41, t_48, t_49, t_57, t_59, t_60, t_63, t_72, t_76, t_88, t_100, t_144, t_200, t_255, t_288, t_400, t_800, t_999, t_1000, t_1024, t_1200, t_1600, t_3200, t_100000, t_200000, t_252645135, t_858993459, t_1431655765, u_m1000002, u_m1000001, u_m1000, u_m3, u_m1, u_0, u_1, u_2, u_3, u_4, u_5, u_7, u_8, u_10, u_11, u_15, u_60, u_100, u_255, u_999, u_1000, u_100000, u_4294967295] at hc49)
        refine g_aload_n (i := 0) dX8_best_52 rfl rfl ?_
        refine g_iload dX8_best_53 rfl ?_
        refine g_iload dX8_best_55 rfl ?_
        refine g_callV (M' := mX8_findJoin) dX8_best_57 lc_X8_findJoin ml_X8_281 (c_findJoin hW (h := sA hh 74 (aI 4 f0)) hg2 (f0 := f0) h47 rfl (dx := z0) (dy := z0) (by omega) (by omega) (by omega) (by omega)) rfl rfl (by repeat' (first | assumption | exact rF_eq | refine rF_ne (by decide) ?_ | refine rF_a ?_ | exact rA_eq | refine rA_ne (by decide) ?_ | refine rA_f ?_)) rfl ⟨Nat.le_of_ble_eq_true rfl, Nat.le_of_ble_eq_true rfl, Nat.le_of_ble_eq_true rfl, Nat.le_of_ble_eq_true rfl⟩ (Nat.le_of_ble_eq_true rfl) ?_
        intro r_ h_ q_; obtain ⟨rfl, f', rfl, q0, q1, -, -⟩ := q_
        rw [sA_sA]
        rw [q9.1] at q1
        rw [q9.2] at q0
        refine g_iload_n (i := 2) dX8_best_60 rfl rfl ?_
        refine g_ldc dX8_best_61 kc_X8_142 ?_
        refine g_icmp_eq (tgt := 99) dX8_best_63 (by decide) (fun hc63 => ?_) (fun hc63 => ?_)
        · have hd63 := i_eq.mp hc63; (try simp (disch := omega) only [nT, t_m1000100, t_m1000010, t_m1000003, t_m1000002, t_m1000001, t_m1000000, t_m65535, t_m1000, t_m3, t_m1, t_0, t_1, t_2, t_3, t_4, t_5, t_6, t_7, t_8, t_9, t_10, t_11, t_12, t_13, t_15, t_16, t_20, t_21, t_22, t_32, t_40, t_41, t_48, t_49, t_57, t_59, t_60, t_63, t_72, t_76, t_88, t_100, t_144, t_200, t_255, t_288, t_400, t_800, t_999, t_1000, t_1024, t_1200, t_1600, t_3200, t_100000, t_200000, t_252645135, t_858993459, t_1431655765, u_m1000002, u_m1000001, u_m1000, u_m3, u_m1, u_0, u_1, u_2, u_3, u_4, u_5, u_7, u_8, u_10, u_11, u_15, u_60, u_100, u_255, u_999, u_1000, u_100000, u_4294967295] at hd63)
          refine g_iload dX8_best_99 rfl ?_
          refine g_istore_n (i := 2) dX8_best_101 rfl (Nat.le_of_ble_eq_true rfl) rfl ?_
          refine g_iload dX8_best_102 rfl ?_
          refine g_istore_n (i := 3) dX8_best_104 rfl (Nat.le_of_ble_eq_true rfl) rfl ?_
          refine g_aload_n (i := 0) dX8_best_105 rfl rfl ?_
          refine g_get dX8_best_106 fl_X8_104 (by repeat' (first | assumption | exact rF_eq | refine rF_ne (by decide) ?_ | refine rF_a ?_ | exact rA_eq | refine rA_ne (by decide) ?_ | refine rA_f ?_)) (by repeat' (first | assumption | exact rF_eq | refine rF_ne (by decide) ?_ | refine rF_a ?_ | exact rA_eq | refine rA_ne (by decide) ?_ | refine rA_f ?_)) ?_
          refine g_iconst (v := 1) dX8_best_109 (by decide) ?_
          refine g_iald dX8_best_110 (by repeat' (first | assumption | exact rF_eq | refine rF_ne (by decide) ?_ | refine rF_a ?_ | exact rA_eq | refine rA_ne (by decide) ?_ | refine rA_f ?_)) ((show (1 : Int32).toInt = ((1 : Nat) : Int) from rfl)) (by decide) ?_
          rw [q1]
          refine g_istore dX8_best_111 (Nat.le_of_ble_eq_true rfl) rfl ?_
          refine g_aload_n (i := 0) dX8_best_113 rfl rfl ?_
          refine g_get dX8_best_114 fl_X8_104 (by repeat' (first | assumption | exact rF_eq | refine rF_ne (by decide) ?_ | refine rF_a ?_ | exact rA_eq | refine rA_ne (by decide) ?_ | refine rA_f ?_)) (by repeat' (first | assumption | exact rF_eq | refine rF_ne (by decide) ?_ | refine rF_a ?_ | exact rA_eq | refine rA_ne (by decide) ?_ | refine rA_f ?_)) ?_
          refine g_iconst (v := 0) dX8_best_117 (by decide) ?_
          refine g_iald dX8_best_118 (by repeat' (first | assumption | exact rF_eq | refine rF_ne (by decide) ?_ | refine rF_a ?_ | exact rA_eq | refine rA_ne (by decide) ?_ | refine rA_f ?_)) ((show (0 : Int32).toInt = ((0 : Nat) : Int) from rfl)) (by decide) ?_
          rw [q0]
          refine g_istore dX8_best_119 (Nat.le_of_ble_eq_true rfl) rfl ?_
          exact k121 f'
        · have hd63 := mt i_eq.mpr hc63; (try simp (disch := omega) only [nT, t_m1000100, t_m1000010, t_m1000003, t_m1000002, t_m1000001, t_m1000000, t_m65535, t_m1000, t_m3, t_m1, t_0, t_1, t_2, t_3, t_4, t_5, t_6, t_7, t_8, t_9, t_10, t_11, t_12, t_13, t_15, t_16, t_20, t_21, t_22, t_32, t_40, t_41, t_48, t_49, t_57, t_59, t_60, t_63, t_72, t_76, t_88, t_100, t_144, t_200, t_255, t_288, t_400, t_800, t_999, t_1000, t_1024, t_1200, t_1600, t_3200, t_100000, t_200000, t_252645135, t_858993459, t_1431655765, u_m1000002, u_m1000001, u_m1000, u_m3, u_m1, u_0, u_1, u_2, u_3, u_4, u_5, u_7, u_8, u_10, u_11, u_15, u_60, u_100, u_255, u_999, u_1000, u_100000, u_4294967295] at hd63); exact absurd rfl hc63
  · replace hc14 := bI_0.mp hc14
    (try simp (disch := omega) only [nT, t_m1000100, t_m1000010, t_m1000003, t_m1000002, t_m1000001, t_m1000000, t_m65535, t_m1000, t_m3, t_m1, t_0, t_1, t_2, t_3, t_4, t_5, t_6, t_7, t_8, t_9, t_10, t_11, t_12, t_13, t_15, t_16, t_20, t_21, t_22, t_32, t_40, t_41, t_48, t_49, t_57, t_59, t_60, t_63, t_72, t_76, t_88, t_100, t_144, t_200, t_255, t_288, t_400, t_800, t_999, t_1000, t_1024, t_1200, t_1600, t_3200, t_100000, t_200000, t_252645135, t_858993459, t_1431655765, u_m1000002, u_m1000001, u_m1000, u_m3, u_m1, u_0, u_1, u_2, u_3, u_4, u_5, u_7, u_8, u_10, u_11, u_15, u_60, u_100, u_255, u_999, u_1000, u_100000, u_4294967295] at hc14)
    refine g_ldc dX8_best_17 kc_X8_126 ?_
    refine g_iret dX8_best_19 rfl (rfl) (hQ _ _ ?_)
    rw [show opBest W a = _ from if_pos (by omega)]; exact ⟨rfl, hg, fr_sF (by decide) fr_rf⟩
