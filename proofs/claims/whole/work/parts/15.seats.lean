/-! the SEATS and the LAW -/
abbrev ST2 : Type := (Nat → Int32) × (Nat → Int32)
def opSeat (w : ST2) (s v : Int32) : Int32 × ST2 :=
  if ¬ (0 ≤ s.toInt ∧ s.toInt < 8) ∨ v.toInt < -1000 ∨ 1000 < v.toInt then (-1000001, w)
  else (if (w.2 s.toInt.toNat).toInt = 0 then w.1 s.toInt.toNat else -1000000, upd w.1 s.toInt.toNat v, upd w.2 s.toInt.toNat 0)
def opDead (w : ST2) (s : Int32) : Int32 × ST2 :=
  if ¬ (0 ≤ s.toInt ∧ s.toInt < 8) then (-1000001, w)
  else (if (w.2 s.toInt.toNat).toInt = 0 then 1 else 0, w.1, upd w.2 s.toInt.toNat 1)
def GEX (w : ST2) (h : HH) : Prop := gA h 0 = aO 7 ∧ gF h 0 9 = .ref 36 ∧ gF h 0 10 = .ref 37 ∧ gA h 36 = aI 8 w.1 ∧ gA h 37 = aZ 8 w.2
def GEM (w : ST2) (h : HH) : Prop := gA h 44 = aO 8 ∧ gF h 44 32 = .ref 64 ∧ gF h 44 33 = .ref 65 ∧ gA h 64 = aI 8 w.1 ∧ gA h 65 = aZ 8 w.2
theorem c_isSeat (h : HH) (s : Int32) : CT mX8_isSeat 1 0 0 [.int s] h (fun r h' => r = some (.int (bI (0 ≤ s.toInt ∧ s.toInt ≤ 7))) ∧ h' = h) := by
  refine CT.go [.int s] (by decide +kernel) rfl rfl (fun Q' hQ => ?_)
  refine g_iload_n (i := 0) dX8_isSeat_0 rfl rfl ?_
  refine g_i2l dX8_isSeat_1 ?_
  refine g_lconst (v := 0) dX8_isSeat_2 (by decide) ?_
  refine g_ldc2 dX8_isSeat_3 kc_X8_114 ?_
  refine g_callS (M' := mX8_in) dX8_isSeat_6 lc_X8_in ml_X8_116 (c_in h s.toInt64 0 7 0 7 rfl rfl) rfl rfl ⟨Nat.le_of_ble_eq_true rfl, Nat.le_of_ble_eq_true rfl, Nat.le_of_ble_eq_true rfl, Nat.le_of_ble_eq_true rfl⟩ (Nat.le_of_ble_eq_true rfl) ?_
  intro r_ h_ q_; obtain ⟨q1_, q2_⟩ := q_; have q2_ := q2_.symm; subst q1_; subst q2_
  refine g_iret dX8_isSeat_9 rfl (bI_nar _) (hQ _ _ ?_)
  rw [l_i]; exact ⟨rfl, rfl⟩
theorem x_seat {w : ST2} {h : HH} (hg : GEX w h) (s v : Int32) : CT mX7_seat 1 0 0 [.ref 0, .int s, .int v] h (fun r h' => r = some (.int (opSeat w s v).1) ∧ GEX (opSeat w s v).2 h' ∧ Fr [36, 37] [] h h') := by
  obtain ⟨ad, de⟩ := w
  have hg0 := hg
  obtain ⟨e1, e2, e3, e4, e5⟩ := hg
  dsimp only at e4 e5
  refine CT.go [.ref 0, .int s, .int v, hU] (by decide +kernel) rfl rfl (fun Q' hQ => ?_)
  refine g_iload_n (i := 1) dX7_seat_0 rfl rfl ?_
  refine g_bipush (v := 8) dX7_seat_1 (by decide) ?_
  refine g_callS (M' := mX7_isWithin) dX7_seat_3 lc_X7_isWithin ml_X7_90 (c_isWithin h s 8 8 rfl) rfl rfl ⟨Nat.le_of_ble_eq_true rfl, Nat.le_of_ble_eq_true rfl, Nat.le_of_ble_eq_true rfl, Nat.le_of_ble_eq_true rfl⟩ (Nat.le_of_ble_eq_true rfl) ?_
  intro r_ h_ q_; obtain ⟨q1_, q2_⟩ := q_; have q2_ := q2_.symm; subst q1_; subst q2_
  refine g_if_eq (tgt := 23) dX7_seat_6 (by decide) (fun hc6 => ?_) (fun hc6 => ?_)
  · replace hc6 := bI_0.mp hc6
    (try simp (disch := omega) only [nT, t_m1000100, t_m1000010, t_m1000003, t_m1000002, t_m1000001, t_m1000000, t_m65535, t_m1000, t_m3, t_m1, t_0, t_1, t_2, t_3, t_4, t_5, t_6, t_7, t_8, t_9, t_10, t_11, t_12, t_13, t_15, t_16, t_20, t_21, t_22, t_32, t_40, t_41, t_48, t_49, t_57, t_59, t_60, t_63, t_72, t_76, t_88, t_100, t_144, t_200, t_255, t_288, t_400, t_800, t_999, t_1000, t_1024, t_1200, t_1600, t_3200, t_100000, t_200000, t_252645135, t_858993459, t_1431655765, u_m1000002, u_m1000001, u_m1000, u_m3, u_m1, u_0, u_1, u_2, u_3, u_4, u_5, u_7, u_8, u_10, u_11, u_15, u_60, u_100, u_255, u_999, u_1000, u_100000, u_4294967295] at hc6)
    refine g_ldc dX7_seat_23 kc_X7_94 ?_
    refine g_iret dX7_seat_25 rfl (rfl) (hQ _ _ ?_)
    have e : opSeat (ad, de) s v = _ := if_pos (by omega)
    rw [e]; exact ⟨rfl, hg0, fr_rf⟩
  · replace hc6 := bI_n0.mp hc6
    (try simp (disch := omega) only [nT, t_m1000100, t_m1000010, t_m1000003, t_m1000002, t_m1000001, t_m1000000, t_m65535, t_m1000, t_m3, t_m1, t_0, t_1, t_2, t_3, t_4, t_5, t_6, t_7, t_8, t_9, t_10, t_11, t_12, t_13, t_15, t_16, t_20, t_21, t_22, t_32, t_40, t_41, t_48, t_49, t_57, t_59, t_60, t_63, t_72, t_76, t_88, t_100, t_144, t_200, t_255, t_288, t_400, t_800, t_999, t_1000, t_1024, t_1200, t_1600, t_3200, t_100000, t_200000, t_252645135, t_858993459, t_1431655765, u_m1000002, u_m1000001, u_m1000, u_m3, u_m1, u_0, u_1, u_2, u_3, u_4, u_5, u_7, u_8, u_10, u_11, u_15, u_60, u_100, u_255, u_999, u_1000, u_100000, u_4294967295] at hc6)
    refine g_iload_n (i := 2) dX7_seat_9 rfl rfl ?_
    refine g_sipush (v := (-1000)) dX7_seat_10 (by decide) ?_
    refine g_icmp_lt (tgt := 23) dX7_seat_13 (by decide) (fun hc13 => ?_) (fun hc13 => ?_)
    · (try simp (disch := omega) only [nT, t_m1000100, t_m1000010, t_m1000003, t_m1000002, t_m1000001, t_m1000000, t_m65535, t_m1000, t_m3, t_m1, t_0, t_1, t_2, t_3, t_4, t_5, t_6, t_7, t_8, t_9, t_10, t_11, t_12, t_13, t_15, t_16, t_20, t_21, t_22, t_32, t_40, t_41, t_48, t_49, t_57, t_59, t_60, t_63, t_72, t_76, t_88, t_100, t_144, t_200, t_255, t_288, t_400, t_800, t_999, t_1000, t_1024, t_1200, t_1600, t_3200, t_100000, t_200000, t_252645135, t_858993459, t_1431655765, u_m1000002, u_m1000001, u_m1000, u_m3, u_m1, u_0, u_1, u_2, u_3, u_4, u_5, u_7, u_8, u_10, u_11, u_15, u_60, u_100, u_255, u_999, u_1000, u_100000, u_4294967295] at hc13)
      refine g_ldc dX7_seat_23 kc_X7_94 ?_
      refine g_iret dX7_seat_25 rfl (rfl) (hQ _ _ ?_)
      have e : opSeat (ad, de) s v = _ := if_pos (by omega)
      rw [e]; exact ⟨rfl, hg0, fr_rf⟩
    · (try simp (disch := omega) only [nT, t_m1000100, t_m1000010, t_m1000003, t_m1000002, t_m1000001, t_m1000000, t_m65535, t_m1000, t_m3, t_m1, t_0, t_1, t_2, t_3, t_4, t_5, t_6, t_7, t_8, t_9, t_10, t_11, t_12, t_13, t_15, t_16, t_20, t_21, t_22, t_32, t_40, t_41, t_48, t_49, t_57, t_59, t_60, t_63, t_72, t_76, t_88, t_100, t_144, t_200, t_255, t_288, t_400, t_800, t_999, t_1000, t_1024, t_1200, t_1600, t_3200, t_100000, t_200000, t_252645135, t_858993459, t_1431655765, u_m1000002, u_m1000001, u_m1000, u_m3, u_m1, u_0, u_1, u_2, u_3, u_4, u_5, u_7, u_8, u_10, u_11, u_15, u_60, u_100, u_255, u_999, u_1000, u_100000, u_4294967295] at hc13)
      refine g_iload_n (i := 2) dX7_seat_16 rfl rfl ?_
      refine g_sipush (v := 1000) dX7_seat_17 (by decide) ?_
      refine g_icmp_le (tgt := 26) dX7_seat_20 (by decide) (fun hc20 => ?_) (fun hc20 => ?_)
      · (try simp (disch := omega) only [nT, t_m1000100, t_m1000010, t_m1000003, t_m1000002, t_m1000001, t_m1000000, t_m65535, t_m1000, t_m3, t_m1, t_0, t_1, t_2, t_3, t_4, t_5, t_6, t_7, t_8, t_9, t_10, t_11, t_12, t_13, t_15, t_16, t_20, t_21, t_22, t_32, t_40, t_41, t_48, t_49, t_57, t_59, t_60, t_63, t_72, t_76, t_88, t_100, t_144, t_200, t_255, t_288, t_400, t_800, t_999, t_1000, t_1024, t_1200, t_1600, t_3200, t_100000, t_200000, t_252645135, t_858993459, t_1431655765, u_m1000002, u_m1000001, u_m1000, u_m3, u_m1, u_0, u_1, u_2, u_3, u_4, u_5, u_7, u_8, u_10, u_11, u_15, u_60, u_100, u_255, u_999, u_1000, u_100000, u_4294967295] at hc20)
        have e : opSeat (ad, de) s v = _ := if_neg (by omega)
        obtain ⟨a, ha, rfl, hta⟩ := n_of (n := 8) (x := s) (by omega) (by omega)
        dsimp only at e
        rw [nTN (by omega)] at e
        refine g_aload_n (i := 0) dX7_seat_26 rfl rfl ?_
        refine g_get dX7_seat_27 fl_X7_63 (by repeat' (first | assumption | exact rF_eq | refine rF_ne (by decide) ?_ | refine rF_a ?_ | exact rA_eq | refine rA_ne (by decide) ?_ | refine rA_f ?_)) (by repeat' (first | assumption | exact rF_eq | refine rF_ne (by decide) ?_ | refine rF_a ?_ | exact rA_eq | refine rA_ne (by decide) ?_ | refine rA_f ?_)) ?_
        refine g_iload_n (i := 1) dX7_seat_30 rfl rfl ?_
        refine g_zald dX7_seat_31 (by repeat' (first | assumption | exact rF_eq | refine rF_ne (by decide) ?_ | refine rF_a ?_ | exact rA_eq | refine rA_ne (by decide) ?_ | refine rA_f ?_)) (hta) (ha) ?_
        refine g_if_eq (tgt := 40) dX7_seat_32 (by decide) (fun hc32 => ?_) (fun hc32 => ?_)
        · have hd32 := i_eq.mp hc32; (try simp (disch := omega) only [nT, t_m1000100, t_m1000010, t_m1000003, t_m1000002, t_m1000001, t_m1000000, t_m65535, t_m1000, t_m3, t_m1, t_0, t_1, t_2, t_3, t_4, t_5, t_6, t_7, t_8, t_9, t_10, t_11, t_12, t_13, t_15, t_16, t_20, t_21, t_22, t_32, t_40, t_41, t_48, t_49, t_57, t_59, t_60, t_63, t_72, t_76, t_88, t_100, t_144, t_200, t_255, t_288, t_400, t_800, t_999, t_1000, t_1024, t_1200, t_1600, t_3200, t_100000, t_200000, t_252645135, t_858993459, t_1431655765, u_m1000002, u_m1000001, u_m1000, u_m3, u_m1, u_0, u_1, u_2, u_3, u_4, u_5, u_7, u_8, u_10, u_11, u_15, u_60, u_100, u_255, u_999, u_1000, u_100000, u_4294967295] at hd32)
          refine g_aload_n (i := 0) dX7_seat_40 rfl rfl ?_
          refine g_get dX7_seat_41 fl_X7_60 (by repeat' (first | assumption | exact rF_eq | refine rF_ne (by decide) ?_ | refine rF_a ?_ | exact rA_eq | refine rA_ne (by decide) ?_ | refine rA_f ?_)) (by repeat' (first | assumption | exact rF_eq | refine rF_ne (by decide) ?_ | refine rF_a ?_ | exact rA_eq | refine rA_ne (by decide) ?_ | refine rA_f ?_)) ?_
          refine g_iload_n (i := 1) dX7_seat_44 rfl rfl ?_
          refine g_iald dX7_seat_45 (by repeat' (first | assumption | exact rF_eq | refine rF_ne (by decide) ?_ | refine rF_a ?_ | exact rA_eq | refine rA_ne (by decide) ?_ | refine rA_f ?_)) (hta) (ha) ?_
          refine g_istore_n (i := 3) dX7_seat_46 rfl (Nat.le_of_ble_eq_true rfl) rfl ?_
          refine g_aload_n (i := 0) dX7_seat_47 rfl rfl ?_
          refine g_get dX7_seat_48 fl_X7_63 (by repeat' (first | assumption | exact rF_eq | refine rF_ne (by decide) ?_ | refine rF_a ?_ | exact rA_eq | refine rA_ne (by decide) ?_ | refine rA_f ?_)) (by repeat' (first | assumption | exact rF_eq | refine rF_ne (by decide) ?_ | refine rF_a ?_ | exact rA_eq | refine rA_ne (by decide) ?_ | refine rA_f ?_)) ?_
          refine g_iload_n (i := 1) dX7_seat_51 rfl rfl ?_
          refine g_iconst (v := 0) dX7_seat_52 (by decide) ?_
          refine g_zast dX7_seat_53 (by repeat' (first | assumption | exact rF_eq | refine rF_ne (by decide) ?_ | refine rF_a ?_ | exact rA_eq | refine rA_ne (by decide) ?_ | refine rA_f ?_)) (hta) (ha) (by rfl) ?_
          refine g_aload_n (i := 0) dX7_seat_54 rfl rfl ?_
          refine g_get dX7_seat_55 fl_X7_60 (by repeat' (first | assumption | exact rF_eq | refine rF_ne (by decide) ?_ | refine rF_a ?_ | exact rA_eq | refine rA_ne (by decide) ?_ | refine rA_f ?_)) (by repeat' (first | assumption | exact rF_eq | refine rF_ne (by decide) ?_ | refine rF_a ?_ | exact rA_eq | refine rA_ne (by decide) ?_ | refine rA_f ?_)) ?_
          refine g_iload_n (i := 1) dX7_seat_58 rfl rfl ?_
          refine g_iload_n (i := 2) dX7_seat_59 rfl rfl ?_
          refine g_iast dX7_seat_60 (by repeat' (first | assumption | exact rF_eq | refine rF_ne (by decide) ?_ | refine rF_a ?_ | exact rA_eq | refine rA_ne (by decide) ?_ | refine rA_f ?_)) (hta) (ha) ?_
          refine g_iload_n (i := 3) dX7_seat_61 rfl rfl ?_
          refine g_iret dX7_seat_62 rfl (rfl) (hQ _ _ ?_)
          rw [e]
          refine ⟨?_, ⟨e1, e2, e3, rfl, rfl⟩, fr_sA (by decide) (fr_sA (by decide) fr_rf)⟩
          first | rw [if_pos (by omega)] | rw [if_neg (by omega)]
        · have hd32 := mt i_eq.mpr hc32; (try simp (disch := omega) only [nT, t_m1000100, t_m1000010, t_m1000003, t_m1000002, t_m1000001, t_m1000000, t_m65535, t_m1000, t_m3, t_m1, t_0, t_1, t_2, t_3, t_4, t_5, t_6, t_7, t_8, t_9, t_10, t_11, t_12, t_13, t_15, t_16, t_20, t_21, t_22, t_32, t_40, t_41, t_48, t_49, t_57, t_59, t_60, t_63, t_72, t_76, t_88, t_100, t_144, t_200, t_255, t_288, t_400, t_800, t_999, t_1000, t_1024, t_1200, t_1600, t_3200, t_100000, t_200000, t_252645135, t_858993459, t_1431655765, u_m1000002, u_m1000001, u_m1000, u_m3, u_m1, u_0, u_1, u_2, u_3, u_4, u_5, u_7, u_8, u_10, u_11, u_15, u_60, u_100, u_255, u_999, u_1000, u_100000, u_4294967295] at hd32)
          refine g_ldc dX7_seat_35 kc_X7_155 ?_
          refine g_goto (tgt := 46) dX7_seat_37 (by decide) ?_
          refine g_istore_n (i := 3) dX7_seat_46 rfl (Nat.le_of_ble_eq_true rfl) rfl ?_
          refine g_aload_n (i := 0) dX7_seat_47 rfl rfl ?_
          refine g_get dX7_seat_48 fl_X7_63 (by repeat' (first | assumption | exact rF_eq | refine rF_ne (by decide) ?_ | refine rF_a ?_ | exact rA_eq | refine rA_ne (by decide) ?_ | refine rA_f ?_)) (by repeat' (first | assumption | exact rF_eq | refine rF_ne (by decide) ?_ | refine rF_a ?_ | exact rA_eq | refine rA_ne (by decide) ?_ | refine rA_f ?_)) ?_
          refine g_iload_n (i := 1) dX7_seat_51 rfl rfl ?_
          refine g_iconst (v := 0) dX7_seat_52 (by decide) ?_
          refine g_zast dX7_seat_53 (by repeat' (first | assumption | exact rF_eq | refine rF_ne (by decide) ?_ | refine rF_a ?_ | exact rA_eq | refine rA_ne (by decide) ?_ | refine rA_f ?_)) (hta) (ha) (by rfl) ?_
          refine g_aload_n (i := 0) dX7_seat_54 rfl rfl ?_
          refine g_get dX7_seat_55 fl_X7_60 (by repeat' (first | assumption | exact rF_eq | refine rF_ne (by decide) ?_ | refine rF_a ?_ | exact rA_eq | refine rA_ne (by decide) ?_ | refine rA_f ?_)) (by repeat' (first | assumption | exact rF_eq | refine rF_ne (by decide) ?_ | refine rF_a ?_ | exact rA_eq | refine rA_ne (by decide) ?_ | refine rA_f ?_)) ?_
          refine g_iload_n (i := 1) dX7_seat_58 rfl rfl ?_
          refine g_iload_n (i := 2) dX7_seat_59 rfl rfl ?_
          refine g_iast dX7_seat_60 (by repeat' (first | assumption | exact rF_eq | refine rF_ne (by decide) ?_ | refine rF_a ?_ | exact rA_eq | refine rA_ne (by decide) ?_ | refine rA_f ?_)) (hta) (ha) ?_
          refine g_iload_n (i := 3) dX7_seat_61 rfl rfl ?_
          refine g_iret dX7_seat_62 rfl (rfl) (hQ _ _ ?_)
          rw [e]
          refine ⟨?_, ⟨e1, e2, e3, rfl, rfl⟩, fr_sA (by decide) (fr_sA (by decide) fr_rf)⟩
          first | rw [if_pos (by omega)] | rw [if_neg (by omega)]
      · (try simp (disch := omega) only [nT, t_m1000100, t_m1000010, t_m1000003, t_m1000002, t_m1000001, t_m1000000, t_m65535, t_m1000, t_m3, t_m1, t_0, t_1, t_2, t_3, t_4, t_5, t_6, t_7, t_8, t_9, t_10, t_11, t_12, t_13, t_15, t_16, t_20, t_21, t_22, t_32, t_40, t_41, t_48, t_49, t_57, t_59, t_60, t_63, t_72, t_76, t_88, t_100, t_144, t_200, t_255, t_288, t_400, t_800, t_999, t_1000, t_1024, t_1200, t_1600, t_3200, t_100000, t_200000, t_252645135, t_858993459, t_1431655765, u_m1000002, u_m1000001, u_m1000, u_m3, u_m1, u_0, u_1, u_2, u_3, u_4, u_5, u_7, u_8, u_10, u_11, u_15, u_60, u_100, u_255, u_999, u_1000, u_100000, u_4294967295] at hc20)
        refine g_ldc dX7_seat_23 kc_X7_94 ?_
        refine g_iret dX7_seat_25 rfl (rfl) (hQ _ _ ?_)
        have e : opSeat (ad, de) s v = _ := if_pos (by omega)
        rw [e]; exact ⟨rfl, hg0, fr_rf⟩
theorem m_seat {w : ST2} {h : HH} (hg : GEM w h) (s v : Int32) : CT mX8_seat 2 0 0 [.ref 44, .int s, .int v] h (fun r h' => r = some (.int (opSeat w s v).1) ∧ GEM (opSeat w s v).2 h' ∧ Fr [64, 65] [(44, 0)] h h') := by
  obtain ⟨ad, de⟩ := w
  have hg0 := hg
  obtain ⟨e1, e2, e3, e4, e5⟩ := hg
  dsimp only at e4 e5
  refine CT.go [.ref 44, .int s, .int v, hU] (by decide +kernel) rfl rfl (fun Q' hQ => ?_)
  refine g_aload_n (i := 0) dX8_seat_0 rfl rfl ?_
  refine g_iconst (v := 0) dX8_seat_1 (by decide) ?_
  refine g_put dX8_seat_2 pl_X8_107 (by repeat' (first | assumption | exact rF_eq | refine rF_ne (by decide) ?_ | refine rF_a ?_ | exact rA_eq | refine rA_ne (by decide) ?_ | refine rA_f ?_)) (fun _ => ⟨rfl, rfl⟩) ?_
  refine g_iload_n (i := 1) dX8_seat_5 rfl rfl ?_
  refine g_callS (M' := mX8_isSeat) dX8_seat_6 lc_X8_isSeat ml_X8_224 (c_isSeat _ s) rfl rfl ⟨Nat.le_of_ble_eq_true rfl, Nat.le_of_ble_eq_true rfl, Nat.le_of_ble_eq_true rfl, Nat.le_of_ble_eq_true rfl⟩ (Nat.le_of_ble_eq_true rfl) ?_
  intro r_ h_ q_; obtain ⟨q1_, q2_⟩ := q_; have q2_ := q2_.symm; subst q1_; subst q2_
  refine g_if_eq (tgt := 26) dX8_seat_9 (by decide) (fun hc9 => ?_) (fun hc9 => ?_)
  · replace hc9 := bI_0.mp hc9
    (try simp (disch := omega) only [nT, t_m1000100, t_m1000010, t_m1000003, t_m1000002, t_m1000001, t_m1000000, t_m65535, t_m1000, t_m3, t_m1, t_0, t_1, t_2, t_3, t_4, t_5, t_6, t_7, t_8, t_9, t_10, t_11, t_12, t_13, t_15, t_16, t_20, t_21, t_22, t_32, t_40, t_41, t_48, t_49, t_57, t_59, t_60, t_63, t_72, t_76, t_88, t_100, t_144, t_200, t_255, t_288, t_400, t_800, t_999, t_1000, t_1024, t_1200, t_1600, t_3200, t_100000, t_200000, t_252645135, t_858993459, t_1431655765, u_m1000002, u_m1000001, u_m1000, u_m3, u_m1, u_0, u_1, u_2, u_3, u_4, u_5, u_7, u_8, u_10, u_11, u_15, u_60, u_100, u_255, u_999, u_1000, u_100000, u_4294967295] at hc9)
    refine g_ldc dX8_seat_26 kc_X8_126 ?_
    refine g_iret dX8_seat_28 rfl (rfl) (hQ _ _ ?_)
    have e : opSeat (ad, de) s v = _ := if_pos (by omega)
    rw [e]; exact ⟨rfl, ⟨e1, e2, e3, e4, e5⟩, fr_sF (by decide) fr_rf⟩
  · replace hc9 := bI_n0.mp hc9
    (try simp (disch := omega) only [nT, t_m1000100, t_m1000010, t_m1000003, t_m1000002, t_m1000001, t_m1000000, t_m65535, t_m1000, t_m3, t_m1, t_0, t_1, t_2, t_3, t_4, t_5, t_6, t_7, t_8, t_9, t_10, t_11, t_12, t_13, t_15, t_16, t_20, t_21, t_22, t_32, t_40, t_41, t_48, t_49, t_57, t_59, t_60, t_63, t_72, t_76, t_88, t_100, t_144, t_200, t_255, t_288, t_400, t_800, t_999, t_1000, t_1024, t_1200, t_1600, t_3200, t_100000, t_200000, t_252645135, t_858993459, t_1431655765, u_m1000002, u_m1000001, u_m1000, u_m3, u_m1, u_0, u_1, u_2, u_3, u_4, u_5, u_7, u_8, u_10, u_11, u_15, u_60, u_100, u_255, u_999, u_1000, u_100000, u_4294967295] at hc9)
    refine g_iload_n (i := 2) dX8_seat_12 rfl rfl ?_
    refine g_i2l dX8_seat_13 ?_
    refine g_ldc2 dX8_seat_14 kc_X8_227 ?_
    refine g_ldc2 dX8_seat_17 kc_X8_229 ?_
    refine g_callS (M' := mX8_in) dX8_seat_20 lc_X8_in ml_X8_116 (c_in _ v.toInt64 (-1000) 1000 (-1000) 1000 rfl rfl) rfl rfl ⟨Nat.le_of_ble_eq_true rfl, Nat.le_of_ble_eq_true rfl, Nat.le_of_ble_eq_true rfl, Nat.le_of_ble_eq_true rfl⟩ (Nat.le_of_ble_eq_true rfl) ?_
    intro r_ h_ q_; obtain ⟨q1_, q2_⟩ := q_; have q2_ := q2_.symm; subst q1_; subst q2_
    rw [l_i]
    refine g_if_ne (tgt := 29) dX8_seat_23 (by decide) (fun hc23 => ?_) (fun hc23 => ?_)
    · replace hc23 := bI_n0.mp hc23
      (try simp (disch := omega) only [nT, t_m1000100, t_m1000010, t_m1000003, t_m1000002, t_m1000001, t_m1000000, t_m65535, t_m1000, t_m3, t_m1, t_0, t_1, t_2, t_3, t_4, t_5, t_6, t_7, t_8, t_9, t_10, t_11, t_12, t_13, t_15, t_16, t_20, t_21, t_22, t_32, t_40, t_41, t_48, t_49, t_57, t_59, t_60, t_63, t_72, t_76, t_88, t_100, t_144, t_200, t_255, t_288, t_400, t_800, t_999, t_1000, t_1024, t_1200, t_1600, t_3200, t_100000, t_200000, t_252645135, t_858993459, t_1431655765, u_m1000002, u_m1000001, u_m1000, u_m3, u_m1, u_0, u_1, u_2, u_3, u_4, u_5, u_7, u_8, u_10, u_11, u_15, u_60, u_100, u_255, u_999, u_1000, u_100000, u_4294967295] at hc23)
      have e : opSeat (ad, de) s v = _ := if_neg (by omega)
      obtain ⟨a, ha, rfl, hta⟩ := n_of (n := 8) (x := s) (by omega) (by omega)
      dsimp only at e
      rw [nTN (by omega)] at e
      refine g_aload_n (i := 0) dX8_seat_29 rfl rfl ?_
      refine g_get dX8_seat_30 fl_X8_71 (by repeat' (first | assumption | exact rF_eq | refine rF_ne (by decide) ?_ | refine rF_a ?_ | exact rA_eq | refine rA_ne (by decide) ?_ | refine rA_f ?_)) (by repeat' (first | assumption | exact rF_eq | refine rF_ne (by decide) ?_ | refine rF_a ?_ | exact rA_eq | refine rA_ne (by decide) ?_ | refine rA_f ?_)) ?_
      refine g_iload_n (i := 1) dX8_seat_33 rfl rfl ?_
      refine g_zald dX8_seat_34 (by repeat' (first | assumption | exact rF_eq | refine rF_ne (by decide) ?_ | refine rF_a ?_ | exact rA_eq | refine rA_ne (by decide) ?_ | refine rA_f ?_)) (hta) (ha) ?_
      refine g_if_eq (tgt := 43) dX8_seat_35 (by decide) (fun hc35 => ?_) (fun hc35 => ?_)
      · have hd35 := i_eq.mp hc35; (try simp (disch := omega) only [nT, t_m1000100, t_m1000010, t_m1000003, t_m1000002, t_m1000001, t_m1000000, t_m65535, t_m1000, t_m3, t_m1, t_0, t_1, t_2, t_3, t_4, t_5, t_6, t_7, t_8, t_9, t_10, t_11, t_12, t_13, t_15, t_16, t_20, t_21, t_22, t_32, t_40, t_41, t_48, t_49, t_57, t_59, t_60, t_63, t_72, t_76, t_88, t_100, t_144, t_200, t_255, t_288, t_400, t_800, t_999, t_1000, t_1024, t_1200, t_1600, t_3200, t_100000, t_200000, t_252645135, t_858993459, t_1431655765, u_m1000002, u_m1000001, u_m1000, u_m3, u_m1, u_0, u_1, u_2, u_3, u_4, u_5, u_7, u_8, u_10, u_11, u_15, u_60, u_100, u_255, u_999, u_1000, u_100000, u_4294967295] at hd35)
        refine g_aload_n (i := 0) dX8_seat_43 rfl rfl ?_
        refine g_get dX8_seat_44 fl_X8_68 (by repeat' (first | assumption | exact rF_eq | refine rF_ne (by decide) ?_ | refine rF_a ?_ | exact rA_eq | refine rA_ne (by decide) ?_ | refine rA_f ?_)) (by repeat' (first | assumption | exact rF_eq | refine rF_ne (by decide) ?_ | refine rF_a ?_ | exact rA_eq | refine rA_ne (by decide) ?_ | refine rA_f ?_)) ?_
        refine g_iload_n (i := 1) dX8_seat_47 rfl rfl ?_
        refine g_iald dX8_seat_48 (by repeat' (first | assumption | exact rF_eq | refine rF_ne (by decide) ?_ | refine rF_a ?_ | exact rA_eq | refine rA_ne (by decide) ?_ | refine rA_f ?_)) (hta) (ha) ?_
        refine g_istore_n (i := 3) dX8_seat_49 rfl (Nat.le_of_ble_eq_true rfl) rfl ?_
        refine g_aload_n (i := 0) dX8_seat_50 rfl rfl ?_
        refine g_get dX8_seat_51 fl_X8_71 (by repeat' (first | assumption | exact rF_eq | refine rF_ne (by decide) ?_ | refine rF_a ?_ | exact rA_eq | refine rA_ne (by decide) ?_ | refine rA_f ?_)) (by repeat' (first | assumption | exact rF_eq | refine rF_ne (by decide) ?_ | refine rF_a ?_ | exact rA_eq | refine rA_ne (by decide) ?_ | refine rA_f ?_)) ?_
        refine g_iload_n (i := 1) dX8_seat_54 rfl rfl ?_
        refine g_iconst (v := 0) dX8_seat_55 (by decide) ?_
        refine g_zast dX8_seat_56 (by repeat' (first | assumption | exact rF_eq | refine rF_ne (by decide) ?_ | refine rF_a ?_ | exact rA_eq | refine rA_ne (by decide) ?_ | refine rA_f ?_)) (hta) (ha) (by rfl) ?_
        refine g_aload_n (i := 0) dX8_seat_57 rfl rfl ?_
        refine g_get dX8_seat_58 fl_X8_68 (by repeat' (first | assumption | exact rF_eq | refine rF_ne (by decide) ?_ | refine rF_a ?_ | exact rA_eq | refine rA_ne (by decide) ?_ | refine rA_f ?_)) (by repeat' (first | assumption | exact rF_eq | refine rF_ne (by decide) ?_ | refine rF_a ?_ | exact rA_eq | refine rA_ne (by decide) ?_ | refine rA_f ?_)) ?_
        refine g_iload_n (i := 1) dX8_seat_61 rfl rfl ?_
        refine g_iload_n (i := 2) dX8_seat_62 rfl rfl ?_
        refine g_iast dX8_seat_63 (by repeat' (first | assumption | exact rF_eq | refine rF_ne (by decide) ?_ | refine rF_a ?_ | exact rA_eq | refine rA_ne (by decide) ?_ | refine rA_f ?_)) (hta) (ha) ?_
        refine g_iload_n (i := 3) dX8_seat_64 rfl rfl ?_
        refine g_iret dX8_seat_65 rfl (rfl) (hQ _ _ ?_)
        rw [e]
        refine ⟨?_, ⟨e1, e2, e3, rfl, rfl⟩, fr_sA (by decide) (fr_sA (by decide) (fr_sF (by decide) fr_rf))⟩
        first | rw [if_pos (by omega)] | rw [if_neg (by omega)]
      · have hd35 := mt i_eq.mpr hc35; (try simp (disch := omega) only [nT, t_m1000100, t_m1000010, t_m1000003, t_m1000002, t_m1000001, t_m1000000, t_m65535, t_m1000, t_m3, t_m1, t_0, t_1, t_2, t_3, t_4, t_5, t_6, t_7, t_8, t_9, t_10, t_11, t_12, t_13, t_15, t_16, t_20, t_21, t_22, t_32, t_40, t_41, t_48, t_49, t_57, t_59, t_60, t_63, t_72, t_76, t_88, t_100, t_144, t_200, t_255, t_288, t_400, t_800, t_999, t_1000, t_1024, t_1200, t_1600, t_3200, t_100000, t_200000, t_252645135, t_858993459, t_1431655765, u_m1000002, u_m1000001, u_m1000, u_m3, u_m1, u_0, u_1, u_2, u_3, u_4, u_5, u_7, u_8, u_10, u_11, u_15, u_60, u_100, u_255, u_999, u_1000, u_100000, u_4294967295] at hd35)
        refine g_ldc dX8_seat_38 kc_X8_142 ?_
        refine g_goto (tgt := 49) dX8_seat_40 (by decide) ?_
        refine g_istore_n (i := 3) dX8_seat_49 rfl (Nat.le_of_ble_eq_true rfl) rfl ?_
        refine g_aload_n (i := 0) dX8_seat_50 rfl rfl ?_
        refine g_get dX8_seat_51 fl_X8_71 (by repeat' (first | assumption | exact rF_eq | refine rF_ne (by decide) ?_ | refine rF_a ?_ | exact rA_eq | refine rA_ne (by decide) ?_ | refine rA_f ?_)) (by repeat' (first | assumption | exact rF_eq | refine rF_ne (by decide) ?_ | refine rF_a ?_ | exact rA_eq | refine rA_ne (by decide) ?_ | refine rA_f ?_)) ?_
        refine g_iload_n (i := 1) dX8_seat_54 rfl rfl ?_
        refine g_iconst (v := 0) dX8_seat_55 (by decide) ?_
        refine g_zast dX8_seat_56 (by repeat' (first | assumption | exact rF_eq | refine rF_ne (by decide) ?_ | refine rF_a ?_ | exact rA_eq | refine rA_ne (by decide) ?_ | refine rA_f ?_)) (hta) (ha) (by rfl) ?_
        refine g_aload_n (i := 0) dX8_seat_57 rfl rfl ?_
        refine g_get dX8_seat_58 fl_X8_68 (by repeat' (first | assumption | exact rF_eq | refine rF_ne (by decide) ?_ | refine rF_a ?_ | exact rA_eq | refine rA_ne (by decide) ?_ | refine rA_f ?_)) (by repeat' (first | assumption | exact rF_eq | refine rF_ne (by decide) ?_ | refine rF_a ?_ | exact rA_eq | refine rA_ne (by decide) ?_ | refine rA_f ?_)) ?_
        refine g_iload_n (i := 1) dX8_seat_61 rfl rfl ?_
        refine g_iload_n (i := 2) dX8_seat_62 rfl rfl ?_
        refine g_iast dX8_seat_63 (by repeat' (first | assumption | exact rF_eq | refine rF_ne (by decide) ?_ | refine rF_a ?_ | exact rA_eq | refine rA_ne (by decide) ?_ | refine rA_f ?_)) (hta) (ha) ?_
        refine g_iload_n (i := 3) dX8_seat_64 rfl rfl ?_
        refine g_iret dX8_seat_65 rfl (rfl) (hQ _ _ ?_)
        rw [e]
        refine ⟨?_, ⟨e1, e2, e3, rfl, rfl⟩, fr_sA (by decide) (fr_sA (by decide) (fr_sF (by decide) fr_rf))⟩
        first | rw [if_pos (by omega)] | rw [if_neg (by omega)]
    · replace hc23 := bI_0.mp hc23
      (try simp (disch := omega) only [nT, t_m1000100, t_m1000010, t_m1000003, t_m1000002, t_m1000001, t_m1000000, t_m65535, t_m1000, t_m3, t_m1, t_0, t_1, t_2, t_3, t_4, t_5, t_6, t_7, t_8, t_9, t_10, t_11, t_12, t_13, t_15, t_16, t_20, t_21, t_22, t_32, t_40, t_41, t_48, t_49, t_57, t_59, t_60, t_63, t_72, t_76, t_88, t_100, t_144, t_200, t_255, t_288, t_400, t_800, t_999, t_1000, t_1024, t_1200, t_1600, t_3200, t_100000, t_200000, t_252645135, t_858993459, t_1431655765, u_m1000002, u_m1000001, u_m1000, u_m3, u_m1, u_0, u_1, u_2, u_3, u_4, u_5, u_7, u_8, u_10, u_11, u_15, u_60, u_100, u_255, u_999, u_1000, u_100000, u_4294967295] at hc23)
      refine g_ldc dX8_seat_26 kc_X8_126 ?_
      refine g_iret dX8_seat_28 rfl (rfl) (hQ _ _ ?_)
      have e : opSeat (ad, de) s v = _ := if_pos (by omega)
      rw [e]; exact ⟨rfl, ⟨e1, e2, e3, e4, e5⟩, fr_sF (by decide) fr_rf⟩
theorem x_dead {w : ST2} {h : HH} (hg : GEX w h) (s : Int32) : CT mX7_dead 1 0 0 [.ref 0, .int s] h (fun r h' => r = some (.int (opDead w s).1) ∧ GEX (opDead w s).2 h' ∧ Fr [36, 37] [] h h') := by
  obtain ⟨ad, de⟩ := w
  have hg0 := hg
  obtain ⟨e1, e2, e3, e4, e5⟩ := hg
  dsimp only at e4 e5
  refine CT.go [.ref 0, .int s, hU] (by decide +kernel) rfl rfl (fun Q' hQ => ?_)
  refine g_iload_n (i := 1) dX7_dead_0 rfl rfl ?_
  refine g_bipush (v := 8) dX7_dead_1 (by decide) ?_
  refine g_callS (M' := mX7_isWithin) dX7_dead_3 lc_X7_isWithin ml_X7_90 (c_isWithin h s 8 8 rfl) rfl rfl ⟨Nat.le_of_ble_eq_true rfl, Nat.le_of_ble_eq_true rfl, Nat.le_of_ble_eq_true rfl, Nat.le_of_ble_eq_true rfl⟩ (Nat.le_of_ble_eq_true rfl) ?_
  intro r_ h_ q_; obtain ⟨q1_, q2_⟩ := q_; have q2_ := q2_.symm; subst q1_; subst q2_
  refine g_if_ne (tgt := 12) dX7_dead_6 (by decide) (fun hc6 => ?_) (fun hc6 => ?_)
  · replace hc6 := bI_n0.mp hc6
    (try simp (disch := omega) only [nT, t_m1000100, t_m1000010, t_m1000003, t_m1000002, t_m1000001, t_m1000000, t_m65535, t_m1000, t_m3, t_m1, t_0, t_1, t_2, t_3, t_4, t_5, t_6, t_7, t_8, t_9, t_10, t_11, t_12, t_13, t_15, t_16, t_20, t_21, t_22, t_32, t_40, t_41, t_48, t_49, t_57, t_59, t_60, t_63, t_72, t_76, t_88, t_100, t_144, t_200, t_255, t_288, t_400, t_800, t_999, t_1000, t_1024, t_1200, t_1600, t_3200, t_100000, t_200000, t_252645135, t_858993459, t_1431655765, u_m1000002, u_m1000001, u_m1000, u_m3, u_m1, u_0, u_1, u_2, u_3, u_4, u_5, u_7, u_8, u_10, u_11, u_15, u_60, u_100, u_255, u_999, u_1000, u_100000, u_4294967295] at hc6)
    have e : opDead (ad, de) s = _ := if_neg (by omega)
    obtain ⟨a, ha, rfl, hta⟩ := n_of (n := 8) (x := s) (by omega) (by omega)
    dsimp only at e
    rw [nTN (by omega)] at e
    refine g_aload_n (i := 0) dX7_dead_12 rfl rfl ?_
    refine g_get dX7_dead_13 fl_X7_63 (by repeat' (first | assumption | exact rF_eq | refine rF_ne (by decide) ?_ | refine rF_a ?_ | exact rA_eq | refine rA_ne (by decide) ?_ | refine rA_f ?_)) (by repeat' (first | assumption | exact rF_eq | refine rF_ne (by decide) ?_ | refine rF_a ?_ | exact rA_eq | refine rA_ne (by decide) ?_ | refine rA_f ?_)) ?_
    refine g_iload_n (i := 1) dX7_dead_16 rfl rfl ?_
    refine g_zald dX7_dead_17 (by repeat' (first | assumption | exact rF_eq | refine rF_ne (by decide) ?_ | refine rF_a ?_ | exact rA_eq | refine rA_ne (by decide) ?_ | refine rA_f ?_)) (hta) (ha) ?_
    refine g_if_eq (tgt := 25) dX7_dead_18 (by decide) (fun hc18 => ?_) (fun hc18 => ?_)
    · have hd18 := i_eq.mp hc18; (try simp (disch := omega) only [nT, t_m1000100, t_m1000010, t_m1000003, t_m1000002, t_m1000001, t_m1000000, t_m65535, t_m1000, t_m3, t_m1, t_0, t_1, t_2, t_3, t_4, t_5, t_6, t_7, t_8, t_9, t_10, t_11, t_12, t_13, t_15, t_16, t_20, t_21, t_22, t_32, t_40, t_41, t_48, t_49, t_57, t_59, t_60, t_63, t_72, t_76, t_88, t_100, t_144, t_200, t_255, t_288, t_400, t_800, t_999, t_1000, t_1024, t_1200, t_1600, t_3200, t_100000, t_200000, t_252645135, t_858993459, t_1431655765, u_m1000002, u_m1000001, u_m1000, u_m3, u_m1, u_0, u_1, u_2, u_3, u_4, u_5, u_7, u_8, u_10, u_11, u_15, u_60, u_100, u_255, u_999, u_1000, u_100000, u_4294967295] at hd18)
      refine g_iconst (v := 1) dX7_dead_25 (by decide) ?_
      refine g_istore_n (i := 2) dX7_dead_26 rfl (Nat.le_of_ble_eq_true rfl) rfl ?_
      refine g_aload_n (i := 0) dX7_dead_27 rfl rfl ?_
      refine g_get dX7_dead_28 fl_X7_63 (by repeat' (first | assumption | exact rF_eq | refine rF_ne (by decide) ?_ | refine rF_a ?_ | exact rA_eq | refine rA_ne (by decide) ?_ | refine rA_f ?_)) (by repeat' (first | assumption | exact rF_eq | refine rF_ne (by decide) ?_ | refine rF_a ?_ | exact rA_eq | refine rA_ne (by decide) ?_ | refine rA_f ?_)) ?_
      refine g_iload_n (i := 1) dX7_dead_31 rfl rfl ?_
      refine g_iconst (v := 1) dX7_dead_32 (by decide) ?_
      refine g_zast dX7_dead_33 (by repeat' (first | assumption | exact rF_eq | refine rF_ne (by decide) ?_ | refine rF_a ?_ | exact rA_eq | refine rA_ne (by decide) ?_ | refine rA_f ?_)) (hta) (ha) (by rfl) ?_
      refine g_iload_n (i := 2) dX7_dead_34 rfl rfl ?_
      refine g_iret dX7_dead_35 rfl (rfl) (hQ _ _ ?_)
      rw [e]
      refine ⟨?_, ⟨e1, e2, e3, e4, rfl⟩, fr_sA (by decide) fr_rf⟩
      first | rw [if_pos (by omega)] | rw [if_neg (by omega)]
    · have hd18 := mt i_eq.mpr hc18; (try simp (disch := omega) only [nT, t_m1000100, t_m1000010, t_m1000003, t_m1000002, t_m1000001, t_m1000000, t_m65535, t_m1000, t_m3, t_m1, t_0, t_1, t_2, t_3, t_4, t_5, t_6, t_7, t_8, t_9, t_10, t_11, t_12, t_13, t_15, t_16, t_20, t_21, t_22, t_32, t_40, t_41, t_48, t_49, t_57, t_59, t_60, t_63, t_72, t_76, t_88, t_100, t_144, t_200, t_255, t_288, t_400, t_800, t_999, t_1000, t_1024, t_1200, t_1600, t_3200, t_100000, t_200000, t_252645135, t_858993459, t_1431655765, u_m1000002, u_m1000001, u_m1000, u_m3, u_m1, u_0, u_1, u_2, u_3, u_4, u_5, u_7, u_8, u_10, u_11, u_15, u_60, u_100, u_255, u_999, u_1000, u_100000, u_4294967295] at hd18)
      refine g_iconst (v := 0) dX7_dead_21 (by decide) ?_
      refine g_goto (tgt := 26) dX7_dead_22 (by decide) ?_
      refine g_istore_n (i := 2) dX7_dead_26 rfl (Nat.le_of_ble_eq_true rfl) rfl ?_
      refine g_aload_n (i := 0) dX7_dead_27 rfl rfl ?_
      refine g_get dX7_dead_28 fl_X7_63 (by repeat' (first | assumption | exact rF_eq | refine rF_ne (by decide) ?_ | refine rF_a ?_ | exact rA_eq | refine rA_ne (by decide) ?_ | refine rA_f ?_)) (by repeat' (first | assumption | exact rF_eq | refine rF_ne (by decide) ?_ | refine rF_a ?_ | exact rA_eq | refine rA_ne (by decide) ?_ | refine rA_f ?_)) ?_
      refine g_iload_n (i := 1) dX7_dead_31 rfl rfl ?_
      refine g_iconst (v := 1) dX7_dead_32 (by decide) ?_
      refine g_zast dX7_dead_33 (by repeat' (first | assumption | exact rF_eq | refine rF_ne (by decide) ?_ | refine rF_a ?_ | exact rA_eq | refine rA_ne (by decide) ?_ | refine rA_f ?_)) (hta) (ha) (by rfl) ?_
      refine g_iload_n (i := 2) dX7_dead_34 rfl rfl ?_
      refine g_iret dX7_dead_35 rfl (rfl) (hQ _ _ ?_)
      rw [e]
      refine ⟨?_, ⟨e1, e2, e3, e4, rfl⟩, fr_sA (by decide) fr_rf⟩
      first | rw [if_pos (by omega)] | rw [if_neg (by omega)]
  · replace hc6 := bI_0.mp hc6
    (try simp (disch := omega) only [nT, t_m1000100, t_m1000010, t_m1000003, t_m1000002, t_m1000001, t_m1000000, t_m65535, t_m1000, t_m3, t_m1, t_0, t_1, t_2, t_3, t_4, t_5, t_6, t_7, t_8, t_9, t_10, t_11, t_12, t_13, t_15, t_16, t_20, t_21, t_22, t_32, t_40, t_41, t_48, t_49, t_57, t_59, t_60, t_63, t_72, t_76, t_88, t_100, t_144, t_200, t_255, t_288, t_400, t_800, t_999, t_1000, t_1024, t_1200, t_1600, t_3200, t_100000, t_200000, t_252645135, t_858993459, t_1431655765, u_m1000002, u_m1000001, u_m1000, u_m3, u_m1, u_0, u_1, u_2, u_3, u_4, u_5, u_7, u_8, u_10, u_11, u_15, u_60, u_100, u_255, u_999, u_1000, u_100000, u_4294967295] at hc6)
    refine g_ldc dX7_dead_9 kc_X7_94 ?_
    refine g_iret dX7_dead_11 rfl (rfl) (hQ _ _ ?_)
    have e : opDead (ad, de) s = _ := if_pos (by omega)
    rw [e]; exact ⟨rfl, hg0, fr_rf⟩
theorem m_dead {w : ST2} {h : HH} (hg : GEM w h) (s : Int32) : CT mX8_dead 2 0 0 [.ref 44, .int s] h (fun r h' => r = some (.int (opDead w s).1) ∧ GEM (opDead w s).2 h' ∧ Fr [64, 65] [(44, 0)] h h') := by
  obtain ⟨ad, de⟩ := w
  have hg0 := hg
  obtain ⟨e1, e2, e3, e4, e5⟩ := hg
  dsimp only at e4 e5
  refine CT.go [.ref 44, .int s, hU] (by decide +kernel) rfl rfl (fun Q' hQ => ?_)
  refine g_aload_n (i := 0) dX8_dead_0 rfl rfl ?_
  refine g_iconst (v := 0) dX8_dead_1 (by decide) ?_
  refine g_put dX8_dead_2 pl_X8_107 (by repeat' (first | assumption | exact rF_eq | refine rF_ne (by decide) ?_ | refine rF_a ?_ | exact rA_eq | refine rA_ne (by decide) ?_ | refine rA_f ?_)) (fun _ => ⟨rfl, rfl⟩) ?_
  refine g_iload_n (i := 1) dX8_dead_5 rfl rfl ?_
  refine g_callS (M' := mX8_isSeat) dX8_dead_6 lc_X8_isSeat ml_X8_224 (c_isSeat _ s) rfl rfl ⟨Nat.le_of_ble_eq_true rfl, Nat.le_of_ble_eq_true rfl, Nat.le_of_ble_eq_true rfl, Nat.le_of_ble_eq_true rfl⟩ (Nat.le_of_ble_eq_true rfl) ?_
  intro r_ h_ q_; obtain ⟨q1_, q2_⟩ := q_; have q2_ := q2_.symm; subst q1_; subst q2_
  refine g_if_ne (tgt := 15) dX8_dead_9 (by decide) (fun hc9 => ?_) (fun hc9 => ?_)
  · replace hc9 := bI_n0.mp hc9
    (try simp (disch := omega) only [nT, t_m1000100, t_m1000010, t_m1000003, t_m1000002, t_m1000001, t_m1000000, t_m65535, t_m1000, t_m3, t_m1, t_0, t_1, t_2, t_3, t_4, t_5, t_6, t_7, t_8, t_9, t_10, t_11, t_12, t_13, t_15, t_16, t_20, t_21, t_22, t_32, t_40, t_41, t_48, t_49, t_57, t_59, t_60, t_63, t_72, t_76, t_88, t_100, t_144, t_200, t_255, t_288, t_400, t_800, t_999, t_1000, t_1024, t_1200, t_1600, t_3200, t_100000, t_200000, t_252645135, t_858993459, t_1431655765, u_m1000002, u_m1000001, u_m1000, u_m3, u_m1, u_0, u_1, u_2, u_3, u_4, u_5, u_7, u_8, u_10, u_11, u_15, u_60, u_100, u_255, u_999, u_1000, u_100000, u_4294967295] at hc9)
    have e : opDead (ad, de) s = _ := if_neg (by omega)
    obtain ⟨a, ha, rfl, hta⟩ := n_of (n := 8) (x := s) (by omega) (by omega)
    dsimp only at e
    rw [nTN (by omega)] at e
    refine g_aload_n (i := 0) dX8_dead_15 rfl rfl ?_
    refine g_get dX8_dead_16 fl_X8_71 (by repeat' (first | assumption | exact rF_eq | refine rF_ne (by decide) ?_ | refine rF_a ?_ | exact rA_eq | refine rA_ne (by decide) ?_ | refine rA_f ?_)) (by repeat' (first | assumption | exact rF_eq | refine rF_ne (by decide) ?_ | refine rF_a ?_ | exact rA_eq | refine rA_ne (by decide) ?_ | refine rA_f ?_)) ?_
    refine g_iload_n (i := 1) dX8_dead_19 rfl rfl ?_
    refine g_zald dX8_dead_20 (by repeat' (first | assumption | exact rF_eq | refine rF_ne (by decide) ?_ | refine rF_a ?_ | exact rA_eq | refine rA_ne (by decide) ?_ | refine rA_f ?_)) (hta) (ha) ?_
    refine g_istore_n (i := 2) dX8_dead_21 rfl (Nat.le_of_ble_eq_true rfl) rfl ?_
    refine g_aload_n (i := 0) dX8_dead_22 rfl rfl ?_
    refine g_get dX8_dead_23 fl_X8_71 (by repeat' (first | assumption | exact rF_eq | refine rF_ne (by decide) ?_ | refine rF_a ?_ | exact rA_eq | refine rA_ne (by decide) ?_ | refine rA_f ?_)) (by repeat' (first | assumption | exact rF_eq | refine rF_ne (by decide) ?_ | refine rF_a ?_ | exact rA_eq | refine rA_ne (by decide) ?_ | refine rA_f ?_)) ?_
    refine g_iload_n (i := 1) dX8_dead_26 rfl rfl ?_
    refine g_iconst (v := 1) dX8_dead_27 (by decide) ?_
    refine g_zast dX8_dead_28 (by repeat' (first | assumption | exact rF_eq | refine rF_ne (by decide) ?_ | refine rF_a ?_ | exact rA_eq | refine rA_ne (by decide) ?_ | refine rA_f ?_)) (hta) (ha) (by rfl) ?_
    refine g_iload_n (i := 2) dX8_dead_29 rfl rfl ?_
    refine g_if_eq (tgt := 37) dX8_dead_30 (by decide) (fun hc30 => ?_) (fun hc30 => ?_)
    · have hd30 := i_eq.mp hc30; (try simp (disch := omega) only [nT, t_m1000100, t_m1000010, t_m1000003, t_m1000002, t_m1000001, t_m1000000, t_m65535, t_m1000, t_m3, t_m1, t_0, t_1, t_2, t_3, t_4, t_5, t_6, t_7, t_8, t_9, t_10, t_11, t_12, t_13, t_15, t_16, t_20, t_21, t_22, t_32, t_40, t_41, t_48, t_49, t_57, t_59, t_60, t_63, t_72, t_76, t_88, t_100, t_144, t_200, t_255, t_288, t_400, t_800, t_999, t_1000, t_1024, t_1200, t_1600, t_3200, t_100000, t_200000, t_252645135, t_858993459, t_1431655765, u_m1000002, u_m1000001, u_m1000, u_m3, u_m1, u_0, u_1, u_2, u_3, u_4, u_5, u_7, u_8, u_10, u_11, u_15, u_60, u_100, u_255, u_999, u_1000, u_100000, u_4294967295] at hd30)
      refine g_iconst (v := 1) dX8_dead_37 (by decide) ?_
      refine g_iret dX8_dead_38 rfl (rfl) (hQ _ _ ?_)
      rw [e]
      refine ⟨?_, ⟨e1, e2, e3, e4, rfl⟩, fr_sA (by decide) (fr_sF (by decide) fr_rf)⟩
      first | rw [if_pos (by omega)] | rw [if_neg (by omega)]
    · have hd30 := mt i_eq.mpr hc30; (try simp (disch := omega) only [nT, t_m1000100, t_m1000010, t_m1000003, t_m1000002, t_m1000001, t_m1000000, t_m65535, t_m1000, t_m3, t_m1, t_0, t_1, t_2, t_3, t_4, t_5, t_6, t_7, t_8, t_9, t_10, t_11, t_12, t_13, t_15, t_16, t_20, t_21, t_22, t_32, t_40, t_41, t_48, t_49, t_57, t_59, t_60, t_63, t_72, t_76, t_88, t_100, t_144, t_200, t_255, t_288, t_400, t_800, t_999, t_1000, t_1024, t_1200, t_1600, t_3200, t_100000, t_200000, t_252645135, t_858993459, t_1431655765, u_m1000002, u_m1000001, u_m1000, u_m3, u_m1, u_0, u_1, u_2, u_3, u_4, u_5, u_7, u_8, u_10, u_11, u_15, u_60, u_100, u_255, u_999, u_1000, u_100000, u_4294967295] at hd30)
      refine g_iconst (v := 0) dX8_dead_33 (by decide) ?_
      refine g_goto (tgt := 38) dX8_dead_34 (by decide) ?_
      refine g_iret dX8_dead_38 rfl (rfl) (hQ _ _ ?_)
      rw [e]
      refine ⟨?_, ⟨e1, e2, e3, e4, rfl⟩, fr_sA (by decide) (fr_sF (by decide) fr_rf)⟩
      first | rw [if_pos (by omega)] | rw [if_neg (by omega)]
  · replace hc9 := bI_0.mp hc9
    (try simp (disch := omega) only [nT, t_m1000100, t_m1000010, t_m1000003, t_m1000002, t_m1000001, t_m1000000, t_m65535, t_m1000, t_m3, t_m1, t_0, t_1, t_2, t_3, t_4, t_5, t_6, t_7, t_8, t_9, t_10, t_11, t_12, t_13, t_15, t_16, t_20, t_21, t_22, t_32, t_40, t_41, t_48, t_49, t_57, t_59, t_60, t_63, t_72, t_76, t_88, t_100, t_144, t_200, t_255, t_288, t_400, t_800, t_999, t_1000, t_1024, t_1200, t_1600, t_3200, t_100000, t_200000, t_252645135, t_858993459, t_1431655765, u_m1000002, u_m1000001, u_m1000, u_m3, u_m1, u_0, u_1, u_2, u_3, u_4, u_5, u_7, u_8, u_10, u_11, u_15, u_60, u_100, u_255, u_999, u_1000, u_100000, u_4294967295] at hc9)
    refine g_ldc dX8_dead_12 kc_X8_126 ?_
    refine g_iret dX8_dead_14 rfl (rfl) (hQ _ _ ?_)
    have e : opDead (ad, de) s = _ := if_pos (by omega)
    rw [e]; exact ⟨rfl, ⟨e1, e2, e3, e4, e5⟩, fr_sF (by decide) fr_rf⟩
abbrev LA : Type := Int32 × Int32
def opLaw (w : LA) (b n : Int32) : Int32 × LA :=
  if ¬ (b &&& -65535 = 0) ∨ n.toInt < 1 ∨ 4 < n.toInt then (-1000001, w) else (1, b, n)
def GLX (w : LA) (h : HH) : Prop := gA h 0 = aO 7 ∧ gF h 0 11 = .int w.1 ∧ gF h 0 12 = .int w.2
def GLM (w : LA) (h : HH) : Prop := gA h 44 = aO 8 ∧ gF h 44 34 = .int w.1 ∧ gF h 44 35 = .int w.2
theorem x_law {w : LA} {h : HH} (hg : GLX w h) (b n : Int32) : CT mX7_law 0 0 0 [.ref 0, .int b, .int n] h (fun r h' => r = some (.int (opLaw w b n).1) ∧ GLX (opLaw w b n).2 h' ∧ Fr [] [(0, 11), (0, 12)] h h') := by
  have hg0 := hg
  obtain ⟨e1, e2, e3⟩ := hg
  refine CT.go [.ref 0, .int b, .int n] (by decide +kernel) rfl rfl (fun Q' hQ => ?_)
  refine g_iload_n (i := 1) dX7_law_0 rfl rfl ?_
  refine g_ldc dX7_law_1 kc_X7_231 ?_
  refine g_iand dX7_law_3 ?_
  refine g_if_ne (tgt := 17) dX7_law_4 (by decide) (fun hc4 => ?_) (fun hc4 => ?_)
  · have hd4 := mt i_eq.mpr hc4; (try simp (disch := omega) only [nT, t_m1000100, t_m1000010, t_m1000003, t_m1000002, t_m1000001, t_m1000000, t_m65535, t_m1000, t_m3, t_m1, t_0, t_1, t_2, t_3, t_4, t_5, t_6, t_7, t_8, t_9, t_10, t_11, t_12, t_13, t_15, t_16, t_20, t_21, t_22, t_32, t_40, t_41, t_48, t_49, t_57, t_59, t_60, t_63, t_72, t_76, t_88, t_100, t_144, t_200, t_255, t_288, t_400, t_800, t_999, t_1000, t_1024, t_1200, t_1600, t_3200, t_100000, t_200000, t_252645135, t_858993459, t_1431655765, u_m1000002, u_m1000001, u_m1000, u_m3, u_m1, u_0, u_1, u_2, u_3, u_4, u_5, u_7, u_8, u_10, u_11, u_15, u_60, u_100, u_255, u_999, u_1000, u_100000, u_4294967295] at hd4)
    refine g_ldc dX7_law_17 kc_X7_94 ?_
    refine g_iret dX7_law_19 rfl (rfl) (hQ _ _ ?_)
    have e : opLaw w b n = _ := if_pos (by first | exact Or.inl hc4 | exact Or.inr (by omega))
    rw [e]; exact ⟨rfl, hg0, fr_rf⟩
  · have hd4 := i_eq.mp hc4; (try simp (disch := omega) only [nT, t_m1000100, t_m1000010, t_m1000003, t_m1000002, t_m1000001, t_m1000000, t_m65535, t_m1000, t_m3, t_m1, t_0, t_1, t_2, t_3, t_4, t_5, t_6, t_7, t_8, t_9, t_10, t_11, t_12, t_13, t_15, t_16, t_20, t_21, t_22, t_32, t_40, t_41, t_48, t_49, t_57, t_59, t_60, t_63, t_72, t_76, t_88, t_100, t_144, t_200, t_255, t_288, t_400, t_800, t_999, t_1000, t_1024, t_1200, t_1600, t_3200, t_100000, t_200000, t_252645135, t_858993459, t_1431655765, u_m1000002, u_m1000001, u_m1000, u_m3, u_m1, u_0, u_1, u_2, u_3, u_4, u_5, u_7, u_8, u_10, u_11, u_15, u_60, u_100, u_255, u_999, u_1000, u_100000, u_4294967295] at hd4)
    refine g_iload_n (i := 2) dX7_law_7 rfl rfl ?_
    refine g_iconst (v := 1) dX7_law_8 (by decide) ?_
    refine g_icmp_lt (tgt := 17) dX7_law_9 (by decide) (fun hc9 => ?_) (fun hc9 => ?_)
    · (try simp (disch := omega) only [nT, t_m1000100, t_m1000010, t_m1000003, t_m1000002, t_m1000001, t_m1000000, t_m65535, t_m1000, t_m3, t_m1, t_0, t_1, t_2, t_3, t_4, t_5, t_6, t_7, t_8, t_9, t_10, t_11, t_12, t_13, t_15, t_16, t_20, t_21, t_22, t_32, t_40, t_41, t_48, t_49, t_57, t_59, t_60, t_63, t_72, t_76, t_88, t_100, t_144, t_200, t_255, t_288, t_400, t_800, t_999, t_1000, t_1024, t_1200, t_1600, t_3200, t_100000, t_200000, t_252645135, t_858993459, t_1431655765, u_m1000002, u_m1000001, u_m1000, u_m3, u_m1, u_0, u_1, u_2, u_3, u_4, u_5, u_7, u_8, u_10, u_11, u_15, u_60, u_100, u_255, u_999, u_1000, u_100000, u_4294967295] at hc9)
      refine g_ldc dX7_law_17 kc_X7_94 ?_
      refine g_iret dX7_law_19 rfl (rfl) (hQ _ _ ?_)
      have e : opLaw w b n = _ := if_pos (by first | exact Or.inl hc4 | exact Or.inr (by omega))
      rw [e]; exact ⟨rfl, hg0, fr_rf⟩
    · (try simp (disch := omega) only [nT, t_m1000100, t_m1000010, t_m1000003, t_m1000002, t_m1000001, t_m1000000, t_m65535, t_m1000, t_m3, t_m1, t_0, t_1, t_2, t_3, t_4, t_5, t_6, t_7, t_8, t_9, t_10, t_11, t_12, t_13, t_15, t_16, t_20, t_21, t_22, t_32, t_40, t_41, t_48, t_49, t_57, t_59, t_60, t_63, t_72, t_76, t_88, t_100, t_144, t_200, t_255, t_288, t_400, t_800, t_999, t_1000, t_1024, t_1200, t_1600, t_3200, t_100000, t_200000, t_252645135, t_858993459, t_1431655765, u_m1000002, u_m1000001, u_m1000, u_m3, u_m1, u_0, u_1, u_2, u_3, u_4, u_5, u_7, u_8, u_10, u_11, u_15, u_60, u_100, u_255, u_999, u_1000, u_100000, u_4294967295] at hc9)
      refine g_iload_n (i := 2) dX7_law_12 rfl rfl ?_
      refine g_iconst (v := 4) dX7_law_13 (by decide) ?_
      refine g_icmp_le (tgt := 20) dX7_law_14 (by decide) (fun hc14 => ?_) (fun hc14 => ?_)
      · (try simp (disch := omega) only [nT, t_m1000100, t_m1000010, t_m1000003, t_m1000002, t_m1000001, t_m1000000, t_m65535, t_m1000, t_m3, t_m1, t_0, t_1, t_2, t_3, t_4, t_5, t_6, t_7, t_8, t_9, t_10, t_11, t_12, t_13, t_15, t_16, t_20, t_21, t_22, t_32, t_40, t_41, t_48, t_49, t_57, t_59, t_60, t_63, t_72, t_76, t_88, t_100, t_144, t_200, t_255, t_288, t_400, t_800, t_999, t_1000, t_1024, t_1200, t_1600, t_3200, t_100000, t_200000, t_252645135, t_858993459, t_1431655765, u_m1000002, u_m1000001, u_m1000, u_m3, u_m1, u_0, u_1, u_2, u_3, u_4, u_5, u_7, u_8, u_10, u_11, u_15, u_60, u_100, u_255, u_999, u_1000, u_100000, u_4294967295] at hc14)
        refine g_aload_n (i := 0) dX7_law_20 rfl rfl ?_
        refine g_iload_n (i := 1) dX7_law_21 rfl rfl ?_
        refine g_put dX7_law_22 pl_X7_67 (by repeat' (first | assumption | exact rF_eq | refine rF_ne (by decide) ?_ | refine rF_a ?_ | exact rA_eq | refine rA_ne (by decide) ?_ | refine rA_f ?_)) (fun _ => ⟨rfl, rfl⟩) ?_
        refine g_aload_n (i := 0) dX7_law_25 rfl rfl ?_
        refine g_iload_n (i := 2) dX7_law_26 rfl rfl ?_
        refine g_put dX7_law_27 pl_X7_70 (by repeat' (first | assumption | exact rF_eq | refine rF_ne (by decide) ?_ | refine rF_a ?_ | exact rA_eq | refine rA_ne (by decide) ?_ | refine rA_f ?_)) (fun _ => ⟨rfl, rfl⟩) ?_
        refine g_iconst (v := 1) dX7_law_30 (by decide) ?_
        refine g_iret dX7_law_31 rfl (rfl) (hQ _ _ ?_)
        have e : opLaw w b n = _ := if_neg (by rintro (q | q | q); exact q hc4; omega; omega)
        rw [e]; exact ⟨rfl, ⟨e1, rfl, rfl⟩, fr_sF (by decide) (fr_sF (by decide) fr_rf)⟩
      · (try simp (disch := omega) only [nT, t_m1000100, t_m1000010, t_m1000003, t_m1000002, t_m1000001, t_m1000000, t_m65535, t_m1000, t_m3, t_m1, t_0, t_1, t_2, t_3, t_4, t_5, t_6, t_7, t_8, t_9, t_10, t_11, t_12, t_13, t_15, t_16, t_20, t_21, t_22, t_32, t_40, t_41, t_48, t_49, t_57, t_59, t_60, t_63, t_72, t_76, t_88, t_100, t_144, t_200, t_255, t_288, t_400, t_800, t_999, t_1000, t_1024, t_1200, t_1600, t_3200, t_100000, t_200000, t_252645135, t_858993459, t_1431655765, u_m1000002, u_m1000001, u_m1000, u_m3, u_m1, u_0, u_1, u_2, u_3, u_4, u_5, u_7, u_8, u_10, u_11, u_15, u_60, u_100, u_255, u_999, u_1000, u_100000, u_4294967295] at hc14)
        refine g_ldc dX7_law_17 kc_X7_94 ?_
        refine g_iret dX7_law_19 rfl (rfl) (hQ _ _ ?_)
        have e : opLaw w b n = _ := if_pos (by first | exact Or.inl hc4 | exact Or.inr (by omega))
        rw [e]; exact ⟨rfl, hg0, fr_rf⟩
theorem m_law {w : LA} {h : HH} (hg : GLM w h) (b n : Int32) : CT mX8_law 1 0 0 [.ref 44, .int b, .int n] h (fun r h' => r = some (.int (opLaw w b n).1) ∧ GLM (opLaw w b n).2 h' ∧ Fr [] [(44, 0), (44, 34), (44, 35)] h h') := by
  have hg0 := hg
  obtain ⟨e1, e2, e3⟩ := hg
  refine CT.go [.ref 44, .int b, .int n] (by decide +kernel) rfl rfl (fun Q' hQ => ?_)
  refine g_aload_n (i := 0) dX8_law_0 rfl rfl ?_
  refine g_iconst (v := 0) dX8_law_1 (by decide) ?_
  refine g_put dX8_law_2 pl_X8_107 (by repeat' (first | assumption | exact rF_eq | refine rF_ne (by decide) ?_ | refine rF_a ?_ | exact rA_eq | refine rA_ne (by decide) ?_ | refine rA_f ?_)) (fun _ => ⟨rfl, rfl⟩) ?_
  refine g_iload_n (i := 1) dX8_law_5 rfl rfl ?_
  refine g_ldc dX8_law_6 kc_X8_231 ?_
  refine g_iand dX8_law_8 ?_
  refine g_if_ne (tgt := 24) dX8_law_9 (by decide) (fun hc9 => ?_) (fun hc9 => ?_)
  · have hd9 := mt i_eq.mpr hc9; (try simp (disch := omega) only [nT, t_m1000100, t_m1000010, t_m1000003, t_m1000002, t_m1000001, t_m1000000, t_m65535, t_m1000, t_m3, t_m1, t_0, t_1, t_2, t_3, t_4, t_5, t_6, t_7, t_8, t_9, t_10, t_11, t_12, t_13, t_15, t_16, t_20, t_21, t_22, t_32, t_40, t_41, t_48, t_49, t_57, t_59, t_60, t_63, t_72, t_76, t_88, t_100, t_144, t_200, t_255, t_288, t_400, t_800, t_999, t_1000, t_1024, t_1200, t_1600, t_3200, t_100000, t_200000, t_252645135, t_858993459, t_1431655765, u_m1000002, u_m1000001, u_m1000, u_m3, u_m1, u_0, u_1, u_2, u_3, u_4, u_5, u_7, u_8, u_10, u_11, u_15, u_60, u_100, u_255, u_999, u_1000, u_100000, u_4294967295] at hd9)
    refine g_ldc dX8_law_24 kc_X8_126 ?_
    refine g_iret dX8_law_26 rfl (rfl) (hQ _ _ ?_)
    have e : opLaw w b n = _ := if_pos (by first | exact Or.inl hc9 | exact Or.inr (by omega))
    rw [e]; exact ⟨rfl, ⟨e1, e2, e3⟩, fr_sF (by decide) fr_rf⟩
  · have hd9 := i_eq.mp hc9; (try simp (disch := omega) only [nT, t_m1000100, t_m1000010, t_m1000003, t_m1000002, t_m1000001, t_m1000000, t_m65535, t_m1000, t_m3, t_m1, t_0, t_1, t_2, t_3, t_4, t_5, t_6, t_7, t_8, t_9, t_10, t_11, t_12, t_13, t_15, t_16, t_20, t_21, t_22, t_32, t_40, t_41, t_48, t_49, t_57, t_59, t_60, t_63, t_72, t_76, t_88, t_100, t_144, t_200, t_255, t_288, t_400, t_800, t_999, t_1000, t_1024, t_1200, t_1600, t_3200, t_100000, t_200000, t_252645135, t_858993459, t_1431655765, u_m1000002, u_m1000001, u_m1000, u_m3, u_m1, u_0, u_1, u_2, u_3, u_4, u_5, u_7, u_8, u_10, u_11, u_15, u_60, u_100, u_255, u_999, u_1000, u_100000, u_4294967295] at hd9)
    refine g_iload_n (i := 2) dX8_law_12 rfl rfl ?_
    refine g_i2l dX8_law_13 ?_
    refine g_lconst (v := 1) dX8_law_14 (by decide) ?_
    refine g_ldc2 dX8_law_15 kc_X8_232 ?_
    refine g_callS (M' := mX8_in) dX8_law_18 lc_X8_in ml_X8_116 (c_in _ n.toInt64 1 4 1 4 rfl rfl) rfl rfl ⟨Nat.le_of_ble_eq_true rfl, Nat.le_of_ble_eq_true rfl, Nat.le_of_ble_eq_true rfl, Nat.le_of_ble_eq_true rfl⟩ (Nat.le_of_ble_eq_true rfl) ?_
    intro r_ h_ q_; obtain ⟨q1_, q2_⟩ := q_; have q2_ := q2_.symm; subst q1_; subst q2_
    rw [l_i]
    refine g_if_ne (tgt := 27) dX8_law_21 (by decide) (fun hc21 => ?_) (fun hc21 => ?_)
    · replace hc21 := bI_n0.mp hc21
      (try simp (disch := omega) only [nT, t_m1000100, t_m1000010, t_m1000003, t_m1000002, t_m1000001, t_m1000000, t_m65535, t_m1000, t_m3, t_m1, t_0, t_1, t_2, t_3, t_4, t_5, t_6, t_7, t_8, t_9, t_10, t_11, t_12, t_13, t_15, t_16, t_20, t_21, t_22, t_32, t_40, t_41, t_48, t_49, t_57, t_59, t_60, t_63, t_72, t_76, t_88, t_100, t_144, t_200, t_255, t_288, t_400, t_800, t_999, t_1000, t_1024, t_1200, t_1600, t_3200, t_100000, t_200000, t_252645135, t_858993459, t_1431655765, u_m1000002, u_m1000001, u_m1000, u_m3, u_m1, u_0, u_1, u_2, u_3, u_4, u_5, u_7, u_8, u_10, u_11, u_15, u_60, u_100, u_255, u_999, u_1000, u_100000, u_4294967295] at hc21)
      refine g_aload_n (i := 0) dX8_law_27 rfl rfl ?_
      refine g_iload_n (i := 1) dX8_law_28 rfl rfl ?_
      refine g_put dX8_law_29 pl_X8_234 (by repeat' (first | assumption | exact rF_eq | refine rF_ne (by decide) ?_ | refine rF_a ?_ | exact rA_eq | refine rA_ne (by decide) ?_ | refine rA_f ?_)) (fun _ => ⟨rfl, rfl⟩) ?_
      refine g_aload_n (i := 0) dX8_law_32 rfl rfl ?_
      refine g_iload_n (i := 2) dX8_law_33 rfl rfl ?_
      refine g_put dX8_law_34 pl_X8_75 (by repeat' (first | assumption | exact rF_eq | refine rF_ne (by decide) ?_ | refine rF_a ?_ | exact rA_eq | refine rA_ne (by decide) ?_ | refine rA_f ?_)) (fun _ => ⟨rfl, rfl⟩) ?_
      refine g_iconst (v := 1) dX8_law_37 (by decide) ?_
      refine g_iret dX8_law_38 rfl (rfl) (hQ _ _ ?_)
      have e : opLaw w b n = _ := if_neg (by rintro (q | q | q); exact q hc9; omega; omega)
      rw [e]; exact ⟨rfl, ⟨e1, rfl, rfl⟩, fr_sF (by decide) (fr_sF (by decide) (fr_sF (by decide) fr_rf))⟩
    · replace hc21 := bI_0.mp hc21
      (try simp (disch := omega) only [nT, t_m1000100, t_m1000010, t_m1000003, t_m1000002, t_m1000001, t_m1000000, t_m65535, t_m1000, t_m3, t_m1, t_0, t_1, t_2, t_3, t_4, t_5, t_6, t_7, t_8, t_9, t_10, t_11, t_12, t_13, t_15, t_16, t_20, t_21, t_22, t_32, t_40, t_41, t_48, t_49, t_57, t_59, t_60, t_63, t_72, t_76, t_88, t_100, t_144, t_200, t_255, t_288, t_400, t_800, t_999, t_1000, t_1024, t_1200, t_1600, t_3200, t_100000, t_200000, t_252645135, t_858993459, t_1431655765, u_m1000002, u_m1000001, u_m1000, u_m3, u_m1, u_0, u_1, u_2, u_3, u_4, u_5, u_7, u_8, u_10, u_11, u_15, u_60, u_100, u_255, u_999, u_1000, u_100000, u_4294967295] at hc21)
      refine g_ldc dX8_law_24 kc_X8_126 ?_
      refine g_iret dX8_law_26 rfl (rfl) (hQ _ _ ?_)
      have e : opLaw w b n = _ := if_pos (by first | exact Or.inl hc9 | exact Or.inr (by omega))
      rw [e]; exact ⟨rfl, ⟨e1, e2, e3⟩, fr_sF (by decide) fr_rf⟩
