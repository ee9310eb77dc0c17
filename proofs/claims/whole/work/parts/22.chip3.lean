def WfA (w : LA) : Prop := 1 ≤ w.2.toInt ∧ w.2.toInt ≤ 4
def opChip (w : SH) (T : TS) (E : ST2) (A : LA) (G : GL2) (s q : Int32) : Int32 × Int32 × GL2 :=
  if ¬ (0 ≤ s.toInt ∧ s.toInt < 8) ∨ ¬ (0 ≤ q.toInt ∧ q.toInt < 8) then (-1000001, w.1, G)
  else if T.1 = 0 then (-1000002, w.1, G)
  else if G.1 = 200 then (-1000003, w.1, G)
  else if (w.2.1 s.toInt.toNat).toInt < 0 then (fnd 1, 1, G)
  else match trl (trOf T E (fun i => w.2.2.2 (100 * s.toInt.toNat + i)) (w.2.2.1 s.toInt.toNat).toInt) A.1 A.2.toInt.toNat q.toInt.toNat 0 0 with
    | none => (fnd 2, 2, G)
    | some r => (nI G.1, 0, G.1 + 1, G.2.1, fun c i => if c = G.1 then (if i = 0 then r.2.1 else if i = 1 then nI r.1 else if i = 2 then r.2.2.1 else if i = 3 then nI r.2.2.2 else if i = 4 then nI q.toInt.toNat else trV (trOf T E (fun i => w.2.2.2 (100 * s.toInt.toNat + i)) (w.2.2.1 s.toInt.toNat).toInt q.toInt.toNat)) else G.2.2 c i)
theorem c_keep {h : HH} {n l : Nat} {fa : Nat → Int32} (hg : LgX h n l fa) : CT mX1_keep 0 0 0 [.ref 38] h (fun r h' => r = some (.int (nI n)) ∧ h' = sF h 38 1 (.int (nI (n + 1)))) := by
  obtain ⟨e1, e2, e3, e4, e5⟩ := hg
  refine CT.go [.ref 38] (by decide +kernel) rfl rfl (fun Q' hQ => ?_)
  refine g_aload_n (i := 0) dX1_keep_0 rfl rfl ?_
  refine g_dup dX1_keep_1 rfl ?_
  refine g_get dX1_keep_2 fl_X1_15 (by repeat' (first | assumption | exact rF_eq | refine rF_ne (by decide) ?_ | refine rF_a ?_ | exact rA_eq | refine rA_ne (by decide) ?_ | refine rA_f ?_)) (by repeat' (first | assumption | exact rF_eq | refine rF_ne (by decide) ?_ | refine rF_a ?_ | exact rA_eq | refine rA_ne (by decide) ?_ | refine rA_f ?_)) ?_
  refine g_iconst (v := 1) dX1_keep_5 (by decide) ?_
  refine g_iadd dX1_keep_6 ?_
  refine g_put dX1_keep_7 pl_X1_15 (by repeat' (first | assumption | exact rF_eq | refine rF_ne (by decide) ?_ | refine rF_a ?_ | exact rA_eq | refine rA_ne (by decide) ?_ | refine rA_f ?_)) (fun _ => ⟨rfl, rfl⟩) ?_
  refine g_aload_n (i := 0) dX1_keep_10 rfl rfl ?_
  refine g_get dX1_keep_11 fl_X1_15 (by repeat' (first | assumption | exact rF_eq | refine rF_ne (by decide) ?_ | refine rF_a ?_ | exact rA_eq | refine rA_ne (by decide) ?_ | refine rA_f ?_)) (by repeat' (first | assumption | exact rF_eq | refine rF_ne (by decide) ?_ | refine rF_a ?_ | exact rA_eq | refine rA_ne (by decide) ?_ | refine rA_f ?_)) ?_
  refine g_iconst (v := 1) dX1_keep_14 (by decide) ?_
  refine g_isub dX1_keep_15 ?_
  refine g_iret dX1_keep_16 rfl (rfl) (hQ _ _ ?_)
  rw [ni_inc, n_m1]; exact ⟨rfl, rfl⟩
theorem x_chip {w : SH} {T : TS} {E : ST2} {A : LA} {G : GL2} (hw : WfS w) (hT : WfT T) (hA : WfA A) (hG : WfG G) {h : HH} (gs : GSX w h) (gt : GTX T h) (ge : GEX E h) (gl : GLX A h) (go : GOX G h) (s q : Int32) : CT mX7_chip 5 0 0 [.ref 0, .int s, .int q] h (fun r h' => r = some (.int (opChip w T E A G s q).1) ∧ gF h' 0 1 = .int (opChip w T E A G s q).2.1 ∧ GOX (opChip w T E A G s q).2.2 h' ∧ Fr [39] [(0, 1), (38, 1)] h h') := by
  obtain ⟨⟨h0, h1, h2⟩, hs⟩ := gs
  obtain ⟨⟨-, h7⟩, ht⟩ := gt
  obtain ⟨fa, ⟨-, h13⟩, hL, hfa⟩ := id go
  obtain ⟨l1, l2, l3, l4, l5⟩ := id hL
  have hG1 := hG.1
  have t1 := ht.1
  have t2 := ht.2.1
  have s1 := hs.1
  have hT1 := hT.1
  refine CT.go [.ref 0, .int s, .int q] (by decide +kernel) rfl rfl (fun Q' hQ => ?_)
  refine g_iload_n (i := 1) dX7_chip_0 rfl rfl ?_
  refine g_bipush (v := 8) dX7_chip_1 (by decide) ?_
  refine g_callS (M' := mX7_isWithin) dX7_chip_3 lc_X7_isWithin ml_X7_90 (c_isWithin h s 8 8 rfl) rfl rfl ⟨Nat.le_of_ble_eq_true rfl, Nat.le_of_ble_eq_true rfl, Nat.le_of_ble_eq_true rfl, Nat.le_of_ble_eq_true rfl⟩ (Nat.le_of_ble_eq_true rfl) ?_
  intro r_ h_ q_; obtain ⟨q1_, q2_⟩ := q_; have q2_ := q2_.symm; subst q1_; subst q2_
  refine g_if_eq (tgt := 18) dX7_chip_6 (by decide) (fun hc6 => ?_) (fun hc6 => ?_)
  · replace hc6 := bI_0.mp hc6
    (try simp (disch := omega) only [nT, t_m1000100, t_m1000010, t_m1000003, t_m1000002, t_m1000001, t_m1000000, t_m65535, t_m1000, t_m3, t_m1, t_0, t_1, t_2, t_3, t_4, t_5, t_6, t_7, t_8, t_9, t_10, t_11, t_12, t_13, t_15, t_16, t_20, t_21, t_22, t_32, t_40, t_41, t_48, t_49, t_57, t_59, t_60, t_63, t_72, t_76, t_88, t_100, t_144, t_200, t_255, t_288, t_400, t_800, t_999, t_1000, t_1024, t_1200, t_1600, t_3200, t_100000, t_200000, t_252645135, t_858993459, t_1431655765, u_m1000002, u_m1000001, u_m1000, u_m3, u_m1, u_0, u_1, u_2, u_3, u_4, u_5, u_7, u_8, u_10, u_11, u_15, u_60, u_100, u_255, u_999, u_1000, u_100000, u_4294967295] at hc6)
    refine g_ldc dX7_chip_18 kc_X7_94 ?_
    refine g_iret dX7_chip_20 rfl (rfl) (hQ _ _ ?_)
    have e : opChip w T E A G s q = _ := if_pos (by omega)
    rw [e]; exact ⟨rfl, h2, go, fr_rf⟩
  · replace hc6 := bI_n0.mp hc6
    (try simp (disch := omega) only [nT, t_m1000100, t_m1000010, t_m1000003, t_m1000002, t_m1000001, t_m1000000, t_m65535, t_m1000, t_m3, t_m1, t_0, t_1, t_2, t_3, t_4, t_5, t_6, t_7, t_8, t_9, t_10, t_11, t_12, t_13, t_15, t_16, t_20, t_21, t_22, t_32, t_40, t_41, t_48, t_49, t_57, t_59, t_60, t_63, t_72, t_76, t_88, t_100, t_144, t_200, t_255, t_288, t_400, t_800, t_999, t_1000, t_1024, t_1200, t_1600, t_3200, t_100000, t_200000, t_252645135, t_858993459, t_1431655765, u_m1000002, u_m1000001, u_m1000, u_m3, u_m1, u_0, u_1, u_2, u_3, u_4, u_5, u_7, u_8, u_10, u_11, u_15, u_60, u_100, u_255, u_999, u_1000, u_100000, u_4294967295] at hc6)
    refine g_iload_n (i := 2) dX7_chip_9 rfl rfl ?_
    refine g_bipush (v := 8) dX7_chip_10 (by decide) ?_
    refine g_callS (M' := mX7_isWithin) dX7_chip_12 lc_X7_isWithin ml_X7_90 (c_isWithin h q 8 8 rfl) rfl rfl ⟨Nat.le_of_ble_eq_true rfl, Nat.le_of_ble_eq_true rfl, Nat.le_of_ble_eq_true rfl, Nat.le_of_ble_eq_true rfl⟩ (Nat.le_of_ble_eq_true rfl) ?_
    intro r_ h_ q_; obtain ⟨q1_, q2_⟩ := q_; have q2_ := q2_.symm; subst q1_; subst q2_
    refine g_if_ne (tgt := 21) dX7_chip_15 (by decide) (fun hc15 => ?_) (fun hc15 => ?_)
    · replace hc15 := bI_n0.mp hc15
      (try simp (disch := omega) only [nT, t_m1000100, t_m1000010, t_m1000003, t_m1000002, t_m1000001, t_m1000000, t_m65535, t_m1000, t_m3, t_m1, t_0, t_1, t_2, t_3, t_4, t_5, t_6, t_7, t_8, t_9, t_10, t_11, t_12, t_13, t_15, t_16, t_20, t_21, t_22, t_32, t_40, t_41, t_48, t_49, t_57, t_59, t_60, t_63, t_72, t_76, t_88, t_100, t_144, t_200, t_255, t_288, t_400, t_800, t_999, t_1000, t_1024, t_1200, t_1600, t_3200, t_100000, t_200000, t_252645135, t_858993459, t_1431655765, u_m1000002, u_m1000001, u_m1000, u_m3, u_m1, u_0, u_1, u_2, u_3, u_4, u_5, u_7, u_8, u_10, u_11, u_15, u_60, u_100, u_255, u_999, u_1000, u_100000, u_4294967295] at hc15)
      obtain ⟨a, ha, rfl, hta⟩ := n_of (n := 8) (x := s) (by omega) (by omega)
      obtain ⟨b, hb, rfl, htb⟩ := n_of (n := 8) (x := q) (by omega) (by omega)
      have hwa := hw a ha
      have en : ∀ x, opChip w T E A G (nI a) (nI b) = x ↔ _ = x := fun x => by rw [show opChip w T E A G (nI a) (nI b) = _ from if_neg (by omega), nTN (by omega), nTN (by omega)]
      refine g_aload_n (i := 0) dX7_chip_21 rfl rfl ?_
      refine g_get dX7_chip_22 fl_X7_47 (by repeat' (first | assumption | exact rF_eq | refine rF_ne (by decide) ?_ | refine rF_a ?_ | exact rA_eq | refine rA_ne (by decide) ?_ | refine rA_f ?_)) (by repeat' (first | assumption | exact rF_eq | refine rF_ne (by decide) ?_ | refine rF_a ?_ | exact rA_eq | refine rA_ne (by decide) ?_ | refine rA_f ?_)) ?_
      refine g_get dX7_chip_25 fl_X7_194 (by repeat' (first | assumption | exact rF_eq | refine rF_ne (by decide) ?_ | refine rF_a ?_ | exact rA_eq | refine rA_ne (by decide) ?_ | refine rA_f ?_)) (by repeat' (first | assumption | exact rF_eq | refine rF_ne (by decide) ?_ | refine rF_a ?_ | exact rA_eq | refine rA_ne (by decide) ?_ | refine rA_f ?_)) ?_
      refine g_if_ne (tgt := 34) dX7_chip_28 (by decide) (fun hc28 => ?_) (fun hc28 => ?_)
      · have hd28 := mt i_eq.mpr hc28; (try simp (disch := omega) only [nT, t_m1000100, t_m1000010, t_m1000003, t_m1000002, t_m1000001, t_m1000000, t_m65535, t_m1000, t_m3, t_m1, t_0, t_1, t_2, t_3, t_4, t_5, t_6, t_7, t_8, t_9, t_10, t_11, t_12, t_13, t_15, t_16, t_20, t_21, t_22, t_32, t_40, t_41, t_48, t_49, t_57, t_59, t_60, t_63, t_72, t_76, t_88, t_100, t_144, t_200, t_255, t_288, t_400, t_800, t_999, t_1000, t_1024, t_1200, t_1600, t_3200, t_100000, t_200000, t_252645135, t_858993459, t_1431655765, u_m1000002, u_m1000001, u_m1000, u_m3, u_m1, u_0, u_1, u_2, u_3, u_4, u_5, u_7, u_8, u_10, u_11, u_15, u_60, u_100, u_255, u_999, u_1000, u_100000, u_4294967295] at hd28)
        refine g_aload_n (i := 0) dX7_chip_34 rfl rfl ?_
        refine g_get dX7_chip_35 fl_X7_76 (by repeat' (first | assumption | exact rF_eq | refine rF_ne (by decide) ?_ | refine rF_a ?_ | exact rA_eq | refine rA_ne (by decide) ?_ | refine rA_f ?_)) (by repeat' (first | assumption | exact rF_eq | refine rF_ne (by decide) ?_ | refine rF_a ?_ | exact rA_eq | refine rA_ne (by decide) ?_ | refine rA_f ?_)) ?_
        refine g_get dX7_chip_38 fl_X7_232 (by repeat' (first | assumption | exact rF_eq | refine rF_ne (by decide) ?_ | refine rF_a ?_ | exact rA_eq | refine rA_ne (by decide) ?_ | refine rA_f ?_)) (by repeat' (first | assumption | exact rF_eq | refine rF_ne (by decide) ?_ | refine rF_a ?_ | exact rA_eq | refine rA_ne (by decide) ?_ | refine rA_f ?_)) ?_
        refine g_sipush (v := 200) dX7_chip_41 (by decide) ?_
        refine g_icmp_ne (tgt := 50) dX7_chip_44 (by decide) (fun hc44 => ?_) (fun hc44 => ?_)
        · have hd44 := mt i_eq.mpr hc44; (try simp (disch := omega) only [nT, t_m1000100, t_m1000010, t_m1000003, t_m1000002, t_m1000001, t_m1000000, t_m65535, t_m1000, t_m3, t_m1, t_0, t_1, t_2, t_3, t_4, t_5, t_6, t_7, t_8, t_9, t_10, t_11, t_12, t_13, t_15, t_16, t_20, t_21, t_22, t_32, t_40, t_41, t_48, t_49, t_57, t_59, t_60, t_63, t_72, t_76, t_88, t_100, t_144, t_200, t_255, t_288, t_400, t_800, t_999, t_1000, t_1024, t_1200, t_1600, t_3200, t_100000, t_200000, t_252645135, t_858993459, t_1431655765, u_m1000002, u_m1000001, u_m1000, u_m3, u_m1, u_0, u_1, u_2, u_3, u_4, u_5, u_7, u_8, u_10, u_11, u_15, u_60, u_100, u_255, u_999, u_1000, u_100000, u_4294967295] at hd44)
          refine g_aload_n (i := 0) dX7_chip_50 rfl rfl ?_
          refine g_get dX7_chip_51 fl_X7_10 (by repeat' (first | assumption | exact rF_eq | refine rF_ne (by decide) ?_ | refine rF_a ?_ | exact rA_eq | refine rA_ne (by decide) ?_ | refine rA_f ?_)) (by repeat' (first | assumption | exact rF_eq | refine rF_ne (by decide) ?_ | refine rF_a ?_ | exact rA_eq | refine rA_ne (by decide) ?_ | refine rA_f ?_)) ?_
          refine g_iload_n (i := 1) dX7_chip_54 rfl rfl ?_
          refine g_callV (M' := mX3_isMissing) dX7_chip_55 lc_X3_isMissing ml_X7_106 (c_isMissing hs hta ha (by omega)) rfl rfl (by repeat' (first | assumption | exact rF_eq | refine rF_ne (by decide) ?_ | refine rF_a ?_ | exact rA_eq | refine rA_ne (by decide) ?_ | refine rA_f ?_)) rfl ⟨Nat.le_of_ble_eq_true rfl, Nat.le_of_ble_eq_true rfl, Nat.le_of_ble_eq_true rfl, Nat.le_of_ble_eq_true rfl⟩ (Nat.le_of_ble_eq_true rfl) ?_
          intro r_ h_ q_; obtain ⟨q1_, q2_⟩ := q_; have q2_ := q2_.symm; subst q1_; subst q2_
          refine g_if_eq (tgt := 67) dX7_chip_58 (by decide) (fun hc58 => ?_) (fun hc58 => ?_)
          · replace hc58 := bI_0.mp hc58
            (try simp (disch := omega) only [nT, t_m1000100, t_m1000010, t_m1000003, t_m1000002, t_m1000001, t_m1000000, t_m65535, t_m1000, t_m3, t_m1, t_0, t_1, t_2, t_3, t_4, t_5, t_6, t_7, t_8, t_9, t_10, t_11, t_12, t_13, t_15, t_16, t_20, t_21, t_22, t_32, t_40, t_41, t_48, t_49, t_57, t_59, t_60, t_63, t_72, t_76, t_88, t_100, t_144, t_200, t_255, t_288, t_400, t_800, t_999, t_1000, t_1024, t_1200, t_1600, t_3200, t_100000, t_200000, t_252645135, t_858993459, t_1431655765, u_m1000002, u_m1000001, u_m1000, u_m3, u_m1, u_0, u_1, u_2, u_3, u_4, u_5, u_7, u_8, u_10, u_11, u_15, u_60, u_100, u_255, u_999, u_1000, u_100000, u_4294967295] at hc58)
            have e := (en _).mpr ((if_neg (by omega)).trans ((if_neg (by omega)).trans (if_neg (by omega))))
            obtain ⟨M, hM, hM2, hM3⟩ := n_of (n := 5) (x := A.2) (by have := hA.1; omega) (by have := hA.2; omega)
            rw [hM2, nTN (by omega)] at e
            refine g_aload_n (i := 0) dX7_chip_67 rfl rfl ?_
            refine g_iload_n (i := 1) dX7_chip_68 rfl rfl ?_
            refine g_iload_n (i := 2) dX7_chip_69 rfl rfl ?_
            refine g_callV (M' := mX7_tryByLaw) dX7_chip_70 lc_X7_tryByLaw ml_X7_235 (c_tryByLaw hT ⟨⟨h0, h1, h7, h13⟩, ht, ge, hs, hL⟩ (by omega) gl hM2 (by have := hA.1; omega) (by omega) ha (by omega) hb rfl rfl) rfl rfl (by repeat' (first | assumption | exact rF_eq | refine rF_ne (by decide) ?_ | refine rF_a ?_ | exact rA_eq | refine rA_ne (by decide) ?_ | refine rA_f ?_)) rfl ⟨Nat.le_of_ble_eq_true rfl, Nat.le_of_ble_eq_true rfl, Nat.le_of_ble_eq_true rfl, Nat.le_of_ble_eq_true rfl⟩ (Nat.le_of_ble_eq_true rfl) ?_
            intro r_ h_ q_; obtain ⟨q1, q2⟩ := q_
            rcases ho : trl (trOf T E (fun i => w.2.2.2 (100 * a + i)) (w.2.2.1 a).toInt) A.1 M b 0 0 with _ | ⟨c, bn, tot, sv⟩
            · obtain ⟨q3, f, q4, q5⟩ := q1 ho
              subst q3
              subst q4
              rw [ho] at e
              refine g_if_ne (tgt := 82) dX7_chip_73 (by decide) (fun hc73 => ?_) (fun hc73 => ?_)
              · have hd73 := mt i_eq.mpr hc73; (try simp (disch := omega) only [nT, t_m1000100, t_m1000010, t_m1000003, t_m1000002, t_m1000001, t_m1000000, t_m65535, t_m1000, t_m3, t_m1, t_0, t_1, t_2, t_3, t_4, t_5, t_6, t_7, t_8, t_9, t_10, t_11, t_12, t_13, t_15, t_16, t_20, t_21, t_22, t_32, t_40, t_41, t_48, t_49, t_57, t_59, t_60, t_63, t_72, t_76, t_88, t_100, t_144, t_200, t_255, t_288, t_400, t_800, t_999, t_1000, t_1024, t_1200, t_1600, t_3200, t_100000, t_200000, t_252645135, t_858993459, t_1431655765, u_m1000002, u_m1000001, u_m1000, u_m3, u_m1, u_0, u_1, u_2, u_3, u_4, u_5, u_7, u_8, u_10, u_11, u_15, u_60, u_100, u_255, u_999, u_1000, u_100000, u_4294967295] at hd73); exact absurd rfl hc73
              · have hd73 := i_eq.mp hc73; (try simp (disch := omega) only [nT, t_m1000100, t_m1000010, t_m1000003, t_m1000002, t_m1000001, t_m1000000, t_m65535, t_m1000, t_m3, t_m1, t_0, t_1, t_2, t_3, t_4, t_5, t_6, t_7, t_8, t_9, t_10, t_11, t_12, t_13, t_15, t_16, t_20, t_21, t_22, t_32, t_40, t_41, t_48, t_49, t_57, t_59, t_60, t_63, t_72, t_76, t_88, t_100, t_144, t_200, t_255, t_288, t_400, t_800, t_999, t_1000, t_1024, t_1200, t_1600, t_3200, t_100000, t_200000, t_252645135, t_858993459, t_1431655765, u_m1000002, u_m1000001, u_m1000, u_m3, u_m1, u_0, u_1, u_2, u_3, u_4, u_5, u_7, u_8, u_10, u_11, u_15, u_60, u_100, u_255, u_999, u_1000, u_100000, u_4294967295] at hd73)
                refine g_aload_n (i := 0) dX7_chip_76 rfl rfl ?_
                refine g_iconst (v := 2) dX7_chip_77 (by decide) ?_
                refine g_callV (M' := mX7_found) dX7_chip_78 lc_X7_found ml_X7_95 (c_found (h := sA h 39 (aI 1200 f)) h0 2) rfl rfl (by repeat' (first | assumption | exact rF_eq | refine rF_ne (by decide) ?_ | refine rF_a ?_ | exact rA_eq | refine rA_ne (by decide) ?_ | refine rA_f ?_)) rfl ⟨Nat.le_of_ble_eq_true rfl, Nat.le_of_ble_eq_true rfl, Nat.le_of_ble_eq_true rfl, Nat.le_of_ble_eq_true rfl⟩ (Nat.le_of_ble_eq_true rfl) ?_
                intro r_ h_ q_; obtain ⟨q1_, q2_⟩ := q_; have q2_ := q2_.symm; subst q1_; subst q2_
                refine g_iret dX7_chip_81 rfl (rfl) (hQ _ _ ?_)
                rw [e]
                exact ⟨rfl, rfl, ⟨f, ⟨h0, h13⟩, ⟨l1, l2, l3, l4, rfl⟩, fun c i hc hi => (q5 _ (by have hc2 : c < G.1 := hc; omega)).trans (hfa c i hc hi)⟩, fr_sF (by decide) (fr_sA (by decide) fr_rf)⟩
            · obtain ⟨q3, f, q4, q5, q6⟩ := q2 _ _ _ _ ho
              subst q3
              subst q4
              rw [ho] at e
              obtain ⟨r1, r2, r3, r4, r5⟩ := q6
              obtain ⟨r6, r7, r8⟩ := r5 q5
              refine g_if_ne (tgt := 82) dX7_chip_73 (by decide) (fun hc73 => ?_) (fun hc73 => ?_)
              · have hd73 := mt i_eq.mpr hc73; (try simp (disch := omega) only [nT, t_m1000100, t_m1000010, t_m1000003, t_m1000002, t_m1000001, t_m1000000, t_m65535, t_m1000, t_m3, t_m1, t_0, t_1, t_2, t_3, t_4, t_5, t_6, t_7, t_8, t_9, t_10, t_11, t_12, t_13, t_15, t_16, t_20, t_21, t_22, t_32, t_40, t_41, t_48, t_49, t_57, t_59, t_60, t_63, t_72, t_76, t_88, t_100, t_144, t_200, t_255, t_288, t_400, t_800, t_999, t_1000, t_1024, t_1200, t_1600, t_3200, t_100000, t_200000, t_252645135, t_858993459, t_1431655765, u_m1000002, u_m1000001, u_m1000, u_m3, u_m1, u_0, u_1, u_2, u_3, u_4, u_5, u_7, u_8, u_10, u_11, u_15, u_60, u_100, u_255, u_999, u_1000, u_100000, u_4294967295] at hd73)
                refine g_aload_n (i := 0) dX7_chip_82 rfl rfl ?_
                refine g_aload_n (i := 0) dX7_chip_83 rfl rfl ?_
                refine g_get dX7_chip_84 fl_X7_76 (by repeat' (first | assumption | exact rF_eq | refine rF_ne (by decide) ?_ | refine rF_a ?_ | exact rA_eq | refine rA_ne (by decide) ?_ | refine rA_f ?_)) (by repeat' (first | assumption | exact rF_eq | refine rF_ne (by decide) ?_ | refine rF_a ?_ | exact rA_eq | refine rA_ne (by decide) ?_ | refine rA_f ?_)) ?_
                refine g_callV (M' := mX1_keep) dX7_chip_87 lc_X1_keep ml_X7_238 (c_keep (h := sA h 39 (aI 1200 f)) (n := G.1) (l := G.2.1) (fa := f) ⟨l1, l2, l3, l4, rfl⟩) rfl rfl (by repeat' (first | assumption | exact rF_eq | refine rF_ne (by decide) ?_ | refine rF_a ?_ | exact rA_eq | refine rA_ne (by decide) ?_ | refine rA_f ?_)) rfl ⟨Nat.le_of_ble_eq_true rfl, Nat.le_of_ble_eq_true rfl, Nat.le_of_ble_eq_true rfl, Nat.le_of_ble_eq_true rfl⟩ (Nat.le_of_ble_eq_true rfl) ?_
                intro r_ h_ q_; obtain ⟨q1_, q2_⟩ := q_; have q2_ := q2_.symm; subst q1_; subst q2_
                refine g_callV (M' := mX7_fine) dX7_chip_90 lc_X7_fine ml_X7_103 (c_fine (h := sF (sA h 39 (aI 1200 f)) 38 1 (.int (nI (G.1 + 1)))) h0 _) rfl rfl (by repeat' (first | assumption | exact rF_eq | refine rF_ne (by decide) ?_ | refine rF_a ?_ | exact rA_eq | refine rA_ne (by decide) ?_ | refine rA_f ?_)) rfl ⟨Nat.le_of_ble_eq_true rfl, Nat.le_of_ble_eq_true rfl, Nat.le_of_ble_eq_true rfl, Nat.le_of_ble_eq_true rfl⟩ (Nat.le_of_ble_eq_true rfl) ?_
                intro r_ h_ q_; obtain ⟨q1_, q2_⟩ := q_; have q2_ := q2_.symm; subst q1_; subst q2_
                refine g_iret dX7_chip_93 rfl (rfl) (hQ _ _ ?_)
                rw [e]
                refine ⟨rfl, rfl, ⟨f, ⟨h0, h13⟩, ⟨l1, l2, rfl, l4, rfl⟩, fun c' i hc hi => ?_⟩, fr_sF (by decide) (fr_sF (by decide) (fr_sA (by decide) fr_rf))⟩
                dsimp only at hc ⊢
                by_cases qc : c' = G.1
                · rw [if_pos qc, qc]
                  match i, hi with
                  | 0, _ => exact r6
                  | 1, _ => exact r2
                  | 2, _ => exact r3
                  | 3, _ => exact r7
                  | 4, _ => exact r4
                  | 5, _ => exact r8
                · rw [if_neg qc]
                  exact (r1 _ (by omega)).trans (hfa c' i (by omega) hi)
              · have hd73 := i_eq.mp hc73; (try simp (disch := omega) only [nT, t_m1000100, t_m1000010, t_m1000003, t_m1000002, t_m1000001, t_m1000000, t_m65535, t_m1000, t_m3, t_m1, t_0, t_1, t_2, t_3, t_4, t_5, t_6, t_7, t_8, t_9, t_10, t_11, t_12, t_13, t_15, t_16, t_20, t_21, t_22, t_32, t_40, t_41, t_48, t_49, t_57, t_59, t_60, t_63, t_72, t_76, t_88, t_100, t_144, t_200, t_255, t_288, t_400, t_800, t_999, t_1000, t_1024, t_1200, t_1600, t_3200, t_100000, t_200000, t_252645135, t_858993459, t_1431655765, u_m1000002, u_m1000001, u_m1000, u_m3, u_m1, u_0, u_1, u_2, u_3, u_4, u_5, u_7, u_8, u_10, u_11, u_15, u_60, u_100, u_255, u_999, u_1000, u_100000, u_4294967295] at hd73); exact absurd hc73 (by decide)
          · replace hc58 := bI_n0.mp hc58
            (try simp (disch := omega) only [nT, t_m1000100, t_m1000010, t_m1000003, t_m1000002, t_m1000001, t_m1000000, t_m65535, t_m1000, t_m3, t_m1, t_0, t_1, t_2, t_3, t_4, t_5, t_6, t_7, t_8, t_9, t_10, t_11, t_12, t_13, t_15, t_16, t_20, t_21, t_22, t_32, t_40, t_41, t_48, t_49, t_57, t_59, t_60, t_63, t_72, t_76, t_88, t_100, t_144, t_200, t_255, t_288, t_400, t_800, t_999, t_1000, t_1024, t_1200, t_1600, t_3200, t_100000, t_200000, t_252645135, t_858993459, t_1431655765, u_m1000002, u_m1000001, u_m1000, u_m3, u_m1, u_0, u_1, u_2, u_3, u_4, u_5, u_7, u_8, u_10, u_11, u_15, u_60, u_100, u_255, u_999, u_1000, u_100000, u_4294967295] at hc58)
            refine g_aload_n (i := 0) dX7_chip_61 rfl rfl ?_
            refine g_iconst (v := 1) dX7_chip_62 (by decide) ?_
            refine g_callV (M' := mX7_found) dX7_chip_63 lc_X7_found ml_X7_95 (c_found h0 1) rfl rfl (by repeat' (first | assumption | exact rF_eq | refine rF_ne (by decide) ?_ | refine rF_a ?_ | exact rA_eq | refine rA_ne (by decide) ?_ | refine rA_f ?_)) rfl ⟨Nat.le_of_ble_eq_true rfl, Nat.le_of_ble_eq_true rfl, Nat.le_of_ble_eq_true rfl, Nat.le_of_ble_eq_true rfl⟩ (Nat.le_of_ble_eq_true rfl) ?_
            intro r_ h_ q_; obtain ⟨q1_, q2_⟩ := q_; have q2_ := q2_.symm; subst q1_; subst q2_
            refine g_iret dX7_chip_66 rfl (rfl) (hQ _ _ ?_)
            have e := (en _).mpr ((if_neg (by omega)).trans ((if_neg (by omega)).trans (if_pos (by omega))))
            rw [e]; exact ⟨rfl, rfl, ⟨fa, ⟨h0, h13⟩, hL, hfa⟩, fr_sF (by decide) fr_rf⟩
        · have hd44 := i_eq.mp hc44; (try simp (disch := omega) only [nT, t_m1000100, t_m1000010, t_m1000003, t_m1000002, t_m1000001, t_m1000000, t_m65535, t_m1000, t_m3, t_m1, t_0, t_1, t_2, t_3, t_4, t_5, t_6, t_7, t_8, t_9, t_10, t_11, t_12, t_13, t_15, t_16, t_20, t_21, t_22, t_32, t_40, t_41, t_48, t_49, t_57, t_59, t_60, t_63, t_72, t_76, t_88, t_100, t_144, t_200, t_255, t_288, t_400, t_800, t_999, t_1000, t_1024, t_1200, t_1600, t_3200, t_100000, t_200000, t_252645135, t_858993459, t_1431655765, u_m1000002, u_m1000001, u_m1000, u_m3, u_m1, u_0, u_1, u_2, u_3, u_4, u_5, u_7, u_8, u_10, u_11, u_15, u_60, u_100, u_255, u_999, u_1000, u_100000, u_4294967295] at hd44)
          refine g_ldc dX7_chip_47 kc_X7_137 ?_
          refine g_iret dX7_chip_49 rfl (rfl) (hQ _ _ ?_)
          have e := (en _).mpr ((if_neg (by omega)).trans (if_pos (by omega)))
          rw [e]; exact ⟨rfl, h2, go, fr_rf⟩
      · have hd28 := i_eq.mp hc28; (try simp (disch := omega) only [nT, t_m1000100, t_m1000010, t_m1000003, t_m1000002, t_m1000001, t_m1000000, t_m65535, t_m1000, t_m3, t_m1, t_0, t_1, t_2, t_3, t_4, t_5, t_6, t_7, t_8, t_9, t_10, t_11, t_12, t_13, t_15, t_16, t_20, t_21, t_22, t_32, t_40, t_41, t_48, t_49, t_57, t_59, t_60, t_63, t_72, t_76, t_88, t_100, t_144, t_200, t_255, t_288, t_400, t_800, t_999, t_1000, t_1024, t_1200, t_1600, t_3200, t_100000, t_200000, t_252645135, t_858993459, t_1431655765, u_m1000002, u_m1000001, u_m1000, u_m3, u_m1, u_0, u_1, u_2, u_3, u_4, u_5, u_7, u_8, u_10, u_11, u_15, u_60, u_100, u_255, u_999, u_1000, u_100000, u_4294967295] at hd28)
        refine g_ldc dX7_chip_31 kc_X7_162 ?_
        refine g_iret dX7_chip_33 rfl (rfl) (hQ _ _ ?_)
        have e := (en _).mpr (if_pos (by omega))
        rw [e]; exact ⟨rfl, h2, go, fr_rf⟩
    · replace hc15 := bI_0.mp hc15
      (try simp (disch := omega) only [nT, t_m1000100, t_m1000010, t_m1000003, t_m1000002, t_m1000001, t_m1000000, t_m65535, t_m1000, t_m3, t_m1, t_0, t_1, t_2, t_3, t_4, t_5, t_6, t_7, t_8, t_9, t_10, t_11, t_12, t_13, t_15, t_16, t_20, t_21, t_22, t_32, t_40, t_41, t_48, t_49, t_57, t_59, t_60, t_63, t_72, t_76, t_88, t_100, t_144, t_200, t_255, t_288, t_400, t_800, t_999, t_1000, t_1024, t_1200, t_1600, t_3200, t_100000, t_200000, t_252645135, t_858993459, t_1431655765, u_m1000002, u_m1000001, u_m1000, u_m3, u_m1, u_0, u_1, u_2, u_3, u_4, u_5, u_7, u_8, u_10, u_11, u_15, u_60, u_100, u_255, u_999, u_1000, u_100000, u_4294967295] at hc15)
      refine g_ldc dX7_chip_18 kc_X7_94 ?_
      refine g_iret dX7_chip_20 rfl (rfl) (hQ _ _ ?_)
      have e : opChip w T E A G s q = _ := if_pos (by omega)
      rw [e]; exact ⟨rfl, h2, go, fr_rf⟩
theorem c_tried {T : TS} (hT : WfT T) {E : ST2} {h : HH} {ln sz it : Nat → Int32} {tk : Int32} (hs : TM' h T) (he : GEM E h) (hS : ShM h ln sz it) (htk : gF h 44 44 = .int tk) {a s : Nat} (ha : a < 8) (hz : (sz a).toInt ≤ 100) (hs8 : s < 8) {io : Nat → Int32} (hio : ∀ q : Nat, (q : Int) < (sz a).toInt → it (100 * a + q) = io q) : CT mX8_tried 0 0 0 [.ref 44, .int (nI a), .int (nI s)] h (fun r h' => r = some (.int (trV (trOf T E io (sz a).toInt s))) ∧ ∃ tk', h' = sF h 44 44 (.int tk') ∧ ∀ b y, trOf T E io (sz a).toInt s = some (b, y) → tk' = tk + y) := by
  obtain ⟨e1, e2, e3, e4, e5, e6, e7, e8, e9, e10, e11, e12, e13, e14⟩ := id hs
  obtain ⟨-, d2, d3, d4, d5⟩ := he
  obtain ⟨-, s2, s3, s4, s5, s6, s7⟩ := hS
  have h10 := hT.1
  refine CT.go [.ref 44, .int (nI a), .int (nI s), hU, hU, hU, hU] (by decide +kernel) rfl rfl (fun Q' hQ => ?_)
  by_cases hd : (E.2 s).toInt = 0
  · generalize hzz : trOf T E io (sz a).toInt s = z at hQ
    have hz2 : scn T io (sz a).toInt (E.1 s) T.1 0 0 = z := by rw [← hzz]; exact (if_pos hd).symm
    have key : ∀ n k acc (x4 x5 : Value), k + n = T.1 → scn T io (sz a).toInt (E.1 s) n k acc = z → GG (EM mX8_tried 0 0 0 Q') 0 0 14 [.ref 44, .int (nI a), .int (nI s), .int (nI k), x4, x5, hU] [] (sF h 44 44 (.int (tk + acc))) := by
      intro n
      induction n with
      | zero =>
        intro k acc x4 x5 hk hzk
        have hzk2 : z = some (0, acc) := hzk.symm
        subst hzk2
        refine g_iload_n (i := 3) dX8_tried_14 rfl rfl ?_
        refine g_aload_n (i := 0) dX8_tried_15 rfl rfl ?_
        refine g_get dX8_tried_16 fl_X8_197 (by repeat' (first | assumption | exact rF_eq | refine rF_ne (by decide) ?_ | refine rF_a ?_ | exact rA_eq | refine rA_ne (by decide) ?_ | refine rA_f ?_)) (by repeat' (first | assumption | exact rF_eq | refine rF_ne (by decide) ?_ | refine rF_a ?_ | exact rA_eq | refine rA_ne (by decide) ?_ | refine rA_f ?_)) ?_
        refine g_icmp_ge (tgt := 125) dX8_tried_19 (by decide) (fun hc19 => ?_) (fun hc19 => ?_)
        · (try simp (disch := omega) only [nT, t_m1000100, t_m1000010, t_m1000003, t_m1000002, t_m1000001, t_m1000000, t_m65535, t_m1000, t_m3, t_m1, t_0, t_1, t_2, t_3, t_4, t_5, t_6, t_7, t_8, t_9, t_10, t_11, t_12, t_13, t_15, t_16, t_20, t_21, t_22, t_32, t_40, t_41, t_48, t_49, t_57, t_59, t_60, t_63, t_72, t_76, t_88, t_100, t_144, t_200, t_255, t_288, t_400, t_800, t_999, t_1000, t_1024, t_1200, t_1600, t_3200, t_100000, t_200000, t_252645135, t_858993459, t_1431655765, u_m1000002, u_m1000001, u_m1000, u_m3, u_m1, u_0, u_1, u_2, u_3, u_4, u_5, u_7, u_8, u_10, u_11, u_15, u_60, u_100, u_255, u_999, u_1000, u_100000, u_4294967295] at hc19)
          refine g_iconst (v := 0) dX8_tried_125 (by decide) ?_
          refine g_iret dX8_tried_126 rfl (rfl) (hQ _ _ ?_)
          exact ⟨rfl, _, rfl, fun b y q => by cases q; rfl⟩
        · (try simp (disch := omega) only [nT, t_m1000100, t_m1000010, t_m1000003, t_m1000002, t_m1000001, t_m1000000, t_m65535, t_m1000, t_m3, t_m1, t_0, t_1, t_2, t_3, t_4, t_5, t_6, t_7, t_8, t_9, t_10, t_11, t_12, t_13, t_15, t_16, t_20, t_21, t_22, t_32, t_40, t_41, t_48, t_49, t_57, t_59, t_60, t_63, t_72, t_76, t_88, t_100, t_144, t_200, t_255, t_288, t_400, t_800, t_999, t_1000, t_1024, t_1200, t_1600, t_3200, t_100000, t_200000, t_252645135, t_858993459, t_1431655765, u_m1000002, u_m1000001, u_m1000, u_m3, u_m1, u_0, u_1, u_2, u_3, u_4, u_5, u_7, u_8, u_10, u_11, u_15, u_60, u_100, u_255, u_999, u_1000, u_100000, u_4294967295] at hc19); omega
      | succ n ih =>
        intro k acc x4 x5 hk hzk
        obtain ⟨q1, q2⟩ := tAt_lt hT (show k < T.1 by omega)
        unfold scn at hzk
        refine g_iload_n (i := 3) dX8_tried_14 rfl rfl ?_
        refine g_aload_n (i := 0) dX8_tried_15 rfl rfl ?_
        refine g_get dX8_tried_16 fl_X8_197 (by repeat' (first | assumption | exact rF_eq | refine rF_ne (by decide) ?_ | refine rF_a ?_ | exact rA_eq | refine rA_ne (by decide) ?_ | refine rA_f ?_)) (by repeat' (first | assumption | exact rF_eq | refine rF_ne (by decide) ?_ | refine rF_a ?_ | exact rA_eq | refine rA_ne (by decide) ?_ | refine rA_f ?_)) ?_
        refine g_icmp_ge (tgt := 125) dX8_tried_19 (by decide) (fun hc19 => ?_) (fun hc19 => ?_)
        · (try simp (disch := omega) only [nT, t_m1000100, t_m1000010, t_m1000003, t_m1000002, t_m1000001, t_m1000000, t_m65535, t_m1000, t_m3, t_m1, t_0, t_1, t_2, t_3, t_4, t_5, t_6, t_7, t_8, t_9, t_10, t_11, t_12, t_13, t_15, t_16, t_20, t_21, t_22, t_32, t_40, t_41, t_48, t_49, t_57, t_59, t_60, t_63, t_72, t_76, t_88, t_100, t_144, t_200, t_255, t_288, t_400, t_800, t_999, t_1000, t_1024, t_1200, t_1600, t_3200, t_100000, t_200000, t_252645135, t_858993459, t_1431655765, u_m1000002, u_m1000001, u_m1000, u_m3, u_m1, u_0, u_1, u_2, u_3, u_4, u_5, u_7, u_8, u_10, u_11, u_15, u_60, u_100, u_255, u_999, u_1000, u_100000, u_4294967295] at hc19); omega
        · (try simp (disch := omega) only [nT, t_m1000100, t_m1000010, t_m1000003, t_m1000002, t_m1000001, t_m1000000, t_m65535, t_m1000, t_m3, t_m1, t_0, t_1, t_2, t_3, t_4, t_5, t_6, t_7, t_8, t_9, t_10, t_11, t_12, t_13, t_15, t_16, t_20, t_21, t_22, t_32, t_40, t_41, t_48, t_49, t_57, t_59, t_60, t_63, t_72, t_76, t_88, t_100, t_144, t_200, t_255, t_288, t_400, t_800, t_999, t_1000, t_1024, t_1200, t_1600, t_3200, t_100000, t_200000, t_252645135, t_858993459, t_1431655765, u_m1000002, u_m1000001, u_m1000, u_m3, u_m1, u_0, u_1, u_2, u_3, u_4, u_5, u_7, u_8, u_10, u_11, u_15, u_60, u_100, u_255, u_999, u_1000, u_100000, u_4294967295] at hc19)
          refine g_aload_n (i := 0) dX8_tried_22 rfl rfl ?_
          refine g_get dX8_tried_23 fl_X8_62 (by repeat' (first | assumption | exact rF_eq | refine rF_ne (by decide) ?_ | refine rF_a ?_ | exact rA_eq | refine rA_ne (by decide) ?_ | refine rA_f ?_)) (by repeat' (first | assumption | exact rF_eq | refine rF_ne (by decide) ?_ | refine rF_a ?_ | exact rA_eq | refine rA_ne (by decide) ?_ | refine rA_f ?_)) ?_
          refine g_iload_n (i := 3) dX8_tried_26 rfl rfl ?_
          refine g_iald dX8_tried_27 (by repeat' (first | assumption | exact rF_eq | refine rF_ne (by decide) ?_ | refine rF_a ?_ | exact rA_eq | refine rA_ne (by decide) ?_ | refine rA_f ?_)) (nT (by omega)) (by omega) ?_
          rw [q2]
          refine g_istore dX8_tried_28 (Nat.le_of_ble_eq_true rfl) rfl ?_
          refine g_iload dX8_tried_30 rfl ?_
          refine g_aload_n (i := 0) dX8_tried_32 rfl rfl ?_
          refine g_get dX8_tried_33 fl_X8_13 (by repeat' (first | assumption | exact rF_eq | refine rF_ne (by decide) ?_ | refine rF_a ?_ | exact rA_eq | refine rA_ne (by decide) ?_ | refine rA_f ?_)) (by repeat' (first | assumption | exact rF_eq | refine rF_ne (by decide) ?_ | refine rF_a ?_ | exact rA_eq | refine rA_ne (by decide) ?_ | refine rA_f ?_)) ?_
          refine g_iload_n (i := 1) dX8_tried_36 rfl rfl ?_
          refine g_iald dX8_tried_37 (by repeat' (first | assumption | exact rF_eq | refine rF_ne (by decide) ?_ | refine rF_a ?_ | exact rA_eq | refine rA_ne (by decide) ?_ | refine rA_f ?_)) (nT (by omega)) (ha) ?_
          refine g_icmp_lt (tgt := 44) dX8_tried_38 (by decide) (fun hc38 => ?_) (fun hc38 => ?_)
          · (try simp (disch := omega) only [nT, t_m1000100, t_m1000010, t_m1000003, t_m1000002, t_m1000001, t_m1000000, t_m65535, t_m1000, t_m3, t_m1, t_0, t_1, t_2, t_3, t_4, t_5, t_6, t_7, t_8, t_9, t_10, t_11, t_12, t_13, t_15, t_16, t_20, t_21, t_22, t_32, t_40, t_41, t_48, t_49, t_57, t_59, t_60, t_63, t_72, t_76, t_88, t_100, t_144, t_200, t_255, t_288, t_400, t_800, t_999, t_1000, t_1024, t_1200, t_1600, t_3200, t_100000, t_200000, t_252645135, t_858993459, t_1431655765, u_m1000002, u_m1000001, u_m1000, u_m3, u_m1, u_0, u_1, u_2, u_3, u_4, u_5, u_7, u_8, u_10, u_11, u_15, u_60, u_100, u_255, u_999, u_1000, u_100000, u_4294967295] at hc38)
            rw [if_neg (by omega)] at hzk
            have hlt : ((tAt T k : Nat) : Int) < (sz a).toInt := by omega
            refine g_aload_n (i := 0) dX8_tried_44 rfl rfl ?_
            refine g_dup dX8_tried_45 rfl ?_
            refine g_get dX8_tried_46 fl_X8_237 (by repeat' (first | assumption | exact rF_eq | refine rF_ne (by decide) ?_ | refine rF_a ?_ | exact rA_eq | refine rA_ne (by decide) ?_ | refine rA_f ?_)) (by repeat' (first | assumption | exact rF_eq | refine rF_ne (by decide) ?_ | refine rF_a ?_ | exact rA_eq | refine rA_ne (by decide) ?_ | refine rA_f ?_)) ?_
            refine g_aload_n (i := 0) dX8_tried_49 rfl rfl ?_
            refine g_get dX8_tried_50 fl_X8_53 (by repeat' (first | assumption | exact rF_eq | refine rF_ne (by decide) ?_ | refine rF_a ?_ | exact rA_eq | refine rA_ne (by decide) ?_ | refine rA_f ?_)) (by repeat' (first | assumption | exact rF_eq | refine rF_ne (by decide) ?_ | refine rF_a ?_ | exact rA_eq | refine rA_ne (by decide) ?_ | refine rA_f ?_)) ?_
            refine g_iload dX8_tried_53 rfl ?_
            refine g_iald dX8_tried_55 (by repeat' (first | assumption | exact rF_eq | refine rF_ne (by decide) ?_ | refine rF_a ?_ | exact rA_eq | refine rA_ne (by decide) ?_ | refine rA_f ?_)) (nT (by omega)) (by omega) ?_
            refine g_iadd dX8_tried_56 ?_
            refine g_put dX8_tried_57 pl_X8_237 (by repeat' (first | assumption | exact rF_eq | refine rF_ne (by decide) ?_ | refine rF_a ?_ | exact rA_eq | refine rA_ne (by decide) ?_ | refine rA_f ?_)) (fun _ => ⟨rfl, rfl⟩) ?_
            refine g_aload_n (i := 0) dX8_tried_60 rfl rfl ?_
            refine g_get dX8_tried_61 fl_X8_16 (by repeat' (first | assumption | exact rF_eq | refine rF_ne (by decide) ?_ | refine rF_a ?_ | exact rA_eq | refine rA_ne (by decide) ?_ | refine rA_f ?_)) (by repeat' (first | assumption | exact rF_eq | refine rF_ne (by decide) ?_ | refine rF_a ?_ | exact rA_eq | refine rA_ne (by decide) ?_ | refine rA_f ?_)) ?_
            refine g_bipush (v := 100) dX8_tried_64 (by decide) ?_
            refine g_iload_n (i := 1) dX8_tried_66 rfl rfl ?_
            refine g_imul dX8_tried_67 ?_
            refine g_iload dX8_tried_68 rfl ?_
            refine g_iadd dX8_tried_70 ?_
            refine g_iald dX8_tried_71 (by repeat' (first | assumption | exact rF_eq | refine rF_ne (by decide) ?_ | refine rF_a ?_ | exact rA_eq | refine rA_ne (by decide) ?_ | refine rA_f ?_)) ((by rw [ixm]; exact nT (by omega))) (by omega) ?_
            rw [hio _ hlt]
            refine g_i2l dX8_tried_72 ?_
            refine g_aload_n (i := 0) dX8_tried_73 rfl rfl ?_
            refine g_get dX8_tried_74 fl_X8_68 (by repeat' (first | assumption | exact rF_eq | refine rF_ne (by decide) ?_ | refine rF_a ?_ | exact rA_eq | refine rA_ne (by decide) ?_ | refine rA_f ?_)) (by repeat' (first | assumption | exact rF_eq | refine rF_ne (by decide) ?_ | refine rF_a ?_ | exact rA_eq | refine rA_ne (by decide) ?_ | refine rA_f ?_)) ?_
            refine g_iload_n (i := 2) dX8_tried_77 rfl rfl ?_
            refine g_iald dX8_tried_78 (by repeat' (first | assumption | exact rF_eq | refine rF_ne (by decide) ?_ | refine rF_a ?_ | exact rA_eq | refine rA_ne (by decide) ?_ | refine rA_f ?_)) (nT (by omega)) (hs8) ?_
            refine g_i2l dX8_tried_79 ?_
            refine g_ladd dX8_tried_80 ?_
            refine g_lstore dX8_tried_81 (Nat.le_of_ble_eq_true rfl) rfl ?_
            refine g_lload dX8_tried_83 rfl ?_
            refine g_aload_n (i := 0) dX8_tried_85 rfl rfl ?_
            refine g_get dX8_tried_86 fl_X8_47 (by repeat' (first | assumption | exact rF_eq | refine rF_ne (by decide) ?_ | refine rF_a ?_ | exact rA_eq | refine rA_ne (by decide) ?_ | refine rA_f ?_)) (by repeat' (first | assumption | exact rF_eq | refine rF_ne (by decide) ?_ | refine rF_a ?_ | exact rA_eq | refine rA_ne (by decide) ?_ | refine rA_f ?_)) ?_
            refine g_iload dX8_tried_89 rfl ?_
            refine g_iald dX8_tried_91 (by repeat' (first | assumption | exact rF_eq | refine rF_ne (by decide) ?_ | refine rF_a ?_ | exact rA_eq | refine rA_ne (by decide) ?_ | refine rA_f ?_)) (nT (by omega)) (by omega) ?_
            refine g_i2l dX8_tried_92 ?_
            refine g_lcmp dX8_tried_93 ?_
            refine g_if_lt (tgt := 111) dX8_tried_94 (by decide) (fun hc94 => ?_) (fun hc94 => ?_)
            · replace hc94 := lc_lt.mp hc94; (try simp only [l_add32, l_i] at hc94)
              (try simp (disch := omega) only [nT, t_m1000100, t_m1000010, t_m1000003, t_m1000002, t_m1000001, t_m1000000, t_m65535, t_m1000, t_m3, t_m1, t_0, t_1, t_2, t_3, t_4, t_5, t_6, t_7, t_8, t_9, t_10, t_11, t_12, t_13, t_15, t_16, t_20, t_21, t_22, t_32, t_40, t_41, t_48, t_49, t_57, t_59, t_60, t_63, t_72, t_76, t_88, t_100, t_144, t_200, t_255, t_288, t_400, t_800, t_999, t_1000, t_1024, t_1200, t_1600, t_3200, t_100000, t_200000, t_252645135, t_858993459, t_1431655765, u_m1000002, u_m1000001, u_m1000, u_m3, u_m1, u_0, u_1, u_2, u_3, u_4, u_5, u_7, u_8, u_10, u_11, u_15, u_60, u_100, u_255, u_999, u_1000, u_100000, u_4294967295] at hc94)
              rw [if_pos (fls_t.mpr (by omega))] at hzk
              subst hzk
              refine g_aload_n (i := 0) dX8_tried_111 rfl rfl ?_
              refine g_get dX8_tried_112 fl_X8_56 (by repeat' (first | assumption | exact rF_eq | refine rF_ne (by decide) ?_ | refine rF_a ?_ | exact rA_eq | refine rA_ne (by decide) ?_ | refine rA_f ?_)) (by repeat' (first | assumption | exact rF_eq | refine rF_ne (by decide) ?_ | refine rF_a ?_ | exact rA_eq | refine rA_ne (by decide) ?_ | refine rA_f ?_)) ?_
              refine g_iload dX8_tried_115 rfl ?_
              refine g_iald dX8_tried_117 (by repeat' (first | assumption | exact rF_eq | refine rF_ne (by decide) ?_ | refine rF_a ?_ | exact rA_eq | refine rA_ne (by decide) ?_ | refine rA_f ?_)) (nT (by omega)) (by omega) ?_
              refine g_iret dX8_tried_118 rfl (rfl) (hQ _ _ ?_)
              refine ⟨rfl, _, by rw [sF_sF], fun b y q => ?_⟩
              cases q
              rw [Int32.add_assoc]
            · replace hc94 := lc_ge.mp hc94; (try simp only [l_add32, l_i] at hc94)
              (try simp (disch := omega) only [nT, t_m1000100, t_m1000010, t_m1000003, t_m1000002, t_m1000001, t_m1000000, t_m65535, t_m1000, t_m3, t_m1, t_0, t_1, t_2, t_3, t_4, t_5, t_6, t_7, t_8, t_9, t_10, t_11, t_12, t_13, t_15, t_16, t_20, t_21, t_22, t_32, t_40, t_41, t_48, t_49, t_57, t_59, t_60, t_63, t_72, t_76, t_88, t_100, t_144, t_200, t_255, t_288, t_400, t_800, t_999, t_1000, t_1024, t_1200, t_1600, t_3200, t_100000, t_200000, t_252645135, t_858993459, t_1431655765, u_m1000002, u_m1000001, u_m1000, u_m3, u_m1, u_0, u_1, u_2, u_3, u_4, u_5, u_7, u_8, u_10, u_11, u_15, u_60, u_100, u_255, u_999, u_1000, u_100000, u_4294967295] at hc94)
              refine g_lload dX8_tried_97 rfl ?_
              refine g_aload_n (i := 0) dX8_tried_99 rfl rfl ?_
              refine g_get dX8_tried_100 fl_X8_50 (by repeat' (first | assumption | exact rF_eq | refine rF_ne (by decide) ?_ | refine rF_a ?_ | exact rA_eq | refine rA_ne (by decide) ?_ | refine rA_f ?_)) (by repeat' (first | assumption | exact rF_eq | refine rF_ne (by decide) ?_ | refine rF_a ?_ | exact rA_eq | refine rA_ne (by decide) ?_ | refine rA_f ?_)) ?_
              refine g_iload dX8_tried_103 rfl ?_
              refine g_iald dX8_tried_105 (by repeat' (first | assumption | exact rF_eq | refine rF_ne (by decide) ?_ | refine rF_a ?_ | exact rA_eq | refine rA_ne (by decide) ?_ | refine rA_f ?_)) (nT (by omega)) (by omega) ?_
              refine g_i2l dX8_tried_106 ?_
              refine g_lcmp dX8_tried_107 ?_
              refine g_if_le (tgt := 119) dX8_tried_108 (by decide) (fun hc108 => ?_) (fun hc108 => ?_)
              · replace hc108 := lc_le.mp hc108; (try simp only [l_add32, l_i] at hc108)
                (try simp (disch := omega) only [nT, t_m1000100, t_m1000010, t_m1000003, t_m1000002, t_m1000001, t_m1000000, t_m65535, t_m1000, t_m3, t_m1, t_0, t_1, t_2, t_3, t_4, t_5, t_6, t_7, t_8, t_9, t_10, t_11, t_12, t_13, t_15, t_16, t_20, t_21, t_22, t_32, t_40, t_41, t_48, t_49, t_57, t_59, t_60, t_63, t_72, t_76, t_88, t_100, t_144, t_200, t_255, t_288, t_400, t_800, t_999, t_1000, t_1024, t_1200, t_1600, t_3200, t_100000, t_200000, t_252645135, t_858993459, t_1431655765, u_m1000002, u_m1000001, u_m1000, u_m3, u_m1, u_0, u_1, u_2, u_3, u_4, u_5, u_7, u_8, u_10, u_11, u_15, u_60, u_100, u_255, u_999, u_1000, u_100000, u_4294967295] at hc108)
                rw [if_neg (fun q => by have := fls_t.mp q; omega)] at hzk
                refine g_iinc dX8_tried_119 rfl (Nat.le_of_ble_eq_true rfl) rfl ?_
                refine g_goto (tgt := 14) dX8_tried_122 (by decide) ?_
                rw [sF_sF, ni_incO, Int32.add_assoc]
                exact ih (k + 1) _ _ _ (by omega) hzk
              · replace hc108 := lc_gt.mp hc108; (try simp only [l_add32, l_i] at hc108)
                (try simp (disch := omega) only [nT, t_m1000100, t_m1000010, t_m1000003, t_m1000002, t_m1000001, t_m1000000, t_m65535, t_m1000, t_m3, t_m1, t_0, t_1, t_2, t_3, t_4, t_5, t_6, t_7, t_8, t_9, t_10, t_11, t_12, t_13, t_15, t_16, t_20, t_21, t_22, t_32, t_40, t_41, t_48, t_49, t_57, t_59, t_60, t_63, t_72, t_76, t_88, t_100, t_144, t_200, t_255, t_288, t_400, t_800, t_999, t_1000, t_1024, t_1200, t_1600, t_3200, t_100000, t_200000, t_252645135, t_858993459, t_1431655765, u_m1000002, u_m1000001, u_m1000, u_m3, u_m1, u_0, u_1, u_2, u_3, u_4, u_5, u_7, u_8, u_10, u_11, u_15, u_60, u_100, u_255, u_999, u_1000, u_100000, u_4294967295] at hc108)
                rw [if_pos (fls_t.mpr (by omega))] at hzk
                subst hzk
                refine g_aload_n (i := 0) dX8_tried_111 rfl rfl ?_
                refine g_get dX8_tried_112 fl_X8_56 (by repeat' (first | assumption | exact rF_eq | refine rF_ne (by decide) ?_ | refine rF_a ?_ | exact rA_eq | refine rA_ne (by decide) ?_ | refine rA_f ?_)) (by repeat' (first | assumption | exact rF_eq | refine rF_ne (by decide) ?_ | refine rF_a ?_ | exact rA_eq | refine rA_ne (by decide) ?_ | refine rA_f ?_)) ?_
                refine g_iload dX8_tried_115 rfl ?_
                refine g_iald dX8_tried_117 (by repeat' (first | assumption | exact rF_eq | refine rF_ne (by decide) ?_ | refine rF_a ?_ | exact rA_eq | refine rA_ne (by decide) ?_ | refine rA_f ?_)) (nT (by omega)) (by omega) ?_
                refine g_iret dX8_tried_118 rfl (rfl) (hQ _ _ ?_)
                refine ⟨rfl, _, by rw [sF_sF], fun b y q => ?_⟩
                cases q
                rw [Int32.add_assoc]
          · (try simp (disch := omega) only [nT, t_m1000100, t_m1000010, t_m1000003, t_m1000002, t_m1000001, t_m1000000, t_m65535, t_m1000, t_m3, t_m1, t_0, t_1, t_2, t_3, t_4, t_5, t_6, t_7, t_8, t_9, t_10, t_11, t_12, t_13, t_15, t_16, t_20, t_21, t_22, t_32, t_40, t_41, t_48, t_49, t_57, t_59, t_60, t_63, t_72, t_76, t_88, t_100, t_144, t_200, t_255, t_288, t_400, t_800, t_999, t_1000, t_1024, t_1200, t_1600, t_3200, t_100000, t_200000, t_252645135, t_858993459, t_1431655765, u_m1000002, u_m1000001, u_m1000, u_m3, u_m1, u_0, u_1, u_2, u_3, u_4, u_5, u_7, u_8, u_10, u_11, u_15, u_60, u_100, u_255, u_999, u_1000, u_100000, u_4294967295] at hc38)
            rw [if_pos (by omega)] at hzk
            subst hzk
            refine g_ldc dX8_tried_41 kc_X8_142 ?_
            refine g_iret dX8_tried_43 rfl (rfl) (hQ _ _ ?_)
            exact ⟨rfl, _, rfl, fun b y q => by cases q⟩
    refine g_aload_n (i := 0) dX8_tried_0 rfl rfl ?_
    refine g_get dX8_tried_1 fl_X8_71 (by repeat' (first | assumption | exact rF_eq | refine rF_ne (by decide) ?_ | refine rF_a ?_ | exact rA_eq | refine rA_ne (by decide) ?_ | refine rA_f ?_)) (by repeat' (first | assumption | exact rF_eq | refine rF_ne (by decide) ?_ | refine rF_a ?_ | exact rA_eq | refine rA_ne (by decide) ?_ | refine rA_f ?_)) ?_
    refine g_iload_n (i := 2) dX8_tried_4 rfl rfl ?_
    refine g_zald dX8_tried_5 (by repeat' (first | assumption | exact rF_eq | refine rF_ne (by decide) ?_ | refine rF_a ?_ | exact rA_eq | refine rA_ne (by decide) ?_ | refine rA_f ?_)) (nT (by omega)) (hs8) ?_
    refine g_if_eq (tgt := 12) dX8_tried_6 (by decide) (fun hc6 => ?_) (fun hc6 => ?_)
    · have hd6 := i_eq.mp hc6; (try simp (disch := omega) only [nT, t_m1000100, t_m1000010, t_m1000003, t_m1000002, t_m1000001, t_m1000000, t_m65535, t_m1000, t_m3, t_m1, t_0, t_1, t_2, t_3, t_4, t_5, t_6, t_7, t_8, t_9, t_10, t_11, t_12, t_13, t_15, t_16, t_20, t_21, t_22, t_32, t_40, t_41, t_48, t_49, t_57, t_59, t_60, t_63, t_72, t_76, t_88, t_100, t_144, t_200, t_255, t_288, t_400, t_800, t_999, t_1000, t_1024, t_1200, t_1600, t_3200, t_100000, t_200000, t_252645135, t_858993459, t_1431655765, u_m1000002, u_m1000001, u_m1000, u_m3, u_m1, u_0, u_1, u_2, u_3, u_4, u_5, u_7, u_8, u_10, u_11, u_15, u_60, u_100, u_255, u_999, u_1000, u_100000, u_4294967295] at hd6)
      refine g_iconst (v := 0) dX8_tried_12 (by decide) ?_
      refine g_istore_n (i := 3) dX8_tried_13 rfl (Nat.le_of_ble_eq_true rfl) rfl ?_
      have k0 := key T.1 0 0 hU hU (by omega) hz2
      rw [Int32.add_zero, sF_self htk] at k0
      exact k0
    · have hd6 := mt i_eq.mpr hc6; (try simp (disch := omega) only [nT, t_m1000100, t_m1000010, t_m1000003, t_m1000002, t_m1000001, t_m1000000, t_m65535, t_m1000, t_m3, t_m1, t_0, t_1, t_2, t_3, t_4, t_5, t_6, t_7, t_8, t_9, t_10, t_11, t_12, t_13, t_15, t_16, t_20, t_21, t_22, t_32, t_40, t_41, t_48, t_49, t_57, t_59, t_60, t_63, t_72, t_76, t_88, t_100, t_144, t_200, t_255, t_288, t_400, t_800, t_999, t_1000, t_1024, t_1200, t_1600, t_3200, t_100000, t_200000, t_252645135, t_858993459, t_1431655765, u_m1000002, u_m1000001, u_m1000, u_m3, u_m1, u_0, u_1, u_2, u_3, u_4, u_5, u_7, u_8, u_10, u_11, u_15, u_60, u_100, u_255, u_999, u_1000, u_100000, u_4294967295] at hd6); exact absurd (i_eq.mpr (by rw [t_0]; exact hd)) hc6
  · have hzz : trOf T E io (sz a).toInt s = some (15, 0) := if_neg hd
    rw [hzz] at hQ
    refine g_aload_n (i := 0) dX8_tried_0 rfl rfl ?_
    refine g_get dX8_tried_1 fl_X8_71 (by repeat' (first | assumption | exact rF_eq | refine rF_ne (by decide) ?_ | refine rF_a ?_ | exact rA_eq | refine rA_ne (by decide) ?_ | refine rA_f ?_)) (by repeat' (first | assumption | exact rF_eq | refine rF_ne (by decide) ?_ | refine rF_a ?_ | exact rA_eq | refine rA_ne (by decide) ?_ | refine rA_f ?_)) ?_
    refine g_iload_n (i := 2) dX8_tried_4 rfl rfl ?_
    refine g_zald dX8_tried_5 (by repeat' (first | assumption | exact rF_eq | refine rF_ne (by decide) ?_ | refine rF_a ?_ | exact rA_eq | refine rA_ne (by decide) ?_ | refine rA_f ?_)) (nT (by omega)) (hs8) ?_
    refine g_if_eq (tgt := 12) dX8_tried_6 (by decide) (fun hc6 => ?_) (fun hc6 => ?_)
    · have hd6 := i_eq.mp hc6; (try simp (disch := omega) only [nT, t_m1000100, t_m1000010, t_m1000003, t_m1000002, t_m1000001, t_m1000000, t_m65535, t_m1000, t_m3, t_m1, t_0, t_1, t_2, t_3, t_4, t_5, t_6, t_7, t_8, t_9, t_10, t_11, t_12, t_13, t_15, t_16, t_20, t_21, t_22, t_32, t_40, t_41, t_48, t_49, t_57, t_59, t_60, t_63, t_72, t_76, t_88, t_100, t_144, t_200, t_255, t_288, t_400, t_800, t_999, t_1000, t_1024, t_1200, t_1600, t_3200, t_100000, t_200000, t_252645135, t_858993459, t_1431655765, u_m1000002, u_m1000001, u_m1000, u_m3, u_m1, u_0, u_1, u_2, u_3, u_4, u_5, u_7, u_8, u_10, u_11, u_15, u_60, u_100, u_255, u_999, u_1000, u_100000, u_4294967295] at hd6); exact absurd (i_eq.mp hc6) (by rw [t_0]; exact hd)
    · have hd6 := mt i_eq.mpr hc6; (try simp (disch := omega) only [nT, t_m1000100, t_m1000010, t_m1000003, t_m1000002, t_m1000001, t_m1000000, t_m65535, t_m1000, t_m3, t_m1, t_0, t_1, t_2, t_3, t_4, t_5, t_6, t_7, t_8, t_9, t_10, t_11, t_12, t_13, t_15, t_16, t_20, t_21, t_22, t_32, t_40, t_41, t_48, t_49, t_57, t_59, t_60, t_63, t_72, t_76, t_88, t_100, t_144, t_200, t_255, t_288, t_400, t_800, t_999, t_1000, t_1024, t_1200, t_1600, t_3200, t_100000, t_200000, t_252645135, t_858993459, t_1431655765, u_m1000002, u_m1000001, u_m1000, u_m3, u_m1, u_0, u_1, u_2, u_3, u_4, u_5, u_7, u_8, u_10, u_11, u_15, u_60, u_100, u_255, u_999, u_1000, u_100000, u_4294967295] at hd6)
      refine g_bipush (v := 15) dX8_tried_9 (by decide) ?_
      refine g_iret dX8_tried_11 rfl (rfl) (hQ _ _ ?_)
      exact ⟨rfl, tk, (sF_self htk).symm, fun b y q => by cases q; rw [Int32.add_zero]⟩
abbrev GChM (h : HH) (w : SH) (T : TS) (E : ST2) (A : LA) (G : GL2) (ln sz it : Nat → Int32) : Prop := ShM h ln sz it ∧ ShE w ln sz it ∧ TM' h T ∧ GEM E h ∧ GLM A h ∧ GOM G h
theorem gchm_f {h : HH} {w : SH} {T : TS} {E : ST2} {A : LA} {G : GL2} {ln sz it : Nat → Int32} (hg : GChM h w T E A G ln sz it) (v : Value) : GChM (sF h 44 44 v) w T E A G ln sz it := hg
theorem fa_w {n i : Nat} {fa : Nat → Nat → Int32} {v : Nat → Int32} (x : Int32) (h : v i = x) : upd (fun c => fa c i) n x = fun c => if c = n then v i else fa c i := by
  funext c
  unfold upd
  by_cases q : c = n
  · rw [if_pos q, if_pos q, h]
  · rw [if_neg q, if_neg q]
theorem m_chip {w : SH} {T : TS} {E : ST2} {A : LA} {G : GL2} (hw : WfS w) (hT : WfT T) (hA : WfA A) (hG : WfG G) {h : HH} (gs : GSM w h) (gt : GTM T h) (ge : GEM E h) (gl : GLM A h) (go : GOM G h) (s q : Int32) : CT mX8_chip 3 0 0 [.ref 44, .int s, .int q] h (fun r h' => r = some (.int (opChip w T E A G s q).1) ∧ gF h' 44 1 = .int (opChip w T E A G s q).2.1 ∧ GOM (opChip w T E A G s q).2.2 h' ∧ Fr [66, 67, 68, 69, 70, 71] [(44, 0), (44, 1), (44, 36), (44, 44)] h h') := by
  obtain ⟨ln, sz, it, h2, hs, hE⟩ := gs
  obtain ⟨e1, e2, e3, e4, e5, e6, e7⟩ := id hs
  have t2 := gt.2.1
  obtain ⟨-, a2, a3⟩ := gl
  obtain ⟨-, o2, o3, ⟨o4, o5, o6, o7, o8, o9⟩, o10, o11, o12, o13, o14, o15⟩ := go
  have hG1 := hG.1
  have hT1 := hT.1
  refine CT.go [.ref 44, .int s, .int q, hU, hU, hU, hU] (by decide +kernel) rfl rfl (fun Q' hQ => ?_)
  refine g_aload_n (i := 0) dX8_chip_0 rfl rfl ?_
  refine g_iconst (v := 0) dX8_chip_1 (by decide) ?_
  refine g_put dX8_chip_2 pl_X8_107 (by repeat' (first | assumption | exact rF_eq | refine rF_ne (by decide) ?_ | refine rF_a ?_ | exact rA_eq | refine rA_ne (by decide) ?_ | refine rA_f ?_)) (fun _ => ⟨rfl, rfl⟩) ?_
  refine g_iload_n (i := 1) dX8_chip_5 rfl rfl ?_
  refine g_callS (M' := mX8_isSheet) dX8_chip_6 lc_X8_isSheet ml_X8_120 (c_isSheet _ s) rfl rfl ⟨Nat.le_of_ble_eq_true rfl, Nat.le_of_ble_eq_true rfl, Nat.le_of_ble_eq_true rfl, Nat.le_of_ble_eq_true rfl⟩ (Nat.le_of_ble_eq_true rfl) ?_
  intro r_ h_ q_; obtain ⟨q1_, q2_⟩ := q_; have q2_ := q2_.symm; subst q1_; subst q2_
  refine g_if_eq (tgt := 19) dX8_chip_9 (by decide) (fun hc9 => ?_) (fun hc9 => ?_)
  · replace hc9 := bI_0.mp hc9
    (try simp (disch := omega) only [nT, t_m1000100, t_m1000010, t_m1000003, t_m1000002, t_m1000001, t_m1000000, t_m65535, t_m1000, t_m3, t_m1, t_0, t_1, t_2, t_3, t_4, t_5, t_6, t_7, t_8, t_9, t_10, t_11, t_12, t_13, t_15, t_16, t_20, t_21, t_22, t_32, t_40, t_41, t_48, t_49, t_57, t_59, t_60, t_63, t_72, t_76, t_88, t_100, t_144, t_200, t_255, t_288, t_400, t_800, t_999, t_1000, t_1024, t_1200, t_1600, t_3200, t_100000, t_200000, t_252645135, t_858993459, t_1431655765, u_m1000002, u_m1000001, u_m1000, u_m3, u_m1, u_0, u_1, u_2, u_3, u_4, u_5, u_7, u_8, u_10, u_11, u_15, u_60, u_100, u_255, u_999, u_1000, u_100000, u_4294967295] at hc9)
    refine g_ldc dX8_chip_19 kc_X8_126 ?_
    refine g_iret dX8_chip_21 rfl (rfl) (hQ _ _ ?_)
    have e : opChip w T E A G s q = _ := if_pos (by omega)
    rw [e]; exact ⟨rfl, h2, ⟨e1, o2, o3, ⟨o4, o5, o6, o7, o8, o9⟩, o10, o11, o12, o13, o14, o15⟩, fr_sF (by decide) fr_rf⟩
  · replace hc9 := bI_n0.mp hc9
    (try simp (disch := omega) only [nT, t_m1000100, t_m1000010, t_m1000003, t_m1000002, t_m1000001, t_m1000000, t_m65535, t_m1000, t_m3, t_m1, t_0, t_1, t_2, t_3, t_4, t_5, t_6, t_7, t_8, t_9, t_10, t_11, t_12, t_13, t_15, t_16, t_20, t_21, t_22, t_32, t_40, t_41, t_48, t_49, t_57, t_59, t_60, t_63, t_72, t_76, t_88, t_100, t_144, t_200, t_255, t_288, t_400, t_800, t_999, t_1000, t_1024, t_1200, t_1600, t_3200, t_100000, t_200000, t_252645135, t_858993459, t_1431655765, u_m1000002, u_m1000001, u_m1000, u_m3, u_m1, u_0, u_1, u_2, u_3, u_4, u_5, u_7, u_8, u_10, u_11, u_15, u_60, u_100, u_255, u_999, u_1000, u_100000, u_4294967295] at hc9)
    refine g_iload_n (i := 2) dX8_chip_12 rfl rfl ?_
    refine g_callS (M' := mX8_isSeat) dX8_chip_13 lc_X8_isSeat ml_X8_224 (c_isSeat _ q) rfl rfl ⟨Nat.le_of_ble_eq_true rfl, Nat.le_of_ble_eq_true rfl, Nat.le_of_ble_eq_true rfl, Nat.le_of_ble_eq_true rfl⟩ (Nat.le_of_ble_eq_true rfl) ?_
    intro r_ h_ q_; obtain ⟨q1_, q2_⟩ := q_; have q2_ := q2_.symm; subst q1_; subst q2_
    refine g_if_ne (tgt := 22) dX8_chip_16 (by decide) (fun hc16 => ?_) (fun hc16 => ?_)
    · replace hc16 := bI_n0.mp hc16
      (try simp (disch := omega) only [nT, t_m1000100, t_m1000010, t_m1000003, t_m1000002, t_m1000001, t_m1000000, t_m65535, t_m1000, t_m3, t_m1, t_0, t_1, t_2, t_3, t_4, t_5, t_6, t_7, t_8, t_9, t_10, t_11, t_12, t_13, t_15, t_16, t_20, t_21, t_22, t_32, t_40, t_41, t_48, t_49, t_57, t_59, t_60, t_63, t_72, t_76, t_88, t_100, t_144, t_200, t_255, t_288, t_400, t_800, t_999, t_1000, t_1024, t_1200, t_1600, t_3200, t_100000, t_200000, t_252645135, t_858993459, t_1431655765, u_m1000002, u_m1000001, u_m1000, u_m3, u_m1, u_0, u_1, u_2, u_3, u_4, u_5, u_7, u_8, u_10, u_11, u_15, u_60, u_100, u_255, u_999, u_1000, u_100000, u_4294967295] at hc16)
      obtain ⟨a, ha, rfl, hta⟩ := n_of (n := 8) (x := s) (by omega) (by omega)
      obtain ⟨b, hb, rfl, htb⟩ := n_of (n := 8) (x := q) (by omega) (by omega)
      have hwa := hw a ha
      have q0 := hE.1 a ha
      have q1 := congrArg Int32.toInt q0.1
      have q2 := congrArg Int32.toInt q0.2
      have en : ∀ x, opChip w T E A G (nI a) (nI b) = x ↔ _ = x := fun x => by rw [show opChip w T E A G (nI a) (nI b) = _ from if_neg (by omega), nTN (by omega), nTN (by omega)]
      refine g_aload_n (i := 0) dX8_chip_22 rfl rfl ?_
      refine g_get dX8_chip_23 fl_X8_197 (by repeat' (first | assumption | exact rF_eq | refine rF_ne (by decide) ?_ | refine rF_a ?_ | exact rA_eq | refine rA_ne (by decide) ?_ | refine rA_f ?_)) (by repeat' (first | assumption | exact rF_eq | refine rF_ne (by decide) ?_ | refine rF_a ?_ | exact rA_eq | refine rA_ne (by decide) ?_ | refine rA_f ?_)) ?_
      refine g_if_ne (tgt := 32) dX8_chip_26 (by decide) (fun hc26 => ?_) (fun hc26 => ?_)
      · have hd26 := mt i_eq.mpr hc26; (try simp (disch := omega) only [nT, t_m1000100, t_m1000010, t_m1000003, t_m1000002, t_m1000001, t_m1000000, t_m65535, t_m1000, t_m3, t_m1, t_0, t_1, t_2, t_3, t_4, t_5, t_6, t_7, t_8, t_9, t_10, t_11, t_12, t_13, t_15, t_16, t_20, t_21, t_22, t_32, t_40, t_41, t_48, t_49, t_57, t_59, t_60, t_63, t_72, t_76, t_88, t_100, t_144, t_200, t_255, t_288, t_400, t_800, t_999, t_1000, t_1024, t_1200, t_1600, t_3200, t_100000, t_200000, t_252645135, t_858993459, t_1431655765, u_m1000002, u_m1000001, u_m1000, u_m3, u_m1, u_0, u_1, u_2, u_3, u_4, u_5, u_7, u_8, u_10, u_11, u_15, u_60, u_100, u_255, u_999, u_1000, u_100000, u_4294967295] at hd26)
        refine g_aload_n (i := 0) dX8_chip_32 rfl rfl ?_
        refine g_get dX8_chip_33 fl_X8_240 (by repeat' (first | assumption | exact rF_eq | refine rF_ne (by decide) ?_ | refine rF_a ?_ | exact rA_eq | refine rA_ne (by decide) ?_ | refine rA_f ?_)) (by repeat' (first | assumption | exact rF_eq | refine rF_ne (by decide) ?_ | refine rF_a ?_ | exact rA_eq | refine rA_ne (by decide) ?_ | refine rA_f ?_)) ?_
        refine g_sipush (v := 200) dX8_chip_36 (by decide) ?_
        refine g_icmp_ne (tgt := 45) dX8_chip_39 (by decide) (fun hc39 => ?_) (fun hc39 => ?_)
        · have hd39 := mt i_eq.mpr hc39; (try simp (disch := omega) only [nT, t_m1000100, t_m1000010, t_m1000003, t_m1000002, t_m1000001, t_m1000000, t_m65535, t_m1000, t_m3, t_m1, t_0, t_1, t_2, t_3, t_4, t_5, t_6, t_7, t_8, t_9, t_10, t_11, t_12, t_13, t_15, t_16, t_20, t_21, t_22, t_32, t_40, t_41, t_48, t_49, t_57, t_59, t_60, t_63, t_72, t_76, t_88, t_100, t_144, t_200, t_255, t_288, t_400, t_800, t_999, t_1000, t_1024, t_1200, t_1600, t_3200, t_100000, t_200000, t_252645135, t_858993459, t_1431655765, u_m1000002, u_m1000001, u_m1000, u_m3, u_m1, u_0, u_1, u_2, u_3, u_4, u_5, u_7, u_8, u_10, u_11, u_15, u_60, u_100, u_255, u_999, u_1000, u_100000, u_4294967295] at hd39)
          refine g_aload_n (i := 0) dX8_chip_45 rfl rfl ?_
          refine g_get dX8_chip_46 fl_X8_7 (by repeat' (first | assumption | exact rF_eq | refine rF_ne (by decide) ?_ | refine rF_a ?_ | exact rA_eq | refine rA_ne (by decide) ?_ | refine rA_f ?_)) (by repeat' (first | assumption | exact rF_eq | refine rF_ne (by decide) ?_ | refine rF_a ?_ | exact rA_eq | refine rA_ne (by decide) ?_ | refine rA_f ?_)) ?_
          refine g_iload_n (i := 1) dX8_chip_49 rfl rfl ?_
          refine g_iald dX8_chip_50 (by repeat' (first | assumption | exact rF_eq | refine rF_ne (by decide) ?_ | refine rF_a ?_ | exact rA_eq | refine rA_ne (by decide) ?_ | refine rA_f ?_)) (hta) (ha) ?_
          refine g_if_ge (tgt := 60) dX8_chip_51 (by decide) (fun hc51 => ?_) (fun hc51 => ?_)
          · (try simp (disch := omega) only [nT, t_m1000100, t_m1000010, t_m1000003, t_m1000002, t_m1000001, t_m1000000, t_m65535, t_m1000, t_m3, t_m1, t_0, t_1, t_2, t_3, t_4, t_5, t_6, t_7, t_8, t_9, t_10, t_11, t_12, t_13, t_15, t_16, t_20, t_21, t_22, t_32, t_40, t_41, t_48, t_49, t_57, t_59, t_60, t_63, t_72, t_76, t_88, t_100, t_144, t_200, t_255, t_288, t_400, t_800, t_999, t_1000, t_1024, t_1200, t_1600, t_3200, t_100000, t_200000, t_252645135, t_858993459, t_1431655765, u_m1000002, u_m1000001, u_m1000, u_m3, u_m1, u_0, u_1, u_2, u_3, u_4, u_5, u_7, u_8, u_10, u_11, u_15, u_60, u_100, u_255, u_999, u_1000, u_100000, u_4294967295] at hc51)
            have e := (en _).mpr ((if_neg (by omega)).trans ((if_neg (by omega)).trans (if_neg (by omega))))
            obtain ⟨M, hM, hM2, hM3⟩ := n_of (n := 5) (x := A.2) (by have := hA.1; omega) (by have := hA.2; omega)
            rw [hM2, nTN (by omega)] at e
            rw [hM2] at a3
            have hM1 : 1 ≤ M := by have := hA.1; omega
            have hio : ∀ i : Nat, (i : Int) < (sz a).toInt → it (100 * a + i) = (fun i => w.2.2.2 (100 * a + i)) i := fun i hi => hE.2 a i ha (by rw [← q0.2]; exact hi)
            rw [← q0.2] at e
            have hz100 : (sz a).toInt ≤ 100 := by omega
            generalize htr : trOf T E (fun i => w.2.2.2 (100 * a + i)) (sz a).toInt = tr1 at e
            have htr9 : ∀ s, trOf T E (fun i => w.2.2.2 (100 * a + i)) (sz a).toInt s = tr1 s := fun s => by rw [htr]
            generalize hzz : trl tr1 A.1 M b 0 0 = z at e
            have none9 : z = none → ∀ (tk : Int32) (x3 x4 x6 : Value), GG (EM mX8_chip 3 0 0 Q') 0 0 132 [.ref 44, .int (nI a), .int (nI b), x3, x4, .int (-1000000), x6] [] (sF (sF h 44 0 (.int 0)) 44 44 (.int tk)) := by
              intro hz tk x3 x4 x6
              subst hz
              refine g_iload dX8_chip_132 rfl ?_
              refine g_ldc dX8_chip_134 kc_X8_142 ?_
              refine g_icmp_ne (tgt := 145) dX8_chip_136 (by decide) (fun hc136 => ?_) (fun hc136 => ?_)
              · have hd136 := mt i_eq.mpr hc136; (try simp (disch := omega) only [nT, t_m1000100, t_m1000010, t_m1000003, t_m1000002, t_m1000001, t_m1000000, t_m65535, t_m1000, t_m3, t_m1, t_0, t_1, t_2, t_3, t_4, t_5, t_6, t_7, t_8, t_9, t_10, t_11, t_12, t_13, t_15, t_16, t_20, t_21, t_22, t_32, t_40, t_41, t_48, t_49, t_57, t_59, t_60, t_63, t_72, t_76, t_88, t_100, t_144, t_200, t_255, t_288, t_400, t_800, t_999, t_1000, t_1024, t_1200, t_1600, t_3200, t_100000, t_200000, t_252645135, t_858993459, t_1431655765, u_m1000002, u_m1000001, u_m1000, u_m3, u_m1, u_0, u_1, u_2, u_3, u_4, u_5, u_7, u_8, u_10, u_11, u_15, u_60, u_100, u_255, u_999, u_1000, u_100000, u_4294967295] at hd136); exact absurd rfl hc136
              · have hd136 := i_eq.mp hc136; (try simp (disch := omega) only [nT, t_m1000100, t_m1000010, t_m1000003, t_m1000002, t_m1000001, t_m1000000, t_m65535, t_m1000, t_m3, t_m1, t_0, t_1, t_2, t_3, t_4, t_5, t_6, t_7, t_8, t_9, t_10, t_11, t_12, t_13, t_15, t_16, t_20, t_21, t_22, t_32, t_40, t_41, t_48, t_49, t_57, t_59, t_60, t_63, t_72, t_76, t_88, t_100, t_144, t_200, t_255, t_288, t_400, t_800, t_999, t_1000, t_1024, t_1200, t_1600, t_3200, t_100000, t_200000, t_252645135, t_858993459, t_1431655765, u_m1000002, u_m1000001, u_m1000, u_m3, u_m1, u_0, u_1, u_2, u_3, u_4, u_5, u_7, u_8, u_10, u_11, u_15, u_60, u_100, u_255, u_999, u_1000, u_100000, u_4294967295] at hd136)
                refine g_aload_n (i := 0) dX8_chip_139 rfl rfl ?_
                refine g_iconst (v := 2) dX8_chip_140 (by decide) ?_
                refine g_callV (M' := mX8_found) dX8_chip_141 lc_X8_found ml_X8_127 (c_mfound (h := sF (sF h 44 0 (.int 0)) 44 44 (.int tk)) e1 2) rfl rfl (by repeat' (first | assumption | exact rF_eq | refine rF_ne (by decide) ?_ | refine rF_a ?_ | exact rA_eq | refine rA_ne (by decide) ?_ | refine rA_f ?_)) rfl ⟨Nat.le_of_ble_eq_true rfl, Nat.le_of_ble_eq_true rfl, Nat.le_of_ble_eq_true rfl, Nat.le_of_ble_eq_true rfl⟩ (Nat.le_of_ble_eq_true rfl) ?_
                intro r_ h_ q_; obtain ⟨q1_, q2_⟩ := q_; have q2_ := q2_.symm; subst q1_; subst q2_
                refine g_iret dX8_chip_144 rfl (rfl) (hQ _ _ ?_)
                rw [e]; exact ⟨rfl, rfl, ⟨e1, o2, o3, ⟨o4, o5, o6, o7, o8, o9⟩, o10, o11, o12, o13, o14, o15⟩, fr_sF (by decide) (fr_sF (by decide) (fr_sF (by decide) fr_rf))⟩
            have some9 : ∀ (c : Nat) (bn tot : Int32) (sv : Nat), z = some (c, bn, tot, sv) → ¬ bn = -1000000 → GG (EM mX8_chip 3 0 0 Q') 0 0 132 [.ref 44, .int (nI a), .int (nI b), .int (nI sv), .int (nI c), .int bn, .int (trV (tr1 b))] [] (sF (sF h 44 0 (.int 0)) 44 44 (.int tot)) := by
              intro c bn tot sv hz hbn
              subst hz
              have g200 : G.1 < 200 := by omega
              refine g_iload dX8_chip_132 rfl ?_
              refine g_ldc dX8_chip_134 kc_X8_142 ?_
              refine g_icmp_ne (tgt := 145) dX8_chip_136 (by decide) (fun hc136 => ?_) (fun hc136 => ?_)
              · have hd136 := mt i_eq.mpr hc136; (try simp (disch := omega) only [nT, t_m1000100, t_m1000010, t_m1000003, t_m1000002, t_m1000001, t_m1000000, t_m65535, t_m1000, t_m3, t_m1, t_0, t_1, t_2, t_3, t_4, t_5, t_6, t_7, t_8, t_9, t_10, t_11, t_12, t_13, t_15, t_16, t_20, t_21, t_22, t_32, t_40, t_41, t_48, t_49, t_57, t_59, t_60, t_63, t_72, t_76, t_88, t_100, t_144, t_200, t_255, t_288, t_400, t_800, t_999, t_1000, t_1024, t_1200, t_1600, t_3200, t_100000, t_200000, t_252645135, t_858993459, t_1431655765, u_m1000002, u_m1000001, u_m1000, u_m3, u_m1, u_0, u_1, u_2, u_3, u_4, u_5, u_7, u_8, u_10, u_11, u_15, u_60, u_100, u_255, u_999, u_1000, u_100000, u_4294967295] at hd136)
                refine g_aload_n (i := 0) dX8_chip_145 rfl rfl ?_
                refine g_iconst (v := 0) dX8_chip_146 (by decide) ?_
                refine g_put dX8_chip_147 pl_X8_110 (by repeat' (first | assumption | exact rF_eq | refine rF_ne (by decide) ?_ | refine rF_a ?_ | exact rA_eq | refine rA_ne (by decide) ?_ | refine rA_f ?_)) (fun _ => ⟨rfl, rfl⟩) ?_
                refine g_aload_n (i := 0) dX8_chip_150 rfl rfl ?_
                refine g_get dX8_chip_151 fl_X8_79 (by repeat' (first | assumption | exact rF_eq | refine rF_ne (by decide) ?_ | refine rF_a ?_ | exact rA_eq | refine rA_ne (by decide) ?_ | refine rA_f ?_)) (by repeat' (first | assumption | exact rF_eq | refine rF_ne (by decide) ?_ | refine rF_a ?_ | exact rA_eq | refine rA_ne (by decide) ?_ | refine rA_f ?_)) ?_
                refine g_aload_n (i := 0) dX8_chip_154 rfl rfl ?_
                refine g_get dX8_chip_155 fl_X8_240 (by repeat' (first | assumption | exact rF_eq | refine rF_ne (by decide) ?_ | refine rF_a ?_ | exact rA_eq | refine rA_ne (by decide) ?_ | refine rA_f ?_)) (by repeat' (first | assumption | exact rF_eq | refine rF_ne (by decide) ?_ | refine rF_a ?_ | exact rA_eq | refine rA_ne (by decide) ?_ | refine rA_f ?_)) ?_
                refine g_iload dX8_chip_158 rfl ?_
                refine g_iast dX8_chip_160 (by repeat' (first | assumption | exact rF_eq | refine rF_ne (by decide) ?_ | refine rF_a ?_ | exact rA_eq | refine rA_ne (by decide) ?_ | refine rA_f ?_)) (nT (by omega)) (g200) ?_
                refine g_aload_n (i := 0) dX8_chip_161 rfl rfl ?_
                refine g_get dX8_chip_162 fl_X8_82 (by repeat' (first | assumption | exact rF_eq | refine rF_ne (by decide) ?_ | refine rF_a ?_ | exact rA_eq | refine rA_ne (by decide) ?_ | refine rA_f ?_)) (by repeat' (first | assumption | exact rF_eq | refine rF_ne (by decide) ?_ | refine rF_a ?_ | exact rA_eq | refine rA_ne (by decide) ?_ | refine rA_f ?_)) ?_
                refine g_aload_n (i := 0) dX8_chip_165 rfl rfl ?_
                refine g_get dX8_chip_166 fl_X8_240 (by repeat' (first | assumption | exact rF_eq | refine rF_ne (by decide) ?_ | refine rF_a ?_ | exact rA_eq | refine rA_ne (by decide) ?_ | refine rA_f ?_)) (by repeat' (first | assumption | exact rF_eq | refine rF_ne (by decide) ?_ | refine rF_a ?_ | exact rA_eq | refine rA_ne (by decide) ?_ | refine rA_f ?_)) ?_
                refine g_iload dX8_chip_169 rfl ?_
                refine g_iast dX8_chip_171 (by repeat' (first | assumption | exact rF_eq | refine rF_ne (by decide) ?_ | refine rF_a ?_ | exact rA_eq | refine rA_ne (by decide) ?_ | refine rA_f ?_)) (nT (by omega)) (g200) ?_
                refine g_aload_n (i := 0) dX8_chip_172 rfl rfl ?_
                refine g_get dX8_chip_173 fl_X8_85 (by repeat' (first | assumption | exact rF_eq | refine rF_ne (by decide) ?_ | refine rF_a ?_ | exact rA_eq | refine rA_ne (by decide) ?_ | refine rA_f ?_)) (by repeat' (first | assumption | exact rF_eq | refine rF_ne (by decide) ?_ | refine rF_a ?_ | exact rA_eq | refine rA_ne (by decide) ?_ | refine rA_f ?_)) ?_
                refine g_aload_n (i := 0) dX8_chip_176 rfl rfl ?_
                refine g_get dX8_chip_177 fl_X8_240 (by repeat' (first | assumption | exact rF_eq | refine rF_ne (by decide) ?_ | refine rF_a ?_ | exact rA_eq | refine rA_ne (by decide) ?_ | refine rA_f ?_)) (by repeat' (first | assumption | exact rF_eq | refine rF_ne (by decide) ?_ | refine rF_a ?_ | exact rA_eq | refine rA_ne (by decide) ?_ | refine rA_f ?_)) ?_
                refine g_aload_n (i := 0) dX8_chip_180 rfl rfl ?_
                refine g_get dX8_chip_181 fl_X8_237 (by repeat' (first | assumption | exact rF_eq | refine rF_ne (by decide) ?_ | refine rF_a ?_ | exact rA_eq | refine rA_ne (by decide) ?_ | refine rA_f ?_)) (by exact (show gF _ 44 44 = Value.int tot from rfl)) ?_
                refine g_iast dX8_chip_184 (by repeat' (first | assumption | exact rF_eq | refine rF_ne (by decide) ?_ | refine rF_a ?_ | exact rA_eq | refine rA_ne (by decide) ?_ | refine rA_f ?_)) (nT (by omega)) (g200) ?_
                refine g_aload_n (i := 0) dX8_chip_185 rfl rfl ?_
                refine g_get dX8_chip_186 fl_X8_88 (by repeat' (first | assumption | exact rF_eq | refine rF_ne (by decide) ?_ | refine rF_a ?_ | exact rA_eq | refine rA_ne (by decide) ?_ | refine rA_f ?_)) (by repeat' (first | assumption | exact rF_eq | refine rF_ne (by decide) ?_ | refine rF_a ?_ | exact rA_eq | refine rA_ne (by decide) ?_ | refine rA_f ?_)) ?_
                refine g_aload_n (i := 0) dX8_chip_189 rfl rfl ?_
                refine g_get dX8_chip_190 fl_X8_240 (by repeat' (first | assumption | exact rF_eq | refine rF_ne (by decide) ?_ | refine rF_a ?_ | exact rA_eq | refine rA_ne (by decide) ?_ | refine rA_f ?_)) (by repeat' (first | assumption | exact rF_eq | refine rF_ne (by decide) ?_ | refine rF_a ?_ | exact rA_eq | refine rA_ne (by decide) ?_ | refine rA_f ?_)) ?_
                refine g_iload_n (i := 3) dX8_chip_193 rfl rfl ?_
                refine g_iast dX8_chip_194 (by repeat' (first | assumption | exact rF_eq | refine rF_ne (by decide) ?_ | refine rF_a ?_ | exact rA_eq | refine rA_ne (by decide) ?_ | refine rA_f ?_)) (nT (by omega)) (g200) ?_
                refine g_aload_n (i := 0) dX8_chip_195 rfl rfl ?_
                refine g_get dX8_chip_196 fl_X8_91 (by repeat' (first | assumption | exact rF_eq | refine rF_ne (by decide) ?_ | refine rF_a ?_ | exact rA_eq | refine rA_ne (by decide) ?_ | refine rA_f ?_)) (by repeat' (first | assumption | exact rF_eq | refine rF_ne (by decide) ?_ | refine rF_a ?_ | exact rA_eq | refine rA_ne (by decide) ?_ | refine rA_f ?_)) ?_
                refine g_aload_n (i := 0) dX8_chip_199 rfl rfl ?_
                refine g_get dX8_chip_200 fl_X8_240 (by repeat' (first | assumption | exact rF_eq | refine rF_ne (by decide) ?_ | refine rF_a ?_ | exact rA_eq | refine rA_ne (by decide) ?_ | refine rA_f ?_)) (by repeat' (first | assumption | exact rF_eq | refine rF_ne (by decide) ?_ | refine rF_a ?_ | exact rA_eq | refine rA_ne (by decide) ?_ | refine rA_f ?_)) ?_
                refine g_iload_n (i := 2) dX8_chip_203 rfl rfl ?_
                refine g_iast dX8_chip_204 (by repeat' (first | assumption | exact rF_eq | refine rF_ne (by decide) ?_ | refine rF_a ?_ | exact rA_eq | refine rA_ne (by decide) ?_ | refine rA_f ?_)) (nT (by omega)) (g200) ?_
                refine g_aload_n (i := 0) dX8_chip_205 rfl rfl ?_
                refine g_get dX8_chip_206 fl_X8_94 (by repeat' (first | assumption | exact rF_eq | refine rF_ne (by decide) ?_ | refine rF_a ?_ | exact rA_eq | refine rA_ne (by decide) ?_ | refine rA_f ?_)) (by repeat' (first | assumption | exact rF_eq | refine rF_ne (by decide) ?_ | refine rF_a ?_ | exact rA_eq | refine rA_ne (by decide) ?_ | refine rA_f ?_)) ?_
                refine g_aload_n (i := 0) dX8_chip_209 rfl rfl ?_
                refine g_get dX8_chip_210 fl_X8_240 (by repeat' (first | assumption | exact rF_eq | refine rF_ne (by decide) ?_ | refine rF_a ?_ | exact rA_eq | refine rA_ne (by decide) ?_ | refine rA_f ?_)) (by repeat' (first | assumption | exact rF_eq | refine rF_ne (by decide) ?_ | refine rF_a ?_ | exact rA_eq | refine rA_ne (by decide) ?_ | refine rA_f ?_)) ?_
                refine g_iload dX8_chip_213 rfl ?_
                refine g_iast dX8_chip_215 (by repeat' (first | assumption | exact rF_eq | refine rF_ne (by decide) ?_ | refine rF_a ?_ | exact rA_eq | refine rA_ne (by decide) ?_ | refine rA_f ?_)) (nT (by omega)) (g200) ?_
                refine g_aload_n (i := 0) dX8_chip_216 rfl rfl ?_
                refine g_dup dX8_chip_217 rfl ?_
                refine g_get dX8_chip_218 fl_X8_240 (by repeat' (first | assumption | exact rF_eq | refine rF_ne (by decide) ?_ | refine rF_a ?_ | exact rA_eq | refine rA_ne (by decide) ?_ | refine rA_f ?_)) (by repeat' (first | assumption | exact rF_eq | refine rF_ne (by decide) ?_ | refine rF_a ?_ | exact rA_eq | refine rA_ne (by decide) ?_ | refine rA_f ?_)) ?_
                refine g_iconst (v := 1) dX8_chip_221 (by decide) ?_
                refine g_iadd dX8_chip_222 ?_
                refine g_put dX8_chip_223 pl_X8_240 (by repeat' (first | assumption | exact rF_eq | refine rF_ne (by decide) ?_ | refine rF_a ?_ | exact rA_eq | refine rA_ne (by decide) ?_ | refine rA_f ?_)) (fun _ => ⟨rfl, rfl⟩) ?_
                refine g_aload_n (i := 0) dX8_chip_226 rfl rfl ?_
                refine g_get dX8_chip_227 fl_X8_240 (by repeat' (first | assumption | exact rF_eq | refine rF_ne (by decide) ?_ | refine rF_a ?_ | exact rA_eq | refine rA_ne (by decide) ?_ | refine rA_f ?_)) (by repeat' (first | assumption | exact rF_eq | refine rF_ne (by decide) ?_ | refine rF_a ?_ | exact rA_eq | refine rA_ne (by decide) ?_ | refine rA_f ?_)) ?_
                refine g_iconst (v := 1) dX8_chip_230 (by decide) ?_
                refine g_isub dX8_chip_231 ?_
                refine g_iret dX8_chip_232 rfl (rfl) (hQ _ _ ?_)
                rw [ni_inc, n_m1, e]
                refine ⟨rfl, rfl, ⟨e1, rfl, o3, ⟨o4, o5, o6, o7, o8, o9⟩, ?_, ?_, ?_, ?_, ?_, ?_⟩, by repeat' (first | exact fr_rf | refine fr_sF (by decide) ?_ | refine fr_sA (by decide) ?_)⟩
                · exact congrArg (aI 200) (fa_w (v := fun i => if i = 0 then bn else if i = 1 then nI c else if i = 2 then tot else if i = 3 then nI sv else if i = 4 then nI b else trV (tr1 b)) _ rfl)
                · exact congrArg (aI 200) (fa_w (v := fun i => if i = 0 then bn else if i = 1 then nI c else if i = 2 then tot else if i = 3 then nI sv else if i = 4 then nI b else trV (tr1 b)) _ rfl)
                · exact congrArg (aI 200) (fa_w (v := fun i => if i = 0 then bn else if i = 1 then nI c else if i = 2 then tot else if i = 3 then nI sv else if i = 4 then nI b else trV (tr1 b)) _ rfl)
                · exact congrArg (aI 200) (fa_w (v := fun i => if i = 0 then bn else if i = 1 then nI c else if i = 2 then tot else if i = 3 then nI sv else if i = 4 then nI b else trV (tr1 b)) _ rfl)
                · exact congrArg (aI 200) (fa_w (v := fun i => if i = 0 then bn else if i = 1 then nI c else if i = 2 then tot else if i = 3 then nI sv else if i = 4 then nI b else trV (tr1 b)) _ rfl)
                · exact congrArg (aI 200) (fa_w (v := fun i => if i = 0 then bn else if i = 1 then nI c else if i = 2 then tot else if i = 3 then nI sv else if i = 4 then nI b else trV (tr1 b)) _ rfl)
              · have hd136 := i_eq.mp hc136; (try simp (disch := omega) only [nT, t_m1000100, t_m1000010, t_m1000003, t_m1000002, t_m1000001, t_m1000000, t_m65535, t_m1000, t_m3, t_m1, t_0, t_1, t_2, t_3, t_4, t_5, t_6, t_7, t_8, t_9, t_10, t_11, t_12, t_13, t_15, t_16, t_20, t_21, t_22, t_32, t_40, t_41, t_48, t_49, t_57, t_59, t_60, t_63, t_72, t_76, t_88, t_100, t_144, t_200, t_255, t_288, t_400, t_800, t_999, t_1000, t_1024, t_1200, t_1600, t_3200, t_100000, t_200000, t_252645135, t_858993459, t_1431655765, u_m1000002, u_m1000001, u_m1000, u_m3, u_m1, u_0, u_1, u_2, u_3, u_4, u_5, u_7, u_8, u_10, u_11, u_15, u_60, u_100, u_255, u_999, u_1000, u_100000, u_4294967295] at hd136); exact absurd hc136 hbn
            have key : ∀ m n sv : Nat, n + m = M → 1 ≤ n → sv < 8 → ∀ (bn tot : Int32), 0 ≤ bn.toInt → bn.toInt ≤ 15 → (if 0 < m ∧ bitB A.1 bn = true then trl tr1 A.1 m ((sv + 1) % 8) n tot else some (n, bn, tot, sv)) = z → GG (EM mX8_chip 3 0 0 Q') 0 0 82 [.ref 44, .int (nI a), .int (nI b), .int (nI sv), .int (nI n), .int bn, .int (trV (tr1 b))] [] (sF (sF h 44 0 (.int 0)) 44 44 (.int tot)) := by
              intro m
              induction m with
              | zero =>
                intro n sv hn hn1 hsv bn tot hb1 hb2 he
                rw [if_neg (fun q => absurd q.1 (by omega))] at he
                have hbn : ¬ bn = -1000000 := fun q => by have := i_eq.mp q; rw [t_m1000000] at this; omega
                refine g_iload dX8_chip_82 rfl ?_
                refine g_ldc dX8_chip_84 kc_X8_142 ?_
                refine g_icmp_eq (tgt := 132) dX8_chip_86 (by decide) (fun hc86 => ?_) (fun hc86 => ?_)
                · have hd86 := i_eq.mp hc86; (try simp (disch := omega) only [nT, t_m1000100, t_m1000010, t_m1000003, t_m1000002, t_m1000001, t_m1000000, t_m65535, t_m1000, t_m3, t_m1, t_0, t_1, t_2, t_3, t_4, t_5, t_6, t_7, t_8, t_9, t_10, t_11, t_12, t_13, t_15, t_16, t_20, t_21, t_22, t_32, t_40, t_41, t_48, t_49, t_57, t_59, t_60, t_63, t_72, t_76, t_88, t_100, t_144, t_200, t_255, t_288, t_400, t_800, t_999, t_1000, t_1024, t_1200, t_1600, t_3200, t_100000, t_200000, t_252645135, t_858993459, t_1431655765, u_m1000002, u_m1000001, u_m1000, u_m3, u_m1, u_0, u_1, u_2, u_3, u_4, u_5, u_7, u_8, u_10, u_11, u_15, u_60, u_100, u_255, u_999, u_1000, u_100000, u_4294967295] at hd86); exact absurd hc86 hbn
                · have hd86 := mt i_eq.mpr hc86; (try simp (disch := omega) only [nT, t_m1000100, t_m1000010, t_m1000003, t_m1000002, t_m1000001, t_m1000000, t_m65535, t_m1000, t_m3, t_m1, t_0, t_1, t_2, t_3, t_4, t_5, t_6, t_7, t_8, t_9, t_10, t_11, t_12, t_13, t_15, t_16, t_20, t_21, t_22, t_32, t_40, t_41, t_48, t_49, t_57, t_59, t_60, t_63, t_72, t_76, t_88, t_100, t_144, t_200, t_255, t_288, t_400, t_800, t_999, t_1000, t_1024, t_1200, t_1600, t_3200, t_100000, t_200000, t_252645135, t_858993459, t_1431655765, u_m1000002, u_m1000001, u_m1000, u_m3, u_m1, u_0, u_1, u_2, u_3, u_4, u_5, u_7, u_8, u_10, u_11, u_15, u_60, u_100, u_255, u_999, u_1000, u_100000, u_4294967295] at hd86)
                  refine g_aload_n (i := 0) dX8_chip_89 rfl rfl ?_
                  refine g_get dX8_chip_90 fl_X8_234 (by repeat' (first | assumption | exact rF_eq | refine rF_ne (by decide) ?_ | refine rF_a ?_ | exact rA_eq | refine rA_ne (by decide) ?_ | refine rA_f ?_)) (by repeat' (first | assumption | exact rF_eq | refine rF_ne (by decide) ?_ | refine rF_a ?_ | exact rA_eq | refine rA_ne (by decide) ?_ | refine rA_f ?_)) ?_
                  refine g_iload dX8_chip_93 rfl ?_
                  refine g_ishr dX8_chip_95 ?_
                  refine g_iconst (v := 1) dX8_chip_96 (by decide) ?_
                  refine g_iand dX8_chip_97 ?_
                  refine g_iconst (v := 1) dX8_chip_98 (by decide) ?_
                  refine g_icmp_ne (tgt := 132) dX8_chip_99 (by decide) (fun hc99 => ?_) (fun hc99 => ?_)
                  · have hd99 := mt i_eq.mpr hc99; (try simp (disch := omega) only [nT, t_m1000100, t_m1000010, t_m1000003, t_m1000002, t_m1000001, t_m1000000, t_m65535, t_m1000, t_m3, t_m1, t_0, t_1, t_2, t_3, t_4, t_5, t_6, t_7, t_8, t_9, t_10, t_11, t_12, t_13, t_15, t_16, t_20, t_21, t_22, t_32, t_40, t_41, t_48, t_49, t_57, t_59, t_60, t_63, t_72, t_76, t_88, t_100, t_144, t_200, t_255, t_288, t_400, t_800, t_999, t_1000, t_1024, t_1200, t_1600, t_3200, t_100000, t_200000, t_252645135, t_858993459, t_1431655765, u_m1000002, u_m1000001, u_m1000, u_m3, u_m1, u_0, u_1, u_2, u_3, u_4, u_5, u_7, u_8, u_10, u_11, u_15, u_60, u_100, u_255, u_999, u_1000, u_100000, u_4294967295] at hd99)
                    exact some9 _ _ _ _ he.symm hbn
                  · have hd99 := i_eq.mp hc99; (try simp (disch := omega) only [nT, t_m1000100, t_m1000010, t_m1000003, t_m1000002, t_m1000001, t_m1000000, t_m65535, t_m1000, t_m3, t_m1, t_0, t_1, t_2, t_3, t_4, t_5, t_6, t_7, t_8, t_9, t_10, t_11, t_12, t_13, t_15, t_16, t_20, t_21, t_22, t_32, t_40, t_41, t_48, t_49, t_57, t_59, t_60, t_63, t_72, t_76, t_88, t_100, t_144, t_200, t_255, t_288, t_400, t_800, t_999, t_1000, t_1024, t_1200, t_1600, t_3200, t_100000, t_200000, t_252645135, t_858993459, t_1431655765, u_m1000002, u_m1000001, u_m1000, u_m3, u_m1, u_0, u_1, u_2, u_3, u_4, u_5, u_7, u_8, u_10, u_11, u_15, u_60, u_100, u_255, u_999, u_1000, u_100000, u_4294967295] at hd99)
                    refine g_iload dX8_chip_102 rfl ?_
                    refine g_aload_n (i := 0) dX8_chip_104 rfl rfl ?_
                    refine g_get dX8_chip_105 fl_X8_75 (by repeat' (first | assumption | exact rF_eq | refine rF_ne (by decide) ?_ | refine rF_a ?_ | exact rA_eq | refine rA_ne (by decide) ?_ | refine rA_f ?_)) (by repeat' (first | assumption | exact rF_eq | refine rF_ne (by decide) ?_ | refine rF_a ?_ | exact rA_eq | refine rA_ne (by decide) ?_ | refine rA_f ?_)) ?_
                    refine g_icmp_ge (tgt := 132) dX8_chip_108 (by decide) (fun hc108 => ?_) (fun hc108 => ?_)
                    · (try simp (disch := omega) only [nT, t_m1000100, t_m1000010, t_m1000003, t_m1000002, t_m1000001, t_m1000000, t_m65535, t_m1000, t_m3, t_m1, t_0, t_1, t_2, t_3, t_4, t_5, t_6, t_7, t_8, t_9, t_10, t_11, t_12, t_13, t_15, t_16, t_20, t_21, t_22, t_32, t_40, t_41, t_48, t_49, t_57, t_59, t_60, t_63, t_72, t_76, t_88, t_100, t_144, t_200, t_255, t_288, t_400, t_800, t_999, t_1000, t_1024, t_1200, t_1600, t_3200, t_100000, t_200000, t_252645135, t_858993459, t_1431655765, u_m1000002, u_m1000001, u_m1000, u_m3, u_m1, u_0, u_1, u_2, u_3, u_4, u_5, u_7, u_8, u_10, u_11, u_15, u_60, u_100, u_255, u_999, u_1000, u_100000, u_4294967295] at hc108)
                      exact some9 _ _ _ _ he.symm hbn
                    · (try simp (disch := omega) only [nT, t_m1000100, t_m1000010, t_m1000003, t_m1000002, t_m1000001, t_m1000000, t_m65535, t_m1000, t_m3, t_m1, t_0, t_1, t_2, t_3, t_4, t_5, t_6, t_7, t_8, t_9, t_10, t_11, t_12, t_13, t_15, t_16, t_20, t_21, t_22, t_32, t_40, t_41, t_48, t_49, t_57, t_59, t_60, t_63, t_72, t_76, t_88, t_100, t_144, t_200, t_255, t_288, t_400, t_800, t_999, t_1000, t_1024, t_1200, t_1600, t_3200, t_100000, t_200000, t_252645135, t_858993459, t_1431655765, u_m1000002, u_m1000001, u_m1000, u_m3, u_m1, u_0, u_1, u_2, u_3, u_4, u_5, u_7, u_8, u_10, u_11, u_15, u_60, u_100, u_255, u_999, u_1000, u_100000, u_4294967295] at hc108); omega
              | succ m ih =>
                intro n sv hn hn1 hsv bn tot hb1 hb2 he
                have hbn : ¬ bn = -1000000 := fun q => by have := i_eq.mp q; rw [t_m1000000] at this; omega
                have hs' : (sv + 1) % 8 < 8 := Nat.mod_lt _ (by omega)
                refine g_iload dX8_chip_82 rfl ?_
                refine g_ldc dX8_chip_84 kc_X8_142 ?_
                refine g_icmp_eq (tgt := 132) dX8_chip_86 (by decide) (fun hc86 => ?_) (fun hc86 => ?_)
                · have hd86 := i_eq.mp hc86; (try simp (disch := omega) only [nT, t_m1000100, t_m1000010, t_m1000003, t_m1000002, t_m1000001, t_m1000000, t_m65535, t_m1000, t_m3, t_m1, t_0, t_1, t_2, t_3, t_4, t_5, t_6, t_7, t_8, t_9, t_10, t_11, t_12, t_13, t_15, t_16, t_20, t_21, t_22, t_32, t_40, t_41, t_48, t_49, t_57, t_59, t_60, t_63, t_72, t_76, t_88, t_100, t_144, t_200, t_255, t_288, t_400, t_800, t_999, t_1000, t_1024, t_1200, t_1600, t_3200, t_100000, t_200000, t_252645135, t_858993459, t_1431655765, u_m1000002, u_m1000001, u_m1000, u_m3, u_m1, u_0, u_1, u_2, u_3, u_4, u_5, u_7, u_8, u_10, u_11, u_15, u_60, u_100, u_255, u_999, u_1000, u_100000, u_4294967295] at hd86); exact absurd hc86 hbn
                · have hd86 := mt i_eq.mpr hc86; (try simp (disch := omega) only [nT, t_m1000100, t_m1000010, t_m1000003, t_m1000002, t_m1000001, t_m1000000, t_m65535, t_m1000, t_m3, t_m1, t_0, t_1, t_2, t_3, t_4, t_5, t_6, t_7, t_8, t_9, t_10, t_11, t_12, t_13, t_15, t_16, t_20, t_21, t_22, t_32, t_40, t_41, t_48, t_49, t_57, t_59, t_60, t_63, t_72, t_76, t_88, t_100, t_144, t_200, t_255, t_288, t_400, t_800, t_999, t_1000, t_1024, t_1200, t_1600, t_3200, t_100000, t_200000, t_252645135, t_858993459, t_1431655765, u_m1000002, u_m1000001, u_m1000, u_m3, u_m1, u_0, u_1, u_2, u_3, u_4, u_5, u_7, u_8, u_10, u_11, u_15, u_60, u_100, u_255, u_999, u_1000, u_100000, u_4294967295] at hd86)
                  refine g_aload_n (i := 0) dX8_chip_89 rfl rfl ?_
                  refine g_get dX8_chip_90 fl_X8_234 (by repeat' (first | assumption | exact rF_eq | refine rF_ne (by decide) ?_ | refine rF_a ?_ | exact rA_eq | refine rA_ne (by decide) ?_ | refine rA_f ?_)) (by repeat' (first | assumption | exact rF_eq | refine rF_ne (by decide) ?_ | refine rF_a ?_ | exact rA_eq | refine rA_ne (by decide) ?_ | refine rA_f ?_)) ?_
                  refine g_iload dX8_chip_93 rfl ?_
                  refine g_ishr dX8_chip_95 ?_
                  refine g_iconst (v := 1) dX8_chip_96 (by decide) ?_
                  refine g_iand dX8_chip_97 ?_
                  refine g_iconst (v := 1) dX8_chip_98 (by decide) ?_
                  refine g_icmp_ne (tgt := 132) dX8_chip_99 (by decide) (fun hc99 => ?_) (fun hc99 => ?_)
                  · have hd99 := mt i_eq.mpr hc99; (try simp (disch := omega) only [nT, t_m1000100, t_m1000010, t_m1000003, t_m1000002, t_m1000001, t_m1000000, t_m65535, t_m1000, t_m3, t_m1, t_0, t_1, t_2, t_3, t_4, t_5, t_6, t_7, t_8, t_9, t_10, t_11, t_12, t_13, t_15, t_16, t_20, t_21, t_22, t_32, t_40, t_41, t_48, t_49, t_57, t_59, t_60, t_63, t_72, t_76, t_88, t_100, t_144, t_200, t_255, t_288, t_400, t_800, t_999, t_1000, t_1024, t_1200, t_1600, t_3200, t_100000, t_200000, t_252645135, t_858993459, t_1431655765, u_m1000002, u_m1000001, u_m1000, u_m3, u_m1, u_0, u_1, u_2, u_3, u_4, u_5, u_7, u_8, u_10, u_11, u_15, u_60, u_100, u_255, u_999, u_1000, u_100000, u_4294967295] at hd99)
                    rw [if_neg (fun q => hc99 (of_decide_eq_true q.2))] at he
                    exact some9 _ _ _ _ he.symm hbn
                  · have hd99 := i_eq.mp hc99; (try simp (disch := omega) only [nT, t_m1000100, t_m1000010, t_m1000003, t_m1000002, t_m1000001, t_m1000000, t_m65535, t_m1000, t_m3, t_m1, t_0, t_1, t_2, t_3, t_4, t_5, t_6, t_7, t_8, t_9, t_10, t_11, t_12, t_13, t_15, t_16, t_20, t_21, t_22, t_32, t_40, t_41, t_48, t_49, t_57, t_59, t_60, t_63, t_72, t_76, t_88, t_100, t_144, t_200, t_255, t_288, t_400, t_800, t_999, t_1000, t_1024, t_1200, t_1600, t_3200, t_100000, t_200000, t_252645135, t_858993459, t_1431655765, u_m1000002, u_m1000001, u_m1000, u_m3, u_m1, u_0, u_1, u_2, u_3, u_4, u_5, u_7, u_8, u_10, u_11, u_15, u_60, u_100, u_255, u_999, u_1000, u_100000, u_4294967295] at hd99)
                    refine g_iload dX8_chip_102 rfl ?_
                    refine g_aload_n (i := 0) dX8_chip_104 rfl rfl ?_
                    refine g_get dX8_chip_105 fl_X8_75 (by repeat' (first | assumption | exact rF_eq | refine rF_ne (by decide) ?_ | refine rF_a ?_ | exact rA_eq | refine rA_ne (by decide) ?_ | refine rA_f ?_)) (by repeat' (first | assumption | exact rF_eq | refine rF_ne (by decide) ?_ | refine rF_a ?_ | exact rA_eq | refine rA_ne (by decide) ?_ | refine rA_f ?_)) ?_
                    refine g_icmp_ge (tgt := 132) dX8_chip_108 (by decide) (fun hc108 => ?_) (fun hc108 => ?_)
                    · (try simp (disch := omega) only [nT, t_m1000100, t_m1000010, t_m1000003, t_m1000002, t_m1000001, t_m1000000, t_m65535, t_m1000, t_m3, t_m1, t_0, t_1, t_2, t_3, t_4, t_5, t_6, t_7, t_8, t_9, t_10, t_11, t_12, t_13, t_15, t_16, t_20, t_21, t_22, t_32, t_40, t_41, t_48, t_49, t_57, t_59, t_60, t_63, t_72, t_76, t_88, t_100, t_144, t_200, t_255, t_288, t_400, t_800, t_999, t_1000, t_1024, t_1200, t_1600, t_3200, t_100000, t_200000, t_252645135, t_858993459, t_1431655765, u_m1000002, u_m1000001, u_m1000, u_m3, u_m1, u_0, u_1, u_2, u_3, u_4, u_5, u_7, u_8, u_10, u_11, u_15, u_60, u_100, u_255, u_999, u_1000, u_100000, u_4294967295] at hc108); omega
                    · (try simp (disch := omega) only [nT, t_m1000100, t_m1000010, t_m1000003, t_m1000002, t_m1000001, t_m1000000, t_m65535, t_m1000, t_m3, t_m1, t_0, t_1, t_2, t_3, t_4, t_5, t_6, t_7, t_8, t_9, t_10, t_11, t_12, t_13, t_15, t_16, t_20, t_21, t_22, t_32, t_40, t_41, t_48, t_49, t_57, t_59, t_60, t_63, t_72, t_76, t_88, t_100, t_144, t_200, t_255, t_288, t_400, t_800, t_999, t_1000, t_1024, t_1200, t_1600, t_3200, t_100000, t_200000, t_252645135, t_858993459, t_1431655765, u_m1000002, u_m1000001, u_m1000, u_m3, u_m1, u_0, u_1, u_2, u_3, u_4, u_5, u_7, u_8, u_10, u_11, u_15, u_60, u_100, u_255, u_999, u_1000, u_100000, u_4294967295] at hc108)
                      refine g_iload_n (i := 3) dX8_chip_111 rfl rfl ?_
                      refine g_iconst (v := 1) dX8_chip_112 (by decide) ?_
                      refine g_iadd dX8_chip_113 ?_
                      refine g_bipush (v := 8) dX8_chip_114 (by decide) ?_
                      have e9 := rem8 hsv
                      refine g_irem dX8_chip_116 (by decide) ?_
                      refine g_istore_n (i := 3) dX8_chip_117 rfl (Nat.le_of_ble_eq_true rfl) rfl ?_
                      refine g_aload_n (i := 0) dX8_chip_118 rfl rfl ?_
                      refine g_iload_n (i := 1) dX8_chip_119 rfl rfl ?_
                      refine g_iload_n (i := 3) dX8_chip_120 rfl rfl ?_
                      rw [e9]
                      rw [if_pos ⟨by omega, decide_eq_true hc99⟩] at he
                      have h9 := gchm_f (h := sF (sF h 44 0 (.int 0)) 44 44 (.int tot)) (w := w) (T := T) (E := E) (A := A) (G := G) (ln := ln) (sz := sz) (it := it)
                      refine g_callV (M' := mX8_tried) dX8_chip_121 lc_X8_tried ml_X8_243 (c_tried hT (h := sF (sF h 44 0 (.int 0)) 44 44 (.int tot)) (tk := tot) gt ge ⟨e1, e2, e3, e4, e5, e6, e7⟩ rfl ha hz100 hs' hio) rfl rfl (by repeat' (first | assumption | exact rF_eq | refine rF_ne (by decide) ?_ | refine rF_a ?_ | exact rA_eq | refine rA_ne (by decide) ?_ | refine rA_f ?_)) rfl ⟨Nat.le_of_ble_eq_true rfl, Nat.le_of_ble_eq_true rfl, Nat.le_of_ble_eq_true rfl, Nat.le_of_ble_eq_true rfl⟩ (Nat.le_of_ble_eq_true rfl) ?_
                      intro r_ h_ q_; obtain ⟨p1, tk', p2, p3⟩ := q_
                      rw [htr9] at p1 p3
                      subst p2
                      rw [sF_sF]
                      rcases ho : tr1 ((sv + 1) % 8) with _ | ⟨b1, y1⟩
                      · rw [trl_n ho] at he
                        rw [ho] at p1
                        subst p1
                        refine g_istore dX8_chip_124 (Nat.le_of_ble_eq_true rfl) rfl ?_
                        refine g_iinc dX8_chip_126 rfl (Nat.le_of_ble_eq_true rfl) rfl ?_
                        refine g_goto (tgt := 82) dX8_chip_129 (by decide) ?_
                        refine g_iload dX8_chip_82 rfl ?_
                        refine g_ldc dX8_chip_84 kc_X8_142 ?_
                        refine g_icmp_eq (tgt := 132) dX8_chip_86 (by decide) (fun hc86 => ?_) (fun hc86 => ?_)
                        · have hd86 := i_eq.mp hc86; (try simp (disch := omega) only [nT, t_m1000100, t_m1000010, t_m1000003, t_m1000002, t_m1000001, t_m1000000, t_m65535, t_m1000, t_m3, t_m1, t_0, t_1, t_2, t_3, t_4, t_5, t_6, t_7, t_8, t_9, t_10, t_11, t_12, t_13, t_15, t_16, t_20, t_21, t_22, t_32, t_40, t_41, t_48, t_49, t_57, t_59, t_60, t_63, t_72, t_76, t_88, t_100, t_144, t_200, t_255, t_288, t_400, t_800, t_999, t_1000, t_1024, t_1200, t_1600, t_3200, t_100000, t_200000, t_252645135, t_858993459, t_1431655765, u_m1000002, u_m1000001, u_m1000, u_m3, u_m1, u_0, u_1, u_2, u_3, u_4, u_5, u_7, u_8, u_10, u_11, u_15, u_60, u_100, u_255, u_999, u_1000, u_100000, u_4294967295] at hd86)
                          exact none9 he.symm _ _ _ _
                        · have hd86 := mt i_eq.mpr hc86; (try simp (disch := omega) only [nT, t_m1000100, t_m1000010, t_m1000003, t_m1000002, t_m1000001, t_m1000000, t_m65535, t_m1000, t_m3, t_m1, t_0, t_1, t_2, t_3, t_4, t_5, t_6, t_7, t_8, t_9, t_10, t_11, t_12, t_13, t_15, t_16, t_20, t_21, t_22, t_32, t_40, t_41, t_48, t_49, t_57, t_59, t_60, t_63, t_72, t_76, t_88, t_100, t_144, t_200, t_255, t_288, t_400, t_800, t_999, t_1000, t_1024, t_1200, t_1600, t_3200, t_100000, t_200000, t_252645135, t_858993459, t_1431655765, u_m1000002, u_m1000001, u_m1000, u_m3, u_m1, u_0, u_1, u_2, u_3, u_4, u_5, u_7, u_8, u_10, u_11, u_15, u_60, u_100, u_255, u_999, u_1000, u_100000, u_4294967295] at hd86); exact absurd rfl hc86
                      rw [trl_s ho] at he
                      have hb15 := trOf_bin hT (by rw [htr9]; exact ho)
                      rw [ho] at p1 p3
                      have p4 := p3 _ _ rfl
                      subst p1
                      subst p4
                      refine g_istore dX8_chip_124 (Nat.le_of_ble_eq_true rfl) rfl ?_
                      refine g_iinc dX8_chip_126 rfl (Nat.le_of_ble_eq_true rfl) rfl ?_
                      refine g_goto (tgt := 82) dX8_chip_129 (by decide) ?_
                      rw [ni_incO]
                      exact ih (n + 1) _ (by omega) (by omega) hs' b1 _ hb15.1 hb15.2 he
            refine g_aload_n (i := 0) dX8_chip_60 rfl rfl ?_
            refine g_iconst (v := 0) dX8_chip_61 (by decide) ?_
            refine g_put dX8_chip_62 pl_X8_237 (by repeat' (first | assumption | exact rF_eq | refine rF_ne (by decide) ?_ | refine rF_a ?_ | exact rA_eq | refine rA_ne (by decide) ?_ | refine rA_f ?_)) (fun _ => ⟨rfl, rfl⟩) ?_
            refine g_iload_n (i := 2) dX8_chip_65 rfl rfl ?_
            refine g_istore_n (i := 3) dX8_chip_66 rfl (Nat.le_of_ble_eq_true rfl) rfl ?_
            refine g_iconst (v := 1) dX8_chip_67 (by decide) ?_
            refine g_istore dX8_chip_68 (Nat.le_of_ble_eq_true rfl) rfl ?_
            refine g_aload_n (i := 0) dX8_chip_70 rfl rfl ?_
            refine g_iload_n (i := 1) dX8_chip_71 rfl rfl ?_
            refine g_iload_n (i := 3) dX8_chip_72 rfl rfl ?_
            refine g_callV (M' := mX8_tried) dX8_chip_73 lc_X8_tried ml_X8_243 (c_tried hT (h := sF (sF h 44 0 (.int 0)) 44 44 (.int 0)) (tk := 0) gt ge ⟨e1, e2, e3, e4, e5, e6, e7⟩ rfl ha hz100 hb hio) rfl rfl (by repeat' (first | assumption | exact rF_eq | refine rF_ne (by decide) ?_ | refine rF_a ?_ | exact rA_eq | refine rA_ne (by decide) ?_ | refine rA_f ?_)) rfl ⟨Nat.le_of_ble_eq_true rfl, Nat.le_of_ble_eq_true rfl, Nat.le_of_ble_eq_true rfl, Nat.le_of_ble_eq_true rfl⟩ (Nat.le_of_ble_eq_true rfl) ?_
            intro r_ h_ q_; obtain ⟨p1, tk', p2, p3⟩ := q_
            rw [htr9] at p1 p3
            subst p2
            rw [sF_sF]
            obtain ⟨M, rfl⟩ : ∃ m, M = m + 1 := ⟨M - 1, by omega⟩
            rcases ho : tr1 b with _ | ⟨b1, y1⟩
            · rw [trl_n ho] at hzz
              rw [ho] at p1
              subst p1
              refine g_istore dX8_chip_76 (Nat.le_of_ble_eq_true rfl) rfl ?_
              refine g_iload dX8_chip_78 rfl ?_
              refine g_istore dX8_chip_80 (Nat.le_of_ble_eq_true rfl) rfl ?_
              refine g_iload dX8_chip_82 rfl ?_
              refine g_ldc dX8_chip_84 kc_X8_142 ?_
              refine g_icmp_eq (tgt := 132) dX8_chip_86 (by decide) (fun hc86 => ?_) (fun hc86 => ?_)
              · have hd86 := i_eq.mp hc86; (try simp (disch := omega) only [nT, t_m1000100, t_m1000010, t_m1000003, t_m1000002, t_m1000001, t_m1000000, t_m65535, t_m1000, t_m3, t_m1, t_0, t_1, t_2, t_3, t_4, t_5, t_6, t_7, t_8, t_9, t_10, t_11, t_12, t_13, t_15, t_16, t_20, t_21, t_22, t_32, t_40, t_41, t_48, t_49, t_57, t_59, t_60, t_63, t_72, t_76, t_88, t_100, t_144, t_200, t_255, t_288, t_400, t_800, t_999, t_1000, t_1024, t_1200, t_1600, t_3200, t_100000, t_200000, t_252645135, t_858993459, t_1431655765, u_m1000002, u_m1000001, u_m1000, u_m3, u_m1, u_0, u_1, u_2, u_3, u_4, u_5, u_7, u_8, u_10, u_11, u_15, u_60, u_100, u_255, u_999, u_1000, u_100000, u_4294967295] at hd86)
                exact none9 hzz.symm _ _ _ _
              · have hd86 := mt i_eq.mpr hc86; (try simp (disch := omega) only [nT, t_m1000100, t_m1000010, t_m1000003, t_m1000002, t_m1000001, t_m1000000, t_m65535, t_m1000, t_m3, t_m1, t_0, t_1, t_2, t_3, t_4, t_5, t_6, t_7, t_8, t_9, t_10, t_11, t_12, t_13, t_15, t_16, t_20, t_21, t_22, t_32, t_40, t_41, t_48, t_49, t_57, t_59, t_60, t_63, t_72, t_76, t_88, t_100, t_144, t_200, t_255, t_288, t_400, t_800, t_999, t_1000, t_1024, t_1200, t_1600, t_3200, t_100000, t_200000, t_252645135, t_858993459, t_1431655765, u_m1000002, u_m1000001, u_m1000, u_m3, u_m1, u_0, u_1, u_2, u_3, u_4, u_5, u_7, u_8, u_10, u_11, u_15, u_60, u_100, u_255, u_999, u_1000, u_100000, u_4294967295] at hd86); exact absurd rfl hc86
            rw [trl_s ho] at hzz
            have hb15 := trOf_bin hT (by rw [htr9]; exact ho)
            rw [ho] at p1 p3
            have p4 := p3 _ _ rfl
            subst p1
            subst p4
            refine g_istore dX8_chip_76 (Nat.le_of_ble_eq_true rfl) rfl ?_
            refine g_iload dX8_chip_78 rfl ?_
            refine g_istore dX8_chip_80 (Nat.le_of_ble_eq_true rfl) rfl ?_
            have k0 := key M 1 b (by omega) (Nat.le_refl _) hb b1 (0 + y1) hb15.1 hb15.2 hzz
            rw [ho] at k0
            exact k0
          · (try simp (disch := omega) only [nT, t_m1000100, t_m1000010, t_m1000003, t_m1000002, t_m1000001, t_m1000000, t_m65535, t_m1000, t_m3, t_m1, t_0, t_1, t_2, t_3, t_4, t_5, t_6, t_7, t_8, t_9, t_10, t_11, t_12, t_13, t_15, t_16, t_20, t_21, t_22, t_32, t_40, t_41, t_48, t_49, t_57, t_59, t_60, t_63, t_72, t_76, t_88, t_100, t_144, t_200, t_255, t_288, t_400, t_800, t_999, t_1000, t_1024, t_1200, t_1600, t_3200, t_100000, t_200000, t_252645135, t_858993459, t_1431655765, u_m1000002, u_m1000001, u_m1000, u_m3, u_m1, u_0, u_1, u_2, u_3, u_4, u_5, u_7, u_8, u_10, u_11, u_15, u_60, u_100, u_255, u_999, u_1000, u_100000, u_4294967295] at hc51)
            refine g_aload_n (i := 0) dX8_chip_54 rfl rfl ?_
            refine g_iconst (v := 1) dX8_chip_55 (by decide) ?_
            refine g_callV (M' := mX8_found) dX8_chip_56 lc_X8_found ml_X8_127 (c_mfound (h := sF h 44 0 (.int 0)) e1 1) rfl rfl (by repeat' (first | assumption | exact rF_eq | refine rF_ne (by decide) ?_ | refine rF_a ?_ | exact rA_eq | refine rA_ne (by decide) ?_ | refine rA_f ?_)) rfl ⟨Nat.le_of_ble_eq_true rfl, Nat.le_of_ble_eq_true rfl, Nat.le_of_ble_eq_true rfl, Nat.le_of_ble_eq_true rfl⟩ (Nat.le_of_ble_eq_true rfl) ?_
            intro r_ h_ q_; obtain ⟨q1_, q2_⟩ := q_; have q2_ := q2_.symm; subst q1_; subst q2_
            refine g_iret dX8_chip_59 rfl (rfl) (hQ _ _ ?_)
            have e := (en _).mpr ((if_neg (by omega)).trans ((if_neg (by omega)).trans (if_pos (by omega))))
            rw [e]; exact ⟨rfl, rfl, ⟨e1, o2, o3, ⟨o4, o5, o6, o7, o8, o9⟩, o10, o11, o12, o13, o14, o15⟩, fr_sF (by decide) (fr_sF (by decide) fr_rf)⟩
        · have hd39 := i_eq.mp hc39; (try simp (disch := omega) only [nT, t_m1000100, t_m1000010, t_m1000003, t_m1000002, t_m1000001, t_m1000000, t_m65535, t_m1000, t_m3, t_m1, t_0, t_1, t_2, t_3, t_4, t_5, t_6, t_7, t_8, t_9, t_10, t_11, t_12, t_13, t_15, t_16, t_20, t_21, t_22, t_32, t_40, t_41, t_48, t_49, t_57, t_59, t_60, t_63, t_72, t_76, t_88, t_100, t_144, t_200, t_255, t_288, t_400, t_800, t_999, t_1000, t_1024, t_1200, t_1600, t_3200, t_100000, t_200000, t_252645135, t_858993459, t_1431655765, u_m1000002, u_m1000001, u_m1000, u_m3, u_m1, u_0, u_1, u_2, u_3, u_4, u_5, u_7, u_8, u_10, u_11, u_15, u_60, u_100, u_255, u_999, u_1000, u_100000, u_4294967295] at hd39)
          refine g_ldc dX8_chip_42 kc_X8_136 ?_
          refine g_iret dX8_chip_44 rfl (rfl) (hQ _ _ ?_)
          have e := (en _).mpr ((if_neg (by omega)).trans (if_pos (by omega)))
          rw [e]; exact ⟨rfl, h2, ⟨e1, o2, o3, ⟨o4, o5, o6, o7, o8, o9⟩, o10, o11, o12, o13, o14, o15⟩, fr_sF (by decide) fr_rf⟩
      · have hd26 := i_eq.mp hc26; (try simp (disch := omega) only [nT, t_m1000100, t_m1000010, t_m1000003, t_m1000002, t_m1000001, t_m1000000, t_m65535, t_m1000, t_m3, t_m1, t_0, t_1, t_2, t_3, t_4, t_5, t_6, t_7, t_8, t_9, t_10, t_11, t_12, t_13, t_15, t_16, t_20, t_21, t_22, t_32, t_40, t_41, t_48, t_49, t_57, t_59, t_60, t_63, t_72, t_76, t_88, t_100, t_144, t_200, t_255, t_288, t_400, t_800, t_999, t_1000, t_1024, t_1200, t_1600, t_3200, t_100000, t_200000, t_252645135, t_858993459, t_1431655765, u_m1000002, u_m1000001, u_m1000, u_m3, u_m1, u_0, u_1, u_2, u_3, u_4, u_5, u_7, u_8, u_10, u_11, u_15, u_60, u_100, u_255, u_999, u_1000, u_100000, u_4294967295] at hd26)
        refine g_ldc dX8_chip_29 kc_X8_196 ?_
        refine g_iret dX8_chip_31 rfl (rfl) (hQ _ _ ?_)
        have e := (en _).mpr (if_pos (by omega))
        rw [e]; exact ⟨rfl, h2, ⟨e1, o2, o3, ⟨o4, o5, o6, o7, o8, o9⟩, o10, o11, o12, o13, o14, o15⟩, fr_sF (by decide) fr_rf⟩
    · replace hc16 := bI_0.mp hc16
      (try simp (disch := omega) only [nT, t_m1000100, t_m1000010, t_m1000003, t_m1000002, t_m1000001, t_m1000000, t_m65535, t_m1000, t_m3, t_m1, t_0, t_1, t_2, t_3, t_4, t_5, t_6, t_7, t_8, t_9, t_10, t_11, t_12, t_13, t_15, t_16, t_20, t_21, t_22, t_32, t_40, t_41, t_48, t_49, t_57, t_59, t_60, t_63, t_72, t_76, t_88, t_100, t_144, t_200, t_255, t_288, t_400, t_800, t_999, t_1000, t_1024, t_1200, t_1600, t_3200, t_100000, t_200000, t_252645135, t_858993459, t_1431655765, u_m1000002, u_m1000001, u_m1000, u_m3, u_m1, u_0, u_1, u_2, u_3, u_4, u_5, u_7, u_8, u_10, u_11, u_15, u_60, u_100, u_255, u_999, u_1000, u_100000, u_4294967295] at hc16)
      refine g_ldc dX8_chip_19 kc_X8_126 ?_
      refine g_iret dX8_chip_21 rfl (rfl) (hQ _ _ ?_)
      have e : opChip w T E A G s q = _ := if_pos (by omega)
      rw [e]; exact ⟨rfl, h2, ⟨e1, o2, o3, ⟨o4, o5, o6, o7, o8, o9⟩, o10, o11, o12, o13, o14, o15⟩, fr_sF (by decide) fr_rf⟩
def opTold (G : GL2) (c i : Int32) : Int32 := if ¬ (0 ≤ c.toInt ∧ c.toInt < G.1) ∨ ¬ (0 ≤ i.toInt ∧ i.toInt < 6) then -1000001 else G.2.2 c.toInt.toNat i.toInt.toNat
theorem c_fact {h : HH} {n l : Nat} {fa : Nat → Int32} (hg : LgX h n l fa) {c i : Nat} (hc : c < 200) (hi : i < 6) : CT mX1_fact 0 0 0 [.ref 38, .int (nI c), .int (nI i)] h (fun r h' => r = some (.int (fa (6 * c + i))) ∧ h' = h) := by
  obtain ⟨e1, e2, e3, e4, e5⟩ := hg
  refine CT.go [.ref 38, .int (nI c), .int (nI i)] (by decide +kernel) rfl rfl (fun Q' hQ => ?_)
  refine g_aload_n (i := 0) dX1_fact_0 rfl rfl ?_
  refine g_get dX1_fact_1 fl_X1_9 (by repeat' (first | assumption | exact rF_eq | refine rF_ne (by decide) ?_ | refine rF_a ?_ | exact rA_eq | refine rA_ne (by decide) ?_ | refine rA_f ?_)) (by repeat' (first | assumption | exact rF_eq | refine rF_ne (by decide) ?_ | refine rF_a ?_ | exact rA_eq | refine rA_ne (by decide) ?_ | refine rA_f ?_)) ?_
  refine g_iload_n (i := 1) dX1_fact_4 rfl rfl ?_
  refine g_bipush (v := 6) dX1_fact_5 (by decide) ?_
  refine g_imul dX1_fact_7 ?_
  refine g_iload_n (i := 2) dX1_fact_8 rfl rfl ?_
  refine g_iadd dX1_fact_9 ?_
  refine g_iald dX1_fact_10 (by repeat' (first | assumption | exact rF_eq | refine rF_ne (by decide) ?_ | refine rF_a ?_ | exact rA_eq | refine rA_ne (by decide) ?_ | refine rA_f ?_)) ((by rw [ni_m6, ni_add]; exact nT (by omega))) (by omega) ?_
  refine g_iret dX1_fact_11 rfl (rfl) (hQ _ _ ?_)
  exact ⟨rfl, rfl⟩
theorem x_told {G : GL2} (hG : WfG G) {h : HH} (go : GOX G h) (c i : Int32) : CT mX7_told 1 0 0 [.ref 0, .int c, .int i] h (fun r h' => r = some (.int (opTold G c i)) ∧ h' = h) := by
  obtain ⟨fa, ⟨h0, h13⟩, hL, hfa⟩ := go
  obtain ⟨l1, l2, l3, l4, l5⟩ := id hL
  have hG1 := hG.1
  refine CT.go [.ref 0, .int c, .int i] (by decide +kernel) rfl rfl (fun Q' hQ => ?_)
  refine g_iload_n (i := 1) dX7_told_0 rfl rfl ?_
  refine g_aload_n (i := 0) dX7_told_1 rfl rfl ?_
  refine g_get dX7_told_2 fl_X7_76 (by repeat' (first | assumption | exact rF_eq | refine rF_ne (by decide) ?_ | refine rF_a ?_ | exact rA_eq | refine rA_ne (by decide) ?_ | refine rA_f ?_)) (by repeat' (first | assumption | exact rF_eq | refine rF_ne (by decide) ?_ | refine rF_a ?_ | exact rA_eq | refine rA_ne (by decide) ?_ | refine rA_f ?_)) ?_
  refine g_get dX7_told_5 fl_X7_232 (by repeat' (first | assumption | exact rF_eq | refine rF_ne (by decide) ?_ | refine rF_a ?_ | exact rA_eq | refine rA_ne (by decide) ?_ | refine rA_f ?_)) (by repeat' (first | assumption | exact rF_eq | refine rF_ne (by decide) ?_ | refine rF_a ?_ | exact rA_eq | refine rA_ne (by decide) ?_ | refine rA_f ?_)) ?_
  refine g_callS (M' := mX7_isWithin) dX7_told_8 lc_X7_isWithin ml_X7_90 (c_isWithin h c (nI G.1) G.1 (nT (by omega))) rfl rfl ⟨Nat.le_of_ble_eq_true rfl, Nat.le_of_ble_eq_true rfl, Nat.le_of_ble_eq_true rfl, Nat.le_of_ble_eq_true rfl⟩ (Nat.le_of_ble_eq_true rfl) ?_
  intro r_ h_ q_; obtain ⟨q1_, q2_⟩ := q_; have q2_ := q2_.symm; subst q1_; subst q2_
  refine g_if_eq (tgt := 23) dX7_told_11 (by decide) (fun hc11 => ?_) (fun hc11 => ?_)
  · replace hc11 := bI_0.mp hc11
    (try simp (disch := omega) only [nT, t_m1000100, t_m1000010, t_m1000003, t_m1000002, t_m1000001, t_m1000000, t_m65535, t_m1000, t_m3, t_m1, t_0, t_1, t_2, t_3, t_4, t_5, t_6, t_7, t_8, t_9, t_10, t_11, t_12, t_13, t_15, t_16, t_20, t_21, t_22, t_32, t_40, t_41, t_48, t_49, t_57, t_59, t_60, t_63, t_72, t_76, t_88, t_100, t_144, t_200, t_255, t_288, t_400, t_800, t_999, t_1000, t_1024, t_1200, t_1600, t_3200, t_100000, t_200000, t_252645135, t_858993459, t_1431655765, u_m1000002, u_m1000001, u_m1000, u_m3, u_m1, u_0, u_1, u_2, u_3, u_4, u_5, u_7, u_8, u_10, u_11, u_15, u_60, u_100, u_255, u_999, u_1000, u_100000, u_4294967295] at hc11)
    have e : opTold G c i = _ := if_pos (by omega)
    refine g_ldc dX7_told_23 kc_X7_94 ?_
    refine g_iret dX7_told_25 rfl (rfl) (hQ _ _ ?_)
    rw [e]; exact ⟨rfl, rfl⟩
  · replace hc11 := bI_n0.mp hc11
    (try simp (disch := omega) only [nT, t_m1000100, t_m1000010, t_m1000003, t_m1000002, t_m1000001, t_m1000000, t_m65535, t_m1000, t_m3, t_m1, t_0, t_1, t_2, t_3, t_4, t_5, t_6, t_7, t_8, t_9, t_10, t_11, t_12, t_13, t_15, t_16, t_20, t_21, t_22, t_32, t_40, t_41, t_48, t_49, t_57, t_59, t_60, t_63, t_72, t_76, t_88, t_100, t_144, t_200, t_255, t_288, t_400, t_800, t_999, t_1000, t_1024, t_1200, t_1600, t_3200, t_100000, t_200000, t_252645135, t_858993459, t_1431655765, u_m1000002, u_m1000001, u_m1000, u_m3, u_m1, u_0, u_1, u_2, u_3, u_4, u_5, u_7, u_8, u_10, u_11, u_15, u_60, u_100, u_255, u_999, u_1000, u_100000, u_4294967295] at hc11)
    refine g_iload_n (i := 2) dX7_told_14 rfl rfl ?_
    refine g_bipush (v := 6) dX7_told_15 (by decide) ?_
    refine g_callS (M' := mX7_isWithin) dX7_told_17 lc_X7_isWithin ml_X7_90 (c_isWithin h i 6 6 rfl) rfl rfl ⟨Nat.le_of_ble_eq_true rfl, Nat.le_of_ble_eq_true rfl, Nat.le_of_ble_eq_true rfl, Nat.le_of_ble_eq_true rfl⟩ (Nat.le_of_ble_eq_true rfl) ?_
    intro r_ h_ q_; obtain ⟨q1_, q2_⟩ := q_; have q2_ := q2_.symm; subst q1_; subst q2_
    refine g_if_ne (tgt := 26) dX7_told_20 (by decide) (fun hc20 => ?_) (fun hc20 => ?_)
    · replace hc20 := bI_n0.mp hc20
      (try simp (disch := omega) only [nT, t_m1000100, t_m1000010, t_m1000003, t_m1000002, t_m1000001, t_m1000000, t_m65535, t_m1000, t_m3, t_m1, t_0, t_1, t_2, t_3, t_4, t_5, t_6, t_7, t_8, t_9, t_10, t_11, t_12, t_13, t_15, t_16, t_20, t_21, t_22, t_32, t_40, t_41, t_48, t_49, t_57, t_59, t_60, t_63, t_72, t_76, t_88, t_100, t_144, t_200, t_255, t_288, t_400, t_800, t_999, t_1000, t_1024, t_1200, t_1600, t_3200, t_100000, t_200000, t_252645135, t_858993459, t_1431655765, u_m1000002, u_m1000001, u_m1000, u_m3, u_m1, u_0, u_1, u_2, u_3, u_4, u_5, u_7, u_8, u_10, u_11, u_15, u_60, u_100, u_255, u_999, u_1000, u_100000, u_4294967295] at hc20)
      have e : opTold G c i = _ := if_neg (by omega)
      obtain ⟨a, ha, rfl, hta⟩ := n_of (n := G.1) (x := c) (by omega) (by omega)
      obtain ⟨b, hb, rfl, htb⟩ := n_of (n := 6) (x := i) (by omega) (by omega)
      rw [nTN (by omega), nTN (by omega), ← hfa a b ha hb] at e
      refine g_aload_n (i := 0) dX7_told_26 rfl rfl ?_
      refine g_get dX7_told_27 fl_X7_76 (by repeat' (first | assumption | exact rF_eq | refine rF_ne (by decide) ?_ | refine rF_a ?_ | exact rA_eq | refine rA_ne (by decide) ?_ | refine rA_f ?_)) (by repeat' (first | assumption | exact rF_eq | refine rF_ne (by decide) ?_ | refine rF_a ?_ | exact rA_eq | refine rA_ne (by decide) ?_ | refine rA_f ?_)) ?_
      refine g_iload_n (i := 1) dX7_told_30 rfl rfl ?_
      refine g_iload_n (i := 2) dX7_told_31 rfl rfl ?_
      refine g_callV (M' := mX1_fact) dX7_told_32 lc_X1_fact ml_X7_264 (c_fact hL (by omega) hb) rfl rfl (by repeat' (first | assumption | exact rF_eq | refine rF_ne (by decide) ?_ | refine rF_a ?_ | exact rA_eq | refine rA_ne (by decide) ?_ | refine rA_f ?_)) rfl ⟨Nat.le_of_ble_eq_true rfl, Nat.le_of_ble_eq_true rfl, Nat.le_of_ble_eq_true rfl, Nat.le_of_ble_eq_true rfl⟩ (Nat.le_of_ble_eq_true rfl) ?_
      intro r_ h_ q_; obtain ⟨q1_, q2_⟩ := q_; have q2_ := q2_.symm; subst q1_; subst q2_
      refine g_iret dX7_told_35 rfl (rfl) (hQ _ _ ?_)
      rw [e]; exact ⟨rfl, rfl⟩
    · replace hc20 := bI_0.mp hc20
      (try simp (disch := omega) only [nT, t_m1000100, t_m1000010, t_m1000003, t_m1000002, t_m1000001, t_m1000000, t_m65535, t_m1000, t_m3, t_m1, t_0, t_1, t_2, t_3, t_4, t_5, t_6, t_7, t_8, t_9, t_10, t_11, t_12, t_13, t_15, t_16, t_20, t_21, t_22, t_32, t_40, t_41, t_48, t_49, t_57, t_59, t_60, t_63, t_72, t_76, t_88, t_100, t_144, t_200, t_255, t_288, t_400, t_800, t_999, t_1000, t_1024, t_1200, t_1600, t_3200, t_100000, t_200000, t_252645135, t_858993459, t_1431655765, u_m1000002, u_m1000001, u_m1000, u_m3, u_m1, u_0, u_1, u_2, u_3, u_4, u_5, u_7, u_8, u_10, u_11, u_15, u_60, u_100, u_255, u_999, u_1000, u_100000, u_4294967295] at hc20)
      have e : opTold G c i = _ := if_pos (by omega)
      refine g_ldc dX7_told_23 kc_X7_94 ?_
      refine g_iret dX7_told_25 rfl (rfl) (hQ _ _ ?_)
      rw [e]; exact ⟨rfl, rfl⟩
theorem m_told {G : GL2} (hG : WfG G) {h : HH} (go : GOM G h) (c i : Int32) : CT mX8_told 1 0 0 [.ref 44, .int c, .int i] h (fun r h' => r = some (.int (opTold G c i)) ∧ h' = sF h 44 0 (.int 0)) := by
  obtain ⟨e1, o2, o3, ⟨o4, o5, o6, o7, o8, o9⟩, o10, o11, o12, o13, o14, o15⟩ := go
  have hG1 := hG.1
  refine CT.go [.ref 44, .int c, .int i] (by decide +kernel) rfl rfl (fun Q' hQ => ?_)
  refine g_aload_n (i := 0) dX8_told_0 rfl rfl ?_
  refine g_iconst (v := 0) dX8_told_1 (by decide) ?_
  refine g_put dX8_told_2 pl_X8_107 (by repeat' (first | assumption | exact rF_eq | refine rF_ne (by decide) ?_ | refine rF_a ?_ | exact rA_eq | refine rA_ne (by decide) ?_ | refine rA_f ?_)) (fun _ => ⟨rfl, rfl⟩) ?_
  refine g_iload_n (i := 1) dX8_told_5 rfl rfl ?_
  refine g_i2l dX8_told_6 ?_
  refine g_lconst (v := 0) dX8_told_7 (by decide) ?_
  refine g_aload_n (i := 0) dX8_told_8 rfl rfl ?_
  refine g_get dX8_told_9 fl_X8_240 (by repeat' (first | assumption | exact rF_eq | refine rF_ne (by decide) ?_ | refine rF_a ?_ | exact rA_eq | refine rA_ne (by decide) ?_ | refine rA_f ?_)) (by repeat' (first | assumption | exact rF_eq | refine rF_ne (by decide) ?_ | refine rF_a ?_ | exact rA_eq | refine rA_ne (by decide) ?_ | refine rA_f ?_)) ?_
  refine g_iconst (v := 1) dX8_told_12 (by decide) ?_
  refine g_isub dX8_told_13 ?_
  refine g_i2l dX8_told_14 ?_
  refine g_callS (M' := mX8_in) dX8_told_15 lc_X8_in ml_X8_116 (c_in _ c.toInt64 0 (nI G.1 - 1).toInt64 0 ((G.1 : Int) - 1) rfl (by rw [l_i, nm1T (by omega)])) rfl rfl ⟨Nat.le_of_ble_eq_true rfl, Nat.le_of_ble_eq_true rfl, Nat.le_of_ble_eq_true rfl, Nat.le_of_ble_eq_true rfl⟩ (Nat.le_of_ble_eq_true rfl) ?_
  intro r_ h_ q_; obtain ⟨q1_, q2_⟩ := q_; have q2_ := q2_.symm; subst q1_; subst q2_
  rw [l_i]
  refine g_if_eq (tgt := 33) dX8_told_18 (by decide) (fun hc18 => ?_) (fun hc18 => ?_)
  · replace hc18 := bI_0.mp hc18
    (try simp (disch := omega) only [nT, t_m1000100, t_m1000010, t_m1000003, t_m1000002, t_m1000001, t_m1000000, t_m65535, t_m1000, t_m3, t_m1, t_0, t_1, t_2, t_3, t_4, t_5, t_6, t_7, t_8, t_9, t_10, t_11, t_12, t_13, t_15, t_16, t_20, t_21, t_22, t_32, t_40, t_41, t_48, t_49, t_57, t_59, t_60, t_63, t_72, t_76, t_88, t_100, t_144, t_200, t_255, t_288, t_400, t_800, t_999, t_1000, t_1024, t_1200, t_1600, t_3200, t_100000, t_200000, t_252645135, t_858993459, t_1431655765, u_m1000002, u_m1000001, u_m1000, u_m3, u_m1, u_0, u_1, u_2, u_3, u_4, u_5, u_7, u_8, u_10, u_11, u_15, u_60, u_100, u_255, u_999, u_1000, u_100000, u_4294967295] at hc18)
    refine g_ldc dX8_told_33 kc_X8_126 ?_
    refine g_iret dX8_told_35 rfl (rfl) (hQ _ _ ?_)
    have e : opTold G c i = _ := if_pos (by omega)
    rw [e]; exact ⟨rfl, rfl⟩
  · replace hc18 := bI_n0.mp hc18
    (try simp (disch := omega) only [nT, t_m1000100, t_m1000010, t_m1000003, t_m1000002, t_m1000001, t_m1000000, t_m65535, t_m1000, t_m3, t_m1, t_0, t_1, t_2, t_3, t_4, t_5, t_6, t_7, t_8, t_9, t_10, t_11, t_12, t_13, t_15, t_16, t_20, t_21, t_22, t_32, t_40, t_41, t_48, t_49, t_57, t_59, t_60, t_63, t_72, t_76, t_88, t_100, t_144, t_200, t_255, t_288, t_400, t_800, t_999, t_1000, t_1024, t_1200, t_1600, t_3200, t_100000, t_200000, t_252645135, t_858993459, t_1431655765, u_m1000002, u_m1000001, u_m1000, u_m3, u_m1, u_0, u_1, u_2, u_3, u_4, u_5, u_7, u_8, u_10, u_11, u_15, u_60, u_100, u_255, u_999, u_1000, u_100000, u_4294967295] at hc18)
    refine g_iload_n (i := 2) dX8_told_21 rfl rfl ?_
    refine g_i2l dX8_told_22 ?_
    refine g_lconst (v := 0) dX8_told_23 (by decide) ?_
    refine g_ldc2 dX8_told_24 kc_X8_247 ?_
    refine g_callS (M' := mX8_in) dX8_told_27 lc_X8_in ml_X8_116 (c_in _ i.toInt64 0 5 0 5 rfl rfl) rfl rfl ⟨Nat.le_of_ble_eq_true rfl, Nat.le_of_ble_eq_true rfl, Nat.le_of_ble_eq_true rfl, Nat.le_of_ble_eq_true rfl⟩ (Nat.le_of_ble_eq_true rfl) ?_
    intro r_ h_ q_; obtain ⟨q1_, q2_⟩ := q_; have q2_ := q2_.symm; subst q1_; subst q2_
    rw [l_i]
    refine g_if_ne (tgt := 36) dX8_told_30 (by decide) (fun hc30 => ?_) (fun hc30 => ?_)
    · replace hc30 := bI_n0.mp hc30
      (try simp (disch := omega) only [nT, t_m1000100, t_m1000010, t_m1000003, t_m1000002, t_m1000001, t_m1000000, t_m65535, t_m1000, t_m3, t_m1, t_0, t_1, t_2, t_3, t_4, t_5, t_6, t_7, t_8, t_9, t_10, t_11, t_12, t_13, t_15, t_16, t_20, t_21, t_22, t_32, t_40, t_41, t_48, t_49, t_57, t_59, t_60, t_63, t_72, t_76, t_88, t_100, t_144, t_200, t_255, t_288, t_400, t_800, t_999, t_1000, t_1024, t_1200, t_1600, t_3200, t_100000, t_200000, t_252645135, t_858993459, t_1431655765, u_m1000002, u_m1000001, u_m1000, u_m3, u_m1, u_0, u_1, u_2, u_3, u_4, u_5, u_7, u_8, u_10, u_11, u_15, u_60, u_100, u_255, u_999, u_1000, u_100000, u_4294967295] at hc30)
      have e : opTold G c i = _ := if_neg (by omega)
      obtain ⟨a, ha, rfl, hta⟩ := n_of (n := G.1) (x := c) (by omega) (by omega)
      obtain ⟨b, hb, rfl, htb⟩ := n_of (n := 6) (x := i) (by omega) (by omega)
      rw [nTN (by omega), nTN (by omega)] at e
      refine g_iload_n (i := 2) dX8_told_36 rfl rfl ?_
      refine g_if_ne (tgt := 49) dX8_told_37 (by decide) (fun hc37 => ?_) (fun hc37 => ?_)
      · have hd37 := mt i_eq.mpr hc37; (try simp (disch := omega) only [nT, t_m1000100, t_m1000010, t_m1000003, t_m1000002, t_m1000001, t_m1000000, t_m65535, t_m1000, t_m3, t_m1, t_0, t_1, t_2, t_3, t_4, t_5, t_6, t_7, t_8, t_9, t_10, t_11, t_12, t_13, t_15, t_16, t_20, t_21, t_22, t_32, t_40, t_41, t_48, t_49, t_57, t_59, t_60, t_63, t_72, t_76, t_88, t_100, t_144, t_200, t_255, t_288, t_400, t_800, t_999, t_1000, t_1024, t_1200, t_1600, t_3200, t_100000, t_200000, t_252645135, t_858993459, t_1431655765, u_m1000002, u_m1000001, u_m1000, u_m3, u_m1, u_0, u_1, u_2, u_3, u_4, u_5, u_7, u_8, u_10, u_11, u_15, u_60, u_100, u_255, u_999, u_1000, u_100000, u_4294967295] at hd37)
        refine g_iload_n (i := 2) dX8_told_49 rfl rfl ?_
        refine g_iconst (v := 1) dX8_told_50 (by decide) ?_
        refine g_icmp_ne (tgt := 63) dX8_told_51 (by decide) (fun hc51 => ?_) (fun hc51 => ?_)
        · have hd51 := mt i_eq.mpr hc51; (try simp (disch := omega) only [nT, t_m1000100, t_m1000010, t_m1000003, t_m1000002, t_m1000001, t_m1000000, t_m65535, t_m1000, t_m3, t_m1, t_0, t_1, t_2, t_3, t_4, t_5, t_6, t_7, t_8, t_9, t_10, t_11, t_12, t_13, t_15, t_16, t_20, t_21, t_22, t_32, t_40, t_41, t_48, t_49, t_57, t_59, t_60, t_63, t_72, t_76, t_88, t_100, t_144, t_200, t_255, t_288, t_400, t_800, t_999, t_1000, t_1024, t_1200, t_1600, t_3200, t_100000, t_200000, t_252645135, t_858993459, t_1431655765, u_m1000002, u_m1000001, u_m1000, u_m3, u_m1, u_0, u_1, u_2, u_3, u_4, u_5, u_7, u_8, u_10, u_11, u_15, u_60, u_100, u_255, u_999, u_1000, u_100000, u_4294967295] at hd51)
          refine g_iload_n (i := 2) dX8_told_63 rfl rfl ?_
          refine g_iconst (v := 2) dX8_told_64 (by decide) ?_
          refine g_icmp_ne (tgt := 77) dX8_told_65 (by decide) (fun hc65 => ?_) (fun hc65 => ?_)
          · have hd65 := mt i_eq.mpr hc65; (try simp (disch := omega) only [nT, t_m1000100, t_m1000010, t_m1000003, t_m1000002, t_m1000001, t_m1000000, t_m65535, t_m1000, t_m3, t_m1, t_0, t_1, t_2, t_3, t_4, t_5, t_6, t_7, t_8, t_9, t_10, t_11, t_12, t_13, t_15, t_16, t_20, t_21, t_22, t_32, t_40, t_41, t_48, t_49, t_57, t_59, t_60, t_63, t_72, t_76, t_88, t_100, t_144, t_200, t_255, t_288, t_400, t_800, t_999, t_1000, t_1024, t_1200, t_1600, t_3200, t_100000, t_200000, t_252645135, t_858993459, t_1431655765, u_m1000002, u_m1000001, u_m1000, u_m3, u_m1, u_0, u_1, u_2, u_3, u_4, u_5, u_7, u_8, u_10, u_11, u_15, u_60, u_100, u_255, u_999, u_1000, u_100000, u_4294967295] at hd65)
            refine g_iload_n (i := 2) dX8_told_77 rfl rfl ?_
            refine g_iconst (v := 3) dX8_told_78 (by decide) ?_
            refine g_icmp_ne (tgt := 91) dX8_told_79 (by decide) (fun hc79 => ?_) (fun hc79 => ?_)
            · have hd79 := mt i_eq.mpr hc79; (try simp (disch := omega) only [nT, t_m1000100, t_m1000010, t_m1000003, t_m1000002, t_m1000001, t_m1000000, t_m65535, t_m1000, t_m3, t_m1, t_0, t_1, t_2, t_3, t_4, t_5, t_6, t_7, t_8, t_9, t_10, t_11, t_12, t_13, t_15, t_16, t_20, t_21, t_22, t_32, t_40, t_41, t_48, t_49, t_57, t_59, t_60, t_63, t_72, t_76, t_88, t_100, t_144, t_200, t_255, t_288, t_400, t_800, t_999, t_1000, t_1024, t_1200, t_1600, t_3200, t_100000, t_200000, t_252645135, t_858993459, t_1431655765, u_m1000002, u_m1000001, u_m1000, u_m3, u_m1, u_0, u_1, u_2, u_3, u_4, u_5, u_7, u_8, u_10, u_11, u_15, u_60, u_100, u_255, u_999, u_1000, u_100000, u_4294967295] at hd79)
              refine g_iload_n (i := 2) dX8_told_91 rfl rfl ?_
              refine g_iconst (v := 4) dX8_told_92 (by decide) ?_
              refine g_icmp_ne (tgt := 105) dX8_told_93 (by decide) (fun hc93 => ?_) (fun hc93 => ?_)
              · have hd93 := mt i_eq.mpr hc93; (try simp (disch := omega) only [nT, t_m1000100, t_m1000010, t_m1000003, t_m1000002, t_m1000001, t_m1000000, t_m65535, t_m1000, t_m3, t_m1, t_0, t_1, t_2, t_3, t_4, t_5, t_6, t_7, t_8, t_9, t_10, t_11, t_12, t_13, t_15, t_16, t_20, t_21, t_22, t_32, t_40, t_41, t_48, t_49, t_57, t_59, t_60, t_63, t_72, t_76, t_88, t_100, t_144, t_200, t_255, t_288, t_400, t_800, t_999, t_1000, t_1024, t_1200, t_1600, t_3200, t_100000, t_200000, t_252645135, t_858993459, t_1431655765, u_m1000002, u_m1000001, u_m1000, u_m3, u_m1, u_0, u_1, u_2, u_3, u_4, u_5, u_7, u_8, u_10, u_11, u_15, u_60, u_100, u_255, u_999, u_1000, u_100000, u_4294967295] at hd93)
                refine g_aload_n (i := 0) dX8_told_105 rfl rfl ?_
                refine g_get dX8_told_106 fl_X8_94 (by repeat' (first | assumption | exact rF_eq | refine rF_ne (by decide) ?_ | refine rF_a ?_ | exact rA_eq | refine rA_ne (by decide) ?_ | refine rA_f ?_)) (by repeat' (first | assumption | exact rF_eq | refine rF_ne (by decide) ?_ | refine rF_a ?_ | exact rA_eq | refine rA_ne (by decide) ?_ | refine rA_f ?_)) ?_
                refine g_iload_n (i := 1) dX8_told_109 rfl rfl ?_
                refine g_iald dX8_told_110 (by repeat' (first | assumption | exact rF_eq | refine rF_ne (by decide) ?_ | refine rF_a ?_ | exact rA_eq | refine rA_ne (by decide) ?_ | refine rA_f ?_)) (nT (by omega)) (by omega) ?_
                refine g_iret dX8_told_111 rfl (rfl) (hQ _ _ ?_)
                rw [e]
                refine ⟨?_, rfl⟩
                first
                | (obtain rfl : b = 0 := (by omega); rfl)
                | (obtain rfl : b = 1 := (by omega); rfl)
                | (obtain rfl : b = 2 := (by omega); rfl)
                | (obtain rfl : b = 3 := (by omega); rfl)
                | (obtain rfl : b = 4 := (by omega); rfl)
                | (obtain rfl : b = 5 := (by omega); rfl)
              · have hd93 := i_eq.mp hc93; (try simp (disch := omega) only [nT, t_m1000100, t_m1000010, t_m1000003, t_m1000002, t_m1000001, t_m1000000, t_m65535, t_m1000, t_m3, t_m1, t_0, t_1, t_2, t_3, t_4, t_5, t_6, t_7, t_8, t_9, t_10, t_11, t_12, t_13, t_15, t_16, t_20, t_21, t_22, t_32, t_40, t_41, t_48, t_49, t_57, t_59, t_60, t_63, t_72, t_76, t_88, t_100, t_144, t_200, t_255, t_288, t_400, t_800, t_999, t_1000, t_1024, t_1200, t_1600, t_3200, t_100000, t_200000, t_252645135, t_858993459, t_1431655765, u_m1000002, u_m1000001, u_m1000, u_m3, u_m1, u_0, u_1, u_2, u_3, u_4, u_5, u_7, u_8, u_10, u_11, u_15, u_60, u_100, u_255, u_999, u_1000, u_100000, u_4294967295] at hd93)
                refine g_aload_n (i := 0) dX8_told_96 rfl rfl ?_
                refine g_get dX8_told_97 fl_X8_91 (by repeat' (first | assumption | exact rF_eq | refine rF_ne (by decide) ?_ | refine rF_a ?_ | exact rA_eq | refine rA_ne (by decide) ?_ | refine rA_f ?_)) (by repeat' (first | assumption | exact rF_eq | refine rF_ne (by decide) ?_ | refine rF_a ?_ | exact rA_eq | refine rA_ne (by decide) ?_ | refine rA_f ?_)) ?_
                refine g_iload_n (i := 1) dX8_told_100 rfl rfl ?_
                refine g_iald dX8_told_101 (by repeat' (first | assumption | exact rF_eq | refine rF_ne (by decide) ?_ | refine rF_a ?_ | exact rA_eq | refine rA_ne (by decide) ?_ | refine rA_f ?_)) (nT (by omega)) (by omega) ?_
                refine g_goto (tgt := 111) dX8_told_102 (by decide) ?_
                refine g_iret dX8_told_111 rfl (rfl) (hQ _ _ ?_)
                rw [e]
                refine ⟨?_, rfl⟩
                first
                | (obtain rfl : b = 0 := (by omega); rfl)
                | (obtain rfl : b = 1 := (by omega); rfl)
                | (obtain rfl : b = 2 := (by omega); rfl)
                | (obtain rfl : b = 3 := (by omega); rfl)
                | (obtain rfl : b = 4 := (by omega); rfl)
                | (obtain rfl : b = 5 := (by omega); rfl)
            · have hd79 := i_eq.mp hc79; (try simp (disch := omega) only [nT, t_m1000100, t_m1000010, t_m1000003, t_m1000002, t_m1000001, t_m1000000, t_m65535, t_m1000, t_m3, t_m1, t_0, t_1, t_2, t_3, t_4, t_5, t_6, t_7, t_8, t_9, t_10, t_11, t_12, t_13, t_15, t_16, t_20, t_21, t_22, t_32, t_40, t_41, t_48, t_49, t_57, t_59, t_60, t_63, t_72, t_76, t_88, t_100, t_144, t_200, t_255, t_288, t_400, t_800, t_999, t_1000, t_1024, t_1200, t_1600, t_3200, t_100000, t_200000, t_252645135, t_858993459, t_1431655765, u_m1000002, u_m1000001, u_m1000, u_m3, u_m1, u_0, u_1, u_2, u_3, u_4, u_5, u_7, u_8, u_10, u_11, u_15, u_60, u_100, u_255, u_999, u_1000, u_100000, u_4294967295] at hd79)
              refine g_aload_n (i := 0) dX8_told_82 rfl rfl ?_
              refine g_get dX8_told_83 fl_X8_88 (by repeat' (first | assumption | exact rF_eq | refine rF_ne (by decide) ?_ | refine rF_a ?_ | exact rA_eq | refine rA_ne (by decide) ?_ | refine rA_f ?_)) (by repeat' (first | assumption | exact rF_eq | refine rF_ne (by decide) ?_ | refine rF_a ?_ | exact rA_eq | refine rA_ne (by decide) ?_ | refine rA_f ?_)) ?_
              refine g_iload_n (i := 1) dX8_told_86 rfl rfl ?_
              refine g_iald dX8_told_87 (by repeat' (first | assumption | exact rF_eq | refine rF_ne (by decide) ?_ | refine rF_a ?_ | exact rA_eq | refine rA_ne (by decide) ?_ | refine rA_f ?_)) (nT (by omega)) (by omega) ?_
              refine g_goto (tgt := 111) dX8_told_88 (by decide) ?_
              refine g_iret dX8_told_111 rfl (rfl) (hQ _ _ ?_)
              rw [e]
              refine ⟨?_, rfl⟩
              first
              | (obtain rfl : b = 0 := (by omega); rfl)
              | (obtain rfl : b = 1 := (by omega); rfl)
              | (obtain rfl : b = 2 := (by omega); rfl)
              | (obtain rfl : b = 3 := (by omega); rfl)
              | (obtain rfl : b = 4 := (by omega); rfl)
              | (obtain rfl : b = 5 := (by omega); rfl)
          · have hd65 := i_eq.mp hc65; (try simp (disch := omega) only [nT, t_m1000100, t_m1000010, t_m1000003, t_m1000002, t_m1000001, t_m1000000, t_m65535, t_m1000, t_m3, t_m1, t_0, t_1, t_2, t_3, t_4, t_5, t_6, t_7, t_8, t_9, t_10, t_11, t_12, t_13, t_15, t_16, t_20, t_21, t_22, t_32, t_40, t_41, t_48, t_49, t_57, t_59, t_60, t_63, t_72, t_76, t_88, t_100, t_144, t_200, t_255, t_288, t_400, t_800, t_999, t_1000, t_1024, t_1200, t_1600, t_3200, t_100000, t_200000, t_252645135, t_858993459, t_1431655765, u_m1000002, u_m1000001, u_m1000, u_m3, u_m1, u_0, u_1, u_2, u_3, u_4, u_5, u_7, u_8, u_10, u_11, u_15, u_60, u_100, u_255, u_999, u_1000, u_100000, u_4294967295] at hd65)
            refine g_aload_n (i := 0) dX8_told_68 rfl rfl ?_
            refine g_get dX8_told_69 fl_X8_85 (by repeat' (first | assumption | exact rF_eq | refine rF_ne (by decide) ?_ | refine rF_a ?_ | exact rA_eq | refine rA_ne (by decide) ?_ | refine rA_f ?_)) (by repeat' (first | assumption | exact rF_eq | refine rF_ne (by decide) ?_ | refine rF_a ?_ | exact rA_eq | refine rA_ne (by decide) ?_ | refine rA_f ?_)) ?_
            refine g_iload_n (i := 1) dX8_told_72 rfl rfl ?_
            refine g_iald dX8_told_73 (by repeat' (first | assumption | exact rF_eq | refine rF_ne (by decide) ?_ | refine rF_a ?_ | exact rA_eq | refine rA_ne (by decide) ?_ | refine rA_f ?_)) (nT (by omega)) (by omega) ?_
            refine g_goto (tgt := 111) dX8_told_74 (by decide) ?_
            refine g_iret dX8_told_111 rfl (rfl) (hQ _ _ ?_)
            rw [e]
            refine ⟨?_, rfl⟩
            first
            | (obtain rfl : b = 0 := (by omega); rfl)
            | (obtain rfl : b = 1 := (by omega); rfl)
            | (obtain rfl : b = 2 := (by omega); rfl)
            | (obtain rfl : b = 3 := (by omega); rfl)
            | (obtain rfl : b = 4 := (by omega); rfl)
            | (obtain rfl : b = 5 := (by omega); rfl)
        · have hd51 := i_eq.mp hc51; (try simp (disch := omega) only [nT, t_m1000100, t_m1000010, t_m1000003, t_m1000002, t_m1000001, t_m1000000, t_m65535, t_m1000, t_m3, t_m1, t_0, t_1, t_2, t_3, t_4, t_5, t_6, t_7, t_8, t_9, t_10, t_11, t_12, t_13, t_15, t_16, t_20, t_21, t_22, t_32, t_40, t_41, t_48, t_49, t_57, t_59, t_60, t_63, t_72, t_76, t_88, t_100, t_144, t_200, t_255, t_288, t_400, t_800, t_999, t_1000, t_1024, t_1200, t_1600, t_3200, t_100000, t_200000, t_252645135, t_858993459, t_1431655765, u_m1000002, u_m1000001, u_m1000, u_m3, u_m1, u_0, u_1, u_2, u_3, u_4, u_5, u_7, u_8, u_10, u_11, u_15, u_60, u_100, u_255, u_999, u_1000, u_100000, u_4294967295] at hd51)
          refine g_aload_n (i := 0) dX8_told_54 rfl rfl ?_
          refine g_get dX8_told_55 fl_X8_82 (by repeat' (first | assumption | exact rF_eq | refine rF_ne (by decide) ?_ | refine rF_a ?_ | exact rA_eq | refine rA_ne (by decide) ?_ | refine rA_f ?_)) (by repeat' (first | assumption | exact rF_eq | refine rF_ne (by decide) ?_ | refine rF_a ?_ | exact rA_eq | refine rA_ne (by decide) ?_ | refine rA_f ?_)) ?_
          refine g_iload_n (i := 1) dX8_told_58 rfl rfl ?_
          refine g_iald dX8_told_59 (by repeat' (first | assumption | exact rF_eq | refine rF_ne (by decide) ?_ | refine rF_a ?_ | exact rA_eq | refine rA_ne (by decide) ?_ | refine rA_f ?_)) (nT (by omega)) (by omega) ?_
          refine g_goto (tgt := 111) dX8_told_60 (by decide) ?_
          refine g_iret dX8_told_111 rfl (rfl) (hQ _ _ ?_)
          rw [e]
          refine ⟨?_, rfl⟩
          first
          | (obtain rfl : b = 0 := (by omega); rfl)
          | (obtain rfl : b = 1 := (by omega); rfl)
          | (obtain rfl : b = 2 := (by omega); rfl)
          | (obtain rfl : b = 3 := (by omega); rfl)
          | (obtain rfl : b = 4 := (by omega); rfl)
          | (obtain rfl : b = 5 := (by omega); rfl)
      · have hd37 := i_eq.mp hc37; (try simp (disch := omega) only [nT, t_m1000100, t_m1000010, t_m1000003, t_m1000002, t_m1000001, t_m1000000, t_m65535, t_m1000, t_m3, t_m1, t_0, t_1, t_2, t_3, t_4, t_5, t_6, t_7, t_8, t_9, t_10, t_11, t_12, t_13, t_15, t_16, t_20, t_21, t_22, t_32, t_40, t_41, t_48, t_49, t_57, t_59, t_60, t_63, t_72, t_76, t_88, t_100, t_144, t_200, t_255, t_288, t_400, t_800, t_999, t_1000, t_1024, t_1200, t_1600, t_3200, t_100000, t_200000, t_252645135, t_858993459, t_1431655765, u_m1000002, u_m1000001, u_m1000, u_m3, u_m1, u_0, u_1, u_2, u_3, u_4, u_5, u_7, u_8, u_10, u_11, u_15, u_60, u_100, u_255, u_999, u_1000, u_100000, u_4294967295] at hd37)
        refine g_aload_n (i := 0) dX8_told_40 rfl rfl ?_
        refine g_get dX8_told_41 fl_X8_79 (by repeat' (first | assumption | exact rF_eq | refine rF_ne (by decide) ?_ | refine rF_a ?_ | exact rA_eq | refine rA_ne (by decide) ?_ | refine rA_f ?_)) (by repeat' (first | assumption | exact rF_eq | refine rF_ne (by decide) ?_ | refine rF_a ?_ | exact rA_eq | refine rA_ne (by decide) ?_ | refine rA_f ?_)) ?_
        refine g_iload_n (i := 1) dX8_told_44 rfl rfl ?_
        refine g_iald dX8_told_45 (by repeat' (first | assumption | exact rF_eq | refine rF_ne (by decide) ?_ | refine rF_a ?_ | exact rA_eq | refine rA_ne (by decide) ?_ | refine rA_f ?_)) (nT (by omega)) (by omega) ?_
        refine g_goto (tgt := 111) dX8_told_46 (by decide) ?_
        refine g_iret dX8_told_111 rfl (rfl) (hQ _ _ ?_)
        rw [e]
        refine ⟨?_, rfl⟩
        first
        | (obtain rfl : b = 0 := (by omega); rfl)
        | (obtain rfl : b = 1 := (by omega); rfl)
        | (obtain rfl : b = 2 := (by omega); rfl)
        | (obtain rfl : b = 3 := (by omega); rfl)
        | (obtain rfl : b = 4 := (by omega); rfl)
        | (obtain rfl : b = 5 := (by omega); rfl)
    · replace hc30 := bI_0.mp hc30
      (try simp (disch := omega) only [nT, t_m1000100, t_m1000010, t_m1000003, t_m1000002, t_m1000001, t_m1000000, t_m65535, t_m1000, t_m3, t_m1, t_0, t_1, t_2, t_3, t_4, t_5, t_6, t_7, t_8, t_9, t_10, t_11, t_12, t_13, t_15, t_16, t_20, t_21, t_22, t_32, t_40, t_41, t_48, t_49, t_57, t_59, t_60, t_63, t_72, t_76, t_88, t_100, t_144, t_200, t_255, t_288, t_400, t_800, t_999, t_1000, t_1024, t_1200, t_1600, t_3200, t_100000, t_200000, t_252645135, t_858993459, t_1431655765, u_m1000002, u_m1000001, u_m1000, u_m3, u_m1, u_0, u_1, u_2, u_3, u_4, u_5, u_7, u_8, u_10, u_11, u_15, u_60, u_100, u_255, u_999, u_1000, u_100000, u_4294967295] at hc30)
      refine g_ldc dX8_told_33 kc_X8_126 ?_
      refine g_iret dX8_told_35 rfl (rfl) (hQ _ _ ?_)
      have e : opTold G c i = _ := if_pos (by omega)
      rw [e]; exact ⟨rfl, rfl⟩
