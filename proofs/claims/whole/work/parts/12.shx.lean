/-! the SHEETS' calls: what they answer and leave, and the class's side -/
abbrev SH : Type := Int32 × (Nat → Int32) × (Nat → Int32) × (Nat → Int32)
def WfS (w : SH) : Prop := ∀ a, a < 8 → -1 ≤ (w.2.1 a).toInt ∧ (w.2.1 a).toInt ≤ 2 ∧ 0 ≤ (w.2.2.1 a).toInt ∧ (w.2.2.1 a).toInt ≤ 100
def fnd (k : Int32) : Int32 := -1000010 - k
def opSheet (w : SH) (s l n : Int32) : Int32 × SH :=
  if ¬ (0 ≤ s.toInt ∧ s.toInt < 8) ∨ ¬ (0 ≤ l.toInt ∧ l.toInt < 3) ∨ 100 < n.toInt then (-1000001, w)
  else if n.toInt < 0 then (fnd 4, 4, w.2)
  else (n, 0, upd w.2.1 s.toInt.toNat l, upd w.2.2.1 s.toInt.toNat n, zer w.2.2.2 (100 * s.toInt.toNat) n.toInt.toNat)
def opSet (w : SH) (s i v : Int32) : Int32 × SH :=
  if ¬ (0 ≤ s.toInt ∧ s.toInt < 8) then (-1000001, w)
  else if (w.2.1 s.toInt.toNat).toInt < 0 then (fnd 1, 1, w.2)
  else if ¬ (0 ≤ i.toInt ∧ i.toInt < (w.2.2.1 s.toInt.toNat).toInt) then (fnd 2, 2, w.2)
  else (kept (w.2.1 s.toInt.toNat) v, 0, w.2.1, w.2.2.1, upd w.2.2.2 (100 * s.toInt.toNat + i.toInt.toNat) (kept (w.2.1 s.toInt.toNat) v))
def opCopy (w : SH) (a i b j n : Int32) : Int32 × SH :=
  if ¬ (0 ≤ a.toInt ∧ a.toInt < 8) ∨ ¬ (0 ≤ b.toInt ∧ b.toInt < 8) then (-1000001, w)
  else if (w.2.1 a.toInt.toNat).toInt < 0 ∨ (w.2.1 b.toInt.toNat).toInt < 0 then (fnd 1, 1, w.2)
  else if ¬ (w.2.1 a.toInt.toNat).toInt = (w.2.1 b.toInt.toNat).toInt then (fnd 5, 5, w.2)
  else if ¬ (0 ≤ i.toInt ∧ 0 ≤ n.toInt ∧ i.toInt + n.toInt ≤ (w.2.2.1 a.toInt.toNat).toInt) ∨ ¬ (0 ≤ j.toInt ∧ 0 ≤ n.toInt ∧ j.toInt + n.toInt ≤ (w.2.2.1 b.toInt.toNat).toInt) then (fnd 2, 2, w.2)
  else (n, 0, w.2.1, w.2.2.1, va_cpy w.2.2.2 w.2.2.2 (100 * a.toInt.toNat + i.toInt.toNat) (100 * b.toInt.toNat + j.toInt.toNat) n.toInt.toNat)
def opDrop (w : SH) (s : Int32) : Int32 × SH :=
  if ¬ (0 ≤ s.toInt ∧ s.toInt < 8) then (-1000001, w)
  else if (w.2.1 s.toInt.toNat).toInt < 0 then (fnd 1, 1, w.2)
  else (w.2.2.1 s.toInt.toNat, 0, upd w.2.1 s.toInt.toNat (-1), w.2.2)
theorem nTN {j : Nat} (hj : j < 2147483648) : (nI j).toInt.toNat = j := by rw [nT hj]; rfl
def GSX (w : SH) (h : HH) : Prop := (gA h 0 = aO 7 ∧ gF h 0 0 = .ref 1 ∧ gF h 0 1 = .int w.1) ∧ ShX h w.2.1 w.2.2.1 w.2.2.2
theorem x_sheet {w : SH} (hw : WfS w) {h : HH} (hg : GSX w h) (s l n : Int32) : CT mX7_sheet 2 0 0 [.ref 0, .int s, .int l, .int n] h (fun r h' => r = some (.int (opSheet w s l n).1) ∧ GSX (opSheet w s l n).2 h' ∧ Fr [2, 3, 4] [(0, 1)] h h') := by
  obtain ⟨st, ln, sz, it⟩ := w
  obtain ⟨⟨h0, h1, h2⟩, hs⟩ := hg
  have hs0 := hs
  obtain ⟨e1, e2, e3, e4, e5, e6, e7⟩ := hs
  dsimp only at h2 e5 e6 e7 hs0
  refine CT.go [.ref 0, .int s, .int l, .int n] (by decide +kernel) rfl rfl (fun Q' hQ => ?_)
  refine g_iload_n (i := 1) dX7_sheet_0 rfl rfl ?_
  refine g_bipush (v := 8) dX7_sheet_1 (by decide) ?_
  refine g_callS (M' := mX7_isWithin) dX7_sheet_3 lc_X7_isWithin ml_X7_90 (c_isWithin h s 8 8 rfl) rfl rfl ⟨Nat.le_of_ble_eq_true rfl, Nat.le_of_ble_eq_true rfl, Nat.le_of_ble_eq_true rfl, Nat.le_of_ble_eq_true rfl⟩ (Nat.le_of_ble_eq_true rfl) ?_
  intro r_ h_ q_; obtain ⟨q1_, q2_⟩ := q_; have q2_ := q2_.symm; subst q1_; subst q2_
  refine g_if_eq (tgt := 23) dX7_sheet_6 (by decide) (fun hc6 => ?_) (fun hc6 => ?_)
  · replace hc6 := bI_0.mp hc6
    (try simp (disch := omega) only [nT, t_m1000100, t_m1000010, t_m1000003, t_m1000002, t_m1000001, t_m1000000, t_m65535, t_m1000, t_m3, t_m1, t_0, t_1, t_2, t_3, t_4, t_5, t_6, t_7, t_8, t_9, t_10, t_11, t_12, t_13, t_15, t_16, t_20, t_21, t_22, t_32, t_40, t_41, t_48, t_49, t_57, t_59, t_60, t_63, t_72, t_76, t_88, t_100, t_144, t_200, t_255, t_288, t_400, t_800, t_999, t_1000, t_1024, t_1200, t_1600, t_3200, t_100000, t_200000, t_252645135, t_858993459, t_1431655765, u_m1000002, u_m1000001, u_m1000, u_m3, u_m1, u_0, u_1, u_2, u_3, u_4, u_5, u_7, u_8, u_10, u_11, u_15, u_60, u_100, u_255, u_999, u_1000, u_100000, u_4294967295] at hc6)
    refine g_ldc dX7_sheet_23 kc_X7_94 ?_
    refine g_iret dX7_sheet_25 rfl (rfl) (hQ _ _ ?_)
    have e : opSheet (st, ln, sz, it) s l n = _ := if_pos (by omega)
    rw [e]; exact ⟨rfl, ⟨⟨h0, h1, h2⟩, hs0⟩, fr_rf⟩
  · replace hc6 := bI_n0.mp hc6
    (try simp (disch := omega) only [nT, t_m1000100, t_m1000010, t_m1000003, t_m1000002, t_m1000001, t_m1000000, t_m65535, t_m1000, t_m3, t_m1, t_0, t_1, t_2, t_3, t_4, t_5, t_6, t_7, t_8, t_9, t_10, t_11, t_12, t_13, t_15, t_16, t_20, t_21, t_22, t_32, t_40, t_41, t_48, t_49, t_57, t_59, t_60, t_63, t_72, t_76, t_88, t_100, t_144, t_200, t_255, t_288, t_400, t_800, t_999, t_1000, t_1024, t_1200, t_1600, t_3200, t_100000, t_200000, t_252645135, t_858993459, t_1431655765, u_m1000002, u_m1000001, u_m1000, u_m3, u_m1, u_0, u_1, u_2, u_3, u_4, u_5, u_7, u_8, u_10, u_11, u_15, u_60, u_100, u_255, u_999, u_1000, u_100000, u_4294967295] at hc6)
    refine g_iload_n (i := 2) dX7_sheet_9 rfl rfl ?_
    refine g_iconst (v := 3) dX7_sheet_10 (by decide) ?_
    refine g_callS (M' := mX7_isWithin) dX7_sheet_11 lc_X7_isWithin ml_X7_90 (c_isWithin h l 3 3 rfl) rfl rfl ⟨Nat.le_of_ble_eq_true rfl, Nat.le_of_ble_eq_true rfl, Nat.le_of_ble_eq_true rfl, Nat.le_of_ble_eq_true rfl⟩ (Nat.le_of_ble_eq_true rfl) ?_
    intro r_ h_ q_; obtain ⟨q1_, q2_⟩ := q_; have q2_ := q2_.symm; subst q1_; subst q2_
    refine g_if_eq (tgt := 23) dX7_sheet_14 (by decide) (fun hc14 => ?_) (fun hc14 => ?_)
    · replace hc14 := bI_0.mp hc14
      (try simp (disch := omega) only [nT, t_m1000100, t_m1000010, t_m1000003, t_m1000002, t_m1000001, t_m1000000, t_m65535, t_m1000, t_m3, t_m1, t_0, t_1, t_2, t_3, t_4, t_5, t_6, t_7, t_8, t_9, t_10, t_11, t_12, t_13, t_15, t_16, t_20, t_21, t_22, t_32, t_40, t_41, t_48, t_49, t_57, t_59, t_60, t_63, t_72, t_76, t_88, t_100, t_144, t_200, t_255, t_288, t_400, t_800, t_999, t_1000, t_1024, t_1200, t_1600, t_3200, t_100000, t_200000, t_252645135, t_858993459, t_1431655765, u_m1000002, u_m1000001, u_m1000, u_m3, u_m1, u_0, u_1, u_2, u_3, u_4, u_5, u_7, u_8, u_10, u_11, u_15, u_60, u_100, u_255, u_999, u_1000, u_100000, u_4294967295] at hc14)
      refine g_ldc dX7_sheet_23 kc_X7_94 ?_
      refine g_iret dX7_sheet_25 rfl (rfl) (hQ _ _ ?_)
      have e : opSheet (st, ln, sz, it) s l n = _ := if_pos (by omega)
      rw [e]; exact ⟨rfl, ⟨⟨h0, h1, h2⟩, hs0⟩, fr_rf⟩
    · replace hc14 := bI_n0.mp hc14
      (try simp (disch := omega) only [nT, t_m1000100, t_m1000010, t_m1000003, t_m1000002, t_m1000001, t_m1000000, t_m65535, t_m1000, t_m3, t_m1, t_0, t_1, t_2, t_3, t_4, t_5, t_6, t_7, t_8, t_9, t_10, t_11, t_12, t_13, t_15, t_16, t_20, t_21, t_22, t_32, t_40, t_41, t_48, t_49, t_57, t_59, t_60, t_63, t_72, t_76, t_88, t_100, t_144, t_200, t_255, t_288, t_400, t_800, t_999, t_1000, t_1024, t_1200, t_1600, t_3200, t_100000, t_200000, t_252645135, t_858993459, t_1431655765, u_m1000002, u_m1000001, u_m1000, u_m3, u_m1, u_0, u_1, u_2, u_3, u_4, u_5, u_7, u_8, u_10, u_11, u_15, u_60, u_100, u_255, u_999, u_1000, u_100000, u_4294967295] at hc14)
      refine g_iload_n (i := 3) dX7_sheet_17 rfl rfl ?_
      refine g_bipush (v := 100) dX7_sheet_18 (by decide) ?_
      refine g_icmp_le (tgt := 26) dX7_sheet_20 (by decide) (fun hc20 => ?_) (fun hc20 => ?_)
      · (try simp (disch := omega) only [nT, t_m1000100, t_m1000010, t_m1000003, t_m1000002, t_m1000001, t_m1000000, t_m65535, t_m1000, t_m3, t_m1, t_0, t_1, t_2, t_3, t_4, t_5, t_6, t_7, t_8, t_9, t_10, t_11, t_12, t_13, t_15, t_16, t_20, t_21, t_22, t_32, t_40, t_41, t_48, t_49, t_57, t_59, t_60, t_63, t_72, t_76, t_88, t_100, t_144, t_200, t_255, t_288, t_400, t_800, t_999, t_1000, t_1024, t_1200, t_1600, t_3200, t_100000, t_200000, t_252645135, t_858993459, t_1431655765, u_m1000002, u_m1000001, u_m1000, u_m3, u_m1, u_0, u_1, u_2, u_3, u_4, u_5, u_7, u_8, u_10, u_11, u_15, u_60, u_100, u_255, u_999, u_1000, u_100000, u_4294967295] at hc20)
        refine g_iload_n (i := 3) dX7_sheet_26 rfl rfl ?_
        refine g_if_ge (tgt := 36) dX7_sheet_27 (by decide) (fun hc27 => ?_) (fun hc27 => ?_)
        · (try simp (disch := omega) only [nT, t_m1000100, t_m1000010, t_m1000003, t_m1000002, t_m1000001, t_m1000000, t_m65535, t_m1000, t_m3, t_m1, t_0, t_1, t_2, t_3, t_4, t_5, t_6, t_7, t_8, t_9, t_10, t_11, t_12, t_13, t_15, t_16, t_20, t_21, t_22, t_32, t_40, t_41, t_48, t_49, t_57, t_59, t_60, t_63, t_72, t_76, t_88, t_100, t_144, t_200, t_255, t_288, t_400, t_800, t_999, t_1000, t_1024, t_1200, t_1600, t_3200, t_100000, t_200000, t_252645135, t_858993459, t_1431655765, u_m1000002, u_m1000001, u_m1000, u_m3, u_m1, u_0, u_1, u_2, u_3, u_4, u_5, u_7, u_8, u_10, u_11, u_15, u_60, u_100, u_255, u_999, u_1000, u_100000, u_4294967295] at hc27)
          have e : opSheet (st, ln, sz, it) s l n = _ := (if_neg (by omega)).trans (if_neg (by omega))
          obtain ⟨a, ha, rfl, hta⟩ := n_of (n := 8) (x := s) (by omega) (by omega)
          obtain ⟨N, hN, rfl, htN⟩ := n_of (n := 101) (x := n) (by omega) (by omega)
          dsimp only at e
          rw [nTN (by omega), nTN (by omega)] at e
          refine g_aload_n (i := 0) dX7_sheet_36 rfl rfl ?_
          refine g_get dX7_sheet_37 fl_X7_10 (by repeat' (first | assumption | exact rF_eq | refine rF_ne (by decide) ?_ | refine rF_a ?_ | exact rA_eq | refine rA_ne (by decide) ?_ | refine rA_f ?_)) (by repeat' (first | assumption | exact rF_eq | refine rF_ne (by decide) ?_ | refine rF_a ?_ | exact rA_eq | refine rA_ne (by decide) ?_ | refine rA_f ?_)) ?_
          refine g_iload_n (i := 1) dX7_sheet_40 rfl rfl ?_
          refine g_iload_n (i := 2) dX7_sheet_41 rfl rfl ?_
          refine g_iload_n (i := 3) dX7_sheet_42 rfl rfl ?_
          refine g_callV (M' := mX3_lay) dX7_sheet_43 lc_X3_lay ml_X7_99 (c_lay hs0 ha (by omega) l) rfl rfl (by repeat' (first | assumption | exact rF_eq | refine rF_ne (by decide) ?_ | refine rF_a ?_ | exact rA_eq | refine rA_ne (by decide) ?_ | refine rA_f ?_)) rfl ⟨Nat.le_of_ble_eq_true rfl, Nat.le_of_ble_eq_true rfl, Nat.le_of_ble_eq_true rfl, Nat.le_of_ble_eq_true rfl⟩ (Nat.le_of_ble_eq_true rfl) ?_
          intro r_ h_ q_; obtain ⟨q1_, q2_⟩ := q_; have q2_ := q2_.symm; subst q1_; subst q2_
          refine g_aload_n (i := 0) dX7_sheet_46 rfl rfl ?_
          refine g_iload_n (i := 3) dX7_sheet_47 rfl rfl ?_
          refine g_callV (M' := mX7_fine) dX7_sheet_48 lc_X7_fine ml_X7_103 (c_fine (h := sA (sA (sA h 2 (aI 8 (upd ln a l))) 3 (aI 8 (upd sz a (nI N)))) 4 (aI 800 (zer it (100 * a) N))) h0 (nI N)) rfl rfl (by repeat' (first | assumption | exact rF_eq | refine rF_ne (by decide) ?_ | refine rF_a ?_ | exact rA_eq | refine rA_ne (by decide) ?_ | refine rA_f ?_)) rfl ⟨Nat.le_of_ble_eq_true rfl, Nat.le_of_ble_eq_true rfl, Nat.le_of_ble_eq_true rfl, Nat.le_of_ble_eq_true rfl⟩ (Nat.le_of_ble_eq_true rfl) ?_
          intro r_ h_ q_; obtain ⟨q1_, q2_⟩ := q_; have q2_ := q2_.symm; subst q1_; subst q2_
          refine g_iret dX7_sheet_51 rfl (rfl) (hQ _ _ ?_)
          rw [e]; exact ⟨rfl, ⟨⟨h0, h1, rfl⟩, ⟨e1, e2, e3, e4, rfl, rfl, rfl⟩⟩, fr_sF (by decide) (fr_sA (by decide) (fr_sA (by decide) (fr_sA (by decide) fr_rf)))⟩
        · (try simp (disch := omega) only [nT, t_m1000100, t_m1000010, t_m1000003, t_m1000002, t_m1000001, t_m1000000, t_m65535, t_m1000, t_m3, t_m1, t_0, t_1, t_2, t_3, t_4, t_5, t_6, t_7, t_8, t_9, t_10, t_11, t_12, t_13, t_15, t_16, t_20, t_21, t_22, t_32, t_40, t_41, t_48, t_49, t_57, t_59, t_60, t_63, t_72, t_76, t_88, t_100, t_144, t_200, t_255, t_288, t_400, t_800, t_999, t_1000, t_1024, t_1200, t_1600, t_3200, t_100000, t_200000, t_252645135, t_858993459, t_1431655765, u_m1000002, u_m1000001, u_m1000, u_m3, u_m1, u_0, u_1, u_2, u_3, u_4, u_5, u_7, u_8, u_10, u_11, u_15, u_60, u_100, u_255, u_999, u_1000, u_100000, u_4294967295] at hc27)
          refine g_aload_n (i := 0) dX7_sheet_30 rfl rfl ?_
          refine g_iconst (v := 4) dX7_sheet_31 (by decide) ?_
          refine g_callV (M' := mX7_found) dX7_sheet_32 lc_X7_found ml_X7_95 (c_found h0 4) rfl rfl (by repeat' (first | assumption | exact rF_eq | refine rF_ne (by decide) ?_ | refine rF_a ?_ | exact rA_eq | refine rA_ne (by decide) ?_ | refine rA_f ?_)) rfl ⟨Nat.le_of_ble_eq_true rfl, Nat.le_of_ble_eq_true rfl, Nat.le_of_ble_eq_true rfl, Nat.le_of_ble_eq_true rfl⟩ (Nat.le_of_ble_eq_true rfl) ?_
          intro r_ h_ q_; obtain ⟨q1_, q2_⟩ := q_; have q2_ := q2_.symm; subst q1_; subst q2_
          refine g_iret dX7_sheet_35 rfl (rfl) (hQ _ _ ?_)
          have e : opSheet (st, ln, sz, it) s l n = _ := (if_neg (by omega)).trans (if_pos (by omega))
          rw [e]; exact ⟨rfl, ⟨⟨h0, h1, rfl⟩, ⟨e1, e2, e3, e4, e5, e6, e7⟩⟩, fr_sF (by decide) fr_rf⟩
      · (try simp (disch := omega) only [nT, t_m1000100, t_m1000010, t_m1000003, t_m1000002, t_m1000001, t_m1000000, t_m65535, t_m1000, t_m3, t_m1, t_0, t_1, t_2, t_3, t_4, t_5, t_6, t_7, t_8, t_9, t_10, t_11, t_12, t_13, t_15, t_16, t_20, t_21, t_22, t_32, t_40, t_41, t_48, t_49, t_57, t_59, t_60, t_63, t_72, t_76, t_88, t_100, t_144, t_200, t_255, t_288, t_400, t_800, t_999, t_1000, t_1024, t_1200, t_1600, t_3200, t_100000, t_200000, t_252645135, t_858993459, t_1431655765, u_m1000002, u_m1000001, u_m1000, u_m3, u_m1, u_0, u_1, u_2, u_3, u_4, u_5, u_7, u_8, u_10, u_11, u_15, u_60, u_100, u_255, u_999, u_1000, u_100000, u_4294967295] at hc20)
        refine g_ldc dX7_sheet_23 kc_X7_94 ?_
        refine g_iret dX7_sheet_25 rfl (rfl) (hQ _ _ ?_)
        have e : opSheet (st, ln, sz, it) s l n = _ := if_pos (by omega)
        rw [e]; exact ⟨rfl, ⟨⟨h0, h1, h2⟩, hs0⟩, fr_rf⟩
theorem x_set {w : SH} (hw : WfS w) {h : HH} (hg : GSX w h) (s i v : Int32) : CT mX7_set 2 0 0 [.ref 0, .int s, .int i, .int v] h (fun r h' => r = some (.int (opSet w s i v).1) ∧ GSX (opSet w s i v).2 h' ∧ Fr [2, 3, 4] [(0, 1)] h h') := by
  obtain ⟨st, ln, sz, it⟩ := w
  obtain ⟨⟨h0, h1, h2⟩, hs⟩ := hg
  have hs0 := hs
  obtain ⟨e1, e2, e3, e4, e5, e6, e7⟩ := hs
  dsimp only at h2 e5 e6 e7 hs0
  refine CT.go [.ref 0, .int s, .int i, .int v] (by decide +kernel) rfl rfl (fun Q' hQ => ?_)
  refine g_iload_n (i := 1) dX7_set_0 rfl rfl ?_
  refine g_bipush (v := 8) dX7_set_1 (by decide) ?_
  refine g_callS (M' := mX7_isWithin) dX7_set_3 lc_X7_isWithin ml_X7_90 (c_isWithin h s 8 8 rfl) rfl rfl ⟨Nat.le_of_ble_eq_true rfl, Nat.le_of_ble_eq_true rfl, Nat.le_of_ble_eq_true rfl, Nat.le_of_ble_eq_true rfl⟩ (Nat.le_of_ble_eq_true rfl) ?_
  intro r_ h_ q_; obtain ⟨q1_, q2_⟩ := q_; have q2_ := q2_.symm; subst q1_; subst q2_
  refine g_if_ne (tgt := 12) dX7_set_6 (by decide) (fun hc6 => ?_) (fun hc6 => ?_)
  · replace hc6 := bI_n0.mp hc6
    (try simp (disch := omega) only [nT, t_m1000100, t_m1000010, t_m1000003, t_m1000002, t_m1000001, t_m1000000, t_m65535, t_m1000, t_m3, t_m1, t_0, t_1, t_2, t_3, t_4, t_5, t_6, t_7, t_8, t_9, t_10, t_11, t_12, t_13, t_15, t_16, t_20, t_21, t_22, t_32, t_40, t_41, t_48, t_49, t_57, t_59, t_60, t_63, t_72, t_76, t_88, t_100, t_144, t_200, t_255, t_288, t_400, t_800, t_999, t_1000, t_1024, t_1200, t_1600, t_3200, t_100000, t_200000, t_252645135, t_858993459, t_1431655765, u_m1000002, u_m1000001, u_m1000, u_m3, u_m1, u_0, u_1, u_2, u_3, u_4, u_5, u_7, u_8, u_10, u_11, u_15, u_60, u_100, u_255, u_999, u_1000, u_100000, u_4294967295] at hc6)
    obtain ⟨a, ha, rfl, hta⟩ := n_of (n := 8) (x := s) (by omega) (by omega)
    have hwa := hw a ha
    dsimp only at hwa
    refine g_aload_n (i := 0) dX7_set_12 rfl rfl ?_
    refine g_get dX7_set_13 fl_X7_10 (by repeat' (first | assumption | exact rF_eq | refine rF_ne (by decide) ?_ | refine rF_a ?_ | exact rA_eq | refine rA_ne (by decide) ?_ | refine rA_f ?_)) (by repeat' (first | assumption | exact rF_eq | refine rF_ne (by decide) ?_ | refine rF_a ?_ | exact rA_eq | refine rA_ne (by decide) ?_ | refine rA_f ?_)) ?_
    refine g_iload_n (i := 1) dX7_set_16 rfl rfl ?_
    refine g_callV (M' := mX3_isMissing) dX7_set_17 lc_X3_isMissing ml_X7_106 (c_isMissing hs0 hta ha (by omega)) rfl rfl (by repeat' (first | assumption | exact rF_eq | refine rF_ne (by decide) ?_ | refine rF_a ?_ | exact rA_eq | refine rA_ne (by decide) ?_ | refine rA_f ?_)) rfl ⟨Nat.le_of_ble_eq_true rfl, Nat.le_of_ble_eq_true rfl, Nat.le_of_ble_eq_true rfl, Nat.le_of_ble_eq_true rfl⟩ (Nat.le_of_ble_eq_true rfl) ?_
    intro r_ h_ q_; obtain ⟨q1_, q2_⟩ := q_; have q2_ := q2_.symm; subst q1_; subst q2_
    refine g_if_eq (tgt := 29) dX7_set_20 (by decide) (fun hc20 => ?_) (fun hc20 => ?_)
    · replace hc20 := bI_0.mp hc20
      (try simp (disch := omega) only [nT, t_m1000100, t_m1000010, t_m1000003, t_m1000002, t_m1000001, t_m1000000, t_m65535, t_m1000, t_m3, t_m1, t_0, t_1, t_2, t_3, t_4, t_5, t_6, t_7, t_8, t_9, t_10, t_11, t_12, t_13, t_15, t_16, t_20, t_21, t_22, t_32, t_40, t_41, t_48, t_49, t_57, t_59, t_60, t_63, t_72, t_76, t_88, t_100, t_144, t_200, t_255, t_288, t_400, t_800, t_999, t_1000, t_1024, t_1200, t_1600, t_3200, t_100000, t_200000, t_252645135, t_858993459, t_1431655765, u_m1000002, u_m1000001, u_m1000, u_m3, u_m1, u_0, u_1, u_2, u_3, u_4, u_5, u_7, u_8, u_10, u_11, u_15, u_60, u_100, u_255, u_999, u_1000, u_100000, u_4294967295] at hc20)
      refine g_aload_n (i := 0) dX7_set_29 rfl rfl ?_
      refine g_get dX7_set_30 fl_X7_10 (by repeat' (first | assumption | exact rF_eq | refine rF_ne (by decide) ?_ | refine rF_a ?_ | exact rA_eq | refine rA_ne (by decide) ?_ | refine rA_f ?_)) (by repeat' (first | assumption | exact rF_eq | refine rF_ne (by decide) ?_ | refine rF_a ?_ | exact rA_eq | refine rA_ne (by decide) ?_ | refine rA_f ?_)) ?_
      refine g_iload_n (i := 1) dX7_set_33 rfl rfl ?_
      refine g_iload_n (i := 2) dX7_set_34 rfl rfl ?_
      refine g_iconst (v := 1) dX7_set_35 (by decide) ?_
      refine g_callV (M' := mX3_hasItems) dX7_set_36 lc_X3_hasItems ml_X7_110 (c_hasItems hs0 hta ha) rfl rfl (by repeat' (first | assumption | exact rF_eq | refine rF_ne (by decide) ?_ | refine rF_a ?_ | exact rA_eq | refine rA_ne (by decide) ?_ | refine rA_f ?_)) rfl ⟨Nat.le_of_ble_eq_true rfl, Nat.le_of_ble_eq_true rfl, Nat.le_of_ble_eq_true rfl, Nat.le_of_ble_eq_true rfl⟩ (Nat.le_of_ble_eq_true rfl) ?_
      intro r_ h_ q_; obtain ⟨q1_, q2_⟩ := q_; have q2_ := q2_.symm; subst q1_; subst q2_
      rw [show (1 : Int32).toInt = 1 from rfl]
      refine g_if_ne (tgt := 48) dX7_set_39 (by decide) (fun hc39 => ?_) (fun hc39 => ?_)
      · replace hc39 := bI_n0.mp hc39
        (try simp (disch := omega) only [nT, t_m1000100, t_m1000010, t_m1000003, t_m1000002, t_m1000001, t_m1000000, t_m65535, t_m1000, t_m3, t_m1, t_0, t_1, t_2, t_3, t_4, t_5, t_6, t_7, t_8, t_9, t_10, t_11, t_12, t_13, t_15, t_16, t_20, t_21, t_22, t_32, t_40, t_41, t_48, t_49, t_57, t_59, t_60, t_63, t_72, t_76, t_88, t_100, t_144, t_200, t_255, t_288, t_400, t_800, t_999, t_1000, t_1024, t_1200, t_1600, t_3200, t_100000, t_200000, t_252645135, t_858993459, t_1431655765, u_m1000002, u_m1000001, u_m1000, u_m3, u_m1, u_0, u_1, u_2, u_3, u_4, u_5, u_7, u_8, u_10, u_11, u_15, u_60, u_100, u_255, u_999, u_1000, u_100000, u_4294967295] at hc39)
        have e : opSet (st, ln, sz, it) (nI a) i v = _ := (if_neg (by omega)).trans ((if_neg (by rw [nTN (by omega)]; omega)).trans (if_neg (by rw [nTN (by omega)]; dsimp only; omega)))
        obtain ⟨b, hb, rfl, htb⟩ := n_of (n := 100) (x := i) (by omega) (by omega)
        dsimp only at e
        rw [nTN (by omega), nTN (by omega)] at e
        refine g_aload_n (i := 0) dX7_set_48 rfl rfl ?_
        refine g_aload_n (i := 0) dX7_set_49 rfl rfl ?_
        refine g_get dX7_set_50 fl_X7_10 (by repeat' (first | assumption | exact rF_eq | refine rF_ne (by decide) ?_ | refine rF_a ?_ | exact rA_eq | refine rA_ne (by decide) ?_ | refine rA_f ?_)) (by repeat' (first | assumption | exact rF_eq | refine rF_ne (by decide) ?_ | refine rF_a ?_ | exact rA_eq | refine rA_ne (by decide) ?_ | refine rA_f ?_)) ?_
        refine g_iload_n (i := 1) dX7_set_53 rfl rfl ?_
        refine g_iload_n (i := 2) dX7_set_54 rfl rfl ?_
        refine g_iload_n (i := 3) dX7_set_55 rfl rfl ?_
        refine g_callV (M' := mX3_put) dX7_set_56 lc_X3_put ml_X7_114 (c_put hs0 ha hb v) rfl rfl (by repeat' (first | assumption | exact rF_eq | refine rF_ne (by decide) ?_ | refine rF_a ?_ | exact rA_eq | refine rA_ne (by decide) ?_ | refine rA_f ?_)) rfl ⟨Nat.le_of_ble_eq_true rfl, Nat.le_of_ble_eq_true rfl, Nat.le_of_ble_eq_true rfl, Nat.le_of_ble_eq_true rfl⟩ (Nat.le_of_ble_eq_true rfl) ?_
        intro r_ h_ q_; obtain ⟨q1_, q2_⟩ := q_; have q2_ := q2_.symm; subst q1_; subst q2_
        refine g_callV (M' := mX7_fine) dX7_set_59 lc_X7_fine ml_X7_103 (c_fine (h := sA h 4 (aI 800 (upd it (100 * a + b) (kept (ln a) v)))) h0 (kept (ln a) v)) rfl rfl (by repeat' (first | assumption | exact rF_eq | refine rF_ne (by decide) ?_ | refine rF_a ?_ | exact rA_eq | refine rA_ne (by decide) ?_ | refine rA_f ?_)) rfl ⟨Nat.le_of_ble_eq_true rfl, Nat.le_of_ble_eq_true rfl, Nat.le_of_ble_eq_true rfl, Nat.le_of_ble_eq_true rfl⟩ (Nat.le_of_ble_eq_true rfl) ?_
        intro r_ h_ q_; obtain ⟨q1_, q2_⟩ := q_; have q2_ := q2_.symm; subst q1_; subst q2_
        refine g_iret dX7_set_62 rfl (rfl) (hQ _ _ ?_)
        rw [e]; exact ⟨rfl, ⟨⟨h0, h1, rfl⟩, ⟨e1, e2, e3, e4, e5, e6, rfl⟩⟩, fr_sF (by decide) (fr_sA (by decide) fr_rf)⟩
      · replace hc39 := bI_0.mp hc39
        (try simp (disch := omega) only [nT, t_m1000100, t_m1000010, t_m1000003, t_m1000002, t_m1000001, t_m1000000, t_m65535, t_m1000, t_m3, t_m1, t_0, t_1, t_2, t_3, t_4, t_5, t_6, t_7, t_8, t_9, t_10, t_11, t_12, t_13, t_15, t_16, t_20, t_21, t_22, t_32, t_40, t_41, t_48, t_49, t_57, t_59, t_60, t_63, t_72, t_76, t_88, t_100, t_144, t_200, t_255, t_288, t_400, t_800, t_999, t_1000, t_1024, t_1200, t_1600, t_3200, t_100000, t_200000, t_252645135, t_858993459, t_1431655765, u_m1000002, u_m1000001, u_m1000, u_m3, u_m1, u_0, u_1, u_2, u_3, u_4, u_5, u_7, u_8, u_10, u_11, u_15, u_60, u_100, u_255, u_999, u_1000, u_100000, u_4294967295] at hc39)
        refine g_aload_n (i := 0) dX7_set_42 rfl rfl ?_
        refine g_iconst (v := 2) dX7_set_43 (by decide) ?_
        refine g_callV (M' := mX7_found) dX7_set_44 lc_X7_found ml_X7_95 (c_found h0 2) rfl rfl (by repeat' (first | assumption | exact rF_eq | refine rF_ne (by decide) ?_ | refine rF_a ?_ | exact rA_eq | refine rA_ne (by decide) ?_ | refine rA_f ?_)) rfl ⟨Nat.le_of_ble_eq_true rfl, Nat.le_of_ble_eq_true rfl, Nat.le_of_ble_eq_true rfl, Nat.le_of_ble_eq_true rfl⟩ (Nat.le_of_ble_eq_true rfl) ?_
        intro r_ h_ q_; obtain ⟨q1_, q2_⟩ := q_; have q2_ := q2_.symm; subst q1_; subst q2_
        refine g_iret dX7_set_47 rfl (rfl) (hQ _ _ ?_)
        have e : opSet (st, ln, sz, it) (nI a) i v = _ := (if_neg (by omega)).trans ((if_neg (by rw [nTN (by omega)]; omega)).trans (if_pos (by rw [nTN (by omega)]; dsimp only; omega)))
        rw [e]; exact ⟨rfl, ⟨⟨h0, h1, rfl⟩, ⟨e1, e2, e3, e4, e5, e6, e7⟩⟩, fr_sF (by decide) fr_rf⟩
    · replace hc20 := bI_n0.mp hc20
      (try simp (disch := omega) only [nT, t_m1000100, t_m1000010, t_m1000003, t_m1000002, t_m1000001, t_m1000000, t_m65535, t_m1000, t_m3, t_m1, t_0, t_1, t_2, t_3, t_4, t_5, t_6, t_7, t_8, t_9, t_10, t_11, t_12, t_13, t_15, t_16, t_20, t_21, t_22, t_32, t_40, t_41, t_48, t_49, t_57, t_59, t_60, t_63, t_72, t_76, t_88, t_100, t_144, t_200, t_255, t_288, t_400, t_800, t_999, t_1000, t_1024, t_1200, t_1600, t_3200, t_100000, t_200000, t_252645135, t_858993459, t_1431655765, u_m1000002, u_m1000001, u_m1000, u_m3, u_m1, u_0, u_1, u_2, u_3, u_4, u_5, u_7, u_8, u_10, u_11, u_15, u_60, u_100, u_255, u_999, u_1000, u_100000, u_4294967295] at hc20)
      refine g_aload_n (i := 0) dX7_set_23 rfl rfl ?_
      refine g_iconst (v := 1) dX7_set_24 (by decide) ?_
      refine g_callV (M' := mX7_found) dX7_set_25 lc_X7_found ml_X7_95 (c_found h0 1) rfl rfl (by repeat' (first | assumption | exact rF_eq | refine rF_ne (by decide) ?_ | refine rF_a ?_ | exact rA_eq | refine rA_ne (by decide) ?_ | refine rA_f ?_)) rfl ⟨Nat.le_of_ble_eq_true rfl, Nat.le_of_ble_eq_true rfl, Nat.le_of_ble_eq_true rfl, Nat.le_of_ble_eq_true rfl⟩ (Nat.le_of_ble_eq_true rfl) ?_
      intro r_ h_ q_; obtain ⟨q1_, q2_⟩ := q_; have q2_ := q2_.symm; subst q1_; subst q2_
      refine g_iret dX7_set_28 rfl (rfl) (hQ _ _ ?_)
      have e : opSet (st, ln, sz, it) (nI a) i v = _ := (if_neg (by omega)).trans (if_pos (by rw [nTN (by omega)]; omega))
      rw [e]; exact ⟨rfl, ⟨⟨h0, h1, rfl⟩, ⟨e1, e2, e3, e4, e5, e6, e7⟩⟩, fr_sF (by decide) fr_rf⟩
  · replace hc6 := bI_0.mp hc6
    (try simp (disch := omega) only [nT, t_m1000100, t_m1000010, t_m1000003, t_m1000002, t_m1000001, t_m1000000, t_m65535, t_m1000, t_m3, t_m1, t_0, t_1, t_2, t_3, t_4, t_5, t_6, t_7, t_8, t_9, t_10, t_11, t_12, t_13, t_15, t_16, t_20, t_21, t_22, t_32, t_40, t_41, t_48, t_49, t_57, t_59, t_60, t_63, t_72, t_76, t_88, t_100, t_144, t_200, t_255, t_288, t_400, t_800, t_999, t_1000, t_1024, t_1200, t_1600, t_3200, t_100000, t_200000, t_252645135, t_858993459, t_1431655765, u_m1000002, u_m1000001, u_m1000, u_m3, u_m1, u_0, u_1, u_2, u_3, u_4, u_5, u_7, u_8, u_10, u_11, u_15, u_60, u_100, u_255, u_999, u_1000, u_100000, u_4294967295] at hc6)
    refine g_ldc dX7_set_9 kc_X7_94 ?_
    refine g_iret dX7_set_11 rfl (rfl) (hQ _ _ ?_)
    have e : opSet (st, ln, sz, it) s i v = _ := if_pos (by omega)
    rw [e]; exact ⟨rfl, ⟨⟨h0, h1, h2⟩, hs0⟩, fr_rf⟩
theorem x_drop {w : SH} (hw : WfS w) {h : HH} (hg : GSX w h) (s : Int32) : CT mX7_drop 2 0 0 [.ref 0, .int s] h (fun r h' => r = some (.int (opDrop w s).1) ∧ GSX (opDrop w s).2 h' ∧ Fr [2, 3, 4] [(0, 1)] h h') := by
  obtain ⟨st, ln, sz, it⟩ := w
  obtain ⟨⟨h0, h1, h2⟩, hs⟩ := hg
  have hs0 := hs
  obtain ⟨e1, e2, e3, e4, e5, e6, e7⟩ := hs
  dsimp only at h2 e5 e6 e7 hs0
  refine CT.go [.ref 0, .int s] (by decide +kernel) rfl rfl (fun Q' hQ => ?_)
  refine g_iload_n (i := 1) dX7_drop_0 rfl rfl ?_
  refine g_bipush (v := 8) dX7_drop_1 (by decide) ?_
  refine g_callS (M' := mX7_isWithin) dX7_drop_3 lc_X7_isWithin ml_X7_90 (c_isWithin h s 8 8 rfl) rfl rfl ⟨Nat.le_of_ble_eq_true rfl, Nat.le_of_ble_eq_true rfl, Nat.le_of_ble_eq_true rfl, Nat.le_of_ble_eq_true rfl⟩ (Nat.le_of_ble_eq_true rfl) ?_
  intro r_ h_ q_; obtain ⟨q1_, q2_⟩ := q_; have q2_ := q2_.symm; subst q1_; subst q2_
  refine g_if_ne (tgt := 12) dX7_drop_6 (by decide) (fun hc6 => ?_) (fun hc6 => ?_)
  · replace hc6 := bI_n0.mp hc6
    (try simp (disch := omega) only [nT, t_m1000100, t_m1000010, t_m1000003, t_m1000002, t_m1000001, t_m1000000, t_m65535, t_m1000, t_m3, t_m1, t_0, t_1, t_2, t_3, t_4, t_5, t_6, t_7, t_8, t_9, t_10, t_11, t_12, t_13, t_15, t_16, t_20, t_21, t_22, t_32, t_40, t_41, t_48, t_49, t_57, t_59, t_60, t_63, t_72, t_76, t_88, t_100, t_144, t_200, t_255, t_288, t_400, t_800, t_999, t_1000, t_1024, t_1200, t_1600, t_3200, t_100000, t_200000, t_252645135, t_858993459, t_1431655765, u_m1000002, u_m1000001, u_m1000, u_m3, u_m1, u_0, u_1, u_2, u_3, u_4, u_5, u_7, u_8, u_10, u_11, u_15, u_60, u_100, u_255, u_999, u_1000, u_100000, u_4294967295] at hc6)
    obtain ⟨a, ha, rfl, hta⟩ := n_of (n := 8) (x := s) (by omega) (by omega)
    have hwa := hw a ha
    dsimp only at hwa
    refine g_aload_n (i := 0) dX7_drop_12 rfl rfl ?_
    refine g_get dX7_drop_13 fl_X7_10 (by repeat' (first | assumption | exact rF_eq | refine rF_ne (by decide) ?_ | refine rF_a ?_ | exact rA_eq | refine rA_ne (by decide) ?_ | refine rA_f ?_)) (by repeat' (first | assumption | exact rF_eq | refine rF_ne (by decide) ?_ | refine rF_a ?_ | exact rA_eq | refine rA_ne (by decide) ?_ | refine rA_f ?_)) ?_
    refine g_iload_n (i := 1) dX7_drop_16 rfl rfl ?_
    refine g_callV (M' := mX3_isMissing) dX7_drop_17 lc_X3_isMissing ml_X7_106 (c_isMissing hs0 hta ha (by omega)) rfl rfl (by repeat' (first | assumption | exact rF_eq | refine rF_ne (by decide) ?_ | refine rF_a ?_ | exact rA_eq | refine rA_ne (by decide) ?_ | refine rA_f ?_)) rfl ⟨Nat.le_of_ble_eq_true rfl, Nat.le_of_ble_eq_true rfl, Nat.le_of_ble_eq_true rfl, Nat.le_of_ble_eq_true rfl⟩ (Nat.le_of_ble_eq_true rfl) ?_
    intro r_ h_ q_; obtain ⟨q1_, q2_⟩ := q_; have q2_ := q2_.symm; subst q1_; subst q2_
    refine g_if_eq (tgt := 29) dX7_drop_20 (by decide) (fun hc20 => ?_) (fun hc20 => ?_)
    · replace hc20 := bI_0.mp hc20
      (try simp (disch := omega) only [nT, t_m1000100, t_m1000010, t_m1000003, t_m1000002, t_m1000001, t_m1000000, t_m65535, t_m1000, t_m3, t_m1, t_0, t_1, t_2, t_3, t_4, t_5, t_6, t_7, t_8, t_9, t_10, t_11, t_12, t_13, t_15, t_16, t_20, t_21, t_22, t_32, t_40, t_41, t_48, t_49, t_57, t_59, t_60, t_63, t_72, t_76, t_88, t_100, t_144, t_200, t_255, t_288, t_400, t_800, t_999, t_1000, t_1024, t_1200, t_1600, t_3200, t_100000, t_200000, t_252645135, t_858993459, t_1431655765, u_m1000002, u_m1000001, u_m1000, u_m3, u_m1, u_0, u_1, u_2, u_3, u_4, u_5, u_7, u_8, u_10, u_11, u_15, u_60, u_100, u_255, u_999, u_1000, u_100000, u_4294967295] at hc20)
      have e : opDrop (st, ln, sz, it) (nI a) = _ := (if_neg (by omega)).trans (if_neg (by rw [nTN (by omega)]; omega))
      dsimp only at e
      rw [nTN (by omega)] at e
      refine g_aload_n (i := 0) dX7_drop_29 rfl rfl ?_
      refine g_get dX7_drop_30 fl_X7_10 (by repeat' (first | assumption | exact rF_eq | refine rF_ne (by decide) ?_ | refine rF_a ?_ | exact rA_eq | refine rA_ne (by decide) ?_ | refine rA_f ?_)) (by repeat' (first | assumption | exact rF_eq | refine rF_ne (by decide) ?_ | refine rF_a ?_ | exact rA_eq | refine rA_ne (by decide) ?_ | refine rA_f ?_)) ?_
      refine g_get dX7_drop_33 fl_X7_118 (by repeat' (first | assumption | exact rF_eq | refine rF_ne (by decide) ?_ | refine rF_a ?_ | exact rA_eq | refine rA_ne (by decide) ?_ | refine rA_f ?_)) (by repeat' (first | assumption | exact rF_eq | refine rF_ne (by decide) ?_ | refine rF_a ?_ | exact rA_eq | refine rA_ne (by decide) ?_ | refine rA_f ?_)) ?_
      refine g_iload_n (i := 1) dX7_drop_36 rfl rfl ?_
      refine g_iconst (v := (-1)) dX7_drop_37 (by decide) ?_
      refine g_iast dX7_drop_38 (by repeat' (first | assumption | exact rF_eq | refine rF_ne (by decide) ?_ | refine rF_a ?_ | exact rA_eq | refine rA_ne (by decide) ?_ | refine rA_f ?_)) (hta) (ha) ?_
      refine g_aload_n (i := 0) dX7_drop_39 rfl rfl ?_
      refine g_aload_n (i := 0) dX7_drop_40 rfl rfl ?_
      refine g_get dX7_drop_41 fl_X7_10 (by repeat' (first | assumption | exact rF_eq | refine rF_ne (by decide) ?_ | refine rF_a ?_ | exact rA_eq | refine rA_ne (by decide) ?_ | refine rA_f ?_)) (by repeat' (first | assumption | exact rF_eq | refine rF_ne (by decide) ?_ | refine rF_a ?_ | exact rA_eq | refine rA_ne (by decide) ?_ | refine rA_f ?_)) ?_
      refine g_get dX7_drop_44 fl_X7_134 (by repeat' (first | assumption | exact rF_eq | refine rF_ne (by decide) ?_ | refine rF_a ?_ | exact rA_eq | refine rA_ne (by decide) ?_ | refine rA_f ?_)) (by repeat' (first | assumption | exact rF_eq | refine rF_ne (by decide) ?_ | refine rF_a ?_ | exact rA_eq | refine rA_ne (by decide) ?_ | refine rA_f ?_)) ?_
      refine g_iload_n (i := 1) dX7_drop_47 rfl rfl ?_
      refine g_iald dX7_drop_48 (by repeat' (first | assumption | exact rF_eq | refine rF_ne (by decide) ?_ | refine rF_a ?_ | exact rA_eq | refine rA_ne (by decide) ?_ | refine rA_f ?_)) (hta) (ha) ?_
      refine g_callV (M' := mX7_fine) dX7_drop_49 lc_X7_fine ml_X7_103 (c_fine (h := sA h 2 (aI 8 (upd ln a (-1)))) h0 (sz a)) rfl rfl (by repeat' (first | assumption | exact rF_eq | refine rF_ne (by decide) ?_ | refine rF_a ?_ | exact rA_eq | refine rA_ne (by decide) ?_ | refine rA_f ?_)) rfl ⟨Nat.le_of_ble_eq_true rfl, Nat.le_of_ble_eq_true rfl, Nat.le_of_ble_eq_true rfl, Nat.le_of_ble_eq_true rfl⟩ (Nat.le_of_ble_eq_true rfl) ?_
      intro r_ h_ q_; obtain ⟨q1_, q2_⟩ := q_; have q2_ := q2_.symm; subst q1_; subst q2_
      refine g_iret dX7_drop_52 rfl (rfl) (hQ _ _ ?_)
      rw [e]; exact ⟨rfl, ⟨⟨h0, h1, rfl⟩, ⟨e1, e2, e3, e4, rfl, e6, e7⟩⟩, fr_sF (by decide) (fr_sA (by decide) fr_rf)⟩
    · replace hc20 := bI_n0.mp hc20
      (try simp (disch := omega) only [nT, t_m1000100, t_m1000010, t_m1000003, t_m1000002, t_m1000001, t_m1000000, t_m65535, t_m1000, t_m3, t_m1, t_0, t_1, t_2, t_3, t_4, t_5, t_6, t_7, t_8, t_9, t_10, t_11, t_12, t_13, t_15, t_16, t_20, t_21, t_22, t_32, t_40, t_41, t_48, t_49, t_57, t_59, t_60, t_63, t_72, t_76, t_88, t_100, t_144, t_200, t_255, t_288, t_400, t_800, t_999, t_1000, t_1024, t_1200, t_1600, t_3200, t_100000, t_200000, t_252645135, t_858993459, t_1431655765, u_m1000002, u_m1000001, u_m1000, u_m3, u_m1, u_0, u_1, u_2, u_3, u_4, u_5, u_7, u_8, u_10, u_11, u_15, u_60, u_100, u_255, u_999, u_1000, u_100000, u_4294967295] at hc20)
      refine g_aload_n (i := 0) dX7_drop_23 rfl rfl ?_
      refine g_iconst (v := 1) dX7_drop_24 (by decide) ?_
      refine g_callV (M' := mX7_found) dX7_drop_25 lc_X7_found ml_X7_95 (c_found h0 1) rfl rfl (by repeat' (first | assumption | exact rF_eq | refine rF_ne (by decide) ?_ | refine rF_a ?_ | exact rA_eq | refine rA_ne (by decide) ?_ | refine rA_f ?_)) rfl ⟨Nat.le_of_ble_eq_true rfl, Nat.le_of_ble_eq_true rfl, Nat.le_of_ble_eq_true rfl, Nat.le_of_ble_eq_true rfl⟩ (Nat.le_of_ble_eq_true rfl) ?_
      intro r_ h_ q_; obtain ⟨q1_, q2_⟩ := q_; have q2_ := q2_.symm; subst q1_; subst q2_
      refine g_iret dX7_drop_28 rfl (rfl) (hQ _ _ ?_)
      have e : opDrop (st, ln, sz, it) (nI a) = _ := (if_neg (by omega)).trans (if_pos (by rw [nTN (by omega)]; omega))
      rw [e]; exact ⟨rfl, ⟨⟨h0, h1, rfl⟩, ⟨e1, e2, e3, e4, e5, e6, e7⟩⟩, fr_sF (by decide) fr_rf⟩
  · replace hc6 := bI_0.mp hc6
    (try simp (disch := omega) only [nT, t_m1000100, t_m1000010, t_m1000003, t_m1000002, t_m1000001, t_m1000000, t_m65535, t_m1000, t_m3, t_m1, t_0, t_1, t_2, t_3, t_4, t_5, t_6, t_7, t_8, t_9, t_10, t_11, t_12, t_13, t_15, t_16, t_20, t_21, t_22, t_32, t_40, t_41, t_48, t_49, t_57, t_59, t_60, t_63, t_72, t_76, t_88, t_100, t_144, t_200, t_255, t_288, t_400, t_800, t_999, t_1000, t_1024, t_1200, t_1600, t_3200, t_100000, t_200000, t_252645135, t_858993459, t_1431655765, u_m1000002, u_m1000001, u_m1000, u_m3, u_m1, u_0, u_1, u_2, u_3, u_4, u_5, u_7, u_8, u_10, u_11, u_15, u_60, u_100, u_255, u_999, u_1000, u_100000, u_4294967295] at hc6)
    refine g_ldc dX7_drop_9 kc_X7_94 ?_
    refine g_iret dX7_drop_11 rfl (rfl) (hQ _ _ ?_)
    have e : opDrop (st, ln, sz, it) s = _ := if_pos (by omega)
    rw [e]; exact ⟨rfl, ⟨⟨h0, h1, h2⟩, hs0⟩, fr_rf⟩
theorem x_copy {w : SH} (hw : WfS w) {h : HH} (hg : GSX w h) (a i b j n : Int32) : CT mX7_copy 2 0 0 [.ref 0, .int a, .int i, .int b, .int j, .int n] h (fun r h' => r = some (.int (opCopy w a i b j n).1) ∧ GSX (opCopy w a i b j n).2 h' ∧ Fr [2, 3, 4] [(0, 1)] h h') := by
  obtain ⟨st, ln, sz, it⟩ := w
  obtain ⟨⟨h0, h1, h2⟩, hs⟩ := hg
  have hs0 := hs
  obtain ⟨e1, e2, e3, e4, e5, e6, e7⟩ := hs
  dsimp only at h2 e5 e6 e7 hs0
  refine CT.go [.ref 0, .int a, .int i, .int b, .int j, .int n] (by decide +kernel) rfl rfl (fun Q' hQ => ?_)
  refine g_iload_n (i := 1) dX7_copy_0 rfl rfl ?_
  refine g_bipush (v := 8) dX7_copy_1 (by decide) ?_
  refine g_callS (M' := mX7_isWithin) dX7_copy_3 lc_X7_isWithin ml_X7_90 (c_isWithin h a 8 8 rfl) rfl rfl ⟨Nat.le_of_ble_eq_true rfl, Nat.le_of_ble_eq_true rfl, Nat.le_of_ble_eq_true rfl, Nat.le_of_ble_eq_true rfl⟩ (Nat.le_of_ble_eq_true rfl) ?_
  intro r_ h_ q_; obtain ⟨q1_, q2_⟩ := q_; have q2_ := q2_.symm; subst q1_; subst q2_
  refine g_if_eq (tgt := 18) dX7_copy_6 (by decide) (fun hc6 => ?_) (fun hc6 => ?_)
  · replace hc6 := bI_0.mp hc6
    (try simp (disch := omega) only [nT, t_m1000100, t_m1000010, t_m1000003, t_m1000002, t_m1000001, t_m1000000, t_m65535, t_m1000, t_m3, t_m1, t_0, t_1, t_2, t_3, t_4, t_5, t_6, t_7, t_8, t_9, t_10, t_11, t_12, t_13, t_15, t_16, t_20, t_21, t_22, t_32, t_40, t_41, t_48, t_49, t_57, t_59, t_60, t_63, t_72, t_76, t_88, t_100, t_144, t_200, t_255, t_288, t_400, t_800, t_999, t_1000, t_1024, t_1200, t_1600, t_3200, t_100000, t_200000, t_252645135, t_858993459, t_1431655765, u_m1000002, u_m1000001, u_m1000, u_m3, u_m1, u_0, u_1, u_2, u_3, u_4, u_5, u_7, u_8, u_10, u_11, u_15, u_60, u_100, u_255, u_999, u_1000, u_100000, u_4294967295] at hc6)
    refine g_ldc dX7_copy_18 kc_X7_94 ?_
    refine g_iret dX7_copy_20 rfl (rfl) (hQ _ _ ?_)
    have e : opCopy (st, ln, sz, it) a i b j n = _ := if_pos (by omega)
    rw [e]; exact ⟨rfl, ⟨⟨h0, h1, h2⟩, hs0⟩, fr_rf⟩
  · replace hc6 := bI_n0.mp hc6
    (try simp (disch := omega) only [nT, t_m1000100, t_m1000010, t_m1000003, t_m1000002, t_m1000001, t_m1000000, t_m65535, t_m1000, t_m3, t_m1, t_0, t_1, t_2, t_3, t_4, t_5, t_6, t_7, t_8, t_9, t_10, t_11, t_12, t_13, t_15, t_16, t_20, t_21, t_22, t_32, t_40, t_41, t_48, t_49, t_57, t_59, t_60, t_63, t_72, t_76, t_88, t_100, t_144, t_200, t_255, t_288, t_400, t_800, t_999, t_1000, t_1024, t_1200, t_1600, t_3200, t_100000, t_200000, t_252645135, t_858993459, t_1431655765, u_m1000002, u_m1000001, u_m1000, u_m3, u_m1, u_0, u_1, u_2, u_3, u_4, u_5, u_7, u_8, u_10, u_11, u_15, u_60, u_100, u_255, u_999, u_1000, u_100000, u_4294967295] at hc6)
    refine g_iload_n (i := 3) dX7_copy_9 rfl rfl ?_
    refine g_bipush (v := 8) dX7_copy_10 (by decide) ?_
    refine g_callS (M' := mX7_isWithin) dX7_copy_12 lc_X7_isWithin ml_X7_90 (c_isWithin h b 8 8 rfl) rfl rfl ⟨Nat.le_of_ble_eq_true rfl, Nat.le_of_ble_eq_true rfl, Nat.le_of_ble_eq_true rfl, Nat.le_of_ble_eq_true rfl⟩ (Nat.le_of_ble_eq_true rfl) ?_
    intro r_ h_ q_; obtain ⟨q1_, q2_⟩ := q_; have q2_ := q2_.symm; subst q1_; subst q2_
    refine g_if_ne (tgt := 21) dX7_copy_15 (by decide) (fun hc15 => ?_) (fun hc15 => ?_)
    · replace hc15 := bI_n0.mp hc15
      (try simp (disch := omega) only [nT, t_m1000100, t_m1000010, t_m1000003, t_m1000002, t_m1000001, t_m1000000, t_m65535, t_m1000, t_m3, t_m1, t_0, t_1, t_2, t_3, t_4, t_5, t_6, t_7, t_8, t_9, t_10, t_11, t_12, t_13, t_15, t_16, t_20, t_21, t_22, t_32, t_40, t_41, t_48, t_49, t_57, t_59, t_60, t_63, t_72, t_76, t_88, t_100, t_144, t_200, t_255, t_288, t_400, t_800, t_999, t_1000, t_1024, t_1200, t_1600, t_3200, t_100000, t_200000, t_252645135, t_858993459, t_1431655765, u_m1000002, u_m1000001, u_m1000, u_m3, u_m1, u_0, u_1, u_2, u_3, u_4, u_5, u_7, u_8, u_10, u_11, u_15, u_60, u_100, u_255, u_999, u_1000, u_100000, u_4294967295] at hc15)
      obtain ⟨a, ha, rfl, hta⟩ := n_of (n := 8) (x := a) (by omega) (by omega)
      obtain ⟨b, hb, rfl, htb⟩ := n_of (n := 8) (x := b) (by omega) (by omega)
      have hwa := hw a ha
      have hwb := hw b hb
      dsimp only at hwa hwb
      have en : ∀ x, opCopy (st, ln, sz, it) (nI a) i (nI b) j n = x ↔ _ = x := fun x => by rw [show opCopy (st, ln, sz, it) (nI a) i (nI b) j n = _ from if_neg (by omega), nTN (by omega), nTN (by omega)]
      dsimp only at en
      refine g_aload_n (i := 0) dX7_copy_21 rfl rfl ?_
      refine g_get dX7_copy_22 fl_X7_10 (by repeat' (first | assumption | exact rF_eq | refine rF_ne (by decide) ?_ | refine rF_a ?_ | exact rA_eq | refine rA_ne (by decide) ?_ | refine rA_f ?_)) (by repeat' (first | assumption | exact rF_eq | refine rF_ne (by decide) ?_ | refine rF_a ?_ | exact rA_eq | refine rA_ne (by decide) ?_ | refine rA_f ?_)) ?_
      refine g_iload_n (i := 1) dX7_copy_25 rfl rfl ?_
      refine g_callV (M' := mX3_isMissing) dX7_copy_26 lc_X3_isMissing ml_X7_106 (c_isMissing hs0 hta ha (by omega)) rfl rfl (by repeat' (first | assumption | exact rF_eq | refine rF_ne (by decide) ?_ | refine rF_a ?_ | exact rA_eq | refine rA_ne (by decide) ?_ | refine rA_f ?_)) rfl ⟨Nat.le_of_ble_eq_true rfl, Nat.le_of_ble_eq_true rfl, Nat.le_of_ble_eq_true rfl, Nat.le_of_ble_eq_true rfl⟩ (Nat.le_of_ble_eq_true rfl) ?_
      intro r_ h_ q_; obtain ⟨q1_, q2_⟩ := q_; have q2_ := q2_.symm; subst q1_; subst q2_
      refine g_if_ne (tgt := 43) dX7_copy_29 (by decide) (fun hc29 => ?_) (fun hc29 => ?_)
      · replace hc29 := bI_n0.mp hc29
        (try simp (disch := omega) only [nT, t_m1000100, t_m1000010, t_m1000003, t_m1000002, t_m1000001, t_m1000000, t_m65535, t_m1000, t_m3, t_m1, t_0, t_1, t_2, t_3, t_4, t_5, t_6, t_7, t_8, t_9, t_10, t_11, t_12, t_13, t_15, t_16, t_20, t_21, t_22, t_32, t_40, t_41, t_48, t_49, t_57, t_59, t_60, t_63, t_72, t_76, t_88, t_100, t_144, t_200, t_255, t_288, t_400, t_800, t_999, t_1000, t_1024, t_1200, t_1600, t_3200, t_100000, t_200000, t_252645135, t_858993459, t_1431655765, u_m1000002, u_m1000001, u_m1000, u_m3, u_m1, u_0, u_1, u_2, u_3, u_4, u_5, u_7, u_8, u_10, u_11, u_15, u_60, u_100, u_255, u_999, u_1000, u_100000, u_4294967295] at hc29)
        refine g_aload_n (i := 0) dX7_copy_43 rfl rfl ?_
        refine g_iconst (v := 1) dX7_copy_44 (by decide) ?_
        refine g_callV (M' := mX7_found) dX7_copy_45 lc_X7_found ml_X7_95 (c_found h0 1) rfl rfl (by repeat' (first | assumption | exact rF_eq | refine rF_ne (by decide) ?_ | refine rF_a ?_ | exact rA_eq | refine rA_ne (by decide) ?_ | refine rA_f ?_)) rfl ⟨Nat.le_of_ble_eq_true rfl, Nat.le_of_ble_eq_true rfl, Nat.le_of_ble_eq_true rfl, Nat.le_of_ble_eq_true rfl⟩ (Nat.le_of_ble_eq_true rfl) ?_
        intro r_ h_ q_; obtain ⟨q1_, q2_⟩ := q_; have q2_ := q2_.symm; subst q1_; subst q2_
        refine g_iret dX7_copy_48 rfl (rfl) (hQ _ _ ?_)
        have e := (en _).mpr (if_pos (by omega))
        rw [e]; exact ⟨rfl, ⟨⟨h0, h1, rfl⟩, ⟨e1, e2, e3, e4, e5, e6, e7⟩⟩, fr_sF (by decide) fr_rf⟩
      · replace hc29 := bI_0.mp hc29
        (try simp (disch := omega) only [nT, t_m1000100, t_m1000010, t_m1000003, t_m1000002, t_m1000001, t_m1000000, t_m65535, t_m1000, t_m3, t_m1, t_0, t_1, t_2, t_3, t_4, t_5, t_6, t_7, t_8, t_9, t_10, t_11, t_12, t_13, t_15, t_16, t_20, t_21, t_22, t_32, t_40, t_41, t_48, t_49, t_57, t_59, t_60, t_63, t_72, t_76, t_88, t_100, t_144, t_200, t_255, t_288, t_400, t_800, t_999, t_1000, t_1024, t_1200, t_1600, t_3200, t_100000, t_200000, t_252645135, t_858993459, t_1431655765, u_m1000002, u_m1000001, u_m1000, u_m3, u_m1, u_0, u_1, u_2, u_3, u_4, u_5, u_7, u_8, u_10, u_11, u_15, u_60, u_100, u_255, u_999, u_1000, u_100000, u_4294967295] at hc29)
        refine g_aload_n (i := 0) dX7_copy_32 rfl rfl ?_
        refine g_get dX7_copy_33 fl_X7_10 (by repeat' (first | assumption | exact rF_eq | refine rF_ne (by decide) ?_ | refine rF_a ?_ | exact rA_eq | refine rA_ne (by decide) ?_ | refine rA_f ?_)) (by repeat' (first | assumption | exact rF_eq | refine rF_ne (by decide) ?_ | refine rF_a ?_ | exact rA_eq | refine rA_ne (by decide) ?_ | refine rA_f ?_)) ?_
        refine g_iload_n (i := 3) dX7_copy_36 rfl rfl ?_
        refine g_callV (M' := mX3_isMissing) dX7_copy_37 lc_X3_isMissing ml_X7_106 (c_isMissing hs0 htb hb (by omega)) rfl rfl (by repeat' (first | assumption | exact rF_eq | refine rF_ne (by decide) ?_ | refine rF_a ?_ | exact rA_eq | refine rA_ne (by decide) ?_ | refine rA_f ?_)) rfl ⟨Nat.le_of_ble_eq_true rfl, Nat.le_of_ble_eq_true rfl, Nat.le_of_ble_eq_true rfl, Nat.le_of_ble_eq_true rfl⟩ (Nat.le_of_ble_eq_true rfl) ?_
        intro r_ h_ q_; obtain ⟨q1_, q2_⟩ := q_; have q2_ := q2_.symm; subst q1_; subst q2_
        refine g_if_eq (tgt := 49) dX7_copy_40 (by decide) (fun hc40 => ?_) (fun hc40 => ?_)
        · replace hc40 := bI_0.mp hc40
          (try simp (disch := omega) only [nT, t_m1000100, t_m1000010, t_m1000003, t_m1000002, t_m1000001, t_m1000000, t_m65535, t_m1000, t_m3, t_m1, t_0, t_1, t_2, t_3, t_4, t_5, t_6, t_7, t_8, t_9, t_10, t_11, t_12, t_13, t_15, t_16, t_20, t_21, t_22, t_32, t_40, t_41, t_48, t_49, t_57, t_59, t_60, t_63, t_72, t_76, t_88, t_100, t_144, t_200, t_255, t_288, t_400, t_800, t_999, t_1000, t_1024, t_1200, t_1600, t_3200, t_100000, t_200000, t_252645135, t_858993459, t_1431655765, u_m1000002, u_m1000001, u_m1000, u_m3, u_m1, u_0, u_1, u_2, u_3, u_4, u_5, u_7, u_8, u_10, u_11, u_15, u_60, u_100, u_255, u_999, u_1000, u_100000, u_4294967295] at hc40)
          refine g_aload_n (i := 0) dX7_copy_49 rfl rfl ?_
          refine g_get dX7_copy_50 fl_X7_10 (by repeat' (first | assumption | exact rF_eq | refine rF_ne (by decide) ?_ | refine rF_a ?_ | exact rA_eq | refine rA_ne (by decide) ?_ | refine rA_f ?_)) (by repeat' (first | assumption | exact rF_eq | refine rF_ne (by decide) ?_ | refine rF_a ?_ | exact rA_eq | refine rA_ne (by decide) ?_ | refine rA_f ?_)) ?_
          refine g_get dX7_copy_53 fl_X7_118 (by repeat' (first | assumption | exact rF_eq | refine rF_ne (by decide) ?_ | refine rF_a ?_ | exact rA_eq | refine rA_ne (by decide) ?_ | refine rA_f ?_)) (by repeat' (first | assumption | exact rF_eq | refine rF_ne (by decide) ?_ | refine rF_a ?_ | exact rA_eq | refine rA_ne (by decide) ?_ | refine rA_f ?_)) ?_
          refine g_iload_n (i := 1) dX7_copy_56 rfl rfl ?_
          refine g_iald dX7_copy_57 (by repeat' (first | assumption | exact rF_eq | refine rF_ne (by decide) ?_ | refine rF_a ?_ | exact rA_eq | refine rA_ne (by decide) ?_ | refine rA_f ?_)) (hta) (ha) ?_
          refine g_aload_n (i := 0) dX7_copy_58 rfl rfl ?_
          refine g_get dX7_copy_59 fl_X7_10 (by repeat' (first | assumption | exact rF_eq | refine rF_ne (by decide) ?_ | refine rF_a ?_ | exact rA_eq | refine rA_ne (by decide) ?_ | refine rA_f ?_)) (by repeat' (first | assumption | exact rF_eq | refine rF_ne (by decide) ?_ | refine rF_a ?_ | exact rA_eq | refine rA_ne (by decide) ?_ | refine rA_f ?_)) ?_
          refine g_get dX7_copy_62 fl_X7_118 (by repeat' (first | assumption | exact rF_eq | refine rF_ne (by decide) ?_ | refine rF_a ?_ | exact rA_eq | refine rA_ne (by decide) ?_ | refine rA_f ?_)) (by repeat' (first | assumption | exact rF_eq | refine rF_ne (by decide) ?_ | refine rF_a ?_ | exact rA_eq | refine rA_ne (by decide) ?_ | refine rA_f ?_)) ?_
          refine g_iload_n (i := 3) dX7_copy_65 rfl rfl ?_
          refine g_iald dX7_copy_66 (by repeat' (first | assumption | exact rF_eq | refine rF_ne (by decide) ?_ | refine rF_a ?_ | exact rA_eq | refine rA_ne (by decide) ?_ | refine rA_f ?_)) (htb) (hb) ?_
          refine g_icmp_eq (tgt := 76) dX7_copy_67 (by decide) (fun hc67 => ?_) (fun hc67 => ?_)
          · have hd67 := i_eq.mp hc67; (try simp (disch := omega) only [nT, t_m1000100, t_m1000010, t_m1000003, t_m1000002, t_m1000001, t_m1000000, t_m65535, t_m1000, t_m3, t_m1, t_0, t_1, t_2, t_3, t_4, t_5, t_6, t_7, t_8, t_9, t_10, t_11, t_12, t_13, t_15, t_16, t_20, t_21, t_22, t_32, t_40, t_41, t_48, t_49, t_57, t_59, t_60, t_63, t_72, t_76, t_88, t_100, t_144, t_200, t_255, t_288, t_400, t_800, t_999, t_1000, t_1024, t_1200, t_1600, t_3200, t_100000, t_200000, t_252645135, t_858993459, t_1431655765, u_m1000002, u_m1000001, u_m1000, u_m3, u_m1, u_0, u_1, u_2, u_3, u_4, u_5, u_7, u_8, u_10, u_11, u_15, u_60, u_100, u_255, u_999, u_1000, u_100000, u_4294967295] at hd67)
            refine g_aload_n (i := 0) dX7_copy_76 rfl rfl ?_
            refine g_get dX7_copy_77 fl_X7_10 (by repeat' (first | assumption | exact rF_eq | refine rF_ne (by decide) ?_ | refine rF_a ?_ | exact rA_eq | refine rA_ne (by decide) ?_ | refine rA_f ?_)) (by repeat' (first | assumption | exact rF_eq | refine rF_ne (by decide) ?_ | refine rF_a ?_ | exact rA_eq | refine rA_ne (by decide) ?_ | refine rA_f ?_)) ?_
            refine g_iload_n (i := 1) dX7_copy_80 rfl rfl ?_
            refine g_iload_n (i := 2) dX7_copy_81 rfl rfl ?_
            refine g_iload dX7_copy_82 rfl ?_
            refine g_callV (M' := mX3_hasItems) dX7_copy_84 lc_X3_hasItems ml_X7_110 (c_hasItems hs0 hta ha) rfl rfl (by repeat' (first | assumption | exact rF_eq | refine rF_ne (by decide) ?_ | refine rF_a ?_ | exact rA_eq | refine rA_ne (by decide) ?_ | refine rA_f ?_)) rfl ⟨Nat.le_of_ble_eq_true rfl, Nat.le_of_ble_eq_true rfl, Nat.le_of_ble_eq_true rfl, Nat.le_of_ble_eq_true rfl⟩ (Nat.le_of_ble_eq_true rfl) ?_
            intro r_ h_ q_; obtain ⟨q1_, q2_⟩ := q_; have q2_ := q2_.symm; subst q1_; subst q2_
            refine g_if_eq (tgt := 105) dX7_copy_87 (by decide) (fun hc87 => ?_) (fun hc87 => ?_)
            · replace hc87 := bI_0.mp hc87
              (try simp (disch := omega) only [nT, t_m1000100, t_m1000010, t_m1000003, t_m1000002, t_m1000001, t_m1000000, t_m65535, t_m1000, t_m3, t_m1, t_0, t_1, t_2, t_3, t_4, t_5, t_6, t_7, t_8, t_9, t_10, t_11, t_12, t_13, t_15, t_16, t_20, t_21, t_22, t_32, t_40, t_41, t_48, t_49, t_57, t_59, t_60, t_63, t_72, t_76, t_88, t_100, t_144, t_200, t_255, t_288, t_400, t_800, t_999, t_1000, t_1024, t_1200, t_1600, t_3200, t_100000, t_200000, t_252645135, t_858993459, t_1431655765, u_m1000002, u_m1000001, u_m1000, u_m3, u_m1, u_0, u_1, u_2, u_3, u_4, u_5, u_7, u_8, u_10, u_11, u_15, u_60, u_100, u_255, u_999, u_1000, u_100000, u_4294967295] at hc87)
              refine g_aload_n (i := 0) dX7_copy_105 rfl rfl ?_
              refine g_iconst (v := 2) dX7_copy_106 (by decide) ?_
              refine g_callV (M' := mX7_found) dX7_copy_107 lc_X7_found ml_X7_95 (c_found h0 2) rfl rfl (by repeat' (first | assumption | exact rF_eq | refine rF_ne (by decide) ?_ | refine rF_a ?_ | exact rA_eq | refine rA_ne (by decide) ?_ | refine rA_f ?_)) rfl ⟨Nat.le_of_ble_eq_true rfl, Nat.le_of_ble_eq_true rfl, Nat.le_of_ble_eq_true rfl, Nat.le_of_ble_eq_true rfl⟩ (Nat.le_of_ble_eq_true rfl) ?_
              intro r_ h_ q_; obtain ⟨q1_, q2_⟩ := q_; have q2_ := q2_.symm; subst q1_; subst q2_
              refine g_iret dX7_copy_110 rfl (rfl) (hQ _ _ ?_)
              have e := (en _).mpr ((if_neg (by omega)).trans ((if_neg (by omega)).trans (if_pos (by omega))))
              rw [e]; exact ⟨rfl, ⟨⟨h0, h1, rfl⟩, ⟨e1, e2, e3, e4, e5, e6, e7⟩⟩, fr_sF (by decide) fr_rf⟩
            · replace hc87 := bI_n0.mp hc87
              (try simp (disch := omega) only [nT, t_m1000100, t_m1000010, t_m1000003, t_m1000002, t_m1000001, t_m1000000, t_m65535, t_m1000, t_m3, t_m1, t_0, t_1, t_2, t_3, t_4, t_5, t_6, t_7, t_8, t_9, t_10, t_11, t_12, t_13, t_15, t_16, t_20, t_21, t_22, t_32, t_40, t_41, t_48, t_49, t_57, t_59, t_60, t_63, t_72, t_76, t_88, t_100, t_144, t_200, t_255, t_288, t_400, t_800, t_999, t_1000, t_1024, t_1200, t_1600, t_3200, t_100000, t_200000, t_252645135, t_858993459, t_1431655765, u_m1000002, u_m1000001, u_m1000, u_m3, u_m1, u_0, u_1, u_2, u_3, u_4, u_5, u_7, u_8, u_10, u_11, u_15, u_60, u_100, u_255, u_999, u_1000, u_100000, u_4294967295] at hc87)
              refine g_aload_n (i := 0) dX7_copy_90 rfl rfl ?_
              refine g_get dX7_copy_91 fl_X7_10 (by repeat' (first | assumption | exact rF_eq | refine rF_ne (by decide) ?_ | refine rF_a ?_ | exact rA_eq | refine rA_ne (by decide) ?_ | refine rA_f ?_)) (by repeat' (first | assumption | exact rF_eq | refine rF_ne (by decide) ?_ | refine rF_a ?_ | exact rA_eq | refine rA_ne (by decide) ?_ | refine rA_f ?_)) ?_
              refine g_iload_n (i := 3) dX7_copy_94 rfl rfl ?_
              refine g_iload dX7_copy_95 rfl ?_
              refine g_iload dX7_copy_97 rfl ?_
              refine g_callV (M' := mX3_hasItems) dX7_copy_99 lc_X3_hasItems ml_X7_110 (c_hasItems hs0 htb hb) rfl rfl (by repeat' (first | assumption | exact rF_eq | refine rF_ne (by decide) ?_ | refine rF_a ?_ | exact rA_eq | refine rA_ne (by decide) ?_ | refine rA_f ?_)) rfl ⟨Nat.le_of_ble_eq_true rfl, Nat.le_of_ble_eq_true rfl, Nat.le_of_ble_eq_true rfl, Nat.le_of_ble_eq_true rfl⟩ (Nat.le_of_ble_eq_true rfl) ?_
              intro r_ h_ q_; obtain ⟨q1_, q2_⟩ := q_; have q2_ := q2_.symm; subst q1_; subst q2_
              refine g_if_ne (tgt := 111) dX7_copy_102 (by decide) (fun hc102 => ?_) (fun hc102 => ?_)
              · replace hc102 := bI_n0.mp hc102
                (try simp (disch := omega) only [nT, t_m1000100, t_m1000010, t_m1000003, t_m1000002, t_m1000001, t_m1000000, t_m65535, t_m1000, t_m3, t_m1, t_0, t_1, t_2, t_3, t_4, t_5, t_6, t_7, t_8, t_9, t_10, t_11, t_12, t_13, t_15, t_16, t_20, t_21, t_22, t_32, t_40, t_41, t_48, t_49, t_57, t_59, t_60, t_63, t_72, t_76, t_88, t_100, t_144, t_200, t_255, t_288, t_400, t_800, t_999, t_1000, t_1024, t_1200, t_1600, t_3200, t_100000, t_200000, t_252645135, t_858993459, t_1431655765, u_m1000002, u_m1000001, u_m1000, u_m3, u_m1, u_0, u_1, u_2, u_3, u_4, u_5, u_7, u_8, u_10, u_11, u_15, u_60, u_100, u_255, u_999, u_1000, u_100000, u_4294967295] at hc102)
                have e := (en _).mpr ((if_neg (by omega)).trans ((if_neg (by omega)).trans (if_neg (by omega))))
                obtain ⟨i, hi, rfl, hti⟩ := n_of (n := 101) (x := i) (by omega) (by omega)
                obtain ⟨j, hj, rfl, htj⟩ := n_of (n := 101) (x := j) (by omega) (by omega)
                obtain ⟨n, hn, rfl, htn⟩ := n_of (n := 101) (x := n) (by omega) (by omega)
                rw [nTN (by omega), nTN (by omega), nTN (by omega)] at e
                refine g_aload_n (i := 0) dX7_copy_111 rfl rfl ?_
                refine g_get dX7_copy_112 fl_X7_10 (by repeat' (first | assumption | exact rF_eq | refine rF_ne (by decide) ?_ | refine rF_a ?_ | exact rA_eq | refine rA_ne (by decide) ?_ | refine rA_f ?_)) (by repeat' (first | assumption | exact rF_eq | refine rF_ne (by decide) ?_ | refine rF_a ?_ | exact rA_eq | refine rA_ne (by decide) ?_ | refine rA_f ?_)) ?_
                refine g_get dX7_copy_115 fl_X7_121 (by repeat' (first | assumption | exact rF_eq | refine rF_ne (by decide) ?_ | refine rF_a ?_ | exact rA_eq | refine rA_ne (by decide) ?_ | refine rA_f ?_)) (by repeat' (first | assumption | exact rF_eq | refine rF_ne (by decide) ?_ | refine rF_a ?_ | exact rA_eq | refine rA_ne (by decide) ?_ | refine rA_f ?_)) ?_
                refine g_aload_n (i := 0) dX7_copy_118 rfl rfl ?_
                refine g_get dX7_copy_119 fl_X7_10 (by repeat' (first | assumption | exact rF_eq | refine rF_ne (by decide) ?_ | refine rF_a ?_ | exact rA_eq | refine rA_ne (by decide) ?_ | refine rA_f ?_)) (by repeat' (first | assumption | exact rF_eq | refine rF_ne (by decide) ?_ | refine rF_a ?_ | exact rA_eq | refine rA_ne (by decide) ?_ | refine rA_f ?_)) ?_
                refine g_iload_n (i := 1) dX7_copy_122 rfl rfl ?_
                refine g_iload_n (i := 2) dX7_copy_123 rfl rfl ?_
                refine g_callV (M' := mX3_indexOf) dX7_copy_124 lc_X3_indexOf ml_X7_124 (c_indexOfN h a i) rfl rfl (by repeat' (first | assumption | exact rF_eq | refine rF_ne (by decide) ?_ | refine rF_a ?_ | exact rA_eq | refine rA_ne (by decide) ?_ | refine rA_f ?_)) rfl ⟨Nat.le_of_ble_eq_true rfl, Nat.le_of_ble_eq_true rfl, Nat.le_of_ble_eq_true rfl, Nat.le_of_ble_eq_true rfl⟩ (Nat.le_of_ble_eq_true rfl) ?_
                intro r_ h_ q_; obtain ⟨q1_, q2_⟩ := q_; have q2_ := q2_.symm; subst q1_; subst q2_
                refine g_aload_n (i := 0) dX7_copy_127 rfl rfl ?_
                refine g_get dX7_copy_128 fl_X7_10 (by repeat' (first | assumption | exact rF_eq | refine rF_ne (by decide) ?_ | refine rF_a ?_ | exact rA_eq | refine rA_ne (by decide) ?_ | refine rA_f ?_)) (by repeat' (first | assumption | exact rF_eq | refine rF_ne (by decide) ?_ | refine rF_a ?_ | exact rA_eq | refine rA_ne (by decide) ?_ | refine rA_f ?_)) ?_
                refine g_get dX7_copy_131 fl_X7_121 (by repeat' (first | assumption | exact rF_eq | refine rF_ne (by decide) ?_ | refine rF_a ?_ | exact rA_eq | refine rA_ne (by decide) ?_ | refine rA_f ?_)) (by repeat' (first | assumption | exact rF_eq | refine rF_ne (by decide) ?_ | refine rF_a ?_ | exact rA_eq | refine rA_ne (by decide) ?_ | refine rA_f ?_)) ?_
                refine g_aload_n (i := 0) dX7_copy_134 rfl rfl ?_
                refine g_get dX7_copy_135 fl_X7_10 (by repeat' (first | assumption | exact rF_eq | refine rF_ne (by decide) ?_ | refine rF_a ?_ | exact rA_eq | refine rA_ne (by decide) ?_ | refine rA_f ?_)) (by repeat' (first | assumption | exact rF_eq | refine rF_ne (by decide) ?_ | refine rF_a ?_ | exact rA_eq | refine rA_ne (by decide) ?_ | refine rA_f ?_)) ?_
                refine g_iload_n (i := 3) dX7_copy_138 rfl rfl ?_
                refine g_iload dX7_copy_139 rfl ?_
                refine g_callV (M' := mX3_indexOf) dX7_copy_141 lc_X3_indexOf ml_X7_124 (c_indexOfN h b j) rfl rfl (by repeat' (first | assumption | exact rF_eq | refine rF_ne (by decide) ?_ | refine rF_a ?_ | exact rA_eq | refine rA_ne (by decide) ?_ | refine rA_f ?_)) rfl ⟨Nat.le_of_ble_eq_true rfl, Nat.le_of_ble_eq_true rfl, Nat.le_of_ble_eq_true rfl, Nat.le_of_ble_eq_true rfl⟩ (Nat.le_of_ble_eq_true rfl) ?_
                intro r_ h_ q_; obtain ⟨q1_, q2_⟩ := q_; have q2_ := q2_.symm; subst q1_; subst q2_
                refine g_iload dX7_copy_144 rfl ?_
                refine g_copyi dX7_copy_146 ml_X7_128 ac_nat ac_stat ac_init (by repeat' (first | assumption | exact rF_eq | refine rF_ne (by decide) ?_ | refine rF_a ?_ | exact rA_eq | refine rA_ne (by decide) ?_ | refine rA_f ?_)) (by repeat' (first | assumption | exact rF_eq | refine rF_ne (by decide) ?_ | refine rF_a ?_ | exact rA_eq | refine rA_ne (by decide) ?_ | refine rA_f ?_)) (nT (by omega)) (nT (by omega)) htn (by omega) (by omega) ⟨Nat.le_of_ble_eq_true rfl, Nat.le_of_ble_eq_true rfl⟩ ?_
                refine g_aload_n (i := 0) dX7_copy_149 rfl rfl ?_
                refine g_iload dX7_copy_150 rfl ?_
                refine g_callV (M' := mX7_fine) dX7_copy_152 lc_X7_fine ml_X7_103 (c_fine (h := sA h 4 (aI 800 (va_cpy it it (100 * a + i) (100 * b + j) n))) h0 (nI n)) rfl rfl (by repeat' (first | assumption | exact rF_eq | refine rF_ne (by decide) ?_ | refine rF_a ?_ | exact rA_eq | refine rA_ne (by decide) ?_ | refine rA_f ?_)) rfl ⟨Nat.le_of_ble_eq_true rfl, Nat.le_of_ble_eq_true rfl, Nat.le_of_ble_eq_true rfl, Nat.le_of_ble_eq_true rfl⟩ (Nat.le_of_ble_eq_true rfl) ?_
                intro r_ h_ q_; obtain ⟨q1_, q2_⟩ := q_; have q2_ := q2_.symm; subst q1_; subst q2_
                refine g_iret dX7_copy_155 rfl (rfl) (hQ _ _ ?_)
                rw [e]; exact ⟨rfl, ⟨⟨h0, h1, rfl⟩, ⟨e1, e2, e3, e4, e5, e6, rfl⟩⟩, fr_sF (by decide) (fr_sA (by decide) fr_rf)⟩
              · replace hc102 := bI_0.mp hc102
                (try simp (disch := omega) only [nT, t_m1000100, t_m1000010, t_m1000003, t_m1000002, t_m1000001, t_m1000000, t_m65535, t_m1000, t_m3, t_m1, t_0, t_1, t_2, t_3, t_4, t_5, t_6, t_7, t_8, t_9, t_10, t_11, t_12, t_13, t_15, t_16, t_20, t_21, t_22, t_32, t_40, t_41, t_48, t_49, t_57, t_59, t_60, t_63, t_72, t_76, t_88, t_100, t_144, t_200, t_255, t_288, t_400, t_800, t_999, t_1000, t_1024, t_1200, t_1600, t_3200, t_100000, t_200000, t_252645135, t_858993459, t_1431655765, u_m1000002, u_m1000001, u_m1000, u_m3, u_m1, u_0, u_1, u_2, u_3, u_4, u_5, u_7, u_8, u_10, u_11, u_15, u_60, u_100, u_255, u_999, u_1000, u_100000, u_4294967295] at hc102)
                refine g_aload_n (i := 0) dX7_copy_105 rfl rfl ?_
                refine g_iconst (v := 2) dX7_copy_106 (by decide) ?_
                refine g_callV (M' := mX7_found) dX7_copy_107 lc_X7_found ml_X7_95 (c_found h0 2) rfl rfl (by repeat' (first | assumption | exact rF_eq | refine rF_ne (by decide) ?_ | refine rF_a ?_ | exact rA_eq | refine rA_ne (by decide) ?_ | refine rA_f ?_)) rfl ⟨Nat.le_of_ble_eq_true rfl, Nat.le_of_ble_eq_true rfl, Nat.le_of_ble_eq_true rfl, Nat.le_of_ble_eq_true rfl⟩ (Nat.le_of_ble_eq_true rfl) ?_
                intro r_ h_ q_; obtain ⟨q1_, q2_⟩ := q_; have q2_ := q2_.symm; subst q1_; subst q2_
                refine g_iret dX7_copy_110 rfl (rfl) (hQ _ _ ?_)
                have e := (en _).mpr ((if_neg (by omega)).trans ((if_neg (by omega)).trans (if_pos (by omega))))
                rw [e]; exact ⟨rfl, ⟨⟨h0, h1, rfl⟩, ⟨e1, e2, e3, e4, e5, e6, e7⟩⟩, fr_sF (by decide) fr_rf⟩
          · have hd67 := mt i_eq.mpr hc67; (try simp (disch := omega) only [nT, t_m1000100, t_m1000010, t_m1000003, t_m1000002, t_m1000001, t_m1000000, t_m65535, t_m1000, t_m3, t_m1, t_0, t_1, t_2, t_3, t_4, t_5, t_6, t_7, t_8, t_9, t_10, t_11, t_12, t_13, t_15, t_16, t_20, t_21, t_22, t_32, t_40, t_41, t_48, t_49, t_57, t_59, t_60, t_63, t_72, t_76, t_88, t_100, t_144, t_200, t_255, t_288, t_400, t_800, t_999, t_1000, t_1024, t_1200, t_1600, t_3200, t_100000, t_200000, t_252645135, t_858993459, t_1431655765, u_m1000002, u_m1000001, u_m1000, u_m3, u_m1, u_0, u_1, u_2, u_3, u_4, u_5, u_7, u_8, u_10, u_11, u_15, u_60, u_100, u_255, u_999, u_1000, u_100000, u_4294967295] at hd67)
            refine g_aload_n (i := 0) dX7_copy_70 rfl rfl ?_
            refine g_iconst (v := 5) dX7_copy_71 (by decide) ?_
            refine g_callV (M' := mX7_found) dX7_copy_72 lc_X7_found ml_X7_95 (c_found h0 5) rfl rfl (by repeat' (first | assumption | exact rF_eq | refine rF_ne (by decide) ?_ | refine rF_a ?_ | exact rA_eq | refine rA_ne (by decide) ?_ | refine rA_f ?_)) rfl ⟨Nat.le_of_ble_eq_true rfl, Nat.le_of_ble_eq_true rfl, Nat.le_of_ble_eq_true rfl, Nat.le_of_ble_eq_true rfl⟩ (Nat.le_of_ble_eq_true rfl) ?_
            intro r_ h_ q_; obtain ⟨q1_, q2_⟩ := q_; have q2_ := q2_.symm; subst q1_; subst q2_
            refine g_iret dX7_copy_75 rfl (rfl) (hQ _ _ ?_)
            have e := (en _).mpr ((if_neg (by omega)).trans (if_pos (by omega)))
            rw [e]; exact ⟨rfl, ⟨⟨h0, h1, rfl⟩, ⟨e1, e2, e3, e4, e5, e6, e7⟩⟩, fr_sF (by decide) fr_rf⟩
        · replace hc40 := bI_n0.mp hc40
          (try simp (disch := omega) only [nT, t_m1000100, t_m1000010, t_m1000003, t_m1000002, t_m1000001, t_m1000000, t_m65535, t_m1000, t_m3, t_m1, t_0, t_1, t_2, t_3, t_4, t_5, t_6, t_7, t_8, t_9, t_10, t_11, t_12, t_13, t_15, t_16, t_20, t_21, t_22, t_32, t_40, t_41, t_48, t_49, t_57, t_59, t_60, t_63, t_72, t_76, t_88, t_100, t_144, t_200, t_255, t_288, t_400, t_800, t_999, t_1000, t_1024, t_1200, t_1600, t_3200, t_100000, t_200000, t_252645135, t_858993459, t_1431655765, u_m1000002, u_m1000001, u_m1000, u_m3, u_m1, u_0, u_1, u_2, u_3, u_4, u_5, u_7, u_8, u_10, u_11, u_15, u_60, u_100, u_255, u_999, u_1000, u_100000, u_4294967295] at hc40)
          refine g_aload_n (i := 0) dX7_copy_43 rfl rfl ?_
          refine g_iconst (v := 1) dX7_copy_44 (by decide) ?_
          refine g_callV (M' := mX7_found) dX7_copy_45 lc_X7_found ml_X7_95 (c_found h0 1) rfl rfl (by repeat' (first | assumption | exact rF_eq | refine rF_ne (by decide) ?_ | refine rF_a ?_ | exact rA_eq | refine rA_ne (by decide) ?_ | refine rA_f ?_)) rfl ⟨Nat.le_of_ble_eq_true rfl, Nat.le_of_ble_eq_true rfl, Nat.le_of_ble_eq_true rfl, Nat.le_of_ble_eq_true rfl⟩ (Nat.le_of_ble_eq_true rfl) ?_
          intro r_ h_ q_; obtain ⟨q1_, q2_⟩ := q_; have q2_ := q2_.symm; subst q1_; subst q2_
          refine g_iret dX7_copy_48 rfl (rfl) (hQ _ _ ?_)
          have e := (en _).mpr (if_pos (by omega))
          rw [e]; exact ⟨rfl, ⟨⟨h0, h1, rfl⟩, ⟨e1, e2, e3, e4, e5, e6, e7⟩⟩, fr_sF (by decide) fr_rf⟩
    · replace hc15 := bI_0.mp hc15
      (try simp (disch := omega) only [nT, t_m1000100, t_m1000010, t_m1000003, t_m1000002, t_m1000001, t_m1000000, t_m65535, t_m1000, t_m3, t_m1, t_0, t_1, t_2, t_3, t_4, t_5, t_6, t_7, t_8, t_9, t_10, t_11, t_12, t_13, t_15, t_16, t_20, t_21, t_22, t_32, t_40, t_41, t_48, t_49, t_57, t_59, t_60, t_63, t_72, t_76, t_88, t_100, t_144, t_200, t_255, t_288, t_400, t_800, t_999, t_1000, t_1024, t_1200, t_1600, t_3200, t_100000, t_200000, t_252645135, t_858993459, t_1431655765, u_m1000002, u_m1000001, u_m1000, u_m3, u_m1, u_0, u_1, u_2, u_3, u_4, u_5, u_7, u_8, u_10, u_11, u_15, u_60, u_100, u_255, u_999, u_1000, u_100000, u_4294967295] at hc15)
      refine g_ldc dX7_copy_18 kc_X7_94 ?_
      refine g_iret dX7_copy_20 rfl (rfl) (hQ _ _ ?_)
      have e : opCopy (st, ln, sz, it) a i b j n = _ := if_pos (by omega)
      rw [e]; exact ⟨rfl, ⟨⟨h0, h1, h2⟩, hs0⟩, fr_rf⟩
