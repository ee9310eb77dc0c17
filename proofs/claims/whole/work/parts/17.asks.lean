/-! ASKS and THE TRACE -/
abbrev RS : Type := Nat × (Nat → Int32)
def bg (w : RS) (b : Int32) : RS := if w.1 < 16 then (w.1 + 1, upd w.2 w.1 b) else w
theorem bg_le {w : RS} (h : w.1 ≤ 16) (b : Int32) : (bg w b).1 ≤ 16 := by unfold bg; split <;> (try dsimp only) <;> omega
abbrev AX (h : HH) (w : RS) : HH := sF (sA h 35 (aI 16 w.2)) 34 2 (.int (nI w.1))
abbrev AM (h : HH) (w : RS) : HH := sF (sA h 63 (aI 16 w.2)) 44 31 (.int (nI w.1))
def GRX (w : RS) (h : HH) : Prop := gA h 34 = aO 0 ∧ gF h 34 0 = .ref 27 ∧ gF h 34 1 = .ref 35 ∧ gF h 34 2 = .int (nI w.1) ∧ gA h 35 = aI 16 w.2
def GRM (w : RS) (h : HH) : Prop := gA h 44 = aO 8 ∧ gF h 44 30 = .ref 63 ∧ gF h 44 31 = .int (nI w.1) ∧ gA h 63 = aI 16 w.2
theorem AX_self {w : RS} {h : HH} (hg : GRX w h) : AX h w = h := by
  obtain ⟨e1, e2, e3, e4, e5⟩ := hg
  unfold AX; rw [sA_self e5, sF_self e4]
theorem AM_self {w : RS} {h : HH} (hg : GRM w h) : AM h w = h := by
  obtain ⟨e1, e2, e3, e4⟩ := hg
  unfold AM; rw [sA_self e4, sF_self e3]
theorem AX_AX (h : HH) (w v : RS) : AX (AX h w) v = AX h v := by unfold AX; rw [← sF_sA, sA_sA, sF_sA, sF_sA, sF_sF]; rfl
theorem AM_AM (h : HH) (w v : RS) : AM (AM h w) v = AM h v := by unfold AM; rw [← sF_sA, sA_sA, sF_sA, sF_sA, sF_sF]; rfl
theorem grx_AX {w : RS} {h : HH} (hg : GRX w h) (v : RS) : GRX v (AX h v) := ⟨hg.1, hg.2.1, hg.2.2.1, rfl, rfl⟩
theorem grm_AM {w : RS} {h : HH} (hg : GRM w h) (v : RS) : GRM v (AM h v) := ⟨hg.1, hg.2.1, rfl, rfl⟩
theorem tsx_AX {h : HH} {cn : Nat} {lo hi ti bi sh fl : Nat → Int32} (hs : TsX h cn lo hi ti bi sh fl) (v : RS) : TsX (AX h v) cn lo hi ti bi sh fl := hs
theorem tsm_AM {h : HH} {cn : Nat} {lo hi ti bi sh fl : Nat → Int32} (hs : TsM h cn lo hi ti bi sh fl) (v : RS) : TsM (AM h v) cn lo hi ti bi sh fl := hs
abbrev TX' (h : HH) (T : TS) : Prop := TsX h T.1 T.2.1 T.2.2.1 T.2.2.2.1 T.2.2.2.2.1 T.2.2.2.2.2.1 T.2.2.2.2.2.2
abbrev TM' (h : HH) (T : TS) : Prop := TsM h T.1 T.2.1 T.2.2.1 T.2.2.2.1 T.2.2.2.2.1 T.2.2.2.2.2.1 T.2.2.2.2.2.2
theorem c_begin {w : RS} {h : HH} (hg : GRX w h) (hw : w.1 ≤ 16) (b : Int32) : CT mX0_begin 0 0 0 [.ref 34, .int b] h (fun r h' => r = none ∧ h' = AX h (bg w b)) := by
  have z := AX_self hg
  obtain ⟨e1, e2, e3, e4, e5⟩ := hg
  refine CT.go [.ref 34, .int b] (by decide +kernel) rfl rfl (fun Q' hQ => ?_)
  refine g_aload_n (i := 0) dX0_begin_0 rfl rfl ?_
  refine g_get dX0_begin_1 fl_X0_15 (by repeat' (first | assumption | exact rF_eq | refine rF_ne (by decide) ?_ | refine rF_a ?_ | exact rA_eq | refine rA_ne (by decide) ?_ | refine rA_f ?_)) (by repeat' (first | assumption | exact rF_eq | refine rF_ne (by decide) ?_ | refine rF_a ?_ | exact rA_eq | refine rA_ne (by decide) ?_ | refine rA_f ?_)) ?_
  refine g_bipush (v := 16) dX0_begin_4 (by decide) ?_
  refine g_icmp_ge (tgt := 29) dX0_begin_6 (by decide) (fun hc6 => ?_) (fun hc6 => ?_)
  · (try simp (disch := omega) only [nT, t_m1000100, t_m1000010, t_m1000003, t_m1000002, t_m1000001, t_m1000000, t_m65535, t_m1000, t_m3, t_m1, t_0, t_1, t_2, t_3, t_4, t_5, t_6, t_7, t_8, t_9, t_10, t_11, t_12, t_13, t_15, t_16, t_20, t_21, t_22, t_32, t_40, t_41, t_48, t_49, t_57, t_59, t_60, t_63, t_72, t_76, t_88, t_100, t_144, t_200, t_255, t_288, t_400, t_800, t_999, t_1000, t_1024, t_1200, t_1600, t_3200, t_100000, t_200000, t_252645135, t_858993459, t_1431655765, u_m1000002, u_m1000001, u_m1000, u_m3, u_m1, u_0, u_1, u_2, u_3, u_4, u_5, u_7, u_8, u_10, u_11, u_15, u_60, u_100, u_255, u_999, u_1000, u_100000, u_4294967295] at hc6)
    refine g_vret dX0_begin_29 rfl (hQ _ _ ?_)
    refine ⟨rfl, ?_⟩
    unfold bg
    first
    | rw [if_neg (by omega)]; exact z.symm
    | rw [if_pos (by omega), ni_inc]
  · (try simp (disch := omega) only [nT, t_m1000100, t_m1000010, t_m1000003, t_m1000002, t_m1000001, t_m1000000, t_m65535, t_m1000, t_m3, t_m1, t_0, t_1, t_2, t_3, t_4, t_5, t_6, t_7, t_8, t_9, t_10, t_11, t_12, t_13, t_15, t_16, t_20, t_21, t_22, t_32, t_40, t_41, t_48, t_49, t_57, t_59, t_60, t_63, t_72, t_76, t_88, t_100, t_144, t_200, t_255, t_288, t_400, t_800, t_999, t_1000, t_1024, t_1200, t_1600, t_3200, t_100000, t_200000, t_252645135, t_858993459, t_1431655765, u_m1000002, u_m1000001, u_m1000, u_m3, u_m1, u_0, u_1, u_2, u_3, u_4, u_5, u_7, u_8, u_10, u_11, u_15, u_60, u_100, u_255, u_999, u_1000, u_100000, u_4294967295] at hc6)
    refine g_aload_n (i := 0) dX0_begin_9 rfl rfl ?_
    refine g_get dX0_begin_10 fl_X0_9 (by repeat' (first | assumption | exact rF_eq | refine rF_ne (by decide) ?_ | refine rF_a ?_ | exact rA_eq | refine rA_ne (by decide) ?_ | refine rA_f ?_)) (by repeat' (first | assumption | exact rF_eq | refine rF_ne (by decide) ?_ | refine rF_a ?_ | exact rA_eq | refine rA_ne (by decide) ?_ | refine rA_f ?_)) ?_
    refine g_aload_n (i := 0) dX0_begin_13 rfl rfl ?_
    refine g_get dX0_begin_14 fl_X0_15 (by repeat' (first | assumption | exact rF_eq | refine rF_ne (by decide) ?_ | refine rF_a ?_ | exact rA_eq | refine rA_ne (by decide) ?_ | refine rA_f ?_)) (by repeat' (first | assumption | exact rF_eq | refine rF_ne (by decide) ?_ | refine rF_a ?_ | exact rA_eq | refine rA_ne (by decide) ?_ | refine rA_f ?_)) ?_
    refine g_iload_n (i := 1) dX0_begin_17 rfl rfl ?_
    refine g_iast dX0_begin_18 (by repeat' (first | assumption | exact rF_eq | refine rF_ne (by decide) ?_ | refine rF_a ?_ | exact rA_eq | refine rA_ne (by decide) ?_ | refine rA_f ?_)) (nT (by omega)) (by omega) ?_
    refine g_aload_n (i := 0) dX0_begin_19 rfl rfl ?_
    refine g_dup dX0_begin_20 rfl ?_
    refine g_get dX0_begin_21 fl_X0_15 (by repeat' (first | assumption | exact rF_eq | refine rF_ne (by decide) ?_ | refine rF_a ?_ | exact rA_eq | refine rA_ne (by decide) ?_ | refine rA_f ?_)) (by repeat' (first | assumption | exact rF_eq | refine rF_ne (by decide) ?_ | refine rF_a ?_ | exact rA_eq | refine rA_ne (by decide) ?_ | refine rA_f ?_)) ?_
    refine g_iconst (v := 1) dX0_begin_24 (by decide) ?_
    refine g_iadd dX0_begin_25 ?_
    refine g_put dX0_begin_26 pl_X0_15 (by repeat' (first | assumption | exact rF_eq | refine rF_ne (by decide) ?_ | refine rF_a ?_ | exact rA_eq | refine rA_ne (by decide) ?_ | refine rA_f ?_)) (fun _ => ⟨rfl, rfl⟩) ?_
    refine g_vret dX0_begin_29 rfl (hQ _ _ ?_)
    refine ⟨rfl, ?_⟩
    unfold bg
    first
    | rw [if_neg (by omega)]; exact z.symm
    | rw [if_pos (by omega), ni_inc]
theorem c_began {w : RS} {h : HH} (hg : GRM w h) (hw : w.1 ≤ 16) (b : Int32) : CT mX8_began 0 0 0 [.ref 44, .int b] h (fun r h' => r = none ∧ h' = AM h (bg w b)) := by
  have z := AM_self hg
  obtain ⟨e1, e2, e4, e5⟩ := hg
  refine CT.go [.ref 44, .int b] (by decide +kernel) rfl rfl (fun Q' hQ => ?_)
  refine g_aload_n (i := 0) dX8_began_0 rfl rfl ?_
  refine g_get dX8_began_1 fl_X8_212 (by repeat' (first | assumption | exact rF_eq | refine rF_ne (by decide) ?_ | refine rF_a ?_ | exact rA_eq | refine rA_ne (by decide) ?_ | refine rA_f ?_)) (by repeat' (first | assumption | exact rF_eq | refine rF_ne (by decide) ?_ | refine rF_a ?_ | exact rA_eq | refine rA_ne (by decide) ?_ | refine rA_f ?_)) ?_
  refine g_bipush (v := 16) dX8_began_4 (by decide) ?_
  refine g_icmp_ge (tgt := 29) dX8_began_6 (by decide) (fun hc6 => ?_) (fun hc6 => ?_)
  · (try simp (disch := omega) only [nT, t_m1000100, t_m1000010, t_m1000003, t_m1000002, t_m1000001, t_m1000000, t_m65535, t_m1000, t_m3, t_m1, t_0, t_1, t_2, t_3, t_4, t_5, t_6, t_7, t_8, t_9, t_10, t_11, t_12, t_13, t_15, t_16, t_20, t_21, t_22, t_32, t_40, t_41, t_48, t_49, t_57, t_59, t_60, t_63, t_72, t_76, t_88, t_100, t_144, t_200, t_255, t_288, t_400, t_800, t_999, t_1000, t_1024, t_1200, t_1600, t_3200, t_100000, t_200000, t_252645135, t_858993459, t_1431655765, u_m1000002, u_m1000001, u_m1000, u_m3, u_m1, u_0, u_1, u_2, u_3, u_4, u_5, u_7, u_8, u_10, u_11, u_15, u_60, u_100, u_255, u_999, u_1000, u_100000, u_4294967295] at hc6)
    refine g_vret dX8_began_29 rfl (hQ _ _ ?_)
    refine ⟨rfl, ?_⟩
    unfold bg
    first
    | rw [if_neg (by omega)]; exact z.symm
    | rw [if_pos (by omega), ni_inc]
  · (try simp (disch := omega) only [nT, t_m1000100, t_m1000010, t_m1000003, t_m1000002, t_m1000001, t_m1000000, t_m65535, t_m1000, t_m3, t_m1, t_0, t_1, t_2, t_3, t_4, t_5, t_6, t_7, t_8, t_9, t_10, t_11, t_12, t_13, t_15, t_16, t_20, t_21, t_22, t_32, t_40, t_41, t_48, t_49, t_57, t_59, t_60, t_63, t_72, t_76, t_88, t_100, t_144, t_200, t_255, t_288, t_400, t_800, t_999, t_1000, t_1024, t_1200, t_1600, t_3200, t_100000, t_200000, t_252645135, t_858993459, t_1431655765, u_m1000002, u_m1000001, u_m1000, u_m3, u_m1, u_0, u_1, u_2, u_3, u_4, u_5, u_7, u_8, u_10, u_11, u_15, u_60, u_100, u_255, u_999, u_1000, u_100000, u_4294967295] at hc6)
    refine g_aload_n (i := 0) dX8_began_9 rfl rfl ?_
    refine g_get dX8_began_10 fl_X8_65 (by repeat' (first | assumption | exact rF_eq | refine rF_ne (by decide) ?_ | refine rF_a ?_ | exact rA_eq | refine rA_ne (by decide) ?_ | refine rA_f ?_)) (by repeat' (first | assumption | exact rF_eq | refine rF_ne (by decide) ?_ | refine rF_a ?_ | exact rA_eq | refine rA_ne (by decide) ?_ | refine rA_f ?_)) ?_
    refine g_aload_n (i := 0) dX8_began_13 rfl rfl ?_
    refine g_get dX8_began_14 fl_X8_212 (by repeat' (first | assumption | exact rF_eq | refine rF_ne (by decide) ?_ | refine rF_a ?_ | exact rA_eq | refine rA_ne (by decide) ?_ | refine rA_f ?_)) (by repeat' (first | assumption | exact rF_eq | refine rF_ne (by decide) ?_ | refine rF_a ?_ | exact rA_eq | refine rA_ne (by decide) ?_ | refine rA_f ?_)) ?_
    refine g_iload_n (i := 1) dX8_began_17 rfl rfl ?_
    refine g_iast dX8_began_18 (by repeat' (first | assumption | exact rF_eq | refine rF_ne (by decide) ?_ | refine rF_a ?_ | exact rA_eq | refine rA_ne (by decide) ?_ | refine rA_f ?_)) (nT (by omega)) (by omega) ?_
    refine g_aload_n (i := 0) dX8_began_19 rfl rfl ?_
    refine g_dup dX8_began_20 rfl ?_
    refine g_get dX8_began_21 fl_X8_212 (by repeat' (first | assumption | exact rF_eq | refine rF_ne (by decide) ?_ | refine rF_a ?_ | exact rA_eq | refine rA_ne (by decide) ?_ | refine rA_f ?_)) (by repeat' (first | assumption | exact rF_eq | refine rF_ne (by decide) ?_ | refine rF_a ?_ | exact rA_eq | refine rA_ne (by decide) ?_ | refine rA_f ?_)) ?_
    refine g_iconst (v := 1) dX8_began_24 (by decide) ?_
    refine g_iadd dX8_began_25 ?_
    refine g_put dX8_began_26 pl_X8_212 (by repeat' (first | assumption | exact rF_eq | refine rF_ne (by decide) ?_ | refine rF_a ?_ | exact rA_eq | refine rA_ne (by decide) ?_ | refine rA_f ?_)) (fun _ => ⟨rfl, rfl⟩) ?_
    refine g_vret dX8_began_29 rfl (hQ _ _ ?_)
    refine ⟨rfl, ?_⟩
    unfold bg
    first
    | rw [if_neg (by omega)]; exact z.symm
    | rw [if_pos (by omega), ni_inc]
theorem kindv_cases (T : TS) (t : Nat) : kindv T t = 0 ∨ kindv T t = 1 ∨ kindv T t = 2 ∨ kindv T t = 3 := by
  unfold kindv; split
  · exact Or.inr (Or.inr (Or.inr rfl))
  · split
    · exact Or.inl rfl
    · split
      · exact Or.inr (Or.inr (Or.inl rfl))
      · exact Or.inr (Or.inl rfl)
def csV (T : TS) (t : Nat) : Int32 := if (kindv T t).toInt = 1 then 2 * T.2.2.2.1 t else if (kindv T t).toInt = 2 then 2 * T.2.2.2.1 t + (T.2.2.2.2.1 t + 100) else if (kindv T t).toInt = 3 then 0 else T.2.2.2.1 t
def csT (T : TS) (t : Nat) (w : RS) : RS := if (kindv T t).toInt = 1 then bg (bg w 11) 10 else if (kindv T t).toInt = 2 then bg (bg (bg (bg (bg w 12) 11) 10) 21) 20 else if (kindv T t).toInt = 3 then bg w 13 else bg w 10
def mkV (T : TS) (t : Nat) : Int32 := if (kindv T t).toInt = 1 ∨ (kindv T t).toInt = 2 then T.2.2.2.2.1 t + 100 else if (kindv T t).toInt = 3 then T.2.2.2.2.1 t + 0 + 1 else T.2.2.2.2.1 t
def mkT (T : TS) (t : Nat) (w : RS) : RS := if (kindv T t).toInt = 1 ∨ (kindv T t).toInt = 2 then bg (bg w 21) 20 else if (kindv T t).toInt = 3 then bg (bg (bg w 22) 20) 13 else bg w 20
theorem c_lentCost {w : RS} {T : TS} {h : HH} (hg : GRX w h) (hw : w.1 ≤ 16) (hs : TX' h T) {t : Nat} (ht : t < 10) : CT mX0_lentCost 1 0 0 [.ref 34, .int (nI t)] h (fun r h' => r = some (.int (T.2.2.2.1 t)) ∧ h' = AX h (bg w 10)) := by
  obtain ⟨e1, e2, e3, e4, e5⟩ := id hg
  obtain ⟨d1, d2, d3, d4, d5, d6, d7, d8, d9, d10, d11, d12, d13, d14⟩ := hs
  refine CT.go [.ref 34, .int (nI t)] (by decide +kernel) rfl rfl (fun Q' hQ => ?_)
  refine g_aload_n (i := 0) dX0_lentCost_0 rfl rfl ?_
  refine g_bipush (v := 10) dX0_lentCost_1 (by decide) ?_
  refine g_callV (M' := mX0_begin) dX0_lentCost_3 lc_X0_begin ml_X0_42 (c_begin hg hw 10) rfl rfl (by repeat' (first | assumption | exact rF_eq | refine rF_ne (by decide) ?_ | refine rF_a ?_ | exact rA_eq | refine rA_ne (by decide) ?_ | refine rA_f ?_)) rfl ⟨Nat.le_of_ble_eq_true rfl, Nat.le_of_ble_eq_true rfl, Nat.le_of_ble_eq_true rfl, Nat.le_of_ble_eq_true rfl⟩ (Nat.le_of_ble_eq_true rfl) ?_
  intro r_ h_ q_; obtain ⟨q1_, q2_⟩ := q_; have q2_ := q2_.symm; subst q1_; subst q2_
  refine g_aload_n (i := 0) dX0_lentCost_6 rfl rfl ?_
  refine g_get dX0_lentCost_7 fl_X0_19 (by repeat' (first | assumption | exact rF_eq | refine rF_ne (by decide) ?_ | refine rF_a ?_ | exact rA_eq | refine rA_ne (by decide) ?_ | refine rA_f ?_)) (by repeat' (first | assumption | exact rF_eq | refine rF_ne (by decide) ?_ | refine rF_a ?_ | exact rA_eq | refine rA_ne (by decide) ?_ | refine rA_f ?_)) ?_
  refine g_get dX0_lentCost_10 fl_X0_46 (by repeat' (first | assumption | exact rF_eq | refine rF_ne (by decide) ?_ | refine rF_a ?_ | exact rA_eq | refine rA_ne (by decide) ?_ | refine rA_f ?_)) (by repeat' (first | assumption | exact rF_eq | refine rF_ne (by decide) ?_ | refine rF_a ?_ | exact rA_eq | refine rA_ne (by decide) ?_ | refine rA_f ?_)) ?_
  refine g_iload_n (i := 1) dX0_lentCost_13 rfl rfl ?_
  refine g_iald dX0_lentCost_14 (by repeat' (first | assumption | exact rF_eq | refine rF_ne (by decide) ?_ | refine rF_a ?_ | exact rA_eq | refine rA_ne (by decide) ?_ | refine rA_f ?_)) (nT (by omega)) (ht) ?_
  refine g_iret dX0_lentCost_15 rfl (rfl) (hQ _ _ ?_)
  exact ⟨rfl, rfl⟩
theorem c_lentMark {w : RS} {T : TS} {h : HH} (hg : GRX w h) (hw : w.1 ≤ 16) (hs : TX' h T) {t : Nat} (ht : t < 10) : CT mX0_lentMark 1 0 0 [.ref 34, .int (nI t)] h (fun r h' => r = some (.int (T.2.2.2.2.1 t)) ∧ h' = AX h (bg w 20)) := by
  obtain ⟨e1, e2, e3, e4, e5⟩ := id hg
  obtain ⟨d1, d2, d3, d4, d5, d6, d7, d8, d9, d10, d11, d12, d13, d14⟩ := hs
  refine CT.go [.ref 34, .int (nI t)] (by decide +kernel) rfl rfl (fun Q' hQ => ?_)
  refine g_aload_n (i := 0) dX0_lentMark_0 rfl rfl ?_
  refine g_bipush (v := 20) dX0_lentMark_1 (by decide) ?_
  refine g_callV (M' := mX0_begin) dX0_lentMark_3 lc_X0_begin ml_X0_42 (c_begin hg hw 20) rfl rfl (by repeat' (first | assumption | exact rF_eq | refine rF_ne (by decide) ?_ | refine rF_a ?_ | exact rA_eq | refine rA_ne (by decide) ?_ | refine rA_f ?_)) rfl ⟨Nat.le_of_ble_eq_true rfl, Nat.le_of_ble_eq_true rfl, Nat.le_of_ble_eq_true rfl, Nat.le_of_ble_eq_true rfl⟩ (Nat.le_of_ble_eq_true rfl) ?_
  intro r_ h_ q_; obtain ⟨q1_, q2_⟩ := q_; have q2_ := q2_.symm; subst q1_; subst q2_
  refine g_aload_n (i := 0) dX0_lentMark_6 rfl rfl ?_
  refine g_get dX0_lentMark_7 fl_X0_19 (by repeat' (first | assumption | exact rF_eq | refine rF_ne (by decide) ?_ | refine rF_a ?_ | exact rA_eq | refine rA_ne (by decide) ?_ | refine rA_f ?_)) (by repeat' (first | assumption | exact rF_eq | refine rF_ne (by decide) ?_ | refine rF_a ?_ | exact rA_eq | refine rA_ne (by decide) ?_ | refine rA_f ?_)) ?_
  refine g_get dX0_lentMark_10 fl_X0_61 (by repeat' (first | assumption | exact rF_eq | refine rF_ne (by decide) ?_ | refine rF_a ?_ | exact rA_eq | refine rA_ne (by decide) ?_ | refine rA_f ?_)) (by repeat' (first | assumption | exact rF_eq | refine rF_ne (by decide) ?_ | refine rF_a ?_ | exact rA_eq | refine rA_ne (by decide) ?_ | refine rA_f ?_)) ?_
  refine g_iload_n (i := 1) dX0_lentMark_13 rfl rfl ?_
  refine g_iald dX0_lentMark_14 (by repeat' (first | assumption | exact rF_eq | refine rF_ne (by decide) ?_ | refine rF_a ?_ | exact rA_eq | refine rA_ne (by decide) ?_ | refine rA_f ?_)) (nT (by omega)) (ht) ?_
  refine g_iret dX0_lentMark_15 rfl (rfl) (hQ _ _ ?_)
  exact ⟨rfl, rfl⟩
theorem c_costOfShort {w : RS} {T : TS} {h : HH} (hg : GRX w h) (hw : w.1 ≤ 16) (hs : TX' h T) {t : Nat} (ht : t < 10) : CT mX0_costOfShort 2 0 0 [.ref 34, .int (nI t)] h (fun r h' => r = some (.int (2 * T.2.2.2.1 t)) ∧ h' = AX h (bg (bg w 11) 10)) := by
  obtain ⟨e1, e2, e3, e4, e5⟩ := id hg
  refine CT.go [.ref 34, .int (nI t)] (by decide +kernel) rfl rfl (fun Q' hQ => ?_)
  refine g_aload_n (i := 0) dX0_costOfShort_0 rfl rfl ?_
  refine g_bipush (v := 11) dX0_costOfShort_1 (by decide) ?_
  refine g_callV (M' := mX0_begin) dX0_costOfShort_3 lc_X0_begin ml_X0_42 (c_begin hg hw 11) rfl rfl (by repeat' (first | assumption | exact rF_eq | refine rF_ne (by decide) ?_ | refine rF_a ?_ | exact rA_eq | refine rA_ne (by decide) ?_ | refine rA_f ?_)) rfl ⟨Nat.le_of_ble_eq_true rfl, Nat.le_of_ble_eq_true rfl, Nat.le_of_ble_eq_true rfl, Nat.le_of_ble_eq_true rfl⟩ (Nat.le_of_ble_eq_true rfl) ?_
  intro r_ h_ q_; obtain ⟨q1_, q2_⟩ := q_; have q2_ := q2_.symm; subst q1_; subst q2_
  refine g_iconst (v := 2) dX0_costOfShort_6 (by decide) ?_
  refine g_aload_n (i := 0) dX0_costOfShort_7 rfl rfl ?_
  refine g_iload_n (i := 1) dX0_costOfShort_8 rfl rfl ?_
  refine g_callV (M' := mX0_lentCost) dX0_costOfShort_9 lc_X0_lentCost ml_X0_39 (c_lentCost (grx_AX hg _) (bg_le hw _) (tsx_AX hs _) ht) rfl rfl (by repeat' (first | assumption | exact rF_eq | refine rF_ne (by decide) ?_ | refine rF_a ?_ | exact rA_eq | refine rA_ne (by decide) ?_ | refine rA_f ?_)) rfl ⟨Nat.le_of_ble_eq_true rfl, Nat.le_of_ble_eq_true rfl, Nat.le_of_ble_eq_true rfl, Nat.le_of_ble_eq_true rfl⟩ (Nat.le_of_ble_eq_true rfl) ?_
  intro r_ h_ q_; obtain ⟨q1_, q2_⟩ := q_; have q2_ := q2_.symm; subst q1_; subst q2_
  refine g_imul dX0_costOfShort_12 ?_
  refine g_iret dX0_costOfShort_13 rfl (rfl) (hQ _ _ ?_)
  rw [AX_AX]; exact ⟨rfl, rfl⟩
theorem c_costOfOpen {w : RS} {h : HH} (hg : GRX w h) (hw : w.1 ≤ 16) : CT mX0_costOfOpen 1 0 0 [.ref 34] h (fun r h' => r = some (.int 0) ∧ h' = AX h (bg w 13)) := by
  obtain ⟨e1, e2, e3, e4, e5⟩ := id hg
  refine CT.go [.ref 34] (by decide +kernel) rfl rfl (fun Q' hQ => ?_)
  refine g_aload_n (i := 0) dX0_costOfOpen_0 rfl rfl ?_
  refine g_bipush (v := 13) dX0_costOfOpen_1 (by decide) ?_
  refine g_callV (M' := mX0_begin) dX0_costOfOpen_3 lc_X0_begin ml_X0_42 (c_begin hg hw 13) rfl rfl (by repeat' (first | assumption | exact rF_eq | refine rF_ne (by decide) ?_ | refine rF_a ?_ | exact rA_eq | refine rA_ne (by decide) ?_ | refine rA_f ?_)) rfl ⟨Nat.le_of_ble_eq_true rfl, Nat.le_of_ble_eq_true rfl, Nat.le_of_ble_eq_true rfl, Nat.le_of_ble_eq_true rfl⟩ (Nat.le_of_ble_eq_true rfl) ?_
  intro r_ h_ q_; obtain ⟨q1_, q2_⟩ := q_; have q2_ := q2_.symm; subst q1_; subst q2_
  refine g_iconst (v := 0) dX0_costOfOpen_6 (by decide) ?_
  refine g_iret dX0_costOfOpen_7 rfl (rfl) (hQ _ _ ?_)
  exact ⟨rfl, rfl⟩
theorem c_markOfShort {w : RS} {T : TS} {h : HH} (hg : GRX w h) (hw : w.1 ≤ 16) (hs : TX' h T) {t : Nat} (ht : t < 10) : CT mX0_markOfShort 2 0 0 [.ref 34, .int (nI t)] h (fun r h' => r = some (.int (T.2.2.2.2.1 t + 100)) ∧ h' = AX h (bg (bg w 21) 20)) := by
  obtain ⟨e1, e2, e3, e4, e5⟩ := id hg
  refine CT.go [.ref 34, .int (nI t)] (by decide +kernel) rfl rfl (fun Q' hQ => ?_)
  refine g_aload_n (i := 0) dX0_markOfShort_0 rfl rfl ?_
  refine g_bipush (v := 21) dX0_markOfShort_1 (by decide) ?_
  refine g_callV (M' := mX0_begin) dX0_markOfShort_3 lc_X0_begin ml_X0_42 (c_begin hg hw 21) rfl rfl (by repeat' (first | assumption | exact rF_eq | refine rF_ne (by decide) ?_ | refine rF_a ?_ | exact rA_eq | refine rA_ne (by decide) ?_ | refine rA_f ?_)) rfl ⟨Nat.le_of_ble_eq_true rfl, Nat.le_of_ble_eq_true rfl, Nat.le_of_ble_eq_true rfl, Nat.le_of_ble_eq_true rfl⟩ (Nat.le_of_ble_eq_true rfl) ?_
  intro r_ h_ q_; obtain ⟨q1_, q2_⟩ := q_; have q2_ := q2_.symm; subst q1_; subst q2_
  refine g_aload_n (i := 0) dX0_markOfShort_6 rfl rfl ?_
  refine g_iload_n (i := 1) dX0_markOfShort_7 rfl rfl ?_
  refine g_callV (M' := mX0_lentMark) dX0_markOfShort_8 lc_X0_lentMark ml_X0_58 (c_lentMark (grx_AX hg _) (bg_le hw _) (tsx_AX hs _) ht) rfl rfl (by repeat' (first | assumption | exact rF_eq | refine rF_ne (by decide) ?_ | refine rF_a ?_ | exact rA_eq | refine rA_ne (by decide) ?_ | refine rA_f ?_)) rfl ⟨Nat.le_of_ble_eq_true rfl, Nat.le_of_ble_eq_true rfl, Nat.le_of_ble_eq_true rfl, Nat.le_of_ble_eq_true rfl⟩ (Nat.le_of_ble_eq_true rfl) ?_
  intro r_ h_ q_; obtain ⟨q1_, q2_⟩ := q_; have q2_ := q2_.symm; subst q1_; subst q2_
  refine g_bipush (v := 100) dX0_markOfShort_11 (by decide) ?_
  refine g_iadd dX0_markOfShort_13 ?_
  refine g_iret dX0_markOfShort_14 rfl (rfl) (hQ _ _ ?_)
  rw [AX_AX]; exact ⟨rfl, rfl⟩
theorem c_markOfOpen {w : RS} {T : TS} {h : HH} (hg : GRX w h) (hw : w.1 ≤ 16) (hs : TX' h T) {t : Nat} (ht : t < 10) : CT mX0_markOfOpen 2 0 0 [.ref 34, .int (nI t)] h (fun r h' => r = some (.int (T.2.2.2.2.1 t + 0 + 1)) ∧ h' = AX h (bg (bg (bg w 22) 20) 13)) := by
  obtain ⟨e1, e2, e3, e4, e5⟩ := id hg
  refine CT.go [.ref 34, .int (nI t)] (by decide +kernel) rfl rfl (fun Q' hQ => ?_)
  refine g_aload_n (i := 0) dX0_markOfOpen_0 rfl rfl ?_
  refine g_bipush (v := 22) dX0_markOfOpen_1 (by decide) ?_
  refine g_callV (M' := mX0_begin) dX0_markOfOpen_3 lc_X0_begin ml_X0_42 (c_begin hg hw 22) rfl rfl (by repeat' (first | assumption | exact rF_eq | refine rF_ne (by decide) ?_ | refine rF_a ?_ | exact rA_eq | refine rA_ne (by decide) ?_ | refine rA_f ?_)) rfl ⟨Nat.le_of_ble_eq_true rfl, Nat.le_of_ble_eq_true rfl, Nat.le_of_ble_eq_true rfl, Nat.le_of_ble_eq_true rfl⟩ (Nat.le_of_ble_eq_true rfl) ?_
  intro r_ h_ q_; obtain ⟨q1_, q2_⟩ := q_; have q2_ := q2_.symm; subst q1_; subst q2_
  refine g_aload_n (i := 0) dX0_markOfOpen_6 rfl rfl ?_
  refine g_iload_n (i := 1) dX0_markOfOpen_7 rfl rfl ?_
  refine g_callV (M' := mX0_lentMark) dX0_markOfOpen_8 lc_X0_lentMark ml_X0_58 (c_lentMark (grx_AX hg _) (bg_le hw _) (tsx_AX hs _) ht) rfl rfl (by repeat' (first | assumption | exact rF_eq | refine rF_ne (by decide) ?_ | refine rF_a ?_ | exact rA_eq | refine rA_ne (by decide) ?_ | refine rA_f ?_)) rfl ⟨Nat.le_of_ble_eq_true rfl, Nat.le_of_ble_eq_true rfl, Nat.le_of_ble_eq_true rfl, Nat.le_of_ble_eq_true rfl⟩ (Nat.le_of_ble_eq_true rfl) ?_
  intro r_ h_ q_; obtain ⟨q1_, q2_⟩ := q_; have q2_ := q2_.symm; subst q1_; subst q2_
  rw [AX_AX]
  refine g_aload_n (i := 0) dX0_markOfOpen_11 rfl rfl ?_
  refine g_callV (M' := mX0_costOfOpen) dX0_markOfOpen_12 lc_X0_costOfOpen ml_X0_35 (c_costOfOpen (grx_AX hg _) (bg_le (bg_le hw _) _)) rfl rfl (by repeat' (first | assumption | exact rF_eq | refine rF_ne (by decide) ?_ | refine rF_a ?_ | exact rA_eq | refine rA_ne (by decide) ?_ | refine rA_f ?_)) rfl ⟨Nat.le_of_ble_eq_true rfl, Nat.le_of_ble_eq_true rfl, Nat.le_of_ble_eq_true rfl, Nat.le_of_ble_eq_true rfl⟩ (Nat.le_of_ble_eq_true rfl) ?_
  intro r_ h_ q_; obtain ⟨q1_, q2_⟩ := q_; have q2_ := q2_.symm; subst q1_; subst q2_
  refine g_iadd dX0_markOfOpen_15 ?_
  refine g_iconst (v := 1) dX0_markOfOpen_16 (by decide) ?_
  refine g_iadd dX0_markOfOpen_17 ?_
  refine g_iret dX0_markOfOpen_18 rfl (rfl) (hQ _ _ ?_)
  rw [AX_AX]; exact ⟨rfl, rfl⟩
theorem c_markOf {w : RS} {T : TS} {h : HH} (hg : GRX w h) (hw : w.1 ≤ 16) (hs : TX' h T) {t : Nat} (ht : t < 10) : CT mX0_markOf 3 0 0 [.ref 34, .int (nI t)] h (fun r h' => r = some (.int (mkV T t)) ∧ h' = AX h (mkT T t w)) := by
  obtain ⟨e1, e2, e3, e4, e5⟩ := id hg
  have d1 := hs.1
  refine CT.go [.ref 34, .int (nI t)] (by decide +kernel) rfl rfl (fun Q' hQ => ?_)
  unfold mkV mkT at hQ
  refine g_aload_n (i := 0) dX0_markOf_0 rfl rfl ?_
  refine g_get dX0_markOf_1 fl_X0_19 (by repeat' (first | assumption | exact rF_eq | refine rF_ne (by decide) ?_ | refine rF_a ?_ | exact rA_eq | refine rA_ne (by decide) ?_ | refine rA_f ?_)) (by repeat' (first | assumption | exact rF_eq | refine rF_ne (by decide) ?_ | refine rF_a ?_ | exact rA_eq | refine rA_ne (by decide) ?_ | refine rA_f ?_)) ?_
  refine g_iload_n (i := 1) dX0_markOf_4 rfl rfl ?_
  refine g_callV (M' := mX5_kindOf) dX0_markOf_5 lc_X5_kindOf ml_X0_23 (c_kindOf hs ht) rfl rfl (by repeat' (first | assumption | exact rF_eq | refine rF_ne (by decide) ?_ | refine rF_a ?_ | exact rA_eq | refine rA_ne (by decide) ?_ | refine rA_f ?_)) rfl ⟨Nat.le_of_ble_eq_true rfl, Nat.le_of_ble_eq_true rfl, Nat.le_of_ble_eq_true rfl, Nat.le_of_ble_eq_true rfl⟩ (Nat.le_of_ble_eq_true rfl) ?_
  intro r_ h_ q_; obtain ⟨q1_, q2_⟩ := q_; have q2_ := q2_.symm; subst q1_; subst q2_
  rcases kindv_cases T t with q9 | q9 | q9 | q9
  · rw [q9] at hQ ⊢
    refine g_tabOut (tgt := 48) dX0_markOf_8 (Or.inl (by decide)) (by decide) ?_
    refine g_aload_n (i := 0) dX0_markOf_48 rfl rfl ?_
    refine g_iload_n (i := 1) dX0_markOf_49 rfl rfl ?_
    refine g_callV (M' := mX0_lentMark) dX0_markOf_50 lc_X0_lentMark ml_X0_58 (c_lentMark hg hw hs ht) rfl rfl (by repeat' (first | assumption | exact rF_eq | refine rF_ne (by decide) ?_ | refine rF_a ?_ | exact rA_eq | refine rA_ne (by decide) ?_ | refine rA_f ?_)) rfl ⟨Nat.le_of_ble_eq_true rfl, Nat.le_of_ble_eq_true rfl, Nat.le_of_ble_eq_true rfl, Nat.le_of_ble_eq_true rfl⟩ (Nat.le_of_ble_eq_true rfl) ?_
    intro r_ h_ q_; obtain ⟨q1_, q2_⟩ := q_; have q2_ := q2_.symm; subst q1_; subst q2_
    refine g_iret dX0_markOf_53 rfl (rfl) (hQ _ _ ?_)
    exact ⟨rfl, rfl⟩
  · rw [q9] at hQ ⊢
    refine g_tabIn (tgt := 36) dX0_markOf_8 (by decide) (by decide) (off := 28) (by decide) (by decide) ?_
    refine g_aload_n (i := 0) dX0_markOf_36 rfl rfl ?_
    refine g_iload_n (i := 1) dX0_markOf_37 rfl rfl ?_
    refine g_callV (M' := mX0_markOfShort) dX0_markOf_38 lc_X0_markOfShort ml_X0_52 (c_markOfShort hg hw hs ht) rfl rfl (by repeat' (first | assumption | exact rF_eq | refine rF_ne (by decide) ?_ | refine rF_a ?_ | exact rA_eq | refine rA_ne (by decide) ?_ | refine rA_f ?_)) rfl ⟨Nat.le_of_ble_eq_true rfl, Nat.le_of_ble_eq_true rfl, Nat.le_of_ble_eq_true rfl, Nat.le_of_ble_eq_true rfl⟩ (Nat.le_of_ble_eq_true rfl) ?_
    intro r_ h_ q_; obtain ⟨q1_, q2_⟩ := q_; have q2_ := q2_.symm; subst q1_; subst q2_
    refine g_iret dX0_markOf_41 rfl (rfl) (hQ _ _ ?_)
    exact ⟨rfl, rfl⟩
  · rw [q9] at hQ ⊢
    refine g_tabIn (tgt := 36) dX0_markOf_8 (by decide) (by decide) (off := 28) (by decide) (by decide) ?_
    refine g_aload_n (i := 0) dX0_markOf_36 rfl rfl ?_
    refine g_iload_n (i := 1) dX0_markOf_37 rfl rfl ?_
    refine g_callV (M' := mX0_markOfShort) dX0_markOf_38 lc_X0_markOfShort ml_X0_52 (c_markOfShort hg hw hs ht) rfl rfl (by repeat' (first | assumption | exact rF_eq | refine rF_ne (by decide) ?_ | refine rF_a ?_ | exact rA_eq | refine rA_ne (by decide) ?_ | refine rA_f ?_)) rfl ⟨Nat.le_of_ble_eq_true rfl, Nat.le_of_ble_eq_true rfl, Nat.le_of_ble_eq_true rfl, Nat.le_of_ble_eq_true rfl⟩ (Nat.le_of_ble_eq_true rfl) ?_
    intro r_ h_ q_; obtain ⟨q1_, q2_⟩ := q_; have q2_ := q2_.symm; subst q1_; subst q2_
    refine g_iret dX0_markOf_41 rfl (rfl) (hQ _ _ ?_)
    exact ⟨rfl, rfl⟩
  · rw [q9] at hQ ⊢
    refine g_tabIn (tgt := 42) dX0_markOf_8 (by decide) (by decide) (off := 34) (by decide) (by decide) ?_
    refine g_aload_n (i := 0) dX0_markOf_42 rfl rfl ?_
    refine g_iload_n (i := 1) dX0_markOf_43 rfl rfl ?_
    refine g_callV (M' := mX0_markOfOpen) dX0_markOf_44 lc_X0_markOfOpen ml_X0_55 (c_markOfOpen hg hw hs ht) rfl rfl (by repeat' (first | assumption | exact rF_eq | refine rF_ne (by decide) ?_ | refine rF_a ?_ | exact rA_eq | refine rA_ne (by decide) ?_ | refine rA_f ?_)) rfl ⟨Nat.le_of_ble_eq_true rfl, Nat.le_of_ble_eq_true rfl, Nat.le_of_ble_eq_true rfl, Nat.le_of_ble_eq_true rfl⟩ (Nat.le_of_ble_eq_true rfl) ?_
    intro r_ h_ q_; obtain ⟨q1_, q2_⟩ := q_; have q2_ := q2_.symm; subst q1_; subst q2_
    refine g_iret dX0_markOf_47 rfl (rfl) (hQ _ _ ?_)
    exact ⟨rfl, rfl⟩
theorem c_costOfPoint {w : RS} {T : TS} {h : HH} (hg : GRX w h) (hw : w.1 ≤ 16) (hs : TX' h T) {t : Nat} (ht : t < 10) (hk : kindv T t = 2) : CT mX0_costOfPoint 4 0 0 [.ref 34, .int (nI t)] h (fun r h' => r = some (.int (2 * T.2.2.2.1 t + (T.2.2.2.2.1 t + 100))) ∧ h' = AX h (bg (bg (bg (bg (bg w 12) 11) 10) 21) 20)) := by
  obtain ⟨e1, e2, e3, e4, e5⟩ := id hg
  have z1 : mkV T t = T.2.2.2.2.1 t + 100 := by unfold mkV; rw [hk]; exact if_pos (Or.inr rfl)
  have z2 : ∀ v, mkT T t v = bg (bg v 21) 20 := fun v => by unfold mkT; rw [hk]; exact if_pos (Or.inr rfl)
  refine CT.go [.ref 34, .int (nI t)] (by decide +kernel) rfl rfl (fun Q' hQ => ?_)
  refine g_aload_n (i := 0) dX0_costOfPoint_0 rfl rfl ?_
  refine g_bipush (v := 12) dX0_costOfPoint_1 (by decide) ?_
  refine g_callV (M' := mX0_begin) dX0_costOfPoint_3 lc_X0_begin ml_X0_42 (c_begin hg hw 12) rfl rfl (by repeat' (first | assumption | exact rF_eq | refine rF_ne (by decide) ?_ | refine rF_a ?_ | exact rA_eq | refine rA_ne (by decide) ?_ | refine rA_f ?_)) rfl ⟨Nat.le_of_ble_eq_true rfl, Nat.le_of_ble_eq_true rfl, Nat.le_of_ble_eq_true rfl, Nat.le_of_ble_eq_true rfl⟩ (Nat.le_of_ble_eq_true rfl) ?_
  intro r_ h_ q_; obtain ⟨q1_, q2_⟩ := q_; have q2_ := q2_.symm; subst q1_; subst q2_
  refine g_aload_n (i := 0) dX0_costOfPoint_6 rfl rfl ?_
  refine g_iload_n (i := 1) dX0_costOfPoint_7 rfl rfl ?_
  refine g_callV (M' := mX0_costOfShort) dX0_costOfPoint_8 lc_X0_costOfShort ml_X0_29 (c_costOfShort (grx_AX hg _) (bg_le hw _) (tsx_AX hs _) ht) rfl rfl (by repeat' (first | assumption | exact rF_eq | refine rF_ne (by decide) ?_ | refine rF_a ?_ | exact rA_eq | refine rA_ne (by decide) ?_ | refine rA_f ?_)) rfl ⟨Nat.le_of_ble_eq_true rfl, Nat.le_of_ble_eq_true rfl, Nat.le_of_ble_eq_true rfl, Nat.le_of_ble_eq_true rfl⟩ (Nat.le_of_ble_eq_true rfl) ?_
  intro r_ h_ q_; obtain ⟨q1_, q2_⟩ := q_; have q2_ := q2_.symm; subst q1_; subst q2_
  rw [AX_AX]
  refine g_aload_n (i := 0) dX0_costOfPoint_11 rfl rfl ?_
  refine g_iload_n (i := 1) dX0_costOfPoint_12 rfl rfl ?_
  refine g_callV (M' := mX0_markOf) dX0_costOfPoint_13 lc_X0_markOf ml_X0_49 (c_markOf (grx_AX hg _) (bg_le (bg_le (bg_le hw _) _) _) (tsx_AX hs _) ht) rfl rfl (by repeat' (first | assumption | exact rF_eq | refine rF_ne (by decide) ?_ | refine rF_a ?_ | exact rA_eq | refine rA_ne (by decide) ?_ | refine rA_f ?_)) rfl ⟨Nat.le_of_ble_eq_true rfl, Nat.le_of_ble_eq_true rfl, Nat.le_of_ble_eq_true rfl, Nat.le_of_ble_eq_true rfl⟩ (Nat.le_of_ble_eq_true rfl) ?_
  intro r_ h_ q_; obtain ⟨q1_, q2_⟩ := q_; have q2_ := q2_.symm; subst q1_; subst q2_
  refine g_iadd dX0_costOfPoint_16 ?_
  refine g_iret dX0_costOfPoint_17 rfl (rfl) (hQ _ _ ?_)
  rw [AX_AX, z1, z2]; exact ⟨rfl, rfl⟩
theorem c_costOf {w : RS} {T : TS} {h : HH} (hg : GRX w h) (hw : w.1 ≤ 16) (hs : TX' h T) {t : Nat} (ht : t < 10) : CT mX0_costOf 5 0 0 [.ref 34, .int (nI t)] h (fun r h' => r = some (.int (csV T t)) ∧ h' = AX h (csT T t w)) := by
  obtain ⟨e1, e2, e3, e4, e5⟩ := id hg
  have d1 := hs.1
  refine CT.go [.ref 34, .int (nI t)] (by decide +kernel) rfl rfl (fun Q' hQ => ?_)
  unfold csV csT at hQ
  refine g_aload_n (i := 0) dX0_costOf_0 rfl rfl ?_
  refine g_get dX0_costOf_1 fl_X0_19 (by repeat' (first | assumption | exact rF_eq | refine rF_ne (by decide) ?_ | refine rF_a ?_ | exact rA_eq | refine rA_ne (by decide) ?_ | refine rA_f ?_)) (by repeat' (first | assumption | exact rF_eq | refine rF_ne (by decide) ?_ | refine rF_a ?_ | exact rA_eq | refine rA_ne (by decide) ?_ | refine rA_f ?_)) ?_
  refine g_iload_n (i := 1) dX0_costOf_4 rfl rfl ?_
  refine g_callV (M' := mX5_kindOf) dX0_costOf_5 lc_X5_kindOf ml_X0_23 (c_kindOf hs ht) rfl rfl (by repeat' (first | assumption | exact rF_eq | refine rF_ne (by decide) ?_ | refine rF_a ?_ | exact rA_eq | refine rA_ne (by decide) ?_ | refine rA_f ?_)) rfl ⟨Nat.le_of_ble_eq_true rfl, Nat.le_of_ble_eq_true rfl, Nat.le_of_ble_eq_true rfl, Nat.le_of_ble_eq_true rfl⟩ (Nat.le_of_ble_eq_true rfl) ?_
  intro r_ h_ q_; obtain ⟨q1_, q2_⟩ := q_; have q2_ := q2_.symm; subst q1_; subst q2_
  rcases kindv_cases T t with q9 | q9 | q9 | q9
  · rw [q9] at hQ ⊢
    refine g_tabOut (tgt := 53) dX0_costOf_8 (Or.inl (by decide)) (by decide) ?_
    refine g_aload_n (i := 0) dX0_costOf_53 rfl rfl ?_
    refine g_iload_n (i := 1) dX0_costOf_54 rfl rfl ?_
    refine g_callV (M' := mX0_lentCost) dX0_costOf_55 lc_X0_lentCost ml_X0_39 (c_lentCost hg hw hs ht) rfl rfl (by repeat' (first | assumption | exact rF_eq | refine rF_ne (by decide) ?_ | refine rF_a ?_ | exact rA_eq | refine rA_ne (by decide) ?_ | refine rA_f ?_)) rfl ⟨Nat.le_of_ble_eq_true rfl, Nat.le_of_ble_eq_true rfl, Nat.le_of_ble_eq_true rfl, Nat.le_of_ble_eq_true rfl⟩ (Nat.le_of_ble_eq_true rfl) ?_
    intro r_ h_ q_; obtain ⟨q1_, q2_⟩ := q_; have q2_ := q2_.symm; subst q1_; subst q2_
    refine g_iret dX0_costOf_58 rfl (rfl) (hQ _ _ ?_)
    exact ⟨rfl, rfl⟩
  · rw [q9] at hQ ⊢
    refine g_tabIn (tgt := 36) dX0_costOf_8 (by decide) (by decide) (off := 28) (by decide) (by decide) ?_
    refine g_aload_n (i := 0) dX0_costOf_36 rfl rfl ?_
    refine g_iload_n (i := 1) dX0_costOf_37 rfl rfl ?_
    refine g_callV (M' := mX0_costOfShort) dX0_costOf_38 lc_X0_costOfShort ml_X0_29 (c_costOfShort hg hw hs ht) rfl rfl (by repeat' (first | assumption | exact rF_eq | refine rF_ne (by decide) ?_ | refine rF_a ?_ | exact rA_eq | refine rA_ne (by decide) ?_ | refine rA_f ?_)) rfl ⟨Nat.le_of_ble_eq_true rfl, Nat.le_of_ble_eq_true rfl, Nat.le_of_ble_eq_true rfl, Nat.le_of_ble_eq_true rfl⟩ (Nat.le_of_ble_eq_true rfl) ?_
    intro r_ h_ q_; obtain ⟨q1_, q2_⟩ := q_; have q2_ := q2_.symm; subst q1_; subst q2_
    refine g_iret dX0_costOf_41 rfl (rfl) (hQ _ _ ?_)
    exact ⟨rfl, rfl⟩
  · rw [q9] at hQ ⊢
    refine g_tabIn (tgt := 42) dX0_costOf_8 (by decide) (by decide) (off := 34) (by decide) (by decide) ?_
    refine g_aload_n (i := 0) dX0_costOf_42 rfl rfl ?_
    refine g_iload_n (i := 1) dX0_costOf_43 rfl rfl ?_
    refine g_callV (M' := mX0_costOfPoint) dX0_costOf_44 lc_X0_costOfPoint ml_X0_32 (c_costOfPoint hg hw hs ht q9) rfl rfl (by repeat' (first | assumption | exact rF_eq | refine rF_ne (by decide) ?_ | refine rF_a ?_ | exact rA_eq | refine rA_ne (by decide) ?_ | refine rA_f ?_)) rfl ⟨Nat.le_of_ble_eq_true rfl, Nat.le_of_ble_eq_true rfl, Nat.le_of_ble_eq_true rfl, Nat.le_of_ble_eq_true rfl⟩ (Nat.le_of_ble_eq_true rfl) ?_
    intro r_ h_ q_; obtain ⟨q1_, q2_⟩ := q_; have q2_ := q2_.symm; subst q1_; subst q2_
    refine g_iret dX0_costOf_47 rfl (rfl) (hQ _ _ ?_)
    exact ⟨rfl, rfl⟩
  · rw [q9] at hQ ⊢
    refine g_tabIn (tgt := 48) dX0_costOf_8 (by decide) (by decide) (off := 40) (by decide) (by decide) ?_
    refine g_aload_n (i := 0) dX0_costOf_48 rfl rfl ?_
    refine g_callV (M' := mX0_costOfOpen) dX0_costOf_49 lc_X0_costOfOpen ml_X0_35 (c_costOfOpen hg hw) rfl rfl (by repeat' (first | assumption | exact rF_eq | refine rF_ne (by decide) ?_ | refine rF_a ?_ | exact rA_eq | refine rA_ne (by decide) ?_ | refine rA_f ?_)) rfl ⟨Nat.le_of_ble_eq_true rfl, Nat.le_of_ble_eq_true rfl, Nat.le_of_ble_eq_true rfl, Nat.le_of_ble_eq_true rfl⟩ (Nat.le_of_ble_eq_true rfl) ?_
    intro r_ h_ q_; obtain ⟨q1_, q2_⟩ := q_; have q2_ := q2_.symm; subst q1_; subst q2_
    refine g_iret dX0_costOf_52 rfl (rfl) (hQ _ _ ?_)
    exact ⟨rfl, rfl⟩
def opAsk (T : TS) (w : RS) (t a : Int32) : Int32 × RS :=
  if ¬ (0 ≤ t.toInt ∧ t.toInt < T.1) ∨ ¬ (a.toInt = 0 ∨ a.toInt = 1) then (-1000001, w)
  else if a.toInt = 0 then (csV T t.toInt.toNat, csT T t.toInt.toNat (0, w.2))
  else (mkV T t.toInt.toNat, mkT T t.toInt.toNat (0, w.2))
theorem x_ask {w : RS} {T : TS} (hT : T.1 ≤ 10) (hw : w.1 ≤ 16) {h : HH} (hg : GRX w h) (hs : GTX T h) (h8 : gF h 0 8 = .ref 34) (t a : Int32) : CT mX7_ask 6 0 0 [.ref 0, .int t, .int a] h (fun r h' => r = some (.int (opAsk T w t a).1) ∧ GRX (opAsk T w t a).2 h' ∧ Fr [35] [(34, 2)] h h') := by
  obtain ⟨e1, e2, e3, e4, e5⟩ := id hg
  obtain ⟨⟨h0, h1⟩, hs0⟩ := hs
  have d1 := hs0.1
  have d2 := hs0.2.1
  refine CT.go [.ref 0, .int t, .int a] (by decide +kernel) rfl rfl (fun Q' hQ => ?_)
  refine g_iload_n (i := 1) dX7_ask_0 rfl rfl ?_
  refine g_aload_n (i := 0) dX7_ask_1 rfl rfl ?_
  refine g_get dX7_ask_2 fl_X7_47 (by repeat' (first | assumption | exact rF_eq | refine rF_ne (by decide) ?_ | refine rF_a ?_ | exact rA_eq | refine rA_ne (by decide) ?_ | refine rA_f ?_)) (by repeat' (first | assumption | exact rF_eq | refine rF_ne (by decide) ?_ | refine rF_a ?_ | exact rA_eq | refine rA_ne (by decide) ?_ | refine rA_f ?_)) ?_
  refine g_get dX7_ask_5 fl_X7_194 (by repeat' (first | assumption | exact rF_eq | refine rF_ne (by decide) ?_ | refine rF_a ?_ | exact rA_eq | refine rA_ne (by decide) ?_ | refine rA_f ?_)) (by repeat' (first | assumption | exact rF_eq | refine rF_ne (by decide) ?_ | refine rF_a ?_ | exact rA_eq | refine rA_ne (by decide) ?_ | refine rA_f ?_)) ?_
  refine g_callS (M' := mX7_isWithin) dX7_ask_8 lc_X7_isWithin ml_X7_90 (c_isWithin h t (nI T.1) T.1 (nT (by omega))) rfl rfl ⟨Nat.le_of_ble_eq_true rfl, Nat.le_of_ble_eq_true rfl, Nat.le_of_ble_eq_true rfl, Nat.le_of_ble_eq_true rfl⟩ (Nat.le_of_ble_eq_true rfl) ?_
  intro r_ h_ q_; obtain ⟨q1_, q2_⟩ := q_; have q2_ := q2_.symm; subst q1_; subst q2_
  refine g_if_eq (tgt := 23) dX7_ask_11 (by decide) (fun hc11 => ?_) (fun hc11 => ?_)
  · replace hc11 := bI_0.mp hc11
    (try simp (disch := omega) only [nT, t_m1000100, t_m1000010, t_m1000003, t_m1000002, t_m1000001, t_m1000000, t_m65535, t_m1000, t_m3, t_m1, t_0, t_1, t_2, t_3, t_4, t_5, t_6, t_7, t_8, t_9, t_10, t_11, t_12, t_13, t_15, t_16, t_20, t_21, t_22, t_32, t_40, t_41, t_48, t_49, t_57, t_59, t_60, t_63, t_72, t_76, t_88, t_100, t_144, t_200, t_255, t_288, t_400, t_800, t_999, t_1000, t_1024, t_1200, t_1600, t_3200, t_100000, t_200000, t_252645135, t_858993459, t_1431655765, u_m1000002, u_m1000001, u_m1000, u_m3, u_m1, u_0, u_1, u_2, u_3, u_4, u_5, u_7, u_8, u_10, u_11, u_15, u_60, u_100, u_255, u_999, u_1000, u_100000, u_4294967295] at hc11)
    refine g_ldc dX7_ask_23 kc_X7_94 ?_
    refine g_iret dX7_ask_25 rfl (rfl) (hQ _ _ ?_)
    have e : opAsk T w t a = _ := if_pos (by omega)
    rw [e]; exact ⟨rfl, hg, fr_rf⟩
  · replace hc11 := bI_n0.mp hc11
    (try simp (disch := omega) only [nT, t_m1000100, t_m1000010, t_m1000003, t_m1000002, t_m1000001, t_m1000000, t_m65535, t_m1000, t_m3, t_m1, t_0, t_1, t_2, t_3, t_4, t_5, t_6, t_7, t_8, t_9, t_10, t_11, t_12, t_13, t_15, t_16, t_20, t_21, t_22, t_32, t_40, t_41, t_48, t_49, t_57, t_59, t_60, t_63, t_72, t_76, t_88, t_100, t_144, t_200, t_255, t_288, t_400, t_800, t_999, t_1000, t_1024, t_1200, t_1600, t_3200, t_100000, t_200000, t_252645135, t_858993459, t_1431655765, u_m1000002, u_m1000001, u_m1000, u_m3, u_m1, u_0, u_1, u_2, u_3, u_4, u_5, u_7, u_8, u_10, u_11, u_15, u_60, u_100, u_255, u_999, u_1000, u_100000, u_4294967295] at hc11)
    refine g_iload_n (i := 2) dX7_ask_14 rfl rfl ?_
    refine g_if_eq (tgt := 26) dX7_ask_15 (by decide) (fun hc15 => ?_) (fun hc15 => ?_)
    · have hd15 := i_eq.mp hc15; (try simp (disch := omega) only [nT, t_m1000100, t_m1000010, t_m1000003, t_m1000002, t_m1000001, t_m1000000, t_m65535, t_m1000, t_m3, t_m1, t_0, t_1, t_2, t_3, t_4, t_5, t_6, t_7, t_8, t_9, t_10, t_11, t_12, t_13, t_15, t_16, t_20, t_21, t_22, t_32, t_40, t_41, t_48, t_49, t_57, t_59, t_60, t_63, t_72, t_76, t_88, t_100, t_144, t_200, t_255, t_288, t_400, t_800, t_999, t_1000, t_1024, t_1200, t_1600, t_3200, t_100000, t_200000, t_252645135, t_858993459, t_1431655765, u_m1000002, u_m1000001, u_m1000, u_m3, u_m1, u_0, u_1, u_2, u_3, u_4, u_5, u_7, u_8, u_10, u_11, u_15, u_60, u_100, u_255, u_999, u_1000, u_100000, u_4294967295] at hd15)
      have e : opAsk T w t a = _ := if_neg (by omega)
      obtain ⟨b, hb, rfl, htb⟩ := n_of (n := T.1) (x := t) (by omega) (by omega)
      rw [nTN (by omega)] at e
      have hg1 : GRX (0, w.2) (sF h 34 2 (.int 0)) := ⟨e1, e2, e3, rfl, e5⟩
      have hs1 : TX' (sF h 34 2 (.int 0)) T := hs0
      refine g_aload_n (i := 0) dX7_ask_26 rfl rfl ?_
      refine g_get dX7_ask_27 fl_X7_56 (by repeat' (first | assumption | exact rF_eq | refine rF_ne (by decide) ?_ | refine rF_a ?_ | exact rA_eq | refine rA_ne (by decide) ?_ | refine rA_f ?_)) (by repeat' (first | assumption | exact rF_eq | refine rF_ne (by decide) ?_ | refine rF_a ?_ | exact rA_eq | refine rA_ne (by decide) ?_ | refine rA_f ?_)) ?_
      refine g_iconst (v := 0) dX7_ask_30 (by decide) ?_
      refine g_put dX7_ask_31 pl_X7_219 (by repeat' (first | assumption | exact rF_eq | refine rF_ne (by decide) ?_ | refine rF_a ?_ | exact rA_eq | refine rA_ne (by decide) ?_ | refine rA_f ?_)) (fun _ => ⟨rfl, rfl⟩) ?_
      refine g_iload_n (i := 2) dX7_ask_34 rfl rfl ?_
      refine g_if_ne (tgt := 49) dX7_ask_35 (by decide) (fun hc35 => ?_) (fun hc35 => ?_)
      · have hd35 := mt i_eq.mpr hc35; (try simp (disch := omega) only [nT, t_m1000100, t_m1000010, t_m1000003, t_m1000002, t_m1000001, t_m1000000, t_m65535, t_m1000, t_m3, t_m1, t_0, t_1, t_2, t_3, t_4, t_5, t_6, t_7, t_8, t_9, t_10, t_11, t_12, t_13, t_15, t_16, t_20, t_21, t_22, t_32, t_40, t_41, t_48, t_49, t_57, t_59, t_60, t_63, t_72, t_76, t_88, t_100, t_144, t_200, t_255, t_288, t_400, t_800, t_999, t_1000, t_1024, t_1200, t_1600, t_3200, t_100000, t_200000, t_252645135, t_858993459, t_1431655765, u_m1000002, u_m1000001, u_m1000, u_m3, u_m1, u_0, u_1, u_2, u_3, u_4, u_5, u_7, u_8, u_10, u_11, u_15, u_60, u_100, u_255, u_999, u_1000, u_100000, u_4294967295] at hd35)
        rw [if_neg (by omega)] at e
        refine g_aload_n (i := 0) dX7_ask_49 rfl rfl ?_
        refine g_get dX7_ask_50 fl_X7_56 (by repeat' (first | assumption | exact rF_eq | refine rF_ne (by decide) ?_ | refine rF_a ?_ | exact rA_eq | refine rA_ne (by decide) ?_ | refine rA_f ?_)) (by repeat' (first | assumption | exact rF_eq | refine rF_ne (by decide) ?_ | refine rF_a ?_ | exact rA_eq | refine rA_ne (by decide) ?_ | refine rA_f ?_)) ?_
        refine g_iload_n (i := 1) dX7_ask_53 rfl rfl ?_
        refine g_callV (M' := mX0_markOf) dX7_ask_54 lc_X0_markOf ml_X7_225 (c_markOf hg1 (Nat.zero_le _) hs1 (by omega)) rfl rfl (by repeat' (first | assumption | exact rF_eq | refine rF_ne (by decide) ?_ | refine rF_a ?_ | exact rA_eq | refine rA_ne (by decide) ?_ | refine rA_f ?_)) rfl ⟨Nat.le_of_ble_eq_true rfl, Nat.le_of_ble_eq_true rfl, Nat.le_of_ble_eq_true rfl, Nat.le_of_ble_eq_true rfl⟩ (Nat.le_of_ble_eq_true rfl) ?_
        intro r_ h_ q_; obtain ⟨q1_, q2_⟩ := q_; have q2_ := q2_.symm; subst q1_; subst q2_
        refine g_iret dX7_ask_57 rfl (rfl) (hQ _ _ ?_)
        rw [e]; exact ⟨rfl, grx_AX hg _, fr_sF (by decide) (fr_sA (by decide) (fr_sF (by decide) fr_rf))⟩
      · have hd35 := i_eq.mp hc35; (try simp (disch := omega) only [nT, t_m1000100, t_m1000010, t_m1000003, t_m1000002, t_m1000001, t_m1000000, t_m65535, t_m1000, t_m3, t_m1, t_0, t_1, t_2, t_3, t_4, t_5, t_6, t_7, t_8, t_9, t_10, t_11, t_12, t_13, t_15, t_16, t_20, t_21, t_22, t_32, t_40, t_41, t_48, t_49, t_57, t_59, t_60, t_63, t_72, t_76, t_88, t_100, t_144, t_200, t_255, t_288, t_400, t_800, t_999, t_1000, t_1024, t_1200, t_1600, t_3200, t_100000, t_200000, t_252645135, t_858993459, t_1431655765, u_m1000002, u_m1000001, u_m1000, u_m3, u_m1, u_0, u_1, u_2, u_3, u_4, u_5, u_7, u_8, u_10, u_11, u_15, u_60, u_100, u_255, u_999, u_1000, u_100000, u_4294967295] at hd35)
        rw [if_pos (by omega)] at e
        refine g_aload_n (i := 0) dX7_ask_38 rfl rfl ?_
        refine g_get dX7_ask_39 fl_X7_56 (by repeat' (first | assumption | exact rF_eq | refine rF_ne (by decide) ?_ | refine rF_a ?_ | exact rA_eq | refine rA_ne (by decide) ?_ | refine rA_f ?_)) (by repeat' (first | assumption | exact rF_eq | refine rF_ne (by decide) ?_ | refine rF_a ?_ | exact rA_eq | refine rA_ne (by decide) ?_ | refine rA_f ?_)) ?_
        refine g_iload_n (i := 1) dX7_ask_42 rfl rfl ?_
        refine g_callV (M' := mX0_costOf) dX7_ask_43 lc_X0_costOf ml_X7_222 (c_costOf hg1 (Nat.zero_le _) hs1 (by omega)) rfl rfl (by repeat' (first | assumption | exact rF_eq | refine rF_ne (by decide) ?_ | refine rF_a ?_ | exact rA_eq | refine rA_ne (by decide) ?_ | refine rA_f ?_)) rfl ⟨Nat.le_of_ble_eq_true rfl, Nat.le_of_ble_eq_true rfl, Nat.le_of_ble_eq_true rfl, Nat.le_of_ble_eq_true rfl⟩ (Nat.le_of_ble_eq_true rfl) ?_
        intro r_ h_ q_; obtain ⟨q1_, q2_⟩ := q_; have q2_ := q2_.symm; subst q1_; subst q2_
        refine g_goto (tgt := 57) dX7_ask_46 (by decide) ?_
        refine g_iret dX7_ask_57 rfl (rfl) (hQ _ _ ?_)
        rw [e]; exact ⟨rfl, grx_AX hg _, fr_sF (by decide) (fr_sA (by decide) (fr_sF (by decide) fr_rf))⟩
    · have hd15 := mt i_eq.mpr hc15; (try simp (disch := omega) only [nT, t_m1000100, t_m1000010, t_m1000003, t_m1000002, t_m1000001, t_m1000000, t_m65535, t_m1000, t_m3, t_m1, t_0, t_1, t_2, t_3, t_4, t_5, t_6, t_7, t_8, t_9, t_10, t_11, t_12, t_13, t_15, t_16, t_20, t_21, t_22, t_32, t_40, t_41, t_48, t_49, t_57, t_59, t_60, t_63, t_72, t_76, t_88, t_100, t_144, t_200, t_255, t_288, t_400, t_800, t_999, t_1000, t_1024, t_1200, t_1600, t_3200, t_100000, t_200000, t_252645135, t_858993459, t_1431655765, u_m1000002, u_m1000001, u_m1000, u_m3, u_m1, u_0, u_1, u_2, u_3, u_4, u_5, u_7, u_8, u_10, u_11, u_15, u_60, u_100, u_255, u_999, u_1000, u_100000, u_4294967295] at hd15)
      refine g_iload_n (i := 2) dX7_ask_18 rfl rfl ?_
      refine g_iconst (v := 1) dX7_ask_19 (by decide) ?_
      refine g_icmp_eq (tgt := 26) dX7_ask_20 (by decide) (fun hc20 => ?_) (fun hc20 => ?_)
      · have hd20 := i_eq.mp hc20; (try simp (disch := omega) only [nT, t_m1000100, t_m1000010, t_m1000003, t_m1000002, t_m1000001, t_m1000000, t_m65535, t_m1000, t_m3, t_m1, t_0, t_1, t_2, t_3, t_4, t_5, t_6, t_7, t_8, t_9, t_10, t_11, t_12, t_13, t_15, t_16, t_20, t_21, t_22, t_32, t_40, t_41, t_48, t_49, t_57, t_59, t_60, t_63, t_72, t_76, t_88, t_100, t_144, t_200, t_255, t_288, t_400, t_800, t_999, t_1000, t_1024, t_1200, t_1600, t_3200, t_100000, t_200000, t_252645135, t_858993459, t_1431655765, u_m1000002, u_m1000001, u_m1000, u_m3, u_m1, u_0, u_1, u_2, u_3, u_4, u_5, u_7, u_8, u_10, u_11, u_15, u_60, u_100, u_255, u_999, u_1000, u_100000, u_4294967295] at hd20)
        have e : opAsk T w t a = _ := if_neg (by omega)
        obtain ⟨b, hb, rfl, htb⟩ := n_of (n := T.1) (x := t) (by omega) (by omega)
        rw [nTN (by omega)] at e
        have hg1 : GRX (0, w.2) (sF h 34 2 (.int 0)) := ⟨e1, e2, e3, rfl, e5⟩
        have hs1 : TX' (sF h 34 2 (.int 0)) T := hs0
        refine g_aload_n (i := 0) dX7_ask_26 rfl rfl ?_
        refine g_get dX7_ask_27 fl_X7_56 (by repeat' (first | assumption | exact rF_eq | refine rF_ne (by decide) ?_ | refine rF_a ?_ | exact rA_eq | refine rA_ne (by decide) ?_ | refine rA_f ?_)) (by repeat' (first | assumption | exact rF_eq | refine rF_ne (by decide) ?_ | refine rF_a ?_ | exact rA_eq | refine rA_ne (by decide) ?_ | refine rA_f ?_)) ?_
        refine g_iconst (v := 0) dX7_ask_30 (by decide) ?_
        refine g_put dX7_ask_31 pl_X7_219 (by repeat' (first | assumption | exact rF_eq | refine rF_ne (by decide) ?_ | refine rF_a ?_ | exact rA_eq | refine rA_ne (by decide) ?_ | refine rA_f ?_)) (fun _ => ⟨rfl, rfl⟩) ?_
        refine g_iload_n (i := 2) dX7_ask_34 rfl rfl ?_
        refine g_if_ne (tgt := 49) dX7_ask_35 (by decide) (fun hc35 => ?_) (fun hc35 => ?_)
        · have hd35 := mt i_eq.mpr hc35; (try simp (disch := omega) only [nT, t_m1000100, t_m1000010, t_m1000003, t_m1000002, t_m1000001, t_m1000000, t_m65535, t_m1000, t_m3, t_m1, t_0, t_1, t_2, t_3, t_4, t_5, t_6, t_7, t_8, t_9, t_10, t_11, t_12, t_13, t_15, t_16, t_20, t_21, t_22, t_32, t_40, t_41, t_48, t_49, t_57, t_59, t_60, t_63, t_72, t_76, t_88, t_100, t_144, t_200, t_255, t_288, t_400, t_800, t_999, t_1000, t_1024, t_1200, t_1600, t_3200, t_100000, t_200000, t_252645135, t_858993459, t_1431655765, u_m1000002, u_m1000001, u_m1000, u_m3, u_m1, u_0, u_1, u_2, u_3, u_4, u_5, u_7, u_8, u_10, u_11, u_15, u_60, u_100, u_255, u_999, u_1000, u_100000, u_4294967295] at hd35)
          rw [if_neg (by omega)] at e
          refine g_aload_n (i := 0) dX7_ask_49 rfl rfl ?_
          refine g_get dX7_ask_50 fl_X7_56 (by repeat' (first | assumption | exact rF_eq | refine rF_ne (by decide) ?_ | refine rF_a ?_ | exact rA_eq | refine rA_ne (by decide) ?_ | refine rA_f ?_)) (by repeat' (first | assumption | exact rF_eq | refine rF_ne (by decide) ?_ | refine rF_a ?_ | exact rA_eq | refine rA_ne (by decide) ?_ | refine rA_f ?_)) ?_
          refine g_iload_n (i := 1) dX7_ask_53 rfl rfl ?_
          refine g_callV (M' := mX0_markOf) dX7_ask_54 lc_X0_markOf ml_X7_225 (c_markOf hg1 (Nat.zero_le _) hs1 (by omega)) rfl rfl (by repeat' (first | assumption | exact rF_eq | refine rF_ne (by decide) ?_ | refine rF_a ?_ | exact rA_eq | refine rA_ne (by decide) ?_ | refine rA_f ?_)) rfl ⟨Nat.le_of_ble_eq_true rfl, Nat.le_of_ble_eq_true rfl, Nat.le_of_ble_eq_true rfl, Nat.le_of_ble_eq_true rfl⟩ (Nat.le_of_ble_eq_true rfl) ?_
          intro r_ h_ q_; obtain ⟨q1_, q2_⟩ := q_; have q2_ := q2_.symm; subst q1_; subst q2_
          refine g_iret dX7_ask_57 rfl (rfl) (hQ _ _ ?_)
          rw [e]; exact ⟨rfl, grx_AX hg _, fr_sF (by decide) (fr_sA (by decide) (fr_sF (by decide) fr_rf))⟩
        · have hd35 := i_eq.mp hc35; (try simp (disch := omega) only [nT, t_m1000100, t_m1000010, t_m1000003, t_m1000002, t_m1000001, t_m1000000, t_m65535, t_m1000, t_m3, t_m1, t_0, t_1, t_2, t_3, t_4, t_5, t_6, t_7, t_8, t_9, t_10, t_11, t_12, t_13, t_15, t_16, t_20, t_21, t_22, t_32, t_40, t_41, t_48, t_49, t_57, t_59, t_60, t_63, t_72, t_76, t_88, t_100, t_144, t_200, t_255, t_288, t_400, t_800, t_999, t_1000, t_1024, t_1200, t_1600, t_3200, t_100000, t_200000, t_252645135, t_858993459, t_1431655765, u_m1000002, u_m1000001, u_m1000, u_m3, u_m1, u_0, u_1, u_2, u_3, u_4, u_5, u_7, u_8, u_10, u_11, u_15, u_60, u_100, u_255, u_999, u_1000, u_100000, u_4294967295] at hd35)
          rw [if_pos (by omega)] at e
          refine g_aload_n (i := 0) dX7_ask_38 rfl rfl ?_
          refine g_get dX7_ask_39 fl_X7_56 (by repeat' (first | assumption | exact rF_eq | refine rF_ne (by decide) ?_ | refine rF_a ?_ | exact rA_eq | refine rA_ne (by decide) ?_ | refine rA_f ?_)) (by repeat' (first | assumption | exact rF_eq | refine rF_ne (by decide) ?_ | refine rF_a ?_ | exact rA_eq | refine rA_ne (by decide) ?_ | refine rA_f ?_)) ?_
          refine g_iload_n (i := 1) dX7_ask_42 rfl rfl ?_
          refine g_callV (M' := mX0_costOf) dX7_ask_43 lc_X0_costOf ml_X7_222 (c_costOf hg1 (Nat.zero_le _) hs1 (by omega)) rfl rfl (by repeat' (first | assumption | exact rF_eq | refine rF_ne (by decide) ?_ | refine rF_a ?_ | exact rA_eq | refine rA_ne (by decide) ?_ | refine rA_f ?_)) rfl ⟨Nat.le_of_ble_eq_true rfl, Nat.le_of_ble_eq_true rfl, Nat.le_of_ble_eq_true rfl, Nat.le_of_ble_eq_true rfl⟩ (Nat.le_of_ble_eq_true rfl) ?_
          intro r_ h_ q_; obtain ⟨q1_, q2_⟩ := q_; have q2_ := q2_.symm; subst q1_; subst q2_
          refine g_goto (tgt := 57) dX7_ask_46 (by decide) ?_
          refine g_iret dX7_ask_57 rfl (rfl) (hQ _ _ ?_)
          rw [e]; exact ⟨rfl, grx_AX hg _, fr_sF (by decide) (fr_sA (by decide) (fr_sF (by decide) fr_rf))⟩
      · have hd20 := mt i_eq.mpr hc20; (try simp (disch := omega) only [nT, t_m1000100, t_m1000010, t_m1000003, t_m1000002, t_m1000001, t_m1000000, t_m65535, t_m1000, t_m3, t_m1, t_0, t_1, t_2, t_3, t_4, t_5, t_6, t_7, t_8, t_9, t_10, t_11, t_12, t_13, t_15, t_16, t_20, t_21, t_22, t_32, t_40, t_41, t_48, t_49, t_57, t_59, t_60, t_63, t_72, t_76, t_88, t_100, t_144, t_200, t_255, t_288, t_400, t_800, t_999, t_1000, t_1024, t_1200, t_1600, t_3200, t_100000, t_200000, t_252645135, t_858993459, t_1431655765, u_m1000002, u_m1000001, u_m1000, u_m3, u_m1, u_0, u_1, u_2, u_3, u_4, u_5, u_7, u_8, u_10, u_11, u_15, u_60, u_100, u_255, u_999, u_1000, u_100000, u_4294967295] at hd20)
        refine g_ldc dX7_ask_23 kc_X7_94 ?_
        refine g_iret dX7_ask_25 rfl (rfl) (hQ _ _ ?_)
        have e : opAsk T w t a = _ := if_pos (by omega)
        rw [e]; exact ⟨rfl, hg, fr_rf⟩
theorem c_mcost {w : RS} {T : TS} {h : HH} (hg : GRM w h) (hw : w.1 ≤ 16) (hs : TM' h T) {t : Nat} (ht : t < 10) : CT mX8_cost 1 0 0 [.ref 44, .int (nI t)] h (fun r h' => r = some (.int (csV T t)) ∧ h' = AM h (csT T t w)) := by
  obtain ⟨e1, e2, e3, e4⟩ := id hg
  obtain ⟨d1, d2, d3, d4, d5, d6, d7, d8, d9, d10, d11, d12, d13, d14⟩ := id hs
  refine CT.go [.ref 44, .int (nI t), hU, hU] (by decide +kernel) rfl rfl (fun Q' hQ => ?_)
  unfold csV csT at hQ
  refine g_aload_n (i := 0) dX8_cost_0 rfl rfl ?_
  refine g_iload_n (i := 1) dX8_cost_1 rfl rfl ?_
  refine g_callV (M' := mX8_kindOf) dX8_cost_2 lc_X8_kindOf ml_X8_207 (c_mkindOf hs ht) rfl rfl (by repeat' (first | assumption | exact rF_eq | refine rF_ne (by decide) ?_ | refine rF_a ?_ | exact rA_eq | refine rA_ne (by decide) ?_ | refine rA_f ?_)) rfl ⟨Nat.le_of_ble_eq_true rfl, Nat.le_of_ble_eq_true rfl, Nat.le_of_ble_eq_true rfl, Nat.le_of_ble_eq_true rfl⟩ (Nat.le_of_ble_eq_true rfl) ?_
  intro r_ h_ q_; obtain ⟨q1_, q2_⟩ := q_; have q2_ := q2_.symm; subst q1_; subst q2_
  rcases kindv_cases T t with q9 | q9 | q9 | q9
  · rw [q9] at hQ ⊢
    refine g_istore_n (i := 2) dX8_cost_5 rfl (Nat.le_of_ble_eq_true rfl) rfl ?_
    refine g_iload_n (i := 2) dX8_cost_6 rfl rfl ?_
    refine g_iconst (v := 3) dX8_cost_7 (by decide) ?_
    refine g_icmp_ne (tgt := 19) dX8_cost_8 (by decide) (fun hc8 => ?_) (fun hc8 => ?_)
    · have hd8 := mt i_eq.mpr hc8; (try simp (disch := omega) only [nT, t_m1000100, t_m1000010, t_m1000003, t_m1000002, t_m1000001, t_m1000000, t_m65535, t_m1000, t_m3, t_m1, t_0, t_1, t_2, t_3, t_4, t_5, t_6, t_7, t_8, t_9, t_10, t_11, t_12, t_13, t_15, t_16, t_20, t_21, t_22, t_32, t_40, t_41, t_48, t_49, t_57, t_59, t_60, t_63, t_72, t_76, t_88, t_100, t_144, t_200, t_255, t_288, t_400, t_800, t_999, t_1000, t_1024, t_1200, t_1600, t_3200, t_100000, t_200000, t_252645135, t_858993459, t_1431655765, u_m1000002, u_m1000001, u_m1000, u_m3, u_m1, u_0, u_1, u_2, u_3, u_4, u_5, u_7, u_8, u_10, u_11, u_15, u_60, u_100, u_255, u_999, u_1000, u_100000, u_4294967295] at hd8); skip
      refine g_iload_n (i := 2) dX8_cost_19 rfl rfl ?_
      refine g_iconst (v := 2) dX8_cost_20 (by decide) ?_
      refine g_icmp_ne (tgt := 30) dX8_cost_21 (by decide) (fun hc21 => ?_) (fun hc21 => ?_)
      · have hd21 := mt i_eq.mpr hc21; (try simp (disch := omega) only [nT, t_m1000100, t_m1000010, t_m1000003, t_m1000002, t_m1000001, t_m1000000, t_m65535, t_m1000, t_m3, t_m1, t_0, t_1, t_2, t_3, t_4, t_5, t_6, t_7, t_8, t_9, t_10, t_11, t_12, t_13, t_15, t_16, t_20, t_21, t_22, t_32, t_40, t_41, t_48, t_49, t_57, t_59, t_60, t_63, t_72, t_76, t_88, t_100, t_144, t_200, t_255, t_288, t_400, t_800, t_999, t_1000, t_1024, t_1200, t_1600, t_3200, t_100000, t_200000, t_252645135, t_858993459, t_1431655765, u_m1000002, u_m1000001, u_m1000, u_m3, u_m1, u_0, u_1, u_2, u_3, u_4, u_5, u_7, u_8, u_10, u_11, u_15, u_60, u_100, u_255, u_999, u_1000, u_100000, u_4294967295] at hd21)
        refine g_iload_n (i := 2) dX8_cost_30 rfl rfl ?_
        refine g_if_eq (tgt := 40) dX8_cost_31 (by decide) (fun hc31 => ?_) (fun hc31 => ?_)
        · have hd31 := i_eq.mp hc31; (try simp (disch := omega) only [nT, t_m1000100, t_m1000010, t_m1000003, t_m1000002, t_m1000001, t_m1000000, t_m65535, t_m1000, t_m3, t_m1, t_0, t_1, t_2, t_3, t_4, t_5, t_6, t_7, t_8, t_9, t_10, t_11, t_12, t_13, t_15, t_16, t_20, t_21, t_22, t_32, t_40, t_41, t_48, t_49, t_57, t_59, t_60, t_63, t_72, t_76, t_88, t_100, t_144, t_200, t_255, t_288, t_400, t_800, t_999, t_1000, t_1024, t_1200, t_1600, t_3200, t_100000, t_200000, t_252645135, t_858993459, t_1431655765, u_m1000002, u_m1000001, u_m1000, u_m3, u_m1, u_0, u_1, u_2, u_3, u_4, u_5, u_7, u_8, u_10, u_11, u_15, u_60, u_100, u_255, u_999, u_1000, u_100000, u_4294967295] at hd31)
          refine g_aload_n (i := 0) dX8_cost_40 rfl rfl ?_
          refine g_bipush (v := 10) dX8_cost_41 (by decide) ?_
          refine g_callV (M' := mX8_began) dX8_cost_43 lc_X8_began ml_X8_215 (c_began hg hw 10) rfl rfl (by repeat' (first | assumption | exact rF_eq | refine rF_ne (by decide) ?_ | refine rF_a ?_ | exact rA_eq | refine rA_ne (by decide) ?_ | refine rA_f ?_)) rfl ⟨Nat.le_of_ble_eq_true rfl, Nat.le_of_ble_eq_true rfl, Nat.le_of_ble_eq_true rfl, Nat.le_of_ble_eq_true rfl⟩ (Nat.le_of_ble_eq_true rfl) ?_
          intro r_ h_ q_; obtain ⟨q1_, q2_⟩ := q_; have q2_ := q2_.symm; subst q1_; subst q2_
          refine g_iload_n (i := 2) dX8_cost_46 rfl rfl ?_
          refine g_if_ne (tgt := 59) dX8_cost_47 (by decide) (fun hc47 => ?_) (fun hc47 => ?_)
          · have hd47 := mt i_eq.mpr hc47; (try simp (disch := omega) only [nT, t_m1000100, t_m1000010, t_m1000003, t_m1000002, t_m1000001, t_m1000000, t_m65535, t_m1000, t_m3, t_m1, t_0, t_1, t_2, t_3, t_4, t_5, t_6, t_7, t_8, t_9, t_10, t_11, t_12, t_13, t_15, t_16, t_20, t_21, t_22, t_32, t_40, t_41, t_48, t_49, t_57, t_59, t_60, t_63, t_72, t_76, t_88, t_100, t_144, t_200, t_255, t_288, t_400, t_800, t_999, t_1000, t_1024, t_1200, t_1600, t_3200, t_100000, t_200000, t_252645135, t_858993459, t_1431655765, u_m1000002, u_m1000001, u_m1000, u_m3, u_m1, u_0, u_1, u_2, u_3, u_4, u_5, u_7, u_8, u_10, u_11, u_15, u_60, u_100, u_255, u_999, u_1000, u_100000, u_4294967295] at hd47); exact absurd rfl hc47
          · have hd47 := i_eq.mp hc47; (try simp (disch := omega) only [nT, t_m1000100, t_m1000010, t_m1000003, t_m1000002, t_m1000001, t_m1000000, t_m65535, t_m1000, t_m3, t_m1, t_0, t_1, t_2, t_3, t_4, t_5, t_6, t_7, t_8, t_9, t_10, t_11, t_12, t_13, t_15, t_16, t_20, t_21, t_22, t_32, t_40, t_41, t_48, t_49, t_57, t_59, t_60, t_63, t_72, t_76, t_88, t_100, t_144, t_200, t_255, t_288, t_400, t_800, t_999, t_1000, t_1024, t_1200, t_1600, t_3200, t_100000, t_200000, t_252645135, t_858993459, t_1431655765, u_m1000002, u_m1000001, u_m1000, u_m3, u_m1, u_0, u_1, u_2, u_3, u_4, u_5, u_7, u_8, u_10, u_11, u_15, u_60, u_100, u_255, u_999, u_1000, u_100000, u_4294967295] at hd47)
            refine g_aload_n (i := 0) dX8_cost_50 rfl rfl ?_
            refine g_get dX8_cost_51 fl_X8_53 (by repeat' (first | assumption | exact rF_eq | refine rF_ne (by decide) ?_ | refine rF_a ?_ | exact rA_eq | refine rA_ne (by decide) ?_ | refine rA_f ?_)) (by repeat' (first | assumption | exact rF_eq | refine rF_ne (by decide) ?_ | refine rF_a ?_ | exact rA_eq | refine rA_ne (by decide) ?_ | refine rA_f ?_)) ?_
            refine g_iload_n (i := 1) dX8_cost_54 rfl rfl ?_
            refine g_iald dX8_cost_55 (by repeat' (first | assumption | exact rF_eq | refine rF_ne (by decide) ?_ | refine rF_a ?_ | exact rA_eq | refine rA_ne (by decide) ?_ | refine rA_f ?_)) (nT (by omega)) (ht) ?_
            refine g_goto (tgt := 67) dX8_cost_56 (by decide) ?_
            refine g_istore_n (i := 3) dX8_cost_67 rfl (Nat.le_of_ble_eq_true rfl) rfl ?_
            refine g_iload_n (i := 2) dX8_cost_68 rfl rfl ?_
            refine g_iconst (v := 2) dX8_cost_69 (by decide) ?_
            refine g_icmp_ne (tgt := 97) dX8_cost_70 (by decide) (fun hc70 => ?_) (fun hc70 => ?_)
            · have hd70 := mt i_eq.mpr hc70; (try simp (disch := omega) only [nT, t_m1000100, t_m1000010, t_m1000003, t_m1000002, t_m1000001, t_m1000000, t_m65535, t_m1000, t_m3, t_m1, t_0, t_1, t_2, t_3, t_4, t_5, t_6, t_7, t_8, t_9, t_10, t_11, t_12, t_13, t_15, t_16, t_20, t_21, t_22, t_32, t_40, t_41, t_48, t_49, t_57, t_59, t_60, t_63, t_72, t_76, t_88, t_100, t_144, t_200, t_255, t_288, t_400, t_800, t_999, t_1000, t_1024, t_1200, t_1600, t_3200, t_100000, t_200000, t_252645135, t_858993459, t_1431655765, u_m1000002, u_m1000001, u_m1000, u_m3, u_m1, u_0, u_1, u_2, u_3, u_4, u_5, u_7, u_8, u_10, u_11, u_15, u_60, u_100, u_255, u_999, u_1000, u_100000, u_4294967295] at hd70)
              refine g_iload_n (i := 3) dX8_cost_97 rfl rfl ?_
              refine g_iret dX8_cost_98 rfl (rfl) (hQ _ _ ?_)
              exact ⟨rfl, rfl⟩
            · have hd70 := i_eq.mp hc70; (try simp (disch := omega) only [nT, t_m1000100, t_m1000010, t_m1000003, t_m1000002, t_m1000001, t_m1000000, t_m65535, t_m1000, t_m3, t_m1, t_0, t_1, t_2, t_3, t_4, t_5, t_6, t_7, t_8, t_9, t_10, t_11, t_12, t_13, t_15, t_16, t_20, t_21, t_22, t_32, t_40, t_41, t_48, t_49, t_57, t_59, t_60, t_63, t_72, t_76, t_88, t_100, t_144, t_200, t_255, t_288, t_400, t_800, t_999, t_1000, t_1024, t_1200, t_1600, t_3200, t_100000, t_200000, t_252645135, t_858993459, t_1431655765, u_m1000002, u_m1000001, u_m1000, u_m3, u_m1, u_0, u_1, u_2, u_3, u_4, u_5, u_7, u_8, u_10, u_11, u_15, u_60, u_100, u_255, u_999, u_1000, u_100000, u_4294967295] at hd70); exact absurd hc70 (by decide)
        · have hd31 := mt i_eq.mpr hc31; (try simp (disch := omega) only [nT, t_m1000100, t_m1000010, t_m1000003, t_m1000002, t_m1000001, t_m1000000, t_m65535, t_m1000, t_m3, t_m1, t_0, t_1, t_2, t_3, t_4, t_5, t_6, t_7, t_8, t_9, t_10, t_11, t_12, t_13, t_15, t_16, t_20, t_21, t_22, t_32, t_40, t_41, t_48, t_49, t_57, t_59, t_60, t_63, t_72, t_76, t_88, t_100, t_144, t_200, t_255, t_288, t_400, t_800, t_999, t_1000, t_1024, t_1200, t_1600, t_3200, t_100000, t_200000, t_252645135, t_858993459, t_1431655765, u_m1000002, u_m1000001, u_m1000, u_m3, u_m1, u_0, u_1, u_2, u_3, u_4, u_5, u_7, u_8, u_10, u_11, u_15, u_60, u_100, u_255, u_999, u_1000, u_100000, u_4294967295] at hd31); exact absurd rfl hc31
      · have hd21 := i_eq.mp hc21; (try simp (disch := omega) only [nT, t_m1000100, t_m1000010, t_m1000003, t_m1000002, t_m1000001, t_m1000000, t_m65535, t_m1000, t_m3, t_m1, t_0, t_1, t_2, t_3, t_4, t_5, t_6, t_7, t_8, t_9, t_10, t_11, t_12, t_13, t_15, t_16, t_20, t_21, t_22, t_32, t_40, t_41, t_48, t_49, t_57, t_59, t_60, t_63, t_72, t_76, t_88, t_100, t_144, t_200, t_255, t_288, t_400, t_800, t_999, t_1000, t_1024, t_1200, t_1600, t_3200, t_100000, t_200000, t_252645135, t_858993459, t_1431655765, u_m1000002, u_m1000001, u_m1000, u_m3, u_m1, u_0, u_1, u_2, u_3, u_4, u_5, u_7, u_8, u_10, u_11, u_15, u_60, u_100, u_255, u_999, u_1000, u_100000, u_4294967295] at hd21); exact absurd hc21 (by decide)
    · have hd8 := i_eq.mp hc8; (try simp (disch := omega) only [nT, t_m1000100, t_m1000010, t_m1000003, t_m1000002, t_m1000001, t_m1000000, t_m65535, t_m1000, t_m3, t_m1, t_0, t_1, t_2, t_3, t_4, t_5, t_6, t_7, t_8, t_9, t_10, t_11, t_12, t_13, t_15, t_16, t_20, t_21, t_22, t_32, t_40, t_41, t_48, t_49, t_57, t_59, t_60, t_63, t_72, t_76, t_88, t_100, t_144, t_200, t_255, t_288, t_400, t_800, t_999, t_1000, t_1024, t_1200, t_1600, t_3200, t_100000, t_200000, t_252645135, t_858993459, t_1431655765, u_m1000002, u_m1000001, u_m1000, u_m3, u_m1, u_0, u_1, u_2, u_3, u_4, u_5, u_7, u_8, u_10, u_11, u_15, u_60, u_100, u_255, u_999, u_1000, u_100000, u_4294967295] at hd8); exact absurd hc8 (by decide)
  · rw [q9] at hQ ⊢
    refine g_istore_n (i := 2) dX8_cost_5 rfl (Nat.le_of_ble_eq_true rfl) rfl ?_
    refine g_iload_n (i := 2) dX8_cost_6 rfl rfl ?_
    refine g_iconst (v := 3) dX8_cost_7 (by decide) ?_
    refine g_icmp_ne (tgt := 19) dX8_cost_8 (by decide) (fun hc8 => ?_) (fun hc8 => ?_)
    · have hd8 := mt i_eq.mpr hc8; (try simp (disch := omega) only [nT, t_m1000100, t_m1000010, t_m1000003, t_m1000002, t_m1000001, t_m1000000, t_m65535, t_m1000, t_m3, t_m1, t_0, t_1, t_2, t_3, t_4, t_5, t_6, t_7, t_8, t_9, t_10, t_11, t_12, t_13, t_15, t_16, t_20, t_21, t_22, t_32, t_40, t_41, t_48, t_49, t_57, t_59, t_60, t_63, t_72, t_76, t_88, t_100, t_144, t_200, t_255, t_288, t_400, t_800, t_999, t_1000, t_1024, t_1200, t_1600, t_3200, t_100000, t_200000, t_252645135, t_858993459, t_1431655765, u_m1000002, u_m1000001, u_m1000, u_m3, u_m1, u_0, u_1, u_2, u_3, u_4, u_5, u_7, u_8, u_10, u_11, u_15, u_60, u_100, u_255, u_999, u_1000, u_100000, u_4294967295] at hd8)
      refine g_iload_n (i := 2) dX8_cost_19 rfl rfl ?_
      refine g_iconst (v := 2) dX8_cost_20 (by decide) ?_
      refine g_icmp_ne (tgt := 30) dX8_cost_21 (by decide) (fun hc21 => ?_) (fun hc21 => ?_)
      · have hd21 := mt i_eq.mpr hc21; (try simp (disch := omega) only [nT, t_m1000100, t_m1000010, t_m1000003, t_m1000002, t_m1000001, t_m1000000, t_m65535, t_m1000, t_m3, t_m1, t_0, t_1, t_2, t_3, t_4, t_5, t_6, t_7, t_8, t_9, t_10, t_11, t_12, t_13, t_15, t_16, t_20, t_21, t_22, t_32, t_40, t_41, t_48, t_49, t_57, t_59, t_60, t_63, t_72, t_76, t_88, t_100, t_144, t_200, t_255, t_288, t_400, t_800, t_999, t_1000, t_1024, t_1200, t_1600, t_3200, t_100000, t_200000, t_252645135, t_858993459, t_1431655765, u_m1000002, u_m1000001, u_m1000, u_m3, u_m1, u_0, u_1, u_2, u_3, u_4, u_5, u_7, u_8, u_10, u_11, u_15, u_60, u_100, u_255, u_999, u_1000, u_100000, u_4294967295] at hd21)
        refine g_iload_n (i := 2) dX8_cost_30 rfl rfl ?_
        refine g_if_eq (tgt := 40) dX8_cost_31 (by decide) (fun hc31 => ?_) (fun hc31 => ?_)
        · have hd31 := i_eq.mp hc31; (try simp (disch := omega) only [nT, t_m1000100, t_m1000010, t_m1000003, t_m1000002, t_m1000001, t_m1000000, t_m65535, t_m1000, t_m3, t_m1, t_0, t_1, t_2, t_3, t_4, t_5, t_6, t_7, t_8, t_9, t_10, t_11, t_12, t_13, t_15, t_16, t_20, t_21, t_22, t_32, t_40, t_41, t_48, t_49, t_57, t_59, t_60, t_63, t_72, t_76, t_88, t_100, t_144, t_200, t_255, t_288, t_400, t_800, t_999, t_1000, t_1024, t_1200, t_1600, t_3200, t_100000, t_200000, t_252645135, t_858993459, t_1431655765, u_m1000002, u_m1000001, u_m1000, u_m3, u_m1, u_0, u_1, u_2, u_3, u_4, u_5, u_7, u_8, u_10, u_11, u_15, u_60, u_100, u_255, u_999, u_1000, u_100000, u_4294967295] at hd31); exact absurd hc31 (by decide)
        · have hd31 := mt i_eq.mpr hc31; (try simp (disch := omega) only [nT, t_m1000100, t_m1000010, t_m1000003, t_m1000002, t_m1000001, t_m1000000, t_m65535, t_m1000, t_m3, t_m1, t_0, t_1, t_2, t_3, t_4, t_5, t_6, t_7, t_8, t_9, t_10, t_11, t_12, t_13, t_15, t_16, t_20, t_21, t_22, t_32, t_40, t_41, t_48, t_49, t_57, t_59, t_60, t_63, t_72, t_76, t_88, t_100, t_144, t_200, t_255, t_288, t_400, t_800, t_999, t_1000, t_1024, t_1200, t_1600, t_3200, t_100000, t_200000, t_252645135, t_858993459, t_1431655765, u_m1000002, u_m1000001, u_m1000, u_m3, u_m1, u_0, u_1, u_2, u_3, u_4, u_5, u_7, u_8, u_10, u_11, u_15, u_60, u_100, u_255, u_999, u_1000, u_100000, u_4294967295] at hd31)
          refine g_aload_n (i := 0) dX8_cost_34 rfl rfl ?_
          refine g_bipush (v := 11) dX8_cost_35 (by decide) ?_
          refine g_callV (M' := mX8_began) dX8_cost_37 lc_X8_began ml_X8_215 (c_began hg hw 11) rfl rfl (by repeat' (first | assumption | exact rF_eq | refine rF_ne (by decide) ?_ | refine rF_a ?_ | exact rA_eq | refine rA_ne (by decide) ?_ | refine rA_f ?_)) rfl ⟨Nat.le_of_ble_eq_true rfl, Nat.le_of_ble_eq_true rfl, Nat.le_of_ble_eq_true rfl, Nat.le_of_ble_eq_true rfl⟩ (Nat.le_of_ble_eq_true rfl) ?_
          intro r_ h_ q_; obtain ⟨q1_, q2_⟩ := q_; have q2_ := q2_.symm; subst q1_; subst q2_
          refine g_aload_n (i := 0) dX8_cost_40 rfl rfl ?_
          refine g_bipush (v := 10) dX8_cost_41 (by decide) ?_
          refine g_callV (M' := mX8_began) dX8_cost_43 lc_X8_began ml_X8_215 (c_began (grm_AM hg _) (bg_le hw _) 10) rfl rfl (by repeat' (first | assumption | exact rF_eq | refine rF_ne (by decide) ?_ | refine rF_a ?_ | exact rA_eq | refine rA_ne (by decide) ?_ | refine rA_f ?_)) rfl ⟨Nat.le_of_ble_eq_true rfl, Nat.le_of_ble_eq_true rfl, Nat.le_of_ble_eq_true rfl, Nat.le_of_ble_eq_true rfl⟩ (Nat.le_of_ble_eq_true rfl) ?_
          intro r_ h_ q_; obtain ⟨q1_, q2_⟩ := q_; have q2_ := q2_.symm; subst q1_; subst q2_
          rw [AM_AM]
          refine g_iload_n (i := 2) dX8_cost_46 rfl rfl ?_
          refine g_if_ne (tgt := 59) dX8_cost_47 (by decide) (fun hc47 => ?_) (fun hc47 => ?_)
          · have hd47 := mt i_eq.mpr hc47; (try simp (disch := omega) only [nT, t_m1000100, t_m1000010, t_m1000003, t_m1000002, t_m1000001, t_m1000000, t_m65535, t_m1000, t_m3, t_m1, t_0, t_1, t_2, t_3, t_4, t_5, t_6, t_7, t_8, t_9, t_10, t_11, t_12, t_13, t_15, t_16, t_20, t_21, t_22, t_32, t_40, t_41, t_48, t_49, t_57, t_59, t_60, t_63, t_72, t_76, t_88, t_100, t_144, t_200, t_255, t_288, t_400, t_800, t_999, t_1000, t_1024, t_1200, t_1600, t_3200, t_100000, t_200000, t_252645135, t_858993459, t_1431655765, u_m1000002, u_m1000001, u_m1000, u_m3, u_m1, u_0, u_1, u_2, u_3, u_4, u_5, u_7, u_8, u_10, u_11, u_15, u_60, u_100, u_255, u_999, u_1000, u_100000, u_4294967295] at hd47)
            refine g_iconst (v := 2) dX8_cost_59 (by decide) ?_
            refine g_aload_n (i := 0) dX8_cost_60 rfl rfl ?_
            refine g_get dX8_cost_61 fl_X8_53 (by repeat' (first | assumption | exact rF_eq | refine rF_ne (by decide) ?_ | refine rF_a ?_ | exact rA_eq | refine rA_ne (by decide) ?_ | refine rA_f ?_)) (by repeat' (first | assumption | exact rF_eq | refine rF_ne (by decide) ?_ | refine rF_a ?_ | exact rA_eq | refine rA_ne (by decide) ?_ | refine rA_f ?_)) ?_
            refine g_iload_n (i := 1) dX8_cost_64 rfl rfl ?_
            refine g_iald dX8_cost_65 (by repeat' (first | assumption | exact rF_eq | refine rF_ne (by decide) ?_ | refine rF_a ?_ | exact rA_eq | refine rA_ne (by decide) ?_ | refine rA_f ?_)) (nT (by omega)) (ht) ?_
            refine g_imul dX8_cost_66 ?_
            refine g_istore_n (i := 3) dX8_cost_67 rfl (Nat.le_of_ble_eq_true rfl) rfl ?_
            refine g_iload_n (i := 2) dX8_cost_68 rfl rfl ?_
            refine g_iconst (v := 2) dX8_cost_69 (by decide) ?_
            refine g_icmp_ne (tgt := 97) dX8_cost_70 (by decide) (fun hc70 => ?_) (fun hc70 => ?_)
            · have hd70 := mt i_eq.mpr hc70; (try simp (disch := omega) only [nT, t_m1000100, t_m1000010, t_m1000003, t_m1000002, t_m1000001, t_m1000000, t_m65535, t_m1000, t_m3, t_m1, t_0, t_1, t_2, t_3, t_4, t_5, t_6, t_7, t_8, t_9, t_10, t_11, t_12, t_13, t_15, t_16, t_20, t_21, t_22, t_32, t_40, t_41, t_48, t_49, t_57, t_59, t_60, t_63, t_72, t_76, t_88, t_100, t_144, t_200, t_255, t_288, t_400, t_800, t_999, t_1000, t_1024, t_1200, t_1600, t_3200, t_100000, t_200000, t_252645135, t_858993459, t_1431655765, u_m1000002, u_m1000001, u_m1000, u_m3, u_m1, u_0, u_1, u_2, u_3, u_4, u_5, u_7, u_8, u_10, u_11, u_15, u_60, u_100, u_255, u_999, u_1000, u_100000, u_4294967295] at hd70)
              refine g_iload_n (i := 3) dX8_cost_97 rfl rfl ?_
              refine g_iret dX8_cost_98 rfl (rfl) (hQ _ _ ?_)
              exact ⟨rfl, rfl⟩
            · have hd70 := i_eq.mp hc70; (try simp (disch := omega) only [nT, t_m1000100, t_m1000010, t_m1000003, t_m1000002, t_m1000001, t_m1000000, t_m65535, t_m1000, t_m3, t_m1, t_0, t_1, t_2, t_3, t_4, t_5, t_6, t_7, t_8, t_9, t_10, t_11, t_12, t_13, t_15, t_16, t_20, t_21, t_22, t_32, t_40, t_41, t_48, t_49, t_57, t_59, t_60, t_63, t_72, t_76, t_88, t_100, t_144, t_200, t_255, t_288, t_400, t_800, t_999, t_1000, t_1024, t_1200, t_1600, t_3200, t_100000, t_200000, t_252645135, t_858993459, t_1431655765, u_m1000002, u_m1000001, u_m1000, u_m3, u_m1, u_0, u_1, u_2, u_3, u_4, u_5, u_7, u_8, u_10, u_11, u_15, u_60, u_100, u_255, u_999, u_1000, u_100000, u_4294967295] at hd70); exact absurd hc70 (by decide)
          · have hd47 := i_eq.mp hc47; (try simp (disch := omega) only [nT, t_m1000100, t_m1000010, t_m1000003, t_m1000002, t_m1000001, t_m1000000, t_m65535, t_m1000, t_m3, t_m1, t_0, t_1, t_2, t_3, t_4, t_5, t_6, t_7, t_8, t_9, t_10, t_11, t_12, t_13, t_15, t_16, t_20, t_21, t_22, t_32, t_40, t_41, t_48, t_49, t_57, t_59, t_60, t_63, t_72, t_76, t_88, t_100, t_144, t_200, t_255, t_288, t_400, t_800, t_999, t_1000, t_1024, t_1200, t_1600, t_3200, t_100000, t_200000, t_252645135, t_858993459, t_1431655765, u_m1000002, u_m1000001, u_m1000, u_m3, u_m1, u_0, u_1, u_2, u_3, u_4, u_5, u_7, u_8, u_10, u_11, u_15, u_60, u_100, u_255, u_999, u_1000, u_100000, u_4294967295] at hd47); exact absurd hc47 (by decide)
      · have hd21 := i_eq.mp hc21; (try simp (disch := omega) only [nT, t_m1000100, t_m1000010, t_m1000003, t_m1000002, t_m1000001, t_m1000000, t_m65535, t_m1000, t_m3, t_m1, t_0, t_1, t_2, t_3, t_4, t_5, t_6, t_7, t_8, t_9, t_10, t_11, t_12, t_13, t_15, t_16, t_20, t_21, t_22, t_32, t_40, t_41, t_48, t_49, t_57, t_59, t_60, t_63, t_72, t_76, t_88, t_100, t_144, t_200, t_255, t_288, t_400, t_800, t_999, t_1000, t_1024, t_1200, t_1600, t_3200, t_100000, t_200000, t_252645135, t_858993459, t_1431655765, u_m1000002, u_m1000001, u_m1000, u_m3, u_m1, u_0, u_1, u_2, u_3, u_4, u_5, u_7, u_8, u_10, u_11, u_15, u_60, u_100, u_255, u_999, u_1000, u_100000, u_4294967295] at hd21); exact absurd hc21 (by decide)
    · have hd8 := i_eq.mp hc8; (try simp (disch := omega) only [nT, t_m1000100, t_m1000010, t_m1000003, t_m1000002, t_m1000001, t_m1000000, t_m65535, t_m1000, t_m3, t_m1, t_0, t_1, t_2, t_3, t_4, t_5, t_6, t_7, t_8, t_9, t_10, t_11, t_12, t_13, t_15, t_16, t_20, t_21, t_22, t_32, t_40, t_41, t_48, t_49, t_57, t_59, t_60, t_63, t_72, t_76, t_88, t_100, t_144, t_200, t_255, t_288, t_400, t_800, t_999, t_1000, t_1024, t_1200, t_1600, t_3200, t_100000, t_200000, t_252645135, t_858993459, t_1431655765, u_m1000002, u_m1000001, u_m1000, u_m3, u_m1, u_0, u_1, u_2, u_3, u_4, u_5, u_7, u_8, u_10, u_11, u_15, u_60, u_100, u_255, u_999, u_1000, u_100000, u_4294967295] at hd8); exact absurd hc8 (by decide)
  · rw [q9] at hQ ⊢
    refine g_istore_n (i := 2) dX8_cost_5 rfl (Nat.le_of_ble_eq_true rfl) rfl ?_
    refine g_iload_n (i := 2) dX8_cost_6 rfl rfl ?_
    refine g_iconst (v := 3) dX8_cost_7 (by decide) ?_
    refine g_icmp_ne (tgt := 19) dX8_cost_8 (by decide) (fun hc8 => ?_) (fun hc8 => ?_)
    · have hd8 := mt i_eq.mpr hc8; (try simp (disch := omega) only [nT, t_m1000100, t_m1000010, t_m1000003, t_m1000002, t_m1000001, t_m1000000, t_m65535, t_m1000, t_m3, t_m1, t_0, t_1, t_2, t_3, t_4, t_5, t_6, t_7, t_8, t_9, t_10, t_11, t_12, t_13, t_15, t_16, t_20, t_21, t_22, t_32, t_40, t_41, t_48, t_49, t_57, t_59, t_60, t_63, t_72, t_76, t_88, t_100, t_144, t_200, t_255, t_288, t_400, t_800, t_999, t_1000, t_1024, t_1200, t_1600, t_3200, t_100000, t_200000, t_252645135, t_858993459, t_1431655765, u_m1000002, u_m1000001, u_m1000, u_m3, u_m1, u_0, u_1, u_2, u_3, u_4, u_5, u_7, u_8, u_10, u_11, u_15, u_60, u_100, u_255, u_999, u_1000, u_100000, u_4294967295] at hd8)
      refine g_iload_n (i := 2) dX8_cost_19 rfl rfl ?_
      refine g_iconst (v := 2) dX8_cost_20 (by decide) ?_
      refine g_icmp_ne (tgt := 30) dX8_cost_21 (by decide) (fun hc21 => ?_) (fun hc21 => ?_)
      · have hd21 := mt i_eq.mpr hc21; (try simp (disch := omega) only [nT, t_m1000100, t_m1000010, t_m1000003, t_m1000002, t_m1000001, t_m1000000, t_m65535, t_m1000, t_m3, t_m1, t_0, t_1, t_2, t_3, t_4, t_5, t_6, t_7, t_8, t_9, t_10, t_11, t_12, t_13, t_15, t_16, t_20, t_21, t_22, t_32, t_40, t_41, t_48, t_49, t_57, t_59, t_60, t_63, t_72, t_76, t_88, t_100, t_144, t_200, t_255, t_288, t_400, t_800, t_999, t_1000, t_1024, t_1200, t_1600, t_3200, t_100000, t_200000, t_252645135, t_858993459, t_1431655765, u_m1000002, u_m1000001, u_m1000, u_m3, u_m1, u_0, u_1, u_2, u_3, u_4, u_5, u_7, u_8, u_10, u_11, u_15, u_60, u_100, u_255, u_999, u_1000, u_100000, u_4294967295] at hd21); exact absurd rfl hc21
      · have hd21 := i_eq.mp hc21; (try simp (disch := omega) only [nT, t_m1000100, t_m1000010, t_m1000003, t_m1000002, t_m1000001, t_m1000000, t_m65535, t_m1000, t_m3, t_m1, t_0, t_1, t_2, t_3, t_4, t_5, t_6, t_7, t_8, t_9, t_10, t_11, t_12, t_13, t_15, t_16, t_20, t_21, t_22, t_32, t_40, t_41, t_48, t_49, t_57, t_59, t_60, t_63, t_72, t_76, t_88, t_100, t_144, t_200, t_255, t_288, t_400, t_800, t_999, t_1000, t_1024, t_1200, t_1600, t_3200, t_100000, t_200000, t_252645135, t_858993459, t_1431655765, u_m1000002, u_m1000001, u_m1000, u_m3, u_m1, u_0, u_1, u_2, u_3, u_4, u_5, u_7, u_8, u_10, u_11, u_15, u_60, u_100, u_255, u_999, u_1000, u_100000, u_4294967295] at hd21)
        refine g_aload_n (i := 0) dX8_cost_24 rfl rfl ?_
        refine g_bipush (v := 12) dX8_cost_25 (by decide) ?_
        refine g_callV (M' := mX8_began) dX8_cost_27 lc_X8_began ml_X8_215 (c_began hg hw 12) rfl rfl (by repeat' (first | assumption | exact rF_eq | refine rF_ne (by decide) ?_ | refine rF_a ?_ | exact rA_eq | refine rA_ne (by decide) ?_ | refine rA_f ?_)) rfl ⟨Nat.le_of_ble_eq_true rfl, Nat.le_of_ble_eq_true rfl, Nat.le_of_ble_eq_true rfl, Nat.le_of_ble_eq_true rfl⟩ (Nat.le_of_ble_eq_true rfl) ?_
        intro r_ h_ q_; obtain ⟨q1_, q2_⟩ := q_; have q2_ := q2_.symm; subst q1_; subst q2_
        refine g_iload_n (i := 2) dX8_cost_30 rfl rfl ?_
        refine g_if_eq (tgt := 40) dX8_cost_31 (by decide) (fun hc31 => ?_) (fun hc31 => ?_)
        · have hd31 := i_eq.mp hc31; (try simp (disch := omega) only [nT, t_m1000100, t_m1000010, t_m1000003, t_m1000002, t_m1000001, t_m1000000, t_m65535, t_m1000, t_m3, t_m1, t_0, t_1, t_2, t_3, t_4, t_5, t_6, t_7, t_8, t_9, t_10, t_11, t_12, t_13, t_15, t_16, t_20, t_21, t_22, t_32, t_40, t_41, t_48, t_49, t_57, t_59, t_60, t_63, t_72, t_76, t_88, t_100, t_144, t_200, t_255, t_288, t_400, t_800, t_999, t_1000, t_1024, t_1200, t_1600, t_3200, t_100000, t_200000, t_252645135, t_858993459, t_1431655765, u_m1000002, u_m1000001, u_m1000, u_m3, u_m1, u_0, u_1, u_2, u_3, u_4, u_5, u_7, u_8, u_10, u_11, u_15, u_60, u_100, u_255, u_999, u_1000, u_100000, u_4294967295] at hd31); exact absurd hc31 (by decide)
        · have hd31 := mt i_eq.mpr hc31; (try simp (disch := omega) only [nT, t_m1000100, t_m1000010, t_m1000003, t_m1000002, t_m1000001, t_m1000000, t_m65535, t_m1000, t_m3, t_m1, t_0, t_1, t_2, t_3, t_4, t_5, t_6, t_7, t_8, t_9, t_10, t_11, t_12, t_13, t_15, t_16, t_20, t_21, t_22, t_32, t_40, t_41, t_48, t_49, t_57, t_59, t_60, t_63, t_72, t_76, t_88, t_100, t_144, t_200, t_255, t_288, t_400, t_800, t_999, t_1000, t_1024, t_1200, t_1600, t_3200, t_100000, t_200000, t_252645135, t_858993459, t_1431655765, u_m1000002, u_m1000001, u_m1000, u_m3, u_m1, u_0, u_1, u_2, u_3, u_4, u_5, u_7, u_8, u_10, u_11, u_15, u_60, u_100, u_255, u_999, u_1000, u_100000, u_4294967295] at hd31)
          refine g_aload_n (i := 0) dX8_cost_34 rfl rfl ?_
          refine g_bipush (v := 11) dX8_cost_35 (by decide) ?_
          refine g_callV (M' := mX8_began) dX8_cost_37 lc_X8_began ml_X8_215 (c_began (grm_AM hg _) (bg_le hw _) 11) rfl rfl (by repeat' (first | assumption | exact rF_eq | refine rF_ne (by decide) ?_ | refine rF_a ?_ | exact rA_eq | refine rA_ne (by decide) ?_ | refine rA_f ?_)) rfl ⟨Nat.le_of_ble_eq_true rfl, Nat.le_of_ble_eq_true rfl, Nat.le_of_ble_eq_true rfl, Nat.le_of_ble_eq_true rfl⟩ (Nat.le_of_ble_eq_true rfl) ?_
          intro r_ h_ q_; obtain ⟨q1_, q2_⟩ := q_; have q2_ := q2_.symm; subst q1_; subst q2_
          rw [AM_AM]
          refine g_aload_n (i := 0) dX8_cost_40 rfl rfl ?_
          refine g_bipush (v := 10) dX8_cost_41 (by decide) ?_
          refine g_callV (M' := mX8_began) dX8_cost_43 lc_X8_began ml_X8_215 (c_began (grm_AM hg _) (bg_le (bg_le hw _) _) 10) rfl rfl (by repeat' (first | assumption | exact rF_eq | refine rF_ne (by decide) ?_ | refine rF_a ?_ | exact rA_eq | refine rA_ne (by decide) ?_ | refine rA_f ?_)) rfl ⟨Nat.le_of_ble_eq_true rfl, Nat.le_of_ble_eq_true rfl, Nat.le_of_ble_eq_true rfl, Nat.le_of_ble_eq_true rfl⟩ (Nat.le_of_ble_eq_true rfl) ?_
          intro r_ h_ q_; obtain ⟨q1_, q2_⟩ := q_; have q2_ := q2_.symm; subst q1_; subst q2_
          rw [AM_AM]
          refine g_iload_n (i := 2) dX8_cost_46 rfl rfl ?_
          refine g_if_ne (tgt := 59) dX8_cost_47 (by decide) (fun hc47 => ?_) (fun hc47 => ?_)
          · have hd47 := mt i_eq.mpr hc47; (try simp (disch := omega) only [nT, t_m1000100, t_m1000010, t_m1000003, t_m1000002, t_m1000001, t_m1000000, t_m65535, t_m1000, t_m3, t_m1, t_0, t_1, t_2, t_3, t_4, t_5, t_6, t_7, t_8, t_9, t_10, t_11, t_12, t_13, t_15, t_16, t_20, t_21, t_22, t_32, t_40, t_41, t_48, t_49, t_57, t_59, t_60, t_63, t_72, t_76, t_88, t_100, t_144, t_200, t_255, t_288, t_400, t_800, t_999, t_1000, t_1024, t_1200, t_1600, t_3200, t_100000, t_200000, t_252645135, t_858993459, t_1431655765, u_m1000002, u_m1000001, u_m1000, u_m3, u_m1, u_0, u_1, u_2, u_3, u_4, u_5, u_7, u_8, u_10, u_11, u_15, u_60, u_100, u_255, u_999, u_1000, u_100000, u_4294967295] at hd47)
            refine g_iconst (v := 2) dX8_cost_59 (by decide) ?_
            refine g_aload_n (i := 0) dX8_cost_60 rfl rfl ?_
            refine g_get dX8_cost_61 fl_X8_53 (by repeat' (first | assumption | exact rF_eq | refine rF_ne (by decide) ?_ | refine rF_a ?_ | exact rA_eq | refine rA_ne (by decide) ?_ | refine rA_f ?_)) (by repeat' (first | assumption | exact rF_eq | refine rF_ne (by decide) ?_ | refine rF_a ?_ | exact rA_eq | refine rA_ne (by decide) ?_ | refine rA_f ?_)) ?_
            refine g_iload_n (i := 1) dX8_cost_64 rfl rfl ?_
            refine g_iald dX8_cost_65 (by repeat' (first | assumption | exact rF_eq | refine rF_ne (by decide) ?_ | refine rF_a ?_ | exact rA_eq | refine rA_ne (by decide) ?_ | refine rA_f ?_)) (nT (by omega)) (ht) ?_
            refine g_imul dX8_cost_66 ?_
            refine g_istore_n (i := 3) dX8_cost_67 rfl (Nat.le_of_ble_eq_true rfl) rfl ?_
            refine g_iload_n (i := 2) dX8_cost_68 rfl rfl ?_
            refine g_iconst (v := 2) dX8_cost_69 (by decide) ?_
            refine g_icmp_ne (tgt := 97) dX8_cost_70 (by decide) (fun hc70 => ?_) (fun hc70 => ?_)
            · have hd70 := mt i_eq.mpr hc70; (try simp (disch := omega) only [nT, t_m1000100, t_m1000010, t_m1000003, t_m1000002, t_m1000001, t_m1000000, t_m65535, t_m1000, t_m3, t_m1, t_0, t_1, t_2, t_3, t_4, t_5, t_6, t_7, t_8, t_9, t_10, t_11, t_12, t_13, t_15, t_16, t_20, t_21, t_22, t_32, t_40, t_41, t_48, t_49, t_57, t_59, t_60, t_63, t_72, t_76, t_88, t_100, t_144, t_200, t_255, t_288, t_400, t_800, t_999, t_1000, t_1024, t_1200, t_1600, t_3200, t_100000, t_200000, t_252645135, t_858993459, t_1431655765, u_m1000002, u_m1000001, u_m1000, u_m3, u_m1, u_0, u_1, u_2, u_3, u_4, u_5, u_7, u_8, u_10, u_11, u_15, u_60, u_100, u_255, u_999, u_1000, u_100000, u_4294967295] at hd70); exact absurd rfl hc70
            · have hd70 := i_eq.mp hc70; (try simp (disch := omega) only [nT, t_m1000100, t_m1000010, t_m1000003, t_m1000002, t_m1000001, t_m1000000, t_m65535, t_m1000, t_m3, t_m1, t_0, t_1, t_2, t_3, t_4, t_5, t_6, t_7, t_8, t_9, t_10, t_11, t_12, t_13, t_15, t_16, t_20, t_21, t_22, t_32, t_40, t_41, t_48, t_49, t_57, t_59, t_60, t_63, t_72, t_76, t_88, t_100, t_144, t_200, t_255, t_288, t_400, t_800, t_999, t_1000, t_1024, t_1200, t_1600, t_3200, t_100000, t_200000, t_252645135, t_858993459, t_1431655765, u_m1000002, u_m1000001, u_m1000, u_m3, u_m1, u_0, u_1, u_2, u_3, u_4, u_5, u_7, u_8, u_10, u_11, u_15, u_60, u_100, u_255, u_999, u_1000, u_100000, u_4294967295] at hd70)
              refine g_aload_n (i := 0) dX8_cost_73 rfl rfl ?_
              refine g_bipush (v := 21) dX8_cost_74 (by decide) ?_
              refine g_callV (M' := mX8_began) dX8_cost_76 lc_X8_began ml_X8_215 (c_began (grm_AM hg _) (bg_le (bg_le (bg_le hw _) _) _) 21) rfl rfl (by repeat' (first | assumption | exact rF_eq | refine rF_ne (by decide) ?_ | refine rF_a ?_ | exact rA_eq | refine rA_ne (by decide) ?_ | refine rA_f ?_)) rfl ⟨Nat.le_of_ble_eq_true rfl, Nat.le_of_ble_eq_true rfl, Nat.le_of_ble_eq_true rfl, Nat.le_of_ble_eq_true rfl⟩ (Nat.le_of_ble_eq_true rfl) ?_
              intro r_ h_ q_; obtain ⟨q1_, q2_⟩ := q_; have q2_ := q2_.symm; subst q1_; subst q2_
              rw [AM_AM]
              refine g_aload_n (i := 0) dX8_cost_79 rfl rfl ?_
              refine g_bipush (v := 20) dX8_cost_80 (by decide) ?_
              refine g_callV (M' := mX8_began) dX8_cost_82 lc_X8_began ml_X8_215 (c_began (grm_AM hg _) (bg_le (bg_le (bg_le (bg_le hw _) _) _) _) 20) rfl rfl (by repeat' (first | assumption | exact rF_eq | refine rF_ne (by decide) ?_ | refine rF_a ?_ | exact rA_eq | refine rA_ne (by decide) ?_ | refine rA_f ?_)) rfl ⟨Nat.le_of_ble_eq_true rfl, Nat.le_of_ble_eq_true rfl, Nat.le_of_ble_eq_true rfl, Nat.le_of_ble_eq_true rfl⟩ (Nat.le_of_ble_eq_true rfl) ?_
              intro r_ h_ q_; obtain ⟨q1_, q2_⟩ := q_; have q2_ := q2_.symm; subst q1_; subst q2_
              rw [AM_AM]
              refine g_iload_n (i := 3) dX8_cost_85 rfl rfl ?_
              refine g_aload_n (i := 0) dX8_cost_86 rfl rfl ?_
              refine g_get dX8_cost_87 fl_X8_56 (by repeat' (first | assumption | exact rF_eq | refine rF_ne (by decide) ?_ | refine rF_a ?_ | exact rA_eq | refine rA_ne (by decide) ?_ | refine rA_f ?_)) (by repeat' (first | assumption | exact rF_eq | refine rF_ne (by decide) ?_ | refine rF_a ?_ | exact rA_eq | refine rA_ne (by decide) ?_ | refine rA_f ?_)) ?_
              refine g_iload_n (i := 1) dX8_cost_90 rfl rfl ?_
              refine g_iald dX8_cost_91 (by repeat' (first | assumption | exact rF_eq | refine rF_ne (by decide) ?_ | refine rF_a ?_ | exact rA_eq | refine rA_ne (by decide) ?_ | refine rA_f ?_)) (nT (by omega)) (ht) ?_
              refine g_bipush (v := 100) dX8_cost_92 (by decide) ?_
              refine g_iadd dX8_cost_94 ?_
              refine g_iadd dX8_cost_95 ?_
              refine g_istore_n (i := 3) dX8_cost_96 rfl (Nat.le_of_ble_eq_true rfl) rfl ?_
              refine g_iload_n (i := 3) dX8_cost_97 rfl rfl ?_
              refine g_iret dX8_cost_98 rfl (rfl) (hQ _ _ ?_)
              exact ⟨rfl, rfl⟩
          · have hd47 := i_eq.mp hc47; (try simp (disch := omega) only [nT, t_m1000100, t_m1000010, t_m1000003, t_m1000002, t_m1000001, t_m1000000, t_m65535, t_m1000, t_m3, t_m1, t_0, t_1, t_2, t_3, t_4, t_5, t_6, t_7, t_8, t_9, t_10, t_11, t_12, t_13, t_15, t_16, t_20, t_21, t_22, t_32, t_40, t_41, t_48, t_49, t_57, t_59, t_60, t_63, t_72, t_76, t_88, t_100, t_144, t_200, t_255, t_288, t_400, t_800, t_999, t_1000, t_1024, t_1200, t_1600, t_3200, t_100000, t_200000, t_252645135, t_858993459, t_1431655765, u_m1000002, u_m1000001, u_m1000, u_m3, u_m1, u_0, u_1, u_2, u_3, u_4, u_5, u_7, u_8, u_10, u_11, u_15, u_60, u_100, u_255, u_999, u_1000, u_100000, u_4294967295] at hd47); exact absurd hc47 (by decide)
    · have hd8 := i_eq.mp hc8; (try simp (disch := omega) only [nT, t_m1000100, t_m1000010, t_m1000003, t_m1000002, t_m1000001, t_m1000000, t_m65535, t_m1000, t_m3, t_m1, t_0, t_1, t_2, t_3, t_4, t_5, t_6, t_7, t_8, t_9, t_10, t_11, t_12, t_13, t_15, t_16, t_20, t_21, t_22, t_32, t_40, t_41, t_48, t_49, t_57, t_59, t_60, t_63, t_72, t_76, t_88, t_100, t_144, t_200, t_255, t_288, t_400, t_800, t_999, t_1000, t_1024, t_1200, t_1600, t_3200, t_100000, t_200000, t_252645135, t_858993459, t_1431655765, u_m1000002, u_m1000001, u_m1000, u_m3, u_m1, u_0, u_1, u_2, u_3, u_4, u_5, u_7, u_8, u_10, u_11, u_15, u_60, u_100, u_255, u_999, u_1000, u_100000, u_4294967295] at hd8); exact absurd hc8 (by decide)
  · rw [q9] at hQ ⊢
    refine g_istore_n (i := 2) dX8_cost_5 rfl (Nat.le_of_ble_eq_true rfl) rfl ?_
    refine g_iload_n (i := 2) dX8_cost_6 rfl rfl ?_
    refine g_iconst (v := 3) dX8_cost_7 (by decide) ?_
    refine g_icmp_ne (tgt := 19) dX8_cost_8 (by decide) (fun hc8 => ?_) (fun hc8 => ?_)
    · have hd8 := mt i_eq.mpr hc8; (try simp (disch := omega) only [nT, t_m1000100, t_m1000010, t_m1000003, t_m1000002, t_m1000001, t_m1000000, t_m65535, t_m1000, t_m3, t_m1, t_0, t_1, t_2, t_3, t_4, t_5, t_6, t_7, t_8, t_9, t_10, t_11, t_12, t_13, t_15, t_16, t_20, t_21, t_22, t_32, t_40, t_41, t_48, t_49, t_57, t_59, t_60, t_63, t_72, t_76, t_88, t_100, t_144, t_200, t_255, t_288, t_400, t_800, t_999, t_1000, t_1024, t_1200, t_1600, t_3200, t_100000, t_200000, t_252645135, t_858993459, t_1431655765, u_m1000002, u_m1000001, u_m1000, u_m3, u_m1, u_0, u_1, u_2, u_3, u_4, u_5, u_7, u_8, u_10, u_11, u_15, u_60, u_100, u_255, u_999, u_1000, u_100000, u_4294967295] at hd8); exact absurd rfl hc8
    · have hd8 := i_eq.mp hc8; (try simp (disch := omega) only [nT, t_m1000100, t_m1000010, t_m1000003, t_m1000002, t_m1000001, t_m1000000, t_m65535, t_m1000, t_m3, t_m1, t_0, t_1, t_2, t_3, t_4, t_5, t_6, t_7, t_8, t_9, t_10, t_11, t_12, t_13, t_15, t_16, t_20, t_21, t_22, t_32, t_40, t_41, t_48, t_49, t_57, t_59, t_60, t_63, t_72, t_76, t_88, t_100, t_144, t_200, t_255, t_288, t_400, t_800, t_999, t_1000, t_1024, t_1200, t_1600, t_3200, t_100000, t_200000, t_252645135, t_858993459, t_1431655765, u_m1000002, u_m1000001, u_m1000, u_m3, u_m1, u_0, u_1, u_2, u_3, u_4, u_5, u_7, u_8, u_10, u_11, u_15, u_60, u_100, u_255, u_999, u_1000, u_100000, u_4294967295] at hd8)
      refine g_aload_n (i := 0) dX8_cost_11 rfl rfl ?_
      refine g_bipush (v := 13) dX8_cost_12 (by decide) ?_
      refine g_callV (M' := mX8_began) dX8_cost_14 lc_X8_began ml_X8_215 (c_began hg hw 13) rfl rfl (by repeat' (first | assumption | exact rF_eq | refine rF_ne (by decide) ?_ | refine rF_a ?_ | exact rA_eq | refine rA_ne (by decide) ?_ | refine rA_f ?_)) rfl ⟨Nat.le_of_ble_eq_true rfl, Nat.le_of_ble_eq_true rfl, Nat.le_of_ble_eq_true rfl, Nat.le_of_ble_eq_true rfl⟩ (Nat.le_of_ble_eq_true rfl) ?_
      intro r_ h_ q_; obtain ⟨q1_, q2_⟩ := q_; have q2_ := q2_.symm; subst q1_; subst q2_
      refine g_iconst (v := 0) dX8_cost_17 (by decide) ?_
      refine g_iret dX8_cost_18 rfl (rfl) (hQ _ _ ?_)
      exact ⟨rfl, rfl⟩
theorem c_mmark {w : RS} {T : TS} {h : HH} (hg : GRM w h) (hw : w.1 ≤ 16) (hs : TM' h T) {t : Nat} (ht : t < 10) : CT mX8_mark 2 0 0 [.ref 44, .int (nI t)] h (fun r h' => r = some (.int (mkV T t)) ∧ h' = AM h (mkT T t w)) := by
  obtain ⟨e1, e2, e3, e4⟩ := id hg
  obtain ⟨d1, d2, d3, d4, d5, d6, d7, d8, d9, d10, d11, d12, d13, d14⟩ := id hs
  refine CT.go [.ref 44, .int (nI t), hU] (by decide +kernel) rfl rfl (fun Q' hQ => ?_)
  unfold mkV mkT at hQ
  refine g_aload_n (i := 0) dX8_mark_0 rfl rfl ?_
  refine g_iload_n (i := 1) dX8_mark_1 rfl rfl ?_
  refine g_callV (M' := mX8_kindOf) dX8_mark_2 lc_X8_kindOf ml_X8_207 (c_mkindOf hs ht) rfl rfl (by repeat' (first | assumption | exact rF_eq | refine rF_ne (by decide) ?_ | refine rF_a ?_ | exact rA_eq | refine rA_ne (by decide) ?_ | refine rA_f ?_)) rfl ⟨Nat.le_of_ble_eq_true rfl, Nat.le_of_ble_eq_true rfl, Nat.le_of_ble_eq_true rfl, Nat.le_of_ble_eq_true rfl⟩ (Nat.le_of_ble_eq_true rfl) ?_
  intro r_ h_ q_; obtain ⟨q1_, q2_⟩ := q_; have q2_ := q2_.symm; subst q1_; subst q2_
  rcases kindv_cases T t with q9 | q9 | q9 | q9
  · rw [q9] at hQ ⊢
    refine g_istore_n (i := 2) dX8_mark_5 rfl (Nat.le_of_ble_eq_true rfl) rfl ?_
    refine g_iload_n (i := 2) dX8_mark_6 rfl rfl ?_
    refine g_iconst (v := 3) dX8_mark_7 (by decide) ?_
    refine g_icmp_ne (tgt := 20) dX8_mark_8 (by decide) (fun hc8 => ?_) (fun hc8 => ?_)
    · have hd8 := mt i_eq.mpr hc8; (try simp (disch := omega) only [nT, t_m1000100, t_m1000010, t_m1000003, t_m1000002, t_m1000001, t_m1000000, t_m65535, t_m1000, t_m3, t_m1, t_0, t_1, t_2, t_3, t_4, t_5, t_6, t_7, t_8, t_9, t_10, t_11, t_12, t_13, t_15, t_16, t_20, t_21, t_22, t_32, t_40, t_41, t_48, t_49, t_57, t_59, t_60, t_63, t_72, t_76, t_88, t_100, t_144, t_200, t_255, t_288, t_400, t_800, t_999, t_1000, t_1024, t_1200, t_1600, t_3200, t_100000, t_200000, t_252645135, t_858993459, t_1431655765, u_m1000002, u_m1000001, u_m1000, u_m3, u_m1, u_0, u_1, u_2, u_3, u_4, u_5, u_7, u_8, u_10, u_11, u_15, u_60, u_100, u_255, u_999, u_1000, u_100000, u_4294967295] at hd8)
      refine g_iload_n (i := 2) dX8_mark_20 rfl rfl ?_
      refine g_if_eq (tgt := 30) dX8_mark_21 (by decide) (fun hc21 => ?_) (fun hc21 => ?_)
      · have hd21 := i_eq.mp hc21; (try simp (disch := omega) only [nT, t_m1000100, t_m1000010, t_m1000003, t_m1000002, t_m1000001, t_m1000000, t_m65535, t_m1000, t_m3, t_m1, t_0, t_1, t_2, t_3, t_4, t_5, t_6, t_7, t_8, t_9, t_10, t_11, t_12, t_13, t_15, t_16, t_20, t_21, t_22, t_32, t_40, t_41, t_48, t_49, t_57, t_59, t_60, t_63, t_72, t_76, t_88, t_100, t_144, t_200, t_255, t_288, t_400, t_800, t_999, t_1000, t_1024, t_1200, t_1600, t_3200, t_100000, t_200000, t_252645135, t_858993459, t_1431655765, u_m1000002, u_m1000001, u_m1000, u_m3, u_m1, u_0, u_1, u_2, u_3, u_4, u_5, u_7, u_8, u_10, u_11, u_15, u_60, u_100, u_255, u_999, u_1000, u_100000, u_4294967295] at hd21)
        refine g_aload_n (i := 0) dX8_mark_30 rfl rfl ?_
        refine g_bipush (v := 20) dX8_mark_31 (by decide) ?_
        refine g_callV (M' := mX8_began) dX8_mark_33 lc_X8_began ml_X8_215 (c_began hg hw 20) rfl rfl (by repeat' (first | assumption | exact rF_eq | refine rF_ne (by decide) ?_ | refine rF_a ?_ | exact rA_eq | refine rA_ne (by decide) ?_ | refine rA_f ?_)) rfl ⟨Nat.le_of_ble_eq_true rfl, Nat.le_of_ble_eq_true rfl, Nat.le_of_ble_eq_true rfl, Nat.le_of_ble_eq_true rfl⟩ (Nat.le_of_ble_eq_true rfl) ?_
        intro r_ h_ q_; obtain ⟨q1_, q2_⟩ := q_; have q2_ := q2_.symm; subst q1_; subst q2_
        refine g_aload_n (i := 0) dX8_mark_36 rfl rfl ?_
        refine g_get dX8_mark_37 fl_X8_56 (by repeat' (first | assumption | exact rF_eq | refine rF_ne (by decide) ?_ | refine rF_a ?_ | exact rA_eq | refine rA_ne (by decide) ?_ | refine rA_f ?_)) (by repeat' (first | assumption | exact rF_eq | refine rF_ne (by decide) ?_ | refine rF_a ?_ | exact rA_eq | refine rA_ne (by decide) ?_ | refine rA_f ?_)) ?_
        refine g_iload_n (i := 1) dX8_mark_40 rfl rfl ?_
        refine g_iald dX8_mark_41 (by repeat' (first | assumption | exact rF_eq | refine rF_ne (by decide) ?_ | refine rF_a ?_ | exact rA_eq | refine rA_ne (by decide) ?_ | refine rA_f ?_)) (nT (by omega)) (ht) ?_
        refine g_iload_n (i := 2) dX8_mark_42 rfl rfl ?_
        refine g_iconst (v := 3) dX8_mark_43 (by decide) ?_
        refine g_icmp_ne (tgt := 57) dX8_mark_44 (by decide) (fun hc44 => ?_) (fun hc44 => ?_)
        · have hd44 := mt i_eq.mpr hc44; (try simp (disch := omega) only [nT, t_m1000100, t_m1000010, t_m1000003, t_m1000002, t_m1000001, t_m1000000, t_m65535, t_m1000, t_m3, t_m1, t_0, t_1, t_2, t_3, t_4, t_5, t_6, t_7, t_8, t_9, t_10, t_11, t_12, t_13, t_15, t_16, t_20, t_21, t_22, t_32, t_40, t_41, t_48, t_49, t_57, t_59, t_60, t_63, t_72, t_76, t_88, t_100, t_144, t_200, t_255, t_288, t_400, t_800, t_999, t_1000, t_1024, t_1200, t_1600, t_3200, t_100000, t_200000, t_252645135, t_858993459, t_1431655765, u_m1000002, u_m1000001, u_m1000, u_m3, u_m1, u_0, u_1, u_2, u_3, u_4, u_5, u_7, u_8, u_10, u_11, u_15, u_60, u_100, u_255, u_999, u_1000, u_100000, u_4294967295] at hd44)
          refine g_iload_n (i := 2) dX8_mark_57 rfl rfl ?_
          refine g_if_ne (tgt := 65) dX8_mark_58 (by decide) (fun hc58 => ?_) (fun hc58 => ?_)
          · have hd58 := mt i_eq.mpr hc58; (try simp (disch := omega) only [nT, t_m1000100, t_m1000010, t_m1000003, t_m1000002, t_m1000001, t_m1000000, t_m65535, t_m1000, t_m3, t_m1, t_0, t_1, t_2, t_3, t_4, t_5, t_6, t_7, t_8, t_9, t_10, t_11, t_12, t_13, t_15, t_16, t_20, t_21, t_22, t_32, t_40, t_41, t_48, t_49, t_57, t_59, t_60, t_63, t_72, t_76, t_88, t_100, t_144, t_200, t_255, t_288, t_400, t_800, t_999, t_1000, t_1024, t_1200, t_1600, t_3200, t_100000, t_200000, t_252645135, t_858993459, t_1431655765, u_m1000002, u_m1000001, u_m1000, u_m3, u_m1, u_0, u_1, u_2, u_3, u_4, u_5, u_7, u_8, u_10, u_11, u_15, u_60, u_100, u_255, u_999, u_1000, u_100000, u_4294967295] at hd58); exact absurd rfl hc58
          · have hd58 := i_eq.mp hc58; (try simp (disch := omega) only [nT, t_m1000100, t_m1000010, t_m1000003, t_m1000002, t_m1000001, t_m1000000, t_m65535, t_m1000, t_m3, t_m1, t_0, t_1, t_2, t_3, t_4, t_5, t_6, t_7, t_8, t_9, t_10, t_11, t_12, t_13, t_15, t_16, t_20, t_21, t_22, t_32, t_40, t_41, t_48, t_49, t_57, t_59, t_60, t_63, t_72, t_76, t_88, t_100, t_144, t_200, t_255, t_288, t_400, t_800, t_999, t_1000, t_1024, t_1200, t_1600, t_3200, t_100000, t_200000, t_252645135, t_858993459, t_1431655765, u_m1000002, u_m1000001, u_m1000, u_m3, u_m1, u_0, u_1, u_2, u_3, u_4, u_5, u_7, u_8, u_10, u_11, u_15, u_60, u_100, u_255, u_999, u_1000, u_100000, u_4294967295] at hd58)
            refine g_iconst (v := 0) dX8_mark_61 (by decide) ?_
            refine g_goto (tgt := 67) dX8_mark_62 (by decide) ?_
            refine g_iadd dX8_mark_67 ?_
            refine g_iret dX8_mark_68 rfl (rfl) (hQ _ _ ?_)
            rw [Int32.add_zero]; exact ⟨rfl, rfl⟩
        · have hd44 := i_eq.mp hc44; (try simp (disch := omega) only [nT, t_m1000100, t_m1000010, t_m1000003, t_m1000002, t_m1000001, t_m1000000, t_m65535, t_m1000, t_m3, t_m1, t_0, t_1, t_2, t_3, t_4, t_5, t_6, t_7, t_8, t_9, t_10, t_11, t_12, t_13, t_15, t_16, t_20, t_21, t_22, t_32, t_40, t_41, t_48, t_49, t_57, t_59, t_60, t_63, t_72, t_76, t_88, t_100, t_144, t_200, t_255, t_288, t_400, t_800, t_999, t_1000, t_1024, t_1200, t_1600, t_3200, t_100000, t_200000, t_252645135, t_858993459, t_1431655765, u_m1000002, u_m1000001, u_m1000, u_m3, u_m1, u_0, u_1, u_2, u_3, u_4, u_5, u_7, u_8, u_10, u_11, u_15, u_60, u_100, u_255, u_999, u_1000, u_100000, u_4294967295] at hd44); exact absurd hc44 (by decide)
      · have hd21 := mt i_eq.mpr hc21; (try simp (disch := omega) only [nT, t_m1000100, t_m1000010, t_m1000003, t_m1000002, t_m1000001, t_m1000000, t_m65535, t_m1000, t_m3, t_m1, t_0, t_1, t_2, t_3, t_4, t_5, t_6, t_7, t_8, t_9, t_10, t_11, t_12, t_13, t_15, t_16, t_20, t_21, t_22, t_32, t_40, t_41, t_48, t_49, t_57, t_59, t_60, t_63, t_72, t_76, t_88, t_100, t_144, t_200, t_255, t_288, t_400, t_800, t_999, t_1000, t_1024, t_1200, t_1600, t_3200, t_100000, t_200000, t_252645135, t_858993459, t_1431655765, u_m1000002, u_m1000001, u_m1000, u_m3, u_m1, u_0, u_1, u_2, u_3, u_4, u_5, u_7, u_8, u_10, u_11, u_15, u_60, u_100, u_255, u_999, u_1000, u_100000, u_4294967295] at hd21); exact absurd rfl hc21
    · have hd8 := i_eq.mp hc8; (try simp (disch := omega) only [nT, t_m1000100, t_m1000010, t_m1000003, t_m1000002, t_m1000001, t_m1000000, t_m65535, t_m1000, t_m3, t_m1, t_0, t_1, t_2, t_3, t_4, t_5, t_6, t_7, t_8, t_9, t_10, t_11, t_12, t_13, t_15, t_16, t_20, t_21, t_22, t_32, t_40, t_41, t_48, t_49, t_57, t_59, t_60, t_63, t_72, t_76, t_88, t_100, t_144, t_200, t_255, t_288, t_400, t_800, t_999, t_1000, t_1024, t_1200, t_1600, t_3200, t_100000, t_200000, t_252645135, t_858993459, t_1431655765, u_m1000002, u_m1000001, u_m1000, u_m3, u_m1, u_0, u_1, u_2, u_3, u_4, u_5, u_7, u_8, u_10, u_11, u_15, u_60, u_100, u_255, u_999, u_1000, u_100000, u_4294967295] at hd8); exact absurd hc8 (by decide)
  · rw [q9] at hQ ⊢
    refine g_istore_n (i := 2) dX8_mark_5 rfl (Nat.le_of_ble_eq_true rfl) rfl ?_
    refine g_iload_n (i := 2) dX8_mark_6 rfl rfl ?_
    refine g_iconst (v := 3) dX8_mark_7 (by decide) ?_
    refine g_icmp_ne (tgt := 20) dX8_mark_8 (by decide) (fun hc8 => ?_) (fun hc8 => ?_)
    · have hd8 := mt i_eq.mpr hc8; (try simp (disch := omega) only [nT, t_m1000100, t_m1000010, t_m1000003, t_m1000002, t_m1000001, t_m1000000, t_m65535, t_m1000, t_m3, t_m1, t_0, t_1, t_2, t_3, t_4, t_5, t_6, t_7, t_8, t_9, t_10, t_11, t_12, t_13, t_15, t_16, t_20, t_21, t_22, t_32, t_40, t_41, t_48, t_49, t_57, t_59, t_60, t_63, t_72, t_76, t_88, t_100, t_144, t_200, t_255, t_288, t_400, t_800, t_999, t_1000, t_1024, t_1200, t_1600, t_3200, t_100000, t_200000, t_252645135, t_858993459, t_1431655765, u_m1000002, u_m1000001, u_m1000, u_m3, u_m1, u_0, u_1, u_2, u_3, u_4, u_5, u_7, u_8, u_10, u_11, u_15, u_60, u_100, u_255, u_999, u_1000, u_100000, u_4294967295] at hd8)
      refine g_iload_n (i := 2) dX8_mark_20 rfl rfl ?_
      refine g_if_eq (tgt := 30) dX8_mark_21 (by decide) (fun hc21 => ?_) (fun hc21 => ?_)
      · have hd21 := i_eq.mp hc21; (try simp (disch := omega) only [nT, t_m1000100, t_m1000010, t_m1000003, t_m1000002, t_m1000001, t_m1000000, t_m65535, t_m1000, t_m3, t_m1, t_0, t_1, t_2, t_3, t_4, t_5, t_6, t_7, t_8, t_9, t_10, t_11, t_12, t_13, t_15, t_16, t_20, t_21, t_22, t_32, t_40, t_41, t_48, t_49, t_57, t_59, t_60, t_63, t_72, t_76, t_88, t_100, t_144, t_200, t_255, t_288, t_400, t_800, t_999, t_1000, t_1024, t_1200, t_1600, t_3200, t_100000, t_200000, t_252645135, t_858993459, t_1431655765, u_m1000002, u_m1000001, u_m1000, u_m3, u_m1, u_0, u_1, u_2, u_3, u_4, u_5, u_7, u_8, u_10, u_11, u_15, u_60, u_100, u_255, u_999, u_1000, u_100000, u_4294967295] at hd21); exact absurd hc21 (by decide)
      · have hd21 := mt i_eq.mpr hc21; (try simp (disch := omega) only [nT, t_m1000100, t_m1000010, t_m1000003, t_m1000002, t_m1000001, t_m1000000, t_m65535, t_m1000, t_m3, t_m1, t_0, t_1, t_2, t_3, t_4, t_5, t_6, t_7, t_8, t_9, t_10, t_11, t_12, t_13, t_15, t_16, t_20, t_21, t_22, t_32, t_40, t_41, t_48, t_49, t_57, t_59, t_60, t_63, t_72, t_76, t_88, t_100, t_144, t_200, t_255, t_288, t_400, t_800, t_999, t_1000, t_1024, t_1200, t_1600, t_3200, t_100000, t_200000, t_252645135, t_858993459, t_1431655765, u_m1000002, u_m1000001, u_m1000, u_m3, u_m1, u_0, u_1, u_2, u_3, u_4, u_5, u_7, u_8, u_10, u_11, u_15, u_60, u_100, u_255, u_999, u_1000, u_100000, u_4294967295] at hd21)
        refine g_aload_n (i := 0) dX8_mark_24 rfl rfl ?_
        refine g_bipush (v := 21) dX8_mark_25 (by decide) ?_
        refine g_callV (M' := mX8_began) dX8_mark_27 lc_X8_began ml_X8_215 (c_began hg hw 21) rfl rfl (by repeat' (first | assumption | exact rF_eq | refine rF_ne (by decide) ?_ | refine rF_a ?_ | exact rA_eq | refine rA_ne (by decide) ?_ | refine rA_f ?_)) rfl ⟨Nat.le_of_ble_eq_true rfl, Nat.le_of_ble_eq_true rfl, Nat.le_of_ble_eq_true rfl, Nat.le_of_ble_eq_true rfl⟩ (Nat.le_of_ble_eq_true rfl) ?_
        intro r_ h_ q_; obtain ⟨q1_, q2_⟩ := q_; have q2_ := q2_.symm; subst q1_; subst q2_
        refine g_aload_n (i := 0) dX8_mark_30 rfl rfl ?_
        refine g_bipush (v := 20) dX8_mark_31 (by decide) ?_
        refine g_callV (M' := mX8_began) dX8_mark_33 lc_X8_began ml_X8_215 (c_began (grm_AM hg _) (bg_le hw _) 20) rfl rfl (by repeat' (first | assumption | exact rF_eq | refine rF_ne (by decide) ?_ | refine rF_a ?_ | exact rA_eq | refine rA_ne (by decide) ?_ | refine rA_f ?_)) rfl ⟨Nat.le_of_ble_eq_true rfl, Nat.le_of_ble_eq_true rfl, Nat.le_of_ble_eq_true rfl, Nat.le_of_ble_eq_true rfl⟩ (Nat.le_of_ble_eq_true rfl) ?_
        intro r_ h_ q_; obtain ⟨q1_, q2_⟩ := q_; have q2_ := q2_.symm; subst q1_; subst q2_
        rw [AM_AM]
        refine g_aload_n (i := 0) dX8_mark_36 rfl rfl ?_
        refine g_get dX8_mark_37 fl_X8_56 (by repeat' (first | assumption | exact rF_eq | refine rF_ne (by decide) ?_ | refine rF_a ?_ | exact rA_eq | refine rA_ne (by decide) ?_ | refine rA_f ?_)) (by repeat' (first | assumption | exact rF_eq | refine rF_ne (by decide) ?_ | refine rF_a ?_ | exact rA_eq | refine rA_ne (by decide) ?_ | refine rA_f ?_)) ?_
        refine g_iload_n (i := 1) dX8_mark_40 rfl rfl ?_
        refine g_iald dX8_mark_41 (by repeat' (first | assumption | exact rF_eq | refine rF_ne (by decide) ?_ | refine rF_a ?_ | exact rA_eq | refine rA_ne (by decide) ?_ | refine rA_f ?_)) (nT (by omega)) (ht) ?_
        refine g_iload_n (i := 2) dX8_mark_42 rfl rfl ?_
        refine g_iconst (v := 3) dX8_mark_43 (by decide) ?_
        refine g_icmp_ne (tgt := 57) dX8_mark_44 (by decide) (fun hc44 => ?_) (fun hc44 => ?_)
        · have hd44 := mt i_eq.mpr hc44; (try simp (disch := omega) only [nT, t_m1000100, t_m1000010, t_m1000003, t_m1000002, t_m1000001, t_m1000000, t_m65535, t_m1000, t_m3, t_m1, t_0, t_1, t_2, t_3, t_4, t_5, t_6, t_7, t_8, t_9, t_10, t_11, t_12, t_13, t_15, t_16, t_20, t_21, t_22, t_32, t_40, t_41, t_48, t_49, t_57, t_59, t_60, t_63, t_72, t_76, t_88, t_100, t_144, t_200, t_255, t_288, t_400, t_800, t_999, t_1000, t_1024, t_1200, t_1600, t_3200, t_100000, t_200000, t_252645135, t_858993459, t_1431655765, u_m1000002, u_m1000001, u_m1000, u_m3, u_m1, u_0, u_1, u_2, u_3, u_4, u_5, u_7, u_8, u_10, u_11, u_15, u_60, u_100, u_255, u_999, u_1000, u_100000, u_4294967295] at hd44)
          refine g_iload_n (i := 2) dX8_mark_57 rfl rfl ?_
          refine g_if_ne (tgt := 65) dX8_mark_58 (by decide) (fun hc58 => ?_) (fun hc58 => ?_)
          · have hd58 := mt i_eq.mpr hc58; (try simp (disch := omega) only [nT, t_m1000100, t_m1000010, t_m1000003, t_m1000002, t_m1000001, t_m1000000, t_m65535, t_m1000, t_m3, t_m1, t_0, t_1, t_2, t_3, t_4, t_5, t_6, t_7, t_8, t_9, t_10, t_11, t_12, t_13, t_15, t_16, t_20, t_21, t_22, t_32, t_40, t_41, t_48, t_49, t_57, t_59, t_60, t_63, t_72, t_76, t_88, t_100, t_144, t_200, t_255, t_288, t_400, t_800, t_999, t_1000, t_1024, t_1200, t_1600, t_3200, t_100000, t_200000, t_252645135, t_858993459, t_1431655765, u_m1000002, u_m1000001, u_m1000, u_m3, u_m1, u_0, u_1, u_2, u_3, u_4, u_5, u_7, u_8, u_10, u_11, u_15, u_60, u_100, u_255, u_999, u_1000, u_100000, u_4294967295] at hd58)
            refine g_bipush (v := 100) dX8_mark_65 (by decide) ?_
            refine g_iadd dX8_mark_67 ?_
            refine g_iret dX8_mark_68 rfl (rfl) (hQ _ _ ?_)
            exact ⟨rfl, rfl⟩
          · have hd58 := i_eq.mp hc58; (try simp (disch := omega) only [nT, t_m1000100, t_m1000010, t_m1000003, t_m1000002, t_m1000001, t_m1000000, t_m65535, t_m1000, t_m3, t_m1, t_0, t_1, t_2, t_3, t_4, t_5, t_6, t_7, t_8, t_9, t_10, t_11, t_12, t_13, t_15, t_16, t_20, t_21, t_22, t_32, t_40, t_41, t_48, t_49, t_57, t_59, t_60, t_63, t_72, t_76, t_88, t_100, t_144, t_200, t_255, t_288, t_400, t_800, t_999, t_1000, t_1024, t_1200, t_1600, t_3200, t_100000, t_200000, t_252645135, t_858993459, t_1431655765, u_m1000002, u_m1000001, u_m1000, u_m3, u_m1, u_0, u_1, u_2, u_3, u_4, u_5, u_7, u_8, u_10, u_11, u_15, u_60, u_100, u_255, u_999, u_1000, u_100000, u_4294967295] at hd58); exact absurd hc58 (by decide)
        · have hd44 := i_eq.mp hc44; (try simp (disch := omega) only [nT, t_m1000100, t_m1000010, t_m1000003, t_m1000002, t_m1000001, t_m1000000, t_m65535, t_m1000, t_m3, t_m1, t_0, t_1, t_2, t_3, t_4, t_5, t_6, t_7, t_8, t_9, t_10, t_11, t_12, t_13, t_15, t_16, t_20, t_21, t_22, t_32, t_40, t_41, t_48, t_49, t_57, t_59, t_60, t_63, t_72, t_76, t_88, t_100, t_144, t_200, t_255, t_288, t_400, t_800, t_999, t_1000, t_1024, t_1200, t_1600, t_3200, t_100000, t_200000, t_252645135, t_858993459, t_1431655765, u_m1000002, u_m1000001, u_m1000, u_m3, u_m1, u_0, u_1, u_2, u_3, u_4, u_5, u_7, u_8, u_10, u_11, u_15, u_60, u_100, u_255, u_999, u_1000, u_100000, u_4294967295] at hd44); exact absurd hc44 (by decide)
    · have hd8 := i_eq.mp hc8; (try simp (disch := omega) only [nT, t_m1000100, t_m1000010, t_m1000003, t_m1000002, t_m1000001, t_m1000000, t_m65535, t_m1000, t_m3, t_m1, t_0, t_1, t_2, t_3, t_4, t_5, t_6, t_7, t_8, t_9, t_10, t_11, t_12, t_13, t_15, t_16, t_20, t_21, t_22, t_32, t_40, t_41, t_48, t_49, t_57, t_59, t_60, t_63, t_72, t_76, t_88, t_100, t_144, t_200, t_255, t_288, t_400, t_800, t_999, t_1000, t_1024, t_1200, t_1600, t_3200, t_100000, t_200000, t_252645135, t_858993459, t_1431655765, u_m1000002, u_m1000001, u_m1000, u_m3, u_m1, u_0, u_1, u_2, u_3, u_4, u_5, u_7, u_8, u_10, u_11, u_15, u_60, u_100, u_255, u_999, u_1000, u_100000, u_4294967295] at hd8); exact absurd hc8 (by decide)
  · rw [q9] at hQ ⊢
    refine g_istore_n (i := 2) dX8_mark_5 rfl (Nat.le_of_ble_eq_true rfl) rfl ?_
    refine g_iload_n (i := 2) dX8_mark_6 rfl rfl ?_
    refine g_iconst (v := 3) dX8_mark_7 (by decide) ?_
    refine g_icmp_ne (tgt := 20) dX8_mark_8 (by decide) (fun hc8 => ?_) (fun hc8 => ?_)
    · have hd8 := mt i_eq.mpr hc8; (try simp (disch := omega) only [nT, t_m1000100, t_m1000010, t_m1000003, t_m1000002, t_m1000001, t_m1000000, t_m65535, t_m1000, t_m3, t_m1, t_0, t_1, t_2, t_3, t_4, t_5, t_6, t_7, t_8, t_9, t_10, t_11, t_12, t_13, t_15, t_16, t_20, t_21, t_22, t_32, t_40, t_41, t_48, t_49, t_57, t_59, t_60, t_63, t_72, t_76, t_88, t_100, t_144, t_200, t_255, t_288, t_400, t_800, t_999, t_1000, t_1024, t_1200, t_1600, t_3200, t_100000, t_200000, t_252645135, t_858993459, t_1431655765, u_m1000002, u_m1000001, u_m1000, u_m3, u_m1, u_0, u_1, u_2, u_3, u_4, u_5, u_7, u_8, u_10, u_11, u_15, u_60, u_100, u_255, u_999, u_1000, u_100000, u_4294967295] at hd8)
      refine g_iload_n (i := 2) dX8_mark_20 rfl rfl ?_
      refine g_if_eq (tgt := 30) dX8_mark_21 (by decide) (fun hc21 => ?_) (fun hc21 => ?_)
      · have hd21 := i_eq.mp hc21; (try simp (disch := omega) only [nT, t_m1000100, t_m1000010, t_m1000003, t_m1000002, t_m1000001, t_m1000000, t_m65535, t_m1000, t_m3, t_m1, t_0, t_1, t_2, t_3, t_4, t_5, t_6, t_7, t_8, t_9, t_10, t_11, t_12, t_13, t_15, t_16, t_20, t_21, t_22, t_32, t_40, t_41, t_48, t_49, t_57, t_59, t_60, t_63, t_72, t_76, t_88, t_100, t_144, t_200, t_255, t_288, t_400, t_800, t_999, t_1000, t_1024, t_1200, t_1600, t_3200, t_100000, t_200000, t_252645135, t_858993459, t_1431655765, u_m1000002, u_m1000001, u_m1000, u_m3, u_m1, u_0, u_1, u_2, u_3, u_4, u_5, u_7, u_8, u_10, u_11, u_15, u_60, u_100, u_255, u_999, u_1000, u_100000, u_4294967295] at hd21); exact absurd hc21 (by decide)
      · have hd21 := mt i_eq.mpr hc21; (try simp (disch := omega) only [nT, t_m1000100, t_m1000010, t_m1000003, t_m1000002, t_m1000001, t_m1000000, t_m65535, t_m1000, t_m3, t_m1, t_0, t_1, t_2, t_3, t_4, t_5, t_6, t_7, t_8, t_9, t_10, t_11, t_12, t_13, t_15, t_16, t_20, t_21, t_22, t_32, t_40, t_41, t_48, t_49, t_57, t_59, t_60, t_63, t_72, t_76, t_88, t_100, t_144, t_200, t_255, t_288, t_400, t_800, t_999, t_1000, t_1024, t_1200, t_1600, t_3200, t_100000, t_200000, t_252645135, t_858993459, t_1431655765, u_m1000002, u_m1000001, u_m1000, u_m3, u_m1, u_0, u_1, u_2, u_3, u_4, u_5, u_7, u_8, u_10, u_11, u_15, u_60, u_100, u_255, u_999, u_1000, u_100000, u_4294967295] at hd21)
        refine g_aload_n (i := 0) dX8_mark_24 rfl rfl ?_
        refine g_bipush (v := 21) dX8_mark_25 (by decide) ?_
        refine g_callV (M' := mX8_began) dX8_mark_27 lc_X8_began ml_X8_215 (c_began hg hw 21) rfl rfl (by repeat' (first | assumption | exact rF_eq | refine rF_ne (by decide) ?_ | refine rF_a ?_ | exact rA_eq | refine rA_ne (by decide) ?_ | refine rA_f ?_)) rfl ⟨Nat.le_of_ble_eq_true rfl, Nat.le_of_ble_eq_true rfl, Nat.le_of_ble_eq_true rfl, Nat.le_of_ble_eq_true rfl⟩ (Nat.le_of_ble_eq_true rfl) ?_
        intro r_ h_ q_; obtain ⟨q1_, q2_⟩ := q_; have q2_ := q2_.symm; subst q1_; subst q2_
        refine g_aload_n (i := 0) dX8_mark_30 rfl rfl ?_
        refine g_bipush (v := 20) dX8_mark_31 (by decide) ?_
        refine g_callV (M' := mX8_began) dX8_mark_33 lc_X8_began ml_X8_215 (c_began (grm_AM hg _) (bg_le hw _) 20) rfl rfl (by repeat' (first | assumption | exact rF_eq | refine rF_ne (by decide) ?_ | refine rF_a ?_ | exact rA_eq | refine rA_ne (by decide) ?_ | refine rA_f ?_)) rfl ⟨Nat.le_of_ble_eq_true rfl, Nat.le_of_ble_eq_true rfl, Nat.le_of_ble_eq_true rfl, Nat.le_of_ble_eq_true rfl⟩ (Nat.le_of_ble_eq_true rfl) ?_
        intro r_ h_ q_; obtain ⟨q1_, q2_⟩ := q_; have q2_ := q2_.symm; subst q1_; subst q2_
        rw [AM_AM]
        refine g_aload_n (i := 0) dX8_mark_36 rfl rfl ?_
        refine g_get dX8_mark_37 fl_X8_56 (by repeat' (first | assumption | exact rF_eq | refine rF_ne (by decide) ?_ | refine rF_a ?_ | exact rA_eq | refine rA_ne (by decide) ?_ | refine rA_f ?_)) (by repeat' (first | assumption | exact rF_eq | refine rF_ne (by decide) ?_ | refine rF_a ?_ | exact rA_eq | refine rA_ne (by decide) ?_ | refine rA_f ?_)) ?_
        refine g_iload_n (i := 1) dX8_mark_40 rfl rfl ?_
        refine g_iald dX8_mark_41 (by repeat' (first | assumption | exact rF_eq | refine rF_ne (by decide) ?_ | refine rF_a ?_ | exact rA_eq | refine rA_ne (by decide) ?_ | refine rA_f ?_)) (nT (by omega)) (ht) ?_
        refine g_iload_n (i := 2) dX8_mark_42 rfl rfl ?_
        refine g_iconst (v := 3) dX8_mark_43 (by decide) ?_
        refine g_icmp_ne (tgt := 57) dX8_mark_44 (by decide) (fun hc44 => ?_) (fun hc44 => ?_)
        · have hd44 := mt i_eq.mpr hc44; (try simp (disch := omega) only [nT, t_m1000100, t_m1000010, t_m1000003, t_m1000002, t_m1000001, t_m1000000, t_m65535, t_m1000, t_m3, t_m1, t_0, t_1, t_2, t_3, t_4, t_5, t_6, t_7, t_8, t_9, t_10, t_11, t_12, t_13, t_15, t_16, t_20, t_21, t_22, t_32, t_40, t_41, t_48, t_49, t_57, t_59, t_60, t_63, t_72, t_76, t_88, t_100, t_144, t_200, t_255, t_288, t_400, t_800, t_999, t_1000, t_1024, t_1200, t_1600, t_3200, t_100000, t_200000, t_252645135, t_858993459, t_1431655765, u_m1000002, u_m1000001, u_m1000, u_m3, u_m1, u_0, u_1, u_2, u_3, u_4, u_5, u_7, u_8, u_10, u_11, u_15, u_60, u_100, u_255, u_999, u_1000, u_100000, u_4294967295] at hd44)
          refine g_iload_n (i := 2) dX8_mark_57 rfl rfl ?_
          refine g_if_ne (tgt := 65) dX8_mark_58 (by decide) (fun hc58 => ?_) (fun hc58 => ?_)
          · have hd58 := mt i_eq.mpr hc58; (try simp (disch := omega) only [nT, t_m1000100, t_m1000010, t_m1000003, t_m1000002, t_m1000001, t_m1000000, t_m65535, t_m1000, t_m3, t_m1, t_0, t_1, t_2, t_3, t_4, t_5, t_6, t_7, t_8, t_9, t_10, t_11, t_12, t_13, t_15, t_16, t_20, t_21, t_22, t_32, t_40, t_41, t_48, t_49, t_57, t_59, t_60, t_63, t_72, t_76, t_88, t_100, t_144, t_200, t_255, t_288, t_400, t_800, t_999, t_1000, t_1024, t_1200, t_1600, t_3200, t_100000, t_200000, t_252645135, t_858993459, t_1431655765, u_m1000002, u_m1000001, u_m1000, u_m3, u_m1, u_0, u_1, u_2, u_3, u_4, u_5, u_7, u_8, u_10, u_11, u_15, u_60, u_100, u_255, u_999, u_1000, u_100000, u_4294967295] at hd58)
            refine g_bipush (v := 100) dX8_mark_65 (by decide) ?_
            refine g_iadd dX8_mark_67 ?_
            refine g_iret dX8_mark_68 rfl (rfl) (hQ _ _ ?_)
            exact ⟨rfl, rfl⟩
          · have hd58 := i_eq.mp hc58; (try simp (disch := omega) only [nT, t_m1000100, t_m1000010, t_m1000003, t_m1000002, t_m1000001, t_m1000000, t_m65535, t_m1000, t_m3, t_m1, t_0, t_1, t_2, t_3, t_4, t_5, t_6, t_7, t_8, t_9, t_10, t_11, t_12, t_13, t_15, t_16, t_20, t_21, t_22, t_32, t_40, t_41, t_48, t_49, t_57, t_59, t_60, t_63, t_72, t_76, t_88, t_100, t_144, t_200, t_255, t_288, t_400, t_800, t_999, t_1000, t_1024, t_1200, t_1600, t_3200, t_100000, t_200000, t_252645135, t_858993459, t_1431655765, u_m1000002, u_m1000001, u_m1000, u_m3, u_m1, u_0, u_1, u_2, u_3, u_4, u_5, u_7, u_8, u_10, u_11, u_15, u_60, u_100, u_255, u_999, u_1000, u_100000, u_4294967295] at hd58); exact absurd hc58 (by decide)
        · have hd44 := i_eq.mp hc44; (try simp (disch := omega) only [nT, t_m1000100, t_m1000010, t_m1000003, t_m1000002, t_m1000001, t_m1000000, t_m65535, t_m1000, t_m3, t_m1, t_0, t_1, t_2, t_3, t_4, t_5, t_6, t_7, t_8, t_9, t_10, t_11, t_12, t_13, t_15, t_16, t_20, t_21, t_22, t_32, t_40, t_41, t_48, t_49, t_57, t_59, t_60, t_63, t_72, t_76, t_88, t_100, t_144, t_200, t_255, t_288, t_400, t_800, t_999, t_1000, t_1024, t_1200, t_1600, t_3200, t_100000, t_200000, t_252645135, t_858993459, t_1431655765, u_m1000002, u_m1000001, u_m1000, u_m3, u_m1, u_0, u_1, u_2, u_3, u_4, u_5, u_7, u_8, u_10, u_11, u_15, u_60, u_100, u_255, u_999, u_1000, u_100000, u_4294967295] at hd44); exact absurd hc44 (by decide)
    · have hd8 := i_eq.mp hc8; (try simp (disch := omega) only [nT, t_m1000100, t_m1000010, t_m1000003, t_m1000002, t_m1000001, t_m1000000, t_m65535, t_m1000, t_m3, t_m1, t_0, t_1, t_2, t_3, t_4, t_5, t_6, t_7, t_8, t_9, t_10, t_11, t_12, t_13, t_15, t_16, t_20, t_21, t_22, t_32, t_40, t_41, t_48, t_49, t_57, t_59, t_60, t_63, t_72, t_76, t_88, t_100, t_144, t_200, t_255, t_288, t_400, t_800, t_999, t_1000, t_1024, t_1200, t_1600, t_3200, t_100000, t_200000, t_252645135, t_858993459, t_1431655765, u_m1000002, u_m1000001, u_m1000, u_m3, u_m1, u_0, u_1, u_2, u_3, u_4, u_5, u_7, u_8, u_10, u_11, u_15, u_60, u_100, u_255, u_999, u_1000, u_100000, u_4294967295] at hd8); exact absurd hc8 (by decide)
  · have zc : csV T t = 0 := by unfold csV; rw [q9]; rfl
    have zt : ∀ v, csT T t v = bg v 13 := fun v => by unfold csT; rw [q9]; rfl
    rw [q9] at hQ ⊢
    refine g_istore_n (i := 2) dX8_mark_5 rfl (Nat.le_of_ble_eq_true rfl) rfl ?_
    refine g_iload_n (i := 2) dX8_mark_6 rfl rfl ?_
    refine g_iconst (v := 3) dX8_mark_7 (by decide) ?_
    refine g_icmp_ne (tgt := 20) dX8_mark_8 (by decide) (fun hc8 => ?_) (fun hc8 => ?_)
    · have hd8 := mt i_eq.mpr hc8; (try simp (disch := omega) only [nT, t_m1000100, t_m1000010, t_m1000003, t_m1000002, t_m1000001, t_m1000000, t_m65535, t_m1000, t_m3, t_m1, t_0, t_1, t_2, t_3, t_4, t_5, t_6, t_7, t_8, t_9, t_10, t_11, t_12, t_13, t_15, t_16, t_20, t_21, t_22, t_32, t_40, t_41, t_48, t_49, t_57, t_59, t_60, t_63, t_72, t_76, t_88, t_100, t_144, t_200, t_255, t_288, t_400, t_800, t_999, t_1000, t_1024, t_1200, t_1600, t_3200, t_100000, t_200000, t_252645135, t_858993459, t_1431655765, u_m1000002, u_m1000001, u_m1000, u_m3, u_m1, u_0, u_1, u_2, u_3, u_4, u_5, u_7, u_8, u_10, u_11, u_15, u_60, u_100, u_255, u_999, u_1000, u_100000, u_4294967295] at hd8); exact absurd rfl hc8
    · have hd8 := i_eq.mp hc8; (try simp (disch := omega) only [nT, t_m1000100, t_m1000010, t_m1000003, t_m1000002, t_m1000001, t_m1000000, t_m65535, t_m1000, t_m3, t_m1, t_0, t_1, t_2, t_3, t_4, t_5, t_6, t_7, t_8, t_9, t_10, t_11, t_12, t_13, t_15, t_16, t_20, t_21, t_22, t_32, t_40, t_41, t_48, t_49, t_57, t_59, t_60, t_63, t_72, t_76, t_88, t_100, t_144, t_200, t_255, t_288, t_400, t_800, t_999, t_1000, t_1024, t_1200, t_1600, t_3200, t_100000, t_200000, t_252645135, t_858993459, t_1431655765, u_m1000002, u_m1000001, u_m1000, u_m3, u_m1, u_0, u_1, u_2, u_3, u_4, u_5, u_7, u_8, u_10, u_11, u_15, u_60, u_100, u_255, u_999, u_1000, u_100000, u_4294967295] at hd8)
      refine g_aload_n (i := 0) dX8_mark_11 rfl rfl ?_
      refine g_bipush (v := 22) dX8_mark_12 (by decide) ?_
      refine g_callV (M' := mX8_began) dX8_mark_14 lc_X8_began ml_X8_215 (c_began hg hw 22) rfl rfl (by repeat' (first | assumption | exact rF_eq | refine rF_ne (by decide) ?_ | refine rF_a ?_ | exact rA_eq | refine rA_ne (by decide) ?_ | refine rA_f ?_)) rfl ⟨Nat.le_of_ble_eq_true rfl, Nat.le_of_ble_eq_true rfl, Nat.le_of_ble_eq_true rfl, Nat.le_of_ble_eq_true rfl⟩ (Nat.le_of_ble_eq_true rfl) ?_
      intro r_ h_ q_; obtain ⟨q1_, q2_⟩ := q_; have q2_ := q2_.symm; subst q1_; subst q2_
      refine g_goto (tgt := 30) dX8_mark_17 (by decide) ?_
      refine g_aload_n (i := 0) dX8_mark_30 rfl rfl ?_
      refine g_bipush (v := 20) dX8_mark_31 (by decide) ?_
      refine g_callV (M' := mX8_began) dX8_mark_33 lc_X8_began ml_X8_215 (c_began (grm_AM hg _) (bg_le hw _) 20) rfl rfl (by repeat' (first | assumption | exact rF_eq | refine rF_ne (by decide) ?_ | refine rF_a ?_ | exact rA_eq | refine rA_ne (by decide) ?_ | refine rA_f ?_)) rfl ⟨Nat.le_of_ble_eq_true rfl, Nat.le_of_ble_eq_true rfl, Nat.le_of_ble_eq_true rfl, Nat.le_of_ble_eq_true rfl⟩ (Nat.le_of_ble_eq_true rfl) ?_
      intro r_ h_ q_; obtain ⟨q1_, q2_⟩ := q_; have q2_ := q2_.symm; subst q1_; subst q2_
      rw [AM_AM]
      refine g_aload_n (i := 0) dX8_mark_36 rfl rfl ?_
      refine g_get dX8_mark_37 fl_X8_56 (by repeat' (first | assumption | exact rF_eq | refine rF_ne (by decide) ?_ | refine rF_a ?_ | exact rA_eq | refine rA_ne (by decide) ?_ | refine rA_f ?_)) (by repeat' (first | assumption | exact rF_eq | refine rF_ne (by decide) ?_ | refine rF_a ?_ | exact rA_eq | refine rA_ne (by decide) ?_ | refine rA_f ?_)) ?_
      refine g_iload_n (i := 1) dX8_mark_40 rfl rfl ?_
      refine g_iald dX8_mark_41 (by repeat' (first | assumption | exact rF_eq | refine rF_ne (by decide) ?_ | refine rF_a ?_ | exact rA_eq | refine rA_ne (by decide) ?_ | refine rA_f ?_)) (nT (by omega)) (ht) ?_
      refine g_iload_n (i := 2) dX8_mark_42 rfl rfl ?_
      refine g_iconst (v := 3) dX8_mark_43 (by decide) ?_
      refine g_icmp_ne (tgt := 57) dX8_mark_44 (by decide) (fun hc44 => ?_) (fun hc44 => ?_)
      · have hd44 := mt i_eq.mpr hc44; (try simp (disch := omega) only [nT, t_m1000100, t_m1000010, t_m1000003, t_m1000002, t_m1000001, t_m1000000, t_m65535, t_m1000, t_m3, t_m1, t_0, t_1, t_2, t_3, t_4, t_5, t_6, t_7, t_8, t_9, t_10, t_11, t_12, t_13, t_15, t_16, t_20, t_21, t_22, t_32, t_40, t_41, t_48, t_49, t_57, t_59, t_60, t_63, t_72, t_76, t_88, t_100, t_144, t_200, t_255, t_288, t_400, t_800, t_999, t_1000, t_1024, t_1200, t_1600, t_3200, t_100000, t_200000, t_252645135, t_858993459, t_1431655765, u_m1000002, u_m1000001, u_m1000, u_m3, u_m1, u_0, u_1, u_2, u_3, u_4, u_5, u_7, u_8, u_10, u_11, u_15, u_60, u_100, u_255, u_999, u_1000, u_100000, u_4294967295] at hd44); exact absurd rfl hc44
      · have hd44 := i_eq.mp hc44; (try simp (disch := omega) only [nT, t_m1000100, t_m1000010, t_m1000003, t_m1000002, t_m1000001, t_m1000000, t_m65535, t_m1000, t_m3, t_m1, t_0, t_1, t_2, t_3, t_4, t_5, t_6, t_7, t_8, t_9, t_10, t_11, t_12, t_13, t_15, t_16, t_20, t_21, t_22, t_32, t_40, t_41, t_48, t_49, t_57, t_59, t_60, t_63, t_72, t_76, t_88, t_100, t_144, t_200, t_255, t_288, t_400, t_800, t_999, t_1000, t_1024, t_1200, t_1600, t_3200, t_100000, t_200000, t_252645135, t_858993459, t_1431655765, u_m1000002, u_m1000001, u_m1000, u_m3, u_m1, u_0, u_1, u_2, u_3, u_4, u_5, u_7, u_8, u_10, u_11, u_15, u_60, u_100, u_255, u_999, u_1000, u_100000, u_4294967295] at hd44)
        refine g_aload_n (i := 0) dX8_mark_47 rfl rfl ?_
        refine g_iload_n (i := 1) dX8_mark_48 rfl rfl ?_
        refine g_callV (M' := mX8_cost) dX8_mark_49 lc_X8_cost ml_X8_218 (c_mcost (grm_AM hg _) (bg_le (bg_le hw _) _) (tsm_AM hs _) ht) rfl rfl (by repeat' (first | assumption | exact rF_eq | refine rF_ne (by decide) ?_ | refine rF_a ?_ | exact rA_eq | refine rA_ne (by decide) ?_ | refine rA_f ?_)) rfl ⟨Nat.le_of_ble_eq_true rfl, Nat.le_of_ble_eq_true rfl, Nat.le_of_ble_eq_true rfl, Nat.le_of_ble_eq_true rfl⟩ (Nat.le_of_ble_eq_true rfl) ?_
        intro r_ h_ q_; obtain ⟨q1_, q2_⟩ := q_; have q2_ := q2_.symm; subst q1_; subst q2_
        rw [AM_AM, zc, zt]
        refine g_iconst (v := 1) dX8_mark_52 (by decide) ?_
        refine g_iadd dX8_mark_53 ?_
        refine g_goto (tgt := 67) dX8_mark_54 (by decide) ?_
        refine g_iadd dX8_mark_67 ?_
        refine g_iret dX8_mark_68 rfl (rfl) (hQ _ _ ?_)
        rw [← Int32.add_assoc]; exact ⟨rfl, rfl⟩
theorem m_ask {w : RS} {T : TS} (hT : T.1 ≤ 10) (hw : w.1 ≤ 16) {h : HH} (hg : GRM w h) (hs : GTM T h) (t a : Int32) : CT mX8_ask 3 0 0 [.ref 44, .int t, .int a] h (fun r h' => r = some (.int (opAsk T w t a).1) ∧ GRM (opAsk T w t a).2 h' ∧ Fr [63] [(44, 0), (44, 31)] h h') := by
  obtain ⟨e1, e2, e3, e4⟩ := id hg
  have d2 := hs.2.1
  refine CT.go [.ref 44, .int t, .int a] (by decide +kernel) rfl rfl (fun Q' hQ => ?_)
  refine g_aload_n (i := 0) dX8_ask_0 rfl rfl ?_
  refine g_iconst (v := 0) dX8_ask_1 (by decide) ?_
  refine g_put dX8_ask_2 pl_X8_107 (by repeat' (first | assumption | exact rF_eq | refine rF_ne (by decide) ?_ | refine rF_a ?_ | exact rA_eq | refine rA_ne (by decide) ?_ | refine rA_f ?_)) (fun _ => ⟨rfl, rfl⟩) ?_
  refine g_aload_n (i := 0) dX8_ask_5 rfl rfl ?_
  refine g_iload_n (i := 1) dX8_ask_6 rfl rfl ?_
  refine g_callV (M' := mX8_isTest) dX8_ask_7 lc_X8_isTest ml_X8_204 (c_isTest (h := sF h 44 0 (.int 0)) e1 d2 hT t) rfl rfl (by repeat' (first | assumption | exact rF_eq | refine rF_ne (by decide) ?_ | refine rF_a ?_ | exact rA_eq | refine rA_ne (by decide) ?_ | refine rA_f ?_)) rfl ⟨Nat.le_of_ble_eq_true rfl, Nat.le_of_ble_eq_true rfl, Nat.le_of_ble_eq_true rfl, Nat.le_of_ble_eq_true rfl⟩ (Nat.le_of_ble_eq_true rfl) ?_
  intro r_ h_ q_; obtain ⟨q1_, q2_⟩ := q_; have q2_ := q2_.symm; subst q1_; subst q2_
  refine g_if_eq (tgt := 23) dX8_ask_10 (by decide) (fun hc10 => ?_) (fun hc10 => ?_)
  · replace hc10 := bI_0.mp hc10
    (try simp (disch := omega) only [nT, t_m1000100, t_m1000010, t_m1000003, t_m1000002, t_m1000001, t_m1000000, t_m65535, t_m1000, t_m3, t_m1, t_0, t_1, t_2, t_3, t_4, t_5, t_6, t_7, t_8, t_9, t_10, t_11, t_12, t_13, t_15, t_16, t_20, t_21, t_22, t_32, t_40, t_41, t_48, t_49, t_57, t_59, t_60, t_63, t_72, t_76, t_88, t_100, t_144, t_200, t_255, t_288, t_400, t_800, t_999, t_1000, t_1024, t_1200, t_1600, t_3200, t_100000, t_200000, t_252645135, t_858993459, t_1431655765, u_m1000002, u_m1000001, u_m1000, u_m3, u_m1, u_0, u_1, u_2, u_3, u_4, u_5, u_7, u_8, u_10, u_11, u_15, u_60, u_100, u_255, u_999, u_1000, u_100000, u_4294967295] at hc10)
    refine g_ldc dX8_ask_23 kc_X8_126 ?_
    refine g_iret dX8_ask_25 rfl (rfl) (hQ _ _ ?_)
    have e : opAsk T w t a = _ := if_pos (by omega)
    rw [e]; exact ⟨rfl, hg, fr_sF (by decide) fr_rf⟩
  · replace hc10 := bI_n0.mp hc10
    (try simp (disch := omega) only [nT, t_m1000100, t_m1000010, t_m1000003, t_m1000002, t_m1000001, t_m1000000, t_m65535, t_m1000, t_m3, t_m1, t_0, t_1, t_2, t_3, t_4, t_5, t_6, t_7, t_8, t_9, t_10, t_11, t_12, t_13, t_15, t_16, t_20, t_21, t_22, t_32, t_40, t_41, t_48, t_49, t_57, t_59, t_60, t_63, t_72, t_76, t_88, t_100, t_144, t_200, t_255, t_288, t_400, t_800, t_999, t_1000, t_1024, t_1200, t_1600, t_3200, t_100000, t_200000, t_252645135, t_858993459, t_1431655765, u_m1000002, u_m1000001, u_m1000, u_m3, u_m1, u_0, u_1, u_2, u_3, u_4, u_5, u_7, u_8, u_10, u_11, u_15, u_60, u_100, u_255, u_999, u_1000, u_100000, u_4294967295] at hc10)
    refine g_iload_n (i := 2) dX8_ask_13 rfl rfl ?_
    refine g_i2l dX8_ask_14 ?_
    refine g_lconst (v := 0) dX8_ask_15 (by decide) ?_
    refine g_lconst (v := 1) dX8_ask_16 (by decide) ?_
    refine g_callS (M' := mX8_in) dX8_ask_17 lc_X8_in ml_X8_116 (c_in _ a.toInt64 0 1 0 1 rfl rfl) rfl rfl ⟨Nat.le_of_ble_eq_true rfl, Nat.le_of_ble_eq_true rfl, Nat.le_of_ble_eq_true rfl, Nat.le_of_ble_eq_true rfl⟩ (Nat.le_of_ble_eq_true rfl) ?_
    intro r_ h_ q_; obtain ⟨q1_, q2_⟩ := q_; have q2_ := q2_.symm; subst q1_; subst q2_
    rw [l_i]
    refine g_if_ne (tgt := 26) dX8_ask_20 (by decide) (fun hc20 => ?_) (fun hc20 => ?_)
    · replace hc20 := bI_n0.mp hc20
      (try simp (disch := omega) only [nT, t_m1000100, t_m1000010, t_m1000003, t_m1000002, t_m1000001, t_m1000000, t_m65535, t_m1000, t_m3, t_m1, t_0, t_1, t_2, t_3, t_4, t_5, t_6, t_7, t_8, t_9, t_10, t_11, t_12, t_13, t_15, t_16, t_20, t_21, t_22, t_32, t_40, t_41, t_48, t_49, t_57, t_59, t_60, t_63, t_72, t_76, t_88, t_100, t_144, t_200, t_255, t_288, t_400, t_800, t_999, t_1000, t_1024, t_1200, t_1600, t_3200, t_100000, t_200000, t_252645135, t_858993459, t_1431655765, u_m1000002, u_m1000001, u_m1000, u_m3, u_m1, u_0, u_1, u_2, u_3, u_4, u_5, u_7, u_8, u_10, u_11, u_15, u_60, u_100, u_255, u_999, u_1000, u_100000, u_4294967295] at hc20)
      have e : opAsk T w t a = _ := if_neg (by omega)
      obtain ⟨b, hb, rfl, htb⟩ := n_of (n := T.1) (x := t) (by omega) (by omega)
      rw [nTN (by omega)] at e
      have hg1 : GRM (0, w.2) (sF (sF h 44 0 (.int 0)) 44 31 (.int 0)) := ⟨e1, e2, rfl, e4⟩
      have hs1 : TM' (sF (sF h 44 0 (.int 0)) 44 31 (.int 0)) T := hs
      refine g_aload_n (i := 0) dX8_ask_26 rfl rfl ?_
      refine g_iconst (v := 0) dX8_ask_27 (by decide) ?_
      refine g_put dX8_ask_28 pl_X8_212 (by repeat' (first | assumption | exact rF_eq | refine rF_ne (by decide) ?_ | refine rF_a ?_ | exact rA_eq | refine rA_ne (by decide) ?_ | refine rA_f ?_)) (fun _ => ⟨rfl, rfl⟩) ?_
      refine g_iload_n (i := 2) dX8_ask_31 rfl rfl ?_
      refine g_if_ne (tgt := 43) dX8_ask_32 (by decide) (fun hc32 => ?_) (fun hc32 => ?_)
      · have hd32 := mt i_eq.mpr hc32; (try simp (disch := omega) only [nT, t_m1000100, t_m1000010, t_m1000003, t_m1000002, t_m1000001, t_m1000000, t_m65535, t_m1000, t_m3, t_m1, t_0, t_1, t_2, t_3, t_4, t_5, t_6, t_7, t_8, t_9, t_10, t_11, t_12, t_13, t_15, t_16, t_20, t_21, t_22, t_32, t_40, t_41, t_48, t_49, t_57, t_59, t_60, t_63, t_72, t_76, t_88, t_100, t_144, t_200, t_255, t_288, t_400, t_800, t_999, t_1000, t_1024, t_1200, t_1600, t_3200, t_100000, t_200000, t_252645135, t_858993459, t_1431655765, u_m1000002, u_m1000001, u_m1000, u_m3, u_m1, u_0, u_1, u_2, u_3, u_4, u_5, u_7, u_8, u_10, u_11, u_15, u_60, u_100, u_255, u_999, u_1000, u_100000, u_4294967295] at hd32)
        rw [if_neg (by omega)] at e
        refine g_aload_n (i := 0) dX8_ask_43 rfl rfl ?_
        refine g_iload_n (i := 1) dX8_ask_44 rfl rfl ?_
        refine g_callV (M' := mX8_mark) dX8_ask_45 lc_X8_mark ml_X8_221 (c_mmark hg1 (Nat.zero_le _) hs1 (by omega)) rfl rfl (by repeat' (first | assumption | exact rF_eq | refine rF_ne (by decide) ?_ | refine rF_a ?_ | exact rA_eq | refine rA_ne (by decide) ?_ | refine rA_f ?_)) rfl ⟨Nat.le_of_ble_eq_true rfl, Nat.le_of_ble_eq_true rfl, Nat.le_of_ble_eq_true rfl, Nat.le_of_ble_eq_true rfl⟩ (Nat.le_of_ble_eq_true rfl) ?_
        intro r_ h_ q_; obtain ⟨q1_, q2_⟩ := q_; have q2_ := q2_.symm; subst q1_; subst q2_
        refine g_iret dX8_ask_48 rfl (rfl) (hQ _ _ ?_)
        rw [e]; exact ⟨rfl, grm_AM hg1 _, fr_sF (by decide) (fr_sA (by decide) (fr_sF (by decide) (fr_sF (by decide) fr_rf)))⟩
      · have hd32 := i_eq.mp hc32; (try simp (disch := omega) only [nT, t_m1000100, t_m1000010, t_m1000003, t_m1000002, t_m1000001, t_m1000000, t_m65535, t_m1000, t_m3, t_m1, t_0, t_1, t_2, t_3, t_4, t_5, t_6, t_7, t_8, t_9, t_10, t_11, t_12, t_13, t_15, t_16, t_20, t_21, t_22, t_32, t_40, t_41, t_48, t_49, t_57, t_59, t_60, t_63, t_72, t_76, t_88, t_100, t_144, t_200, t_255, t_288, t_400, t_800, t_999, t_1000, t_1024, t_1200, t_1600, t_3200, t_100000, t_200000, t_252645135, t_858993459, t_1431655765, u_m1000002, u_m1000001, u_m1000, u_m3, u_m1, u_0, u_1, u_2, u_3, u_4, u_5, u_7, u_8, u_10, u_11, u_15, u_60, u_100, u_255, u_999, u_1000, u_100000, u_4294967295] at hd32)
        rw [if_pos (by omega)] at e
        refine g_aload_n (i := 0) dX8_ask_35 rfl rfl ?_
        refine g_iload_n (i := 1) dX8_ask_36 rfl rfl ?_
        refine g_callV (M' := mX8_cost) dX8_ask_37 lc_X8_cost ml_X8_218 (c_mcost hg1 (Nat.zero_le _) hs1 (by omega)) rfl rfl (by repeat' (first | assumption | exact rF_eq | refine rF_ne (by decide) ?_ | refine rF_a ?_ | exact rA_eq | refine rA_ne (by decide) ?_ | refine rA_f ?_)) rfl ⟨Nat.le_of_ble_eq_true rfl, Nat.le_of_ble_eq_true rfl, Nat.le_of_ble_eq_true rfl, Nat.le_of_ble_eq_true rfl⟩ (Nat.le_of_ble_eq_true rfl) ?_
        intro r_ h_ q_; obtain ⟨q1_, q2_⟩ := q_; have q2_ := q2_.symm; subst q1_; subst q2_
        refine g_goto (tgt := 48) dX8_ask_40 (by decide) ?_
        refine g_iret dX8_ask_48 rfl (rfl) (hQ _ _ ?_)
        rw [e]; exact ⟨rfl, grm_AM hg1 _, fr_sF (by decide) (fr_sA (by decide) (fr_sF (by decide) (fr_sF (by decide) fr_rf)))⟩
    · replace hc20 := bI_0.mp hc20
      (try simp (disch := omega) only [nT, t_m1000100, t_m1000010, t_m1000003, t_m1000002, t_m1000001, t_m1000000, t_m65535, t_m1000, t_m3, t_m1, t_0, t_1, t_2, t_3, t_4, t_5, t_6, t_7, t_8, t_9, t_10, t_11, t_12, t_13, t_15, t_16, t_20, t_21, t_22, t_32, t_40, t_41, t_48, t_49, t_57, t_59, t_60, t_63, t_72, t_76, t_88, t_100, t_144, t_200, t_255, t_288, t_400, t_800, t_999, t_1000, t_1024, t_1200, t_1600, t_3200, t_100000, t_200000, t_252645135, t_858993459, t_1431655765, u_m1000002, u_m1000001, u_m1000, u_m3, u_m1, u_0, u_1, u_2, u_3, u_4, u_5, u_7, u_8, u_10, u_11, u_15, u_60, u_100, u_255, u_999, u_1000, u_100000, u_4294967295] at hc20)
      refine g_ldc dX8_ask_23 kc_X8_126 ?_
      refine g_iret dX8_ask_25 rfl (rfl) (hQ _ _ ?_)
      have e : opAsk T w t a = _ := if_pos (by omega)
      rw [e]; exact ⟨rfl, hg, fr_sF (by decide) fr_rf⟩
def opTrace (w : RS) (i : Int32) : Int32 := if 0 ≤ i.toInt ∧ i.toInt < w.1 then w.2 i.toInt.toNat else -1000000
theorem x_trace {w : RS} (hw : w.1 ≤ 16) {h : HH} (hg : GRX w h) (h0 : gA h 0 = aO 7) (h8 : gF h 0 8 = .ref 34) (i : Int32) : CT mX7_trace 1 0 0 [.ref 0, .int i] h (fun r h' => r = some (.int (opTrace w i)) ∧ h' = h) := by
  obtain ⟨e1, e2, e3, e4, e5⟩ := id hg
  refine CT.go [.ref 0, .int i] (by decide +kernel) rfl rfl (fun Q' hQ => ?_)
  refine g_iload_n (i := 1) dX7_trace_0 rfl rfl ?_
  refine g_aload_n (i := 0) dX7_trace_1 rfl rfl ?_
  refine g_get dX7_trace_2 fl_X7_56 (by repeat' (first | assumption | exact rF_eq | refine rF_ne (by decide) ?_ | refine rF_a ?_ | exact rA_eq | refine rA_ne (by decide) ?_ | refine rA_f ?_)) (by repeat' (first | assumption | exact rF_eq | refine rF_ne (by decide) ?_ | refine rF_a ?_ | exact rA_eq | refine rA_ne (by decide) ?_ | refine rA_f ?_)) ?_
  refine g_get dX7_trace_5 fl_X7_219 (by repeat' (first | assumption | exact rF_eq | refine rF_ne (by decide) ?_ | refine rF_a ?_ | exact rA_eq | refine rA_ne (by decide) ?_ | refine rA_f ?_)) (by repeat' (first | assumption | exact rF_eq | refine rF_ne (by decide) ?_ | refine rF_a ?_ | exact rA_eq | refine rA_ne (by decide) ?_ | refine rA_f ?_)) ?_
  refine g_callS (M' := mX7_isWithin) dX7_trace_8 lc_X7_isWithin ml_X7_90 (c_isWithin h i (nI w.1) w.1 (nT (by omega))) rfl rfl ⟨Nat.le_of_ble_eq_true rfl, Nat.le_of_ble_eq_true rfl, Nat.le_of_ble_eq_true rfl, Nat.le_of_ble_eq_true rfl⟩ (Nat.le_of_ble_eq_true rfl) ?_
  intro r_ h_ q_; obtain ⟨q1_, q2_⟩ := q_; have q2_ := q2_.symm; subst q1_; subst q2_
  refine g_if_eq (tgt := 26) dX7_trace_11 (by decide) (fun hc11 => ?_) (fun hc11 => ?_)
  · replace hc11 := bI_0.mp hc11
    (try simp (disch := omega) only [nT, t_m1000100, t_m1000010, t_m1000003, t_m1000002, t_m1000001, t_m1000000, t_m65535, t_m1000, t_m3, t_m1, t_0, t_1, t_2, t_3, t_4, t_5, t_6, t_7, t_8, t_9, t_10, t_11, t_12, t_13, t_15, t_16, t_20, t_21, t_22, t_32, t_40, t_41, t_48, t_49, t_57, t_59, t_60, t_63, t_72, t_76, t_88, t_100, t_144, t_200, t_255, t_288, t_400, t_800, t_999, t_1000, t_1024, t_1200, t_1600, t_3200, t_100000, t_200000, t_252645135, t_858993459, t_1431655765, u_m1000002, u_m1000001, u_m1000, u_m3, u_m1, u_0, u_1, u_2, u_3, u_4, u_5, u_7, u_8, u_10, u_11, u_15, u_60, u_100, u_255, u_999, u_1000, u_100000, u_4294967295] at hc11)
    have e : opTrace w i = _ := if_neg (by omega)
    refine g_ldc dX7_trace_26 kc_X7_155 ?_
    refine g_iret dX7_trace_28 rfl (rfl) (hQ _ _ ?_)
    rw [e]; exact ⟨rfl, rfl⟩
  · replace hc11 := bI_n0.mp hc11
    (try simp (disch := omega) only [nT, t_m1000100, t_m1000010, t_m1000003, t_m1000002, t_m1000001, t_m1000000, t_m65535, t_m1000, t_m3, t_m1, t_0, t_1, t_2, t_3, t_4, t_5, t_6, t_7, t_8, t_9, t_10, t_11, t_12, t_13, t_15, t_16, t_20, t_21, t_22, t_32, t_40, t_41, t_48, t_49, t_57, t_59, t_60, t_63, t_72, t_76, t_88, t_100, t_144, t_200, t_255, t_288, t_400, t_800, t_999, t_1000, t_1024, t_1200, t_1600, t_3200, t_100000, t_200000, t_252645135, t_858993459, t_1431655765, u_m1000002, u_m1000001, u_m1000, u_m3, u_m1, u_0, u_1, u_2, u_3, u_4, u_5, u_7, u_8, u_10, u_11, u_15, u_60, u_100, u_255, u_999, u_1000, u_100000, u_4294967295] at hc11)
    have e : opTrace w i = _ := if_pos (by omega)
    obtain ⟨b, hb, rfl, htb⟩ := n_of (n := w.1) (x := i) (by omega) (by omega)
    rw [nTN (by omega)] at e
    refine g_aload_n (i := 0) dX7_trace_14 rfl rfl ?_
    refine g_get dX7_trace_15 fl_X7_56 (by repeat' (first | assumption | exact rF_eq | refine rF_ne (by decide) ?_ | refine rF_a ?_ | exact rA_eq | refine rA_ne (by decide) ?_ | refine rA_f ?_)) (by repeat' (first | assumption | exact rF_eq | refine rF_ne (by decide) ?_ | refine rF_a ?_ | exact rA_eq | refine rA_ne (by decide) ?_ | refine rA_f ?_)) ?_
    refine g_get dX7_trace_18 fl_X7_228 (by repeat' (first | assumption | exact rF_eq | refine rF_ne (by decide) ?_ | refine rF_a ?_ | exact rA_eq | refine rA_ne (by decide) ?_ | refine rA_f ?_)) (by repeat' (first | assumption | exact rF_eq | refine rF_ne (by decide) ?_ | refine rF_a ?_ | exact rA_eq | refine rA_ne (by decide) ?_ | refine rA_f ?_)) ?_
    refine g_iload_n (i := 1) dX7_trace_21 rfl rfl ?_
    refine g_iald dX7_trace_22 (by repeat' (first | assumption | exact rF_eq | refine rF_ne (by decide) ?_ | refine rF_a ?_ | exact rA_eq | refine rA_ne (by decide) ?_ | refine rA_f ?_)) (htb) (by omega) ?_
    refine g_goto (tgt := 28) dX7_trace_23 (by decide) ?_
    refine g_iret dX7_trace_28 rfl (rfl) (hQ _ _ ?_)
    rw [e]; exact ⟨rfl, rfl⟩
theorem m_trace {w : RS} (hw : w.1 ≤ 16) {h : HH} (hg : GRM w h) (i : Int32) : CT mX8_trace 1 0 0 [.ref 44, .int i] h (fun r h' => r = some (.int (opTrace w i)) ∧ h' = sF h 44 0 (.int 0)) := by
  obtain ⟨e1, e2, e3, e4⟩ := id hg
  refine CT.go [.ref 44, .int i] (by decide +kernel) rfl rfl (fun Q' hQ => ?_)
  refine g_aload_n (i := 0) dX8_trace_0 rfl rfl ?_
  refine g_iconst (v := 0) dX8_trace_1 (by decide) ?_
  refine g_put dX8_trace_2 pl_X8_107 (by repeat' (first | assumption | exact rF_eq | refine rF_ne (by decide) ?_ | refine rF_a ?_ | exact rA_eq | refine rA_ne (by decide) ?_ | refine rA_f ?_)) (fun _ => ⟨rfl, rfl⟩) ?_
  refine g_iload_n (i := 1) dX8_trace_5 rfl rfl ?_
  refine g_i2l dX8_trace_6 ?_
  refine g_lconst (v := 0) dX8_trace_7 (by decide) ?_
  refine g_aload_n (i := 0) dX8_trace_8 rfl rfl ?_
  refine g_get dX8_trace_9 fl_X8_212 (by repeat' (first | assumption | exact rF_eq | refine rF_ne (by decide) ?_ | refine rF_a ?_ | exact rA_eq | refine rA_ne (by decide) ?_ | refine rA_f ?_)) (by repeat' (first | assumption | exact rF_eq | refine rF_ne (by decide) ?_ | refine rF_a ?_ | exact rA_eq | refine rA_ne (by decide) ?_ | refine rA_f ?_)) ?_
  refine g_iconst (v := 1) dX8_trace_12 (by decide) ?_
  refine g_isub dX8_trace_13 ?_
  refine g_i2l dX8_trace_14 ?_
  refine g_callS (M' := mX8_in) dX8_trace_15 lc_X8_in ml_X8_116 (c_in _ i.toInt64 0 (nI w.1 - 1).toInt64 0 ((w.1 : Int) - 1) rfl (by rw [l_i, nm1T (by omega)])) rfl rfl ⟨Nat.le_of_ble_eq_true rfl, Nat.le_of_ble_eq_true rfl, Nat.le_of_ble_eq_true rfl, Nat.le_of_ble_eq_true rfl⟩ (Nat.le_of_ble_eq_true rfl) ?_
  intro r_ h_ q_; obtain ⟨q1_, q2_⟩ := q_; have q2_ := q2_.symm; subst q1_; subst q2_
  rw [l_i]
  refine g_if_eq (tgt := 30) dX8_trace_18 (by decide) (fun hc18 => ?_) (fun hc18 => ?_)
  · replace hc18 := bI_0.mp hc18
    (try simp (disch := omega) only [nT, t_m1000100, t_m1000010, t_m1000003, t_m1000002, t_m1000001, t_m1000000, t_m65535, t_m1000, t_m3, t_m1, t_0, t_1, t_2, t_3, t_4, t_5, t_6, t_7, t_8, t_9, t_10, t_11, t_12, t_13, t_15, t_16, t_20, t_21, t_22, t_32, t_40, t_41, t_48, t_49, t_57, t_59, t_60, t_63, t_72, t_76, t_88, t_100, t_144, t_200, t_255, t_288, t_400, t_800, t_999, t_1000, t_1024, t_1200, t_1600, t_3200, t_100000, t_200000, t_252645135, t_858993459, t_1431655765, u_m1000002, u_m1000001, u_m1000, u_m3, u_m1, u_0, u_1, u_2, u_3, u_4, u_5, u_7, u_8, u_10, u_11, u_15, u_60, u_100, u_255, u_999, u_1000, u_100000, u_4294967295] at hc18)
    have e : opTrace w i = _ := if_neg (by omega)
    refine g_ldc dX8_trace_30 kc_X8_142 ?_
    refine g_iret dX8_trace_32 rfl (rfl) (hQ _ _ ?_)
    rw [e]; exact ⟨rfl, rfl⟩
  · replace hc18 := bI_n0.mp hc18
    (try simp (disch := omega) only [nT, t_m1000100, t_m1000010, t_m1000003, t_m1000002, t_m1000001, t_m1000000, t_m65535, t_m1000, t_m3, t_m1, t_0, t_1, t_2, t_3, t_4, t_5, t_6, t_7, t_8, t_9, t_10, t_11, t_12, t_13, t_15, t_16, t_20, t_21, t_22, t_32, t_40, t_41, t_48, t_49, t_57, t_59, t_60, t_63, t_72, t_76, t_88, t_100, t_144, t_200, t_255, t_288, t_400, t_800, t_999, t_1000, t_1024, t_1200, t_1600, t_3200, t_100000, t_200000, t_252645135, t_858993459, t_1431655765, u_m1000002, u_m1000001, u_m1000, u_m3, u_m1, u_0, u_1, u_2, u_3, u_4, u_5, u_7, u_8, u_10, u_11, u_15, u_60, u_100, u_255, u_999, u_1000, u_100000, u_4294967295] at hc18)
    have e : opTrace w i = _ := if_pos (by omega)
    obtain ⟨b, hb, rfl, htb⟩ := n_of (n := w.1) (x := i) (by omega) (by omega)
    rw [nTN (by omega)] at e
    refine g_aload_n (i := 0) dX8_trace_21 rfl rfl ?_
    refine g_get dX8_trace_22 fl_X8_65 (by repeat' (first | assumption | exact rF_eq | refine rF_ne (by decide) ?_ | refine rF_a ?_ | exact rA_eq | refine rA_ne (by decide) ?_ | refine rA_f ?_)) (by repeat' (first | assumption | exact rF_eq | refine rF_ne (by decide) ?_ | refine rF_a ?_ | exact rA_eq | refine rA_ne (by decide) ?_ | refine rA_f ?_)) ?_
    refine g_iload_n (i := 1) dX8_trace_25 rfl rfl ?_
    refine g_iald dX8_trace_26 (by repeat' (first | assumption | exact rF_eq | refine rF_ne (by decide) ?_ | refine rF_a ?_ | exact rA_eq | refine rA_ne (by decide) ?_ | refine rA_f ?_)) (htb) (by omega) ?_
    refine g_goto (tgt := 32) dX8_trace_27 (by decide) ?_
    refine g_iret dX8_trace_32 rfl (rfl) (hQ _ _ ?_)
    rw [e]; exact ⟨rfl, rfl⟩
