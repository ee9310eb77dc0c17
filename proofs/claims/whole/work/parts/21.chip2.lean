theorem ni_a0 (a : Nat) : nI a + 0 = nI a := Int32.add_zero _
theorem ni_a2 (a : Nat) : nI a + 2 = nI (a + 2) := ni_add a 2
theorem ni_a3 (a : Nat) : nI a + 3 = nI (a + 3) := ni_add a 3
theorem ni_a4 (a : Nat) : nI a + 4 = nI (a + 4) := ni_add a 4
theorem ni_a5 (a : Nat) : nI a + 5 = nI (a + 5) := ni_add a 5
theorem ni_m6 (a : Nat) : nI a * 6 = nI (6 * a) := by rw [show (6 : Int32) = nI 6 from rfl, pk_mul, Nat.mul_comm]
def adt (f : Nat → Int32) (r : Nat) (s b y : Int32) : Nat → Int32 := fun j =>
  if j = r + 3 then s else if j = r + 2 then f (r + 2) + y else if j = r + 1 then f (r + 1) + 1 else if j = r then b else if j = r + 5 ∧ (f (r + 1)).toInt = 0 then b else f j
theorem adt_at (f : Nat → Int32) (r : Nat) (s b y : Int32) (j : Nat) : adt f r s b y j = if j = r + 3 then s else if j = r + 2 then f (r + 2) + y else if j = r + 1 then f (r + 1) + 1 else if j = r then b else if j = r + 5 ∧ (f (r + 1)).toInt = 0 then b else f j := rfl
def RowX (fa f : Nat → Int32) (n cnt : Nat) (tot b s fs fb : Int32) : Prop := (∀ j, j < 6 * n → f j = fa j) ∧ f (6 * n + 1) = nI cnt ∧ f (6 * n + 2) = tot ∧ f (6 * n + 4) = fs ∧ (0 < cnt → f (6 * n) = b ∧ f (6 * n + 3) = s ∧ f (6 * n + 5) = fb)
theorem adt_1 {f : Nat → Int32} {r : Nat} {s b y : Int32} (h : (f (r + 1)).toInt = 0) : upd (upd (upd (upd (upd f (r + 5) b) r b) (r + 1) (upd (upd f (r + 5) b) r b (r + 1) + 1)) (r + 2) (upd (upd (upd f (r + 5) b) r b) (r + 1) (upd (upd f (r + 5) b) r b (r + 1) + 1) (r + 2) + y)) (r + 3) s = adt f r s b y := by
  funext j
  rw [adt_at]
  by_cases j3 : j = r + 3
  · subst j3; simp [upd]
  by_cases j2 : j = r + 2
  · subst j2; simp [upd]
  by_cases j1 : j = r + 1
  · subst j1; simp [upd]
  by_cases j0 : j = r
  · subst j0; simp [upd]
  by_cases j5 : j = r + 5
  · subst j5; simp [upd, h]
  simp [upd, j0, j1, j2, j3, j5]
theorem adt_2 {f : Nat → Int32} {r : Nat} {s b y : Int32} (h : ¬ (f (r + 1)).toInt = 0) : upd (upd (upd (upd f r b) (r + 1) (upd f r b (r + 1) + 1)) (r + 2) (upd (upd f r b) (r + 1) (upd f r b (r + 1) + 1) (r + 2) + y)) (r + 3) s = adt f r s b y := by
  funext j
  rw [adt_at]
  by_cases j3 : j = r + 3
  · subst j3; simp [upd]
  by_cases j2 : j = r + 2
  · subst j2; simp [upd]
  by_cases j1 : j = r + 1
  · subst j1; simp [upd]
  by_cases j0 : j = r
  · subst j0; simp [upd]
  simp [upd, j0, j1, j2, j3, h]
theorem adt_row {fa f : Nat → Int32} {n cnt : Nat} {tot b s fs fb : Int32} (h : RowX fa f n cnt tot b s fs fb) (hc : cnt < 100) (s' b' y : Int32) : RowX fa (adt f (6 * n) s' b' y) n (cnt + 1) (tot + y) b' s' fs (if cnt = 0 then b' else fb) := by
  obtain ⟨h1, h2, h3, h4, h5⟩ := h
  have e0 : (f (6 * n + 1)).toInt = (cnt : Int) := by rw [h2, nT (by omega)]
  refine ⟨fun j hj => ?_, ?_, ?_, ?_, fun _ => ⟨?_, ?_, ?_⟩⟩
  · rw [adt_at, if_neg (by omega), if_neg (by omega), if_neg (by omega), if_neg (by omega), if_neg (by omega)]; exact h1 j hj
  · rw [adt_at, if_neg (by omega), if_neg (by omega), if_pos rfl, h2, ni_inc]
  · rw [adt_at, if_neg (by omega), if_pos rfl, h3]
  · rw [adt_at, if_neg (by omega), if_neg (by omega), if_neg (by omega), if_neg (by omega), if_neg (by omega)]; exact h4
  · rw [adt_at, if_neg (by omega), if_neg (by omega), if_neg (by omega), if_pos rfl]
  · rw [adt_at, if_pos rfl]
  · rw [adt_at, if_neg (by omega), if_neg (by omega), if_neg (by omega), if_neg (by omega)]
    by_cases q : cnt = 0
    · rw [if_pos q, if_pos ⟨rfl, by omega⟩]
    · rw [if_neg q, if_neg (by omega)]; exact (h5 (by omega)).2.2
theorem c_logBegin {h : HH} {n l : Nat} {fa : Nat → Int32} (hg : LgX h n l fa) (hn : n < 200) (s : Int32) : CT mX1_begin 0 0 0 [.ref 38, .int s] h (fun r h' => r = none ∧ ∃ f, h' = sA h 39 (aI 1200 f) ∧ RowX fa f n 0 0 0 0 s 0) := by
  obtain ⟨e1, e2, e3, e4, e5⟩ := hg
  refine CT.go [.ref 38, .int s, hU] (by decide +kernel) rfl rfl (fun Q' hQ => ?_)
  refine g_aload_n (i := 0) dX1_begin_0 rfl rfl ?_
  refine g_get dX1_begin_1 fl_X1_15 (by repeat' (first | assumption | exact rF_eq | refine rF_ne (by decide) ?_ | refine rF_a ?_ | exact rA_eq | refine rA_ne (by decide) ?_ | refine rA_f ?_)) (by repeat' (first | assumption | exact rF_eq | refine rF_ne (by decide) ?_ | refine rF_a ?_ | exact rA_eq | refine rA_ne (by decide) ?_ | refine rA_f ?_)) ?_
  refine g_bipush (v := 6) dX1_begin_4 (by decide) ?_
  refine g_imul dX1_begin_6 ?_
  rw [ni_m6]
  refine g_istore_n (i := 2) dX1_begin_7 rfl (Nat.le_of_ble_eq_true rfl) rfl ?_
  refine g_aload_n (i := 0) dX1_begin_8 rfl rfl ?_
  refine g_get dX1_begin_9 fl_X1_9 (by repeat' (first | assumption | exact rF_eq | refine rF_ne (by decide) ?_ | refine rF_a ?_ | exact rA_eq | refine rA_ne (by decide) ?_ | refine rA_f ?_)) (by repeat' (first | assumption | exact rF_eq | refine rF_ne (by decide) ?_ | refine rF_a ?_ | exact rA_eq | refine rA_ne (by decide) ?_ | refine rA_f ?_)) ?_
  refine g_iload_n (i := 2) dX1_begin_12 rfl rfl ?_
  refine g_iconst (v := 1) dX1_begin_13 (by decide) ?_
  refine g_iadd dX1_begin_14 ?_
  refine g_iconst (v := 0) dX1_begin_15 (by decide) ?_
  rw [ni_inc]
  refine g_iast dX1_begin_16 (by repeat' (first | assumption | exact rF_eq | refine rF_ne (by decide) ?_ | refine rF_a ?_ | exact rA_eq | refine rA_ne (by decide) ?_ | refine rA_f ?_)) (nT (by omega)) (by omega) ?_
  refine g_aload_n (i := 0) dX1_begin_17 rfl rfl ?_
  refine g_get dX1_begin_18 fl_X1_9 (by repeat' (first | assumption | exact rF_eq | refine rF_ne (by decide) ?_ | refine rF_a ?_ | exact rA_eq | refine rA_ne (by decide) ?_ | refine rA_f ?_)) (by repeat' (first | assumption | exact rF_eq | refine rF_ne (by decide) ?_ | refine rF_a ?_ | exact rA_eq | refine rA_ne (by decide) ?_ | refine rA_f ?_)) ?_
  refine g_iload_n (i := 2) dX1_begin_21 rfl rfl ?_
  refine g_iconst (v := 2) dX1_begin_22 (by decide) ?_
  refine g_iadd dX1_begin_23 ?_
  refine g_iconst (v := 0) dX1_begin_24 (by decide) ?_
  rw [ni_a2]
  refine g_iast dX1_begin_25 (by repeat' (first | assumption | exact rF_eq | refine rF_ne (by decide) ?_ | refine rF_a ?_ | exact rA_eq | refine rA_ne (by decide) ?_ | refine rA_f ?_)) (nT (by omega)) (by omega) ?_
  refine g_aload_n (i := 0) dX1_begin_26 rfl rfl ?_
  refine g_get dX1_begin_27 fl_X1_9 (by repeat' (first | assumption | exact rF_eq | refine rF_ne (by decide) ?_ | refine rF_a ?_ | exact rA_eq | refine rA_ne (by decide) ?_ | refine rA_f ?_)) (by repeat' (first | assumption | exact rF_eq | refine rF_ne (by decide) ?_ | refine rF_a ?_ | exact rA_eq | refine rA_ne (by decide) ?_ | refine rA_f ?_)) ?_
  refine g_iload_n (i := 2) dX1_begin_30 rfl rfl ?_
  refine g_iconst (v := 4) dX1_begin_31 (by decide) ?_
  refine g_iadd dX1_begin_32 ?_
  refine g_iload_n (i := 1) dX1_begin_33 rfl rfl ?_
  rw [ni_a4]
  refine g_iast dX1_begin_34 (by repeat' (first | assumption | exact rF_eq | refine rF_ne (by decide) ?_ | refine rF_a ?_ | exact rA_eq | refine rA_ne (by decide) ?_ | refine rA_f ?_)) (nT (by omega)) (by omega) ?_
  refine g_vret dX1_begin_35 rfl (hQ _ _ ?_)
  refine ⟨rfl, _, by rw [sA_sA, sA_sA], fun j hj => ?_, ?_, ?_, ?_, fun q => absurd q (by omega)⟩
  · rw [upd_n (by omega), upd_n (by omega), upd_n (by omega)]
  · rw [upd_n (by omega), upd_n (by omega), upd_s]; rfl
  · rw [upd_n (by omega), upd_s]
  · rw [upd_s]
theorem c_addTry {h : HH} {n l : Nat} {fa : Nat → Int32} (hg : LgX h n l fa) (hn : n < 200) (s b y : Int32) : CT mX1_addTry 0 0 0 [.ref 38, .int s, .int b, .int y] h (fun r h' => r = none ∧ h' = sA h 39 (aI 1200 (adt fa (6 * n) s b y))) := by
  obtain ⟨e1, e2, e3, e4, e5⟩ := hg
  refine CT.go [.ref 38, .int s, .int b, .int y, hU] (by decide +kernel) rfl rfl (fun Q' hQ => ?_)
  refine g_aload_n (i := 0) dX1_addTry_0 rfl rfl ?_
  refine g_get dX1_addTry_1 fl_X1_15 (by repeat' (first | assumption | exact rF_eq | refine rF_ne (by decide) ?_ | refine rF_a ?_ | exact rA_eq | refine rA_ne (by decide) ?_ | refine rA_f ?_)) (by repeat' (first | assumption | exact rF_eq | refine rF_ne (by decide) ?_ | refine rF_a ?_ | exact rA_eq | refine rA_ne (by decide) ?_ | refine rA_f ?_)) ?_
  refine g_bipush (v := 6) dX1_addTry_4 (by decide) ?_
  refine g_imul dX1_addTry_6 ?_
  rw [ni_m6]
  refine g_istore dX1_addTry_7 (Nat.le_of_ble_eq_true rfl) rfl ?_
  refine g_aload_n (i := 0) dX1_addTry_9 rfl rfl ?_
  refine g_get dX1_addTry_10 fl_X1_9 (by repeat' (first | assumption | exact rF_eq | refine rF_ne (by decide) ?_ | refine rF_a ?_ | exact rA_eq | refine rA_ne (by decide) ?_ | refine rA_f ?_)) (by repeat' (first | assumption | exact rF_eq | refine rF_ne (by decide) ?_ | refine rF_a ?_ | exact rA_eq | refine rA_ne (by decide) ?_ | refine rA_f ?_)) ?_
  refine g_iload dX1_addTry_13 rfl ?_
  refine g_iconst (v := 1) dX1_addTry_15 (by decide) ?_
  refine g_iadd dX1_addTry_16 ?_
  rw [ni_inc]
  refine g_iald dX1_addTry_17 (by repeat' (first | assumption | exact rF_eq | refine rF_ne (by decide) ?_ | refine rF_a ?_ | exact rA_eq | refine rA_ne (by decide) ?_ | refine rA_f ?_)) (nT (by omega)) (by omega) ?_
  refine g_if_ne (tgt := 31) dX1_addTry_18 (by decide) (fun hc18 => ?_) (fun hc18 => ?_)
  · have hd18 := mt i_eq.mpr hc18; (try simp (disch := omega) only [nT, t_m1000100, t_m1000010, t_m1000003, t_m1000002, t_m1000001, t_m1000000, t_m65535, t_m1000, t_m3, t_m1, t_0, t_1, t_2, t_3, t_4, t_5, t_6, t_7, t_8, t_9, t_10, t_11, t_12, t_13, t_15, t_16, t_20, t_21, t_22, t_32, t_40, t_41, t_48, t_49, t_57, t_59, t_60, t_63, t_72, t_76, t_88, t_100, t_144, t_200, t_255, t_288, t_400, t_800, t_999, t_1000, t_1024, t_1200, t_1600, t_3200, t_100000, t_200000, t_252645135, t_858993459, t_1431655765, u_m1000002, u_m1000001, u_m1000, u_m3, u_m1, u_0, u_1, u_2, u_3, u_4, u_5, u_7, u_8, u_10, u_11, u_15, u_60, u_100, u_255, u_999, u_1000, u_100000, u_4294967295] at hd18)
    refine g_aload_n (i := 0) dX1_addTry_31 rfl rfl ?_
    refine g_get dX1_addTry_32 fl_X1_9 (by repeat' (first | assumption | exact rF_eq | refine rF_ne (by decide) ?_ | refine rF_a ?_ | exact rA_eq | refine rA_ne (by decide) ?_ | refine rA_f ?_)) (by repeat' (first | assumption | exact rF_eq | refine rF_ne (by decide) ?_ | refine rF_a ?_ | exact rA_eq | refine rA_ne (by decide) ?_ | refine rA_f ?_)) ?_
    refine g_iload dX1_addTry_35 rfl ?_
    refine g_iconst (v := 0) dX1_addTry_37 (by decide) ?_
    refine g_iadd dX1_addTry_38 ?_
    rw [ni_a0]
    refine g_iload_n (i := 2) dX1_addTry_39 rfl rfl ?_
    refine g_iast dX1_addTry_40 (by repeat' (first | assumption | exact rF_eq | refine rF_ne (by decide) ?_ | refine rF_a ?_ | exact rA_eq | refine rA_ne (by decide) ?_ | refine rA_f ?_)) (nT (by omega)) (by omega) ?_
    refine g_aload_n (i := 0) dX1_addTry_41 rfl rfl ?_
    refine g_get dX1_addTry_42 fl_X1_9 (by repeat' (first | assumption | exact rF_eq | refine rF_ne (by decide) ?_ | refine rF_a ?_ | exact rA_eq | refine rA_ne (by decide) ?_ | refine rA_f ?_)) (by repeat' (first | assumption | exact rF_eq | refine rF_ne (by decide) ?_ | refine rF_a ?_ | exact rA_eq | refine rA_ne (by decide) ?_ | refine rA_f ?_)) ?_
    refine g_iload dX1_addTry_45 rfl ?_
    refine g_iconst (v := 1) dX1_addTry_47 (by decide) ?_
    refine g_iadd dX1_addTry_48 ?_
    rw [ni_inc]
    refine g_dup2 dX1_addTry_49 rfl rfl ?_
    refine g_iald dX1_addTry_50 (by repeat' (first | assumption | exact rF_eq | refine rF_ne (by decide) ?_ | refine rF_a ?_ | exact rA_eq | refine rA_ne (by decide) ?_ | refine rA_f ?_)) (nT (by omega)) (by omega) ?_
    refine g_iconst (v := 1) dX1_addTry_51 (by decide) ?_
    refine g_iadd dX1_addTry_52 ?_
    refine g_iast dX1_addTry_53 (by repeat' (first | assumption | exact rF_eq | refine rF_ne (by decide) ?_ | refine rF_a ?_ | exact rA_eq | refine rA_ne (by decide) ?_ | refine rA_f ?_)) (nT (by omega)) (by omega) ?_
    refine g_aload_n (i := 0) dX1_addTry_54 rfl rfl ?_
    refine g_get dX1_addTry_55 fl_X1_9 (by repeat' (first | assumption | exact rF_eq | refine rF_ne (by decide) ?_ | refine rF_a ?_ | exact rA_eq | refine rA_ne (by decide) ?_ | refine rA_f ?_)) (by repeat' (first | assumption | exact rF_eq | refine rF_ne (by decide) ?_ | refine rF_a ?_ | exact rA_eq | refine rA_ne (by decide) ?_ | refine rA_f ?_)) ?_
    refine g_iload dX1_addTry_58 rfl ?_
    refine g_iconst (v := 2) dX1_addTry_60 (by decide) ?_
    refine g_iadd dX1_addTry_61 ?_
    rw [ni_a2]
    refine g_dup2 dX1_addTry_62 rfl rfl ?_
    refine g_iald dX1_addTry_63 (by repeat' (first | assumption | exact rF_eq | refine rF_ne (by decide) ?_ | refine rF_a ?_ | exact rA_eq | refine rA_ne (by decide) ?_ | refine rA_f ?_)) (nT (by omega)) (by omega) ?_
    refine g_iload_n (i := 3) dX1_addTry_64 rfl rfl ?_
    refine g_iadd dX1_addTry_65 ?_
    refine g_iast dX1_addTry_66 (by repeat' (first | assumption | exact rF_eq | refine rF_ne (by decide) ?_ | refine rF_a ?_ | exact rA_eq | refine rA_ne (by decide) ?_ | refine rA_f ?_)) (nT (by omega)) (by omega) ?_
    refine g_aload_n (i := 0) dX1_addTry_67 rfl rfl ?_
    refine g_get dX1_addTry_68 fl_X1_9 (by repeat' (first | assumption | exact rF_eq | refine rF_ne (by decide) ?_ | refine rF_a ?_ | exact rA_eq | refine rA_ne (by decide) ?_ | refine rA_f ?_)) (by repeat' (first | assumption | exact rF_eq | refine rF_ne (by decide) ?_ | refine rF_a ?_ | exact rA_eq | refine rA_ne (by decide) ?_ | refine rA_f ?_)) ?_
    refine g_iload dX1_addTry_71 rfl ?_
    refine g_iconst (v := 3) dX1_addTry_73 (by decide) ?_
    refine g_iadd dX1_addTry_74 ?_
    refine g_iload_n (i := 1) dX1_addTry_75 rfl rfl ?_
    rw [ni_a3]
    refine g_iast dX1_addTry_76 (by repeat' (first | assumption | exact rF_eq | refine rF_ne (by decide) ?_ | refine rF_a ?_ | exact rA_eq | refine rA_ne (by decide) ?_ | refine rA_f ?_)) (nT (by omega)) (by omega) ?_
    refine g_vret dX1_addTry_77 rfl (hQ _ _ ?_)
    refine ⟨rfl, ?_⟩
    simp only [sA_sA]
    first | rw [adt_1 hd18] | rw [adt_2 hd18]
  · have hd18 := i_eq.mp hc18; (try simp (disch := omega) only [nT, t_m1000100, t_m1000010, t_m1000003, t_m1000002, t_m1000001, t_m1000000, t_m65535, t_m1000, t_m3, t_m1, t_0, t_1, t_2, t_3, t_4, t_5, t_6, t_7, t_8, t_9, t_10, t_11, t_12, t_13, t_15, t_16, t_20, t_21, t_22, t_32, t_40, t_41, t_48, t_49, t_57, t_59, t_60, t_63, t_72, t_76, t_88, t_100, t_144, t_200, t_255, t_288, t_400, t_800, t_999, t_1000, t_1024, t_1200, t_1600, t_3200, t_100000, t_200000, t_252645135, t_858993459, t_1431655765, u_m1000002, u_m1000001, u_m1000, u_m3, u_m1, u_0, u_1, u_2, u_3, u_4, u_5, u_7, u_8, u_10, u_11, u_15, u_60, u_100, u_255, u_999, u_1000, u_100000, u_4294967295] at hd18)
    refine g_aload_n (i := 0) dX1_addTry_21 rfl rfl ?_
    refine g_get dX1_addTry_22 fl_X1_9 (by repeat' (first | assumption | exact rF_eq | refine rF_ne (by decide) ?_ | refine rF_a ?_ | exact rA_eq | refine rA_ne (by decide) ?_ | refine rA_f ?_)) (by repeat' (first | assumption | exact rF_eq | refine rF_ne (by decide) ?_ | refine rF_a ?_ | exact rA_eq | refine rA_ne (by decide) ?_ | refine rA_f ?_)) ?_
    refine g_iload dX1_addTry_25 rfl ?_
    refine g_iconst (v := 5) dX1_addTry_27 (by decide) ?_
    refine g_iadd dX1_addTry_28 ?_
    refine g_iload_n (i := 2) dX1_addTry_29 rfl rfl ?_
    rw [ni_a5]
    refine g_iast dX1_addTry_30 (by repeat' (first | assumption | exact rF_eq | refine rF_ne (by decide) ?_ | refine rF_a ?_ | exact rA_eq | refine rA_ne (by decide) ?_ | refine rA_f ?_)) (nT (by omega)) (by omega) ?_
    refine g_aload_n (i := 0) dX1_addTry_31 rfl rfl ?_
    refine g_get dX1_addTry_32 fl_X1_9 (by repeat' (first | assumption | exact rF_eq | refine rF_ne (by decide) ?_ | refine rF_a ?_ | exact rA_eq | refine rA_ne (by decide) ?_ | refine rA_f ?_)) (by repeat' (first | assumption | exact rF_eq | refine rF_ne (by decide) ?_ | refine rF_a ?_ | exact rA_eq | refine rA_ne (by decide) ?_ | refine rA_f ?_)) ?_
    refine g_iload dX1_addTry_35 rfl ?_
    refine g_iconst (v := 0) dX1_addTry_37 (by decide) ?_
    refine g_iadd dX1_addTry_38 ?_
    rw [ni_a0]
    refine g_iload_n (i := 2) dX1_addTry_39 rfl rfl ?_
    refine g_iast dX1_addTry_40 (by repeat' (first | assumption | exact rF_eq | refine rF_ne (by decide) ?_ | refine rF_a ?_ | exact rA_eq | refine rA_ne (by decide) ?_ | refine rA_f ?_)) (nT (by omega)) (by omega) ?_
    refine g_aload_n (i := 0) dX1_addTry_41 rfl rfl ?_
    refine g_get dX1_addTry_42 fl_X1_9 (by repeat' (first | assumption | exact rF_eq | refine rF_ne (by decide) ?_ | refine rF_a ?_ | exact rA_eq | refine rA_ne (by decide) ?_ | refine rA_f ?_)) (by repeat' (first | assumption | exact rF_eq | refine rF_ne (by decide) ?_ | refine rF_a ?_ | exact rA_eq | refine rA_ne (by decide) ?_ | refine rA_f ?_)) ?_
    refine g_iload dX1_addTry_45 rfl ?_
    refine g_iconst (v := 1) dX1_addTry_47 (by decide) ?_
    refine g_iadd dX1_addTry_48 ?_
    rw [ni_inc]
    refine g_dup2 dX1_addTry_49 rfl rfl ?_
    refine g_iald dX1_addTry_50 (by repeat' (first | assumption | exact rF_eq | refine rF_ne (by decide) ?_ | refine rF_a ?_ | exact rA_eq | refine rA_ne (by decide) ?_ | refine rA_f ?_)) (nT (by omega)) (by omega) ?_
    refine g_iconst (v := 1) dX1_addTry_51 (by decide) ?_
    refine g_iadd dX1_addTry_52 ?_
    refine g_iast dX1_addTry_53 (by repeat' (first | assumption | exact rF_eq | refine rF_ne (by decide) ?_ | refine rF_a ?_ | exact rA_eq | refine rA_ne (by decide) ?_ | refine rA_f ?_)) (nT (by omega)) (by omega) ?_
    refine g_aload_n (i := 0) dX1_addTry_54 rfl rfl ?_
    refine g_get dX1_addTry_55 fl_X1_9 (by repeat' (first | assumption | exact rF_eq | refine rF_ne (by decide) ?_ | refine rF_a ?_ | exact rA_eq | refine rA_ne (by decide) ?_ | refine rA_f ?_)) (by repeat' (first | assumption | exact rF_eq | refine rF_ne (by decide) ?_ | refine rF_a ?_ | exact rA_eq | refine rA_ne (by decide) ?_ | refine rA_f ?_)) ?_
    refine g_iload dX1_addTry_58 rfl ?_
    refine g_iconst (v := 2) dX1_addTry_60 (by decide) ?_
    refine g_iadd dX1_addTry_61 ?_
    rw [ni_a2]
    refine g_dup2 dX1_addTry_62 rfl rfl ?_
    refine g_iald dX1_addTry_63 (by repeat' (first | assumption | exact rF_eq | refine rF_ne (by decide) ?_ | refine rF_a ?_ | exact rA_eq | refine rA_ne (by decide) ?_ | refine rA_f ?_)) (nT (by omega)) (by omega) ?_
    refine g_iload_n (i := 3) dX1_addTry_64 rfl rfl ?_
    refine g_iadd dX1_addTry_65 ?_
    refine g_iast dX1_addTry_66 (by repeat' (first | assumption | exact rF_eq | refine rF_ne (by decide) ?_ | refine rF_a ?_ | exact rA_eq | refine rA_ne (by decide) ?_ | refine rA_f ?_)) (nT (by omega)) (by omega) ?_
    refine g_aload_n (i := 0) dX1_addTry_67 rfl rfl ?_
    refine g_get dX1_addTry_68 fl_X1_9 (by repeat' (first | assumption | exact rF_eq | refine rF_ne (by decide) ?_ | refine rF_a ?_ | exact rA_eq | refine rA_ne (by decide) ?_ | refine rA_f ?_)) (by repeat' (first | assumption | exact rF_eq | refine rF_ne (by decide) ?_ | refine rF_a ?_ | exact rA_eq | refine rA_ne (by decide) ?_ | refine rA_f ?_)) ?_
    refine g_iload dX1_addTry_71 rfl ?_
    refine g_iconst (v := 3) dX1_addTry_73 (by decide) ?_
    refine g_iadd dX1_addTry_74 ?_
    refine g_iload_n (i := 1) dX1_addTry_75 rfl rfl ?_
    rw [ni_a3]
    refine g_iast dX1_addTry_76 (by repeat' (first | assumption | exact rF_eq | refine rF_ne (by decide) ?_ | refine rF_a ?_ | exact rA_eq | refine rA_ne (by decide) ?_ | refine rA_f ?_)) (nT (by omega)) (by omega) ?_
    refine g_vret dX1_addTry_77 rfl (hQ _ _ ?_)
    refine ⟨rfl, ?_⟩
    simp only [sA_sA]
    first | rw [adt_1 hd18] | rw [adt_2 hd18]
/-- one try in a SEAT: the BIN and the time -/
def trOf (T : TS) (w : ST2) (f : Nat → Int32) (sz : Int) (s : Nat) : Option (Int32 × Int32) := if (w.2 s).toInt = 0 then scn T f sz (w.1 s) T.1 0 0 else some (15, 0)
theorem trOf_bin {T : TS} (hT : WfT T) {w : ST2} {f : Nat → Int32} {sz : Int} {s : Nat} {b y : Int32} (h : trOf T w f sz s = some (b, y)) : 0 ≤ b.toInt ∧ b.toInt ≤ 15 := by
  unfold trOf at h
  split at h
  · exact scn_bin hT T.1 0 0 b y (by omega) h
  · cases h; decide
def trV (o : Option (Int32 × Int32)) : Int32 := match o with
  | none => -1000000
  | some q => q.1
abbrev GChX (h : HH) (T : TS) (E : ST2) (ln sz it : Nat → Int32) (n l : Nat) (fa : Nat → Int32) : Prop := (gA h 0 = aO 7 ∧ gF h 0 0 = .ref 1 ∧ gF h 0 7 = .ref 27 ∧ gF h 0 13 = .ref 38) ∧ TX' h T ∧ GEX E h ∧ ShX h ln sz it ∧ LgX h n l fa
theorem gch_f {h : HH} {T : TS} {E : ST2} {ln sz it : Nat → Int32} {n l : Nat} {fa : Nat → Int32} (hg : GChX h T E ln sz it n l fa) (f : Nat → Int32) : GChX (sA h 39 (aI 1200 f)) T E ln sz it n l f := by
  obtain ⟨h1, h2, h3, h4, ⟨e1, e2, e3, e4, e5⟩⟩ := hg
  exact ⟨h1, h2, h3, h4, e1, e2, e3, e4, rfl⟩
theorem c_tryIn {T : TS} (hT : WfT T) {E : ST2} {h : HH} {ln sz it : Nat → Int32} {n l : Nat} {fa : Nat → Int32} (hg : GChX h T E ln sz it n l fa) (hn : n < 200) {a s : Nat} (ha : a < 8) (hz : (sz a).toInt ≤ 100) (hs : s < 8) : CT mX7_tryIn 3 0 0 [.ref 0, .int (nI a), .int (nI s)] h (fun r h' => r = some (.int (trV (trOf T E (fun q => it (100 * a + q)) (sz a).toInt s))) ∧ (trOf T E (fun q => it (100 * a + q)) (sz a).toInt s = none → h' = h) ∧ ∀ b y, trOf T E (fun q => it (100 * a + q)) (sz a).toInt s = some (b, y) → h' = sA h 39 (aI 1200 (adt fa (6 * n) (nI s) b y))) := by
  obtain ⟨⟨d0, d1, d2, d3⟩, hT', hE, hS, hL⟩ := hg
  obtain ⟨c1, c2, c3, c4, c5⟩ := id hE
  have l1 := hL.1
  have t1 := hT'.1
  have h10 := hT.1
  refine CT.go [.ref 0, .int (nI a), .int (nI s), hU, hU] (by decide +kernel) rfl rfl (fun Q' hQ => ?_)
  refine g_aload_n (i := 0) dX7_tryIn_0 rfl rfl ?_
  refine g_get dX7_tryIn_1 fl_X7_63 (by repeat' (first | assumption | exact rF_eq | refine rF_ne (by decide) ?_ | refine rF_a ?_ | exact rA_eq | refine rA_ne (by decide) ?_ | refine rA_f ?_)) (by repeat' (first | assumption | exact rF_eq | refine rF_ne (by decide) ?_ | refine rF_a ?_ | exact rA_eq | refine rA_ne (by decide) ?_ | refine rA_f ?_)) ?_
  refine g_iload_n (i := 2) dX7_tryIn_4 rfl rfl ?_
  refine g_zald dX7_tryIn_5 (by repeat' (first | assumption | exact rF_eq | refine rF_ne (by decide) ?_ | refine rF_a ?_ | exact rA_eq | refine rA_ne (by decide) ?_ | refine rA_f ?_)) (nT (by omega)) (hs) ?_
  refine g_if_eq (tgt := 23) dX7_tryIn_6 (by decide) (fun hc6 => ?_) (fun hc6 => ?_)
  · have hd6 := i_eq.mp hc6; (try simp (disch := omega) only [nT, t_m1000100, t_m1000010, t_m1000003, t_m1000002, t_m1000001, t_m1000000, t_m65535, t_m1000, t_m3, t_m1, t_0, t_1, t_2, t_3, t_4, t_5, t_6, t_7, t_8, t_9, t_10, t_11, t_12, t_13, t_15, t_16, t_20, t_21, t_22, t_32, t_40, t_41, t_48, t_49, t_57, t_59, t_60, t_63, t_72, t_76, t_88, t_100, t_144, t_200, t_255, t_288, t_400, t_800, t_999, t_1000, t_1024, t_1200, t_1600, t_3200, t_100000, t_200000, t_252645135, t_858993459, t_1431655765, u_m1000002, u_m1000001, u_m1000, u_m3, u_m1, u_0, u_1, u_2, u_3, u_4, u_5, u_7, u_8, u_10, u_11, u_15, u_60, u_100, u_255, u_999, u_1000, u_100000, u_4294967295] at hd6)
    have e : trOf T E (fun q => it (100 * a + q)) (sz a).toInt s = _ := if_pos (by omega)
    refine g_aload_n (i := 0) dX7_tryIn_23 rfl rfl ?_
    refine g_iload_n (i := 1) dX7_tryIn_24 rfl rfl ?_
    refine g_aload_n (i := 0) dX7_tryIn_25 rfl rfl ?_
    refine g_get dX7_tryIn_26 fl_X7_60 (by repeat' (first | assumption | exact rF_eq | refine rF_ne (by decide) ?_ | refine rF_a ?_ | exact rA_eq | refine rA_ne (by decide) ?_ | refine rA_f ?_)) (by repeat' (first | assumption | exact rF_eq | refine rF_ne (by decide) ?_ | refine rF_a ?_ | exact rA_eq | refine rA_ne (by decide) ?_ | refine rA_f ?_)) ?_
    refine g_iload_n (i := 2) dX7_tryIn_29 rfl rfl ?_
    refine g_iald dX7_tryIn_30 (by repeat' (first | assumption | exact rF_eq | refine rF_ne (by decide) ?_ | refine rF_a ?_ | exact rA_eq | refine rA_ne (by decide) ?_ | refine rA_f ?_)) (nT (by omega)) (hs) ?_
    refine g_callV (M' := mX7_endOfFlow) dX7_tryIn_31 lc_X7_endOfFlow ml_X7_251 (c_endOfFlow hT ⟨d0, d1, d2⟩ hT' hS ha hz (E.1 s)) rfl rfl (by repeat' (first | assumption | exact rF_eq | refine rF_ne (by decide) ?_ | refine rF_a ?_ | exact rA_eq | refine rA_ne (by decide) ?_ | refine rA_f ?_)) rfl ⟨Nat.le_of_ble_eq_true rfl, Nat.le_of_ble_eq_true rfl, Nat.le_of_ble_eq_true rfl, Nat.le_of_ble_eq_true rfl⟩ (Nat.le_of_ble_eq_true rfl) ?_
    intro r_ h_ q_; obtain ⟨q1_, q2_⟩ := q_; have q2_ := q2_.symm; subst q1_; subst q2_
    rcases ho : eofl T (fun q => it (100 * a + q)) (sz a).toInt (E.1 s) T.1 0 with _ | z
    · rw [scn_none _ _ _ ho] at e
      rw [e] at hQ
      refine g_istore_n (i := 3) dX7_tryIn_34 rfl (Nat.le_of_ble_eq_true rfl) rfl ?_
      refine g_iload_n (i := 3) dX7_tryIn_35 rfl rfl ?_
      refine g_ldc dX7_tryIn_36 kc_X7_155 ?_
      refine g_icmp_ne (tgt := 44) dX7_tryIn_38 (by decide) (fun hc38 => ?_) (fun hc38 => ?_)
      · have hd38 := mt i_eq.mpr hc38; (try simp (disch := omega) only [nT, t_m1000100, t_m1000010, t_m1000003, t_m1000002, t_m1000001, t_m1000000, t_m65535, t_m1000, t_m3, t_m1, t_0, t_1, t_2, t_3, t_4, t_5, t_6, t_7, t_8, t_9, t_10, t_11, t_12, t_13, t_15, t_16, t_20, t_21, t_22, t_32, t_40, t_41, t_48, t_49, t_57, t_59, t_60, t_63, t_72, t_76, t_88, t_100, t_144, t_200, t_255, t_288, t_400, t_800, t_999, t_1000, t_1024, t_1200, t_1600, t_3200, t_100000, t_200000, t_252645135, t_858993459, t_1431655765, u_m1000002, u_m1000001, u_m1000, u_m3, u_m1, u_0, u_1, u_2, u_3, u_4, u_5, u_7, u_8, u_10, u_11, u_15, u_60, u_100, u_255, u_999, u_1000, u_100000, u_4294967295] at hd38); exact absurd rfl hc38
      · have hd38 := i_eq.mp hc38; (try simp (disch := omega) only [nT, t_m1000100, t_m1000010, t_m1000003, t_m1000002, t_m1000001, t_m1000000, t_m65535, t_m1000, t_m3, t_m1, t_0, t_1, t_2, t_3, t_4, t_5, t_6, t_7, t_8, t_9, t_10, t_11, t_12, t_13, t_15, t_16, t_20, t_21, t_22, t_32, t_40, t_41, t_48, t_49, t_57, t_59, t_60, t_63, t_72, t_76, t_88, t_100, t_144, t_200, t_255, t_288, t_400, t_800, t_999, t_1000, t_1024, t_1200, t_1600, t_3200, t_100000, t_200000, t_252645135, t_858993459, t_1431655765, u_m1000002, u_m1000001, u_m1000, u_m3, u_m1, u_0, u_1, u_2, u_3, u_4, u_5, u_7, u_8, u_10, u_11, u_15, u_60, u_100, u_255, u_999, u_1000, u_100000, u_4294967295] at hd38)
        refine g_ldc dX7_tryIn_41 kc_X7_155 ?_
        refine g_iret dX7_tryIn_43 rfl (rfl) (hQ _ _ ?_)
        exact ⟨rfl, fun _ => rfl, (fun b y q => by cases q)⟩
    · obtain ⟨q1, q2, q3⟩ := scn_some T.1 0 z 0 ho
      rw [q3, Nat.zero_add, Nat.sub_zero] at e
      rw [e] at hQ
      refine g_istore_n (i := 3) dX7_tryIn_34 rfl (Nat.le_of_ble_eq_true rfl) rfl ?_
      refine g_iload_n (i := 3) dX7_tryIn_35 rfl rfl ?_
      refine g_ldc dX7_tryIn_36 kc_X7_155 ?_
      refine g_icmp_ne (tgt := 44) dX7_tryIn_38 (by decide) (fun hc38 => ?_) (fun hc38 => ?_)
      · have hd38 := mt i_eq.mpr hc38; (try simp (disch := omega) only [nT, t_m1000100, t_m1000010, t_m1000003, t_m1000002, t_m1000001, t_m1000000, t_m65535, t_m1000, t_m3, t_m1, t_0, t_1, t_2, t_3, t_4, t_5, t_6, t_7, t_8, t_9, t_10, t_11, t_12, t_13, t_15, t_16, t_20, t_21, t_22, t_32, t_40, t_41, t_48, t_49, t_57, t_59, t_60, t_63, t_72, t_76, t_88, t_100, t_144, t_200, t_255, t_288, t_400, t_800, t_999, t_1000, t_1024, t_1200, t_1600, t_3200, t_100000, t_200000, t_252645135, t_858993459, t_1431655765, u_m1000002, u_m1000001, u_m1000, u_m3, u_m1, u_0, u_1, u_2, u_3, u_4, u_5, u_7, u_8, u_10, u_11, u_15, u_60, u_100, u_255, u_999, u_1000, u_100000, u_4294967295] at hd38)
        refine g_aload_n (i := 0) dX7_tryIn_44 rfl rfl ?_
        refine g_get dX7_tryIn_45 fl_X7_47 (by repeat' (first | assumption | exact rF_eq | refine rF_ne (by decide) ?_ | refine rF_a ?_ | exact rA_eq | refine rA_ne (by decide) ?_ | refine rA_f ?_)) (by repeat' (first | assumption | exact rF_eq | refine rF_ne (by decide) ?_ | refine rF_a ?_ | exact rA_eq | refine rA_ne (by decide) ?_ | refine rA_f ?_)) ?_
        refine g_iload_n (i := 3) dX7_tryIn_48 rfl rfl ?_
        refine g_callV (M' := mX5_binAtEnd) dX7_tryIn_49 lc_X5_binAtEnd ml_X7_254 (c_binAtEnd hT hT' (by omega)) rfl rfl (by repeat' (first | assumption | exact rF_eq | refine rF_ne (by decide) ?_ | refine rF_a ?_ | exact rA_eq | refine rA_ne (by decide) ?_ | refine rA_f ?_)) rfl ⟨Nat.le_of_ble_eq_true rfl, Nat.le_of_ble_eq_true rfl, Nat.le_of_ble_eq_true rfl, Nat.le_of_ble_eq_true rfl⟩ (Nat.le_of_ble_eq_true rfl) ?_
        intro r_ h_ q_; obtain ⟨q1_, q2_⟩ := q_; have q2_ := q2_.symm; subst q1_; subst q2_
        refine g_istore dX7_tryIn_52 (Nat.le_of_ble_eq_true rfl) rfl ?_
        refine g_aload_n (i := 0) dX7_tryIn_54 rfl rfl ?_
        refine g_get dX7_tryIn_55 fl_X7_76 (by repeat' (first | assumption | exact rF_eq | refine rF_ne (by decide) ?_ | refine rF_a ?_ | exact rA_eq | refine rA_ne (by decide) ?_ | refine rA_f ?_)) (by repeat' (first | assumption | exact rF_eq | refine rF_ne (by decide) ?_ | refine rF_a ?_ | exact rA_eq | refine rA_ne (by decide) ?_ | refine rA_f ?_)) ?_
        refine g_iload_n (i := 2) dX7_tryIn_58 rfl rfl ?_
        refine g_iload dX7_tryIn_59 rfl ?_
        refine g_aload_n (i := 0) dX7_tryIn_61 rfl rfl ?_
        refine g_get dX7_tryIn_62 fl_X7_47 (by repeat' (first | assumption | exact rF_eq | refine rF_ne (by decide) ?_ | refine rF_a ?_ | exact rA_eq | refine rA_ne (by decide) ?_ | refine rA_f ?_)) (by repeat' (first | assumption | exact rF_eq | refine rF_ne (by decide) ?_ | refine rF_a ?_ | exact rA_eq | refine rA_ne (by decide) ?_ | refine rA_f ?_)) ?_
        refine g_iload_n (i := 3) dX7_tryIn_65 rfl rfl ?_
        refine g_callV (M' := mX5_timeToEnd) dX7_tryIn_66 lc_X5_timeToEnd ml_X7_257 (c_timeToEnd hT hT' (by omega)) rfl rfl (by repeat' (first | assumption | exact rF_eq | refine rF_ne (by decide) ?_ | refine rF_a ?_ | exact rA_eq | refine rA_ne (by decide) ?_ | refine rA_f ?_)) rfl ⟨Nat.le_of_ble_eq_true rfl, Nat.le_of_ble_eq_true rfl, Nat.le_of_ble_eq_true rfl, Nat.le_of_ble_eq_true rfl⟩ (Nat.le_of_ble_eq_true rfl) ?_
        intro r_ h_ q_; obtain ⟨q1_, q2_⟩ := q_; have q2_ := q2_.symm; subst q1_; subst q2_
        refine g_callV (M' := mX1_addTry) dX7_tryIn_69 lc_X1_addTry ml_X7_248 (c_addTry hL hn (nI s) _ _) rfl rfl (by repeat' (first | assumption | exact rF_eq | refine rF_ne (by decide) ?_ | refine rF_a ?_ | exact rA_eq | refine rA_ne (by decide) ?_ | refine rA_f ?_)) rfl ⟨Nat.le_of_ble_eq_true rfl, Nat.le_of_ble_eq_true rfl, Nat.le_of_ble_eq_true rfl, Nat.le_of_ble_eq_true rfl⟩ (Nat.le_of_ble_eq_true rfl) ?_
        intro r_ h_ q_; obtain ⟨q1_, q2_⟩ := q_; have q2_ := q2_.symm; subst q1_; subst q2_
        refine g_iload dX7_tryIn_72 rfl ?_
        refine g_iret dX7_tryIn_74 rfl (rfl) (hQ _ _ ?_)
        exact ⟨rfl, (fun q => by cases q), (fun b y q => by cases q; rfl)⟩
      · have hd38 := i_eq.mp hc38; (try simp (disch := omega) only [nT, t_m1000100, t_m1000010, t_m1000003, t_m1000002, t_m1000001, t_m1000000, t_m65535, t_m1000, t_m3, t_m1, t_0, t_1, t_2, t_3, t_4, t_5, t_6, t_7, t_8, t_9, t_10, t_11, t_12, t_13, t_15, t_16, t_20, t_21, t_22, t_32, t_40, t_41, t_48, t_49, t_57, t_59, t_60, t_63, t_72, t_76, t_88, t_100, t_144, t_200, t_255, t_288, t_400, t_800, t_999, t_1000, t_1024, t_1200, t_1600, t_3200, t_100000, t_200000, t_252645135, t_858993459, t_1431655765, u_m1000002, u_m1000001, u_m1000, u_m3, u_m1, u_0, u_1, u_2, u_3, u_4, u_5, u_7, u_8, u_10, u_11, u_15, u_60, u_100, u_255, u_999, u_1000, u_100000, u_4294967295] at hd38); exact absurd (i_eq.mp hc38) (by rw [show (eoV (some z)) = nI z from rfl, nT (by omega), t_m1000000]; omega)
  · have hd6 := mt i_eq.mpr hc6; (try simp (disch := omega) only [nT, t_m1000100, t_m1000010, t_m1000003, t_m1000002, t_m1000001, t_m1000000, t_m65535, t_m1000, t_m3, t_m1, t_0, t_1, t_2, t_3, t_4, t_5, t_6, t_7, t_8, t_9, t_10, t_11, t_12, t_13, t_15, t_16, t_20, t_21, t_22, t_32, t_40, t_41, t_48, t_49, t_57, t_59, t_60, t_63, t_72, t_76, t_88, t_100, t_144, t_200, t_255, t_288, t_400, t_800, t_999, t_1000, t_1024, t_1200, t_1600, t_3200, t_100000, t_200000, t_252645135, t_858993459, t_1431655765, u_m1000002, u_m1000001, u_m1000, u_m3, u_m1, u_0, u_1, u_2, u_3, u_4, u_5, u_7, u_8, u_10, u_11, u_15, u_60, u_100, u_255, u_999, u_1000, u_100000, u_4294967295] at hd6)
    have e : trOf T E (fun q => it (100 * a + q)) (sz a).toInt s = some (15, 0) := if_neg (by omega)
    rw [e] at hQ
    refine g_aload_n (i := 0) dX7_tryIn_9 rfl rfl ?_
    refine g_get dX7_tryIn_10 fl_X7_76 (by repeat' (first | assumption | exact rF_eq | refine rF_ne (by decide) ?_ | refine rF_a ?_ | exact rA_eq | refine rA_ne (by decide) ?_ | refine rA_f ?_)) (by repeat' (first | assumption | exact rF_eq | refine rF_ne (by decide) ?_ | refine rF_a ?_ | exact rA_eq | refine rA_ne (by decide) ?_ | refine rA_f ?_)) ?_
    refine g_iload_n (i := 2) dX7_tryIn_13 rfl rfl ?_
    refine g_bipush (v := 15) dX7_tryIn_14 (by decide) ?_
    refine g_iconst (v := 0) dX7_tryIn_16 (by decide) ?_
    refine g_callV (M' := mX1_addTry) dX7_tryIn_17 lc_X1_addTry ml_X7_248 (c_addTry hL hn (nI s) 15 0) rfl rfl (by repeat' (first | assumption | exact rF_eq | refine rF_ne (by decide) ?_ | refine rF_a ?_ | exact rA_eq | refine rA_ne (by decide) ?_ | refine rA_f ?_)) rfl ⟨Nat.le_of_ble_eq_true rfl, Nat.le_of_ble_eq_true rfl, Nat.le_of_ble_eq_true rfl, Nat.le_of_ble_eq_true rfl⟩ (Nat.le_of_ble_eq_true rfl) ?_
    intro r_ h_ q_; obtain ⟨q1_, q2_⟩ := q_; have q2_ := q2_.symm; subst q1_; subst q2_
    refine g_bipush (v := 15) dX7_tryIn_20 (by decide) ?_
    refine g_iret dX7_tryIn_22 rfl (rfl) (hQ _ _ ?_)
    exact ⟨rfl, (fun q => by cases q), (fun b y q => by cases q; rfl)⟩
def bitB (lb b : Int32) : Bool := decide ((lb >>> (b &&& 31)) &&& 1 = 1)
/-- tries by LAW: how many, the BIN, the time, the last SEAT -/
def trl (tr1 : Nat → Option (Int32 × Int32)) (lb : Int32) : Nat → Nat → Nat → Int32 → Option (Nat × Int32 × Int32 × Nat)
  | 0, _, _, _ => none
  | m + 1, s, n, tot => match tr1 s with
    | none => none
    | some q => if 0 < m ∧ bitB lb q.1 = true then trl tr1 lb m ((s + 1) % 8) (n + 1) (tot + q.2) else some (n + 1, q.1, tot + q.2, s)
theorem trl_s {tr1 : Nat → Option (Int32 × Int32)} {lb : Int32} {m s n : Nat} {tot b y : Int32} (h : tr1 s = some (b, y)) : trl tr1 lb (m + 1) s n tot = if 0 < m ∧ bitB lb b = true then trl tr1 lb m ((s + 1) % 8) (n + 1) (tot + y) else some (n + 1, b, tot + y, s) := by
  conv => lhs; unfold trl
  rw [h]
theorem trl_n {tr1 : Nat → Option (Int32 × Int32)} {lb : Int32} {m s n : Nat} {tot : Int32} (h : tr1 s = none) : trl tr1 lb (m + 1) s n tot = none := by
  conv => lhs; unfold trl
  rw [h]
theorem rem8 {s : Nat} (hs : s < 8) : (nI s + 1) - (nI s + 1) / 8 * 8 = nI ((s + 1) % 8) := by
  rw [ni_inc, show (8 : Int32) = nI 8 from rfl, pk_rem (by omega) (by omega) (by omega)]
theorem c_tryByLaw {T : TS} (hT : WfT T) {E : ST2} {h : HH} {ln sz it : Nat → Int32} {n l : Nat} {fa : Nat → Int32} (hg : GChX h T E ln sz it n l fa) (hn : n < 200) {lw : LA} (hl : GLX lw h) {M : Nat} (hM : lw.2 = nI M) (hM1 : 1 ≤ M) (hM4 : M ≤ 4) {a s0 : Nat} (ha : a < 8) (hz : (sz a).toInt ≤ 100) (hs0 : s0 < 8) {tr1 : Nat → Option (Int32 × Int32)} (htr : tr1 = trOf T E (fun q => it (100 * a + q)) (sz a).toInt) {fb : Int32} (hfb : fb = trV (tr1 s0)) : CT mX7_tryByLaw 4 0 0 [.ref 0, .int (nI a), .int (nI s0)] h (fun r h' => (trl tr1 lw.1 M s0 0 0 = none → r = some (.int 0) ∧ ∃ f, h' = sA h 39 (aI 1200 f) ∧ ∀ j, j < 6 * n → f j = fa j) ∧ ∀ c b tot s, trl tr1 lw.1 M s0 0 0 = some (c, b, tot, s) → r = some (.int 1) ∧ ∃ f, h' = sA h 39 (aI 1200 f) ∧ 0 < c ∧ RowX fa f n c tot b (nI s) (nI s0) fb) := by
  obtain ⟨⟨d0, d1, d2, d3⟩, hT', hE, hS, hL⟩ := id hg
  obtain ⟨-, l11, l12⟩ := hl
  rw [hM] at l12
  have g38 := hL.1
  refine CT.go [.ref 0, .int (nI a), .int (nI s0), hU, hU, hU, hU] (by decide +kernel) rfl rfl (fun Q' hQ => ?_)
  have fin : ∀ (f : Nat → Int32) (s c : Nat) (b tot : Int32) (x3 x4 x5 x6 : Value), trl tr1 lw.1 M s0 0 0 = some (c, b, tot, s) → 0 < c → RowX fa f n c tot b (nI s) (nI s0) fb → GG (EM mX7_tryByLaw 4 0 0 Q') 0 0 80 [.ref 0, .int (nI a), .int (nI s0), x3, x4, x5, x6] [] (sA h 39 (aI 1200 f)) := by
    intro f s c b tot x3 x4 x5 x6 he hc hr
    rw [he] at hQ
    refine g_iconst (v := 1) dX7_tryByLaw_80 (by decide) ?_
    refine g_iret dX7_tryByLaw_81 rfl (rfl) (hQ _ _ ?_)
    exact ⟨(fun q => by cases q), (fun c' b' t' s' q => by cases q; exact ⟨rfl, f, rfl, hc, hr⟩)⟩
  have key : ∀ m j s : Nat, j + m = M → 0 < m → s < 8 → ∀ (tot b sv fb0 : Int32) (f : Nat → Int32) (x6 : Value), RowX fa f n j tot b sv (nI s0) fb0 → (j = 0 → s = s0) → (0 < j → fb0 = fb) → trl tr1 lw.1 m s j tot = trl tr1 lw.1 M s0 0 0 → GG (EM mX7_tryByLaw 4 0 0 Q') 0 0 16 [.ref 0, .int (nI a), .int (nI s0), .int (nI s), .int 1, .int (nI j), x6] [] (sA h 39 (aI 1200 f)) := by
    intro m
    induction m with
    | zero => intro j s _ h0; omega
    | succ m ih =>
      intro j s hj _ hs tot b sv fb0 f x6 hr hj0 hjp he
      have hg1 := gch_f hg f
      rcases ho : tr1 s with _ | ⟨b1, y1⟩
      · rw [trl_n ho] at he
        refine g_iload dX7_tryByLaw_16 rfl ?_
        refine g_if_eq (tgt := 80) dX7_tryByLaw_18 (by decide) (fun hc18 => ?_) (fun hc18 => ?_)
        · have hd18 := i_eq.mp hc18; (try simp (disch := omega) only [nT, t_m1000100, t_m1000010, t_m1000003, t_m1000002, t_m1000001, t_m1000000, t_m65535, t_m1000, t_m3, t_m1, t_0, t_1, t_2, t_3, t_4, t_5, t_6, t_7, t_8, t_9, t_10, t_11, t_12, t_13, t_15, t_16, t_20, t_21, t_22, t_32, t_40, t_41, t_48, t_49, t_57, t_59, t_60, t_63, t_72, t_76, t_88, t_100, t_144, t_200, t_255, t_288, t_400, t_800, t_999, t_1000, t_1024, t_1200, t_1600, t_3200, t_100000, t_200000, t_252645135, t_858993459, t_1431655765, u_m1000002, u_m1000001, u_m1000, u_m3, u_m1, u_0, u_1, u_2, u_3, u_4, u_5, u_7, u_8, u_10, u_11, u_15, u_60, u_100, u_255, u_999, u_1000, u_100000, u_4294967295] at hd18); exact absurd hc18 (by decide)
        · have hd18 := mt i_eq.mpr hc18; (try simp (disch := omega) only [nT, t_m1000100, t_m1000010, t_m1000003, t_m1000002, t_m1000001, t_m1000000, t_m65535, t_m1000, t_m3, t_m1, t_0, t_1, t_2, t_3, t_4, t_5, t_6, t_7, t_8, t_9, t_10, t_11, t_12, t_13, t_15, t_16, t_20, t_21, t_22, t_32, t_40, t_41, t_48, t_49, t_57, t_59, t_60, t_63, t_72, t_76, t_88, t_100, t_144, t_200, t_255, t_288, t_400, t_800, t_999, t_1000, t_1024, t_1200, t_1600, t_3200, t_100000, t_200000, t_252645135, t_858993459, t_1431655765, u_m1000002, u_m1000001, u_m1000, u_m3, u_m1, u_0, u_1, u_2, u_3, u_4, u_5, u_7, u_8, u_10, u_11, u_15, u_60, u_100, u_255, u_999, u_1000, u_100000, u_4294967295] at hd18)
          refine g_iload dX7_tryByLaw_21 rfl ?_
          refine g_aload_n (i := 0) dX7_tryByLaw_23 rfl rfl ?_
          refine g_get dX7_tryByLaw_24 fl_X7_70 (by repeat' (first | assumption | exact rF_eq | refine rF_ne (by decide) ?_ | refine rF_a ?_ | exact rA_eq | refine rA_ne (by decide) ?_ | refine rA_f ?_)) (by repeat' (first | assumption | exact rF_eq | refine rF_ne (by decide) ?_ | refine rF_a ?_ | exact rA_eq | refine rA_ne (by decide) ?_ | refine rA_f ?_)) ?_
          refine g_icmp_ge (tgt := 80) dX7_tryByLaw_27 (by decide) (fun hc27 => ?_) (fun hc27 => ?_)
          · (try simp (disch := omega) only [nT, t_m1000100, t_m1000010, t_m1000003, t_m1000002, t_m1000001, t_m1000000, t_m65535, t_m1000, t_m3, t_m1, t_0, t_1, t_2, t_3, t_4, t_5, t_6, t_7, t_8, t_9, t_10, t_11, t_12, t_13, t_15, t_16, t_20, t_21, t_22, t_32, t_40, t_41, t_48, t_49, t_57, t_59, t_60, t_63, t_72, t_76, t_88, t_100, t_144, t_200, t_255, t_288, t_400, t_800, t_999, t_1000, t_1024, t_1200, t_1600, t_3200, t_100000, t_200000, t_252645135, t_858993459, t_1431655765, u_m1000002, u_m1000001, u_m1000, u_m3, u_m1, u_0, u_1, u_2, u_3, u_4, u_5, u_7, u_8, u_10, u_11, u_15, u_60, u_100, u_255, u_999, u_1000, u_100000, u_4294967295] at hc27); omega
          · (try simp (disch := omega) only [nT, t_m1000100, t_m1000010, t_m1000003, t_m1000002, t_m1000001, t_m1000000, t_m65535, t_m1000, t_m3, t_m1, t_0, t_1, t_2, t_3, t_4, t_5, t_6, t_7, t_8, t_9, t_10, t_11, t_12, t_13, t_15, t_16, t_20, t_21, t_22, t_32, t_40, t_41, t_48, t_49, t_57, t_59, t_60, t_63, t_72, t_76, t_88, t_100, t_144, t_200, t_255, t_288, t_400, t_800, t_999, t_1000, t_1024, t_1200, t_1600, t_3200, t_100000, t_200000, t_252645135, t_858993459, t_1431655765, u_m1000002, u_m1000001, u_m1000, u_m3, u_m1, u_0, u_1, u_2, u_3, u_4, u_5, u_7, u_8, u_10, u_11, u_15, u_60, u_100, u_255, u_999, u_1000, u_100000, u_4294967295] at hc27)
            refine g_aload_n (i := 0) dX7_tryByLaw_30 rfl rfl ?_
            refine g_iload_n (i := 1) dX7_tryByLaw_31 rfl rfl ?_
            refine g_iload_n (i := 3) dX7_tryByLaw_32 rfl rfl ?_
            refine g_callV (M' := mX7_tryIn) dX7_tryByLaw_33 lc_X7_tryIn ml_X7_245 (c_tryIn hT hg1 hn ha hz hs) rfl rfl (by repeat' (first | assumption | exact rF_eq | refine rF_ne (by decide) ?_ | refine rF_a ?_ | exact rA_eq | refine rA_ne (by decide) ?_ | refine rA_f ?_)) rfl ⟨Nat.le_of_ble_eq_true rfl, Nat.le_of_ble_eq_true rfl, Nat.le_of_ble_eq_true rfl, Nat.le_of_ble_eq_true rfl⟩ (Nat.le_of_ble_eq_true rfl) ?_
            intro r_ h_ q_; obtain ⟨q1, q2, q3⟩ := q_
            rw [← htr, ho] at q1 q2
            have q4 := (q2 rfl).symm
            subst q1
            subst q4
            refine g_istore dX7_tryByLaw_36 (Nat.le_of_ble_eq_true rfl) rfl ?_
            refine g_iload dX7_tryByLaw_38 rfl ?_
            refine g_ldc dX7_tryByLaw_40 kc_X7_155 ?_
            refine g_icmp_ne (tgt := 47) dX7_tryByLaw_42 (by decide) (fun hc42 => ?_) (fun hc42 => ?_)
            · have hd42 := mt i_eq.mpr hc42; (try simp (disch := omega) only [nT, t_m1000100, t_m1000010, t_m1000003, t_m1000002, t_m1000001, t_m1000000, t_m65535, t_m1000, t_m3, t_m1, t_0, t_1, t_2, t_3, t_4, t_5, t_6, t_7, t_8, t_9, t_10, t_11, t_12, t_13, t_15, t_16, t_20, t_21, t_22, t_32, t_40, t_41, t_48, t_49, t_57, t_59, t_60, t_63, t_72, t_76, t_88, t_100, t_144, t_200, t_255, t_288, t_400, t_800, t_999, t_1000, t_1024, t_1200, t_1600, t_3200, t_100000, t_200000, t_252645135, t_858993459, t_1431655765, u_m1000002, u_m1000001, u_m1000, u_m3, u_m1, u_0, u_1, u_2, u_3, u_4, u_5, u_7, u_8, u_10, u_11, u_15, u_60, u_100, u_255, u_999, u_1000, u_100000, u_4294967295] at hd42); exact absurd rfl hc42
            · have hd42 := i_eq.mp hc42; (try simp (disch := omega) only [nT, t_m1000100, t_m1000010, t_m1000003, t_m1000002, t_m1000001, t_m1000000, t_m65535, t_m1000, t_m3, t_m1, t_0, t_1, t_2, t_3, t_4, t_5, t_6, t_7, t_8, t_9, t_10, t_11, t_12, t_13, t_15, t_16, t_20, t_21, t_22, t_32, t_40, t_41, t_48, t_49, t_57, t_59, t_60, t_63, t_72, t_76, t_88, t_100, t_144, t_200, t_255, t_288, t_400, t_800, t_999, t_1000, t_1024, t_1200, t_1600, t_3200, t_100000, t_200000, t_252645135, t_858993459, t_1431655765, u_m1000002, u_m1000001, u_m1000, u_m3, u_m1, u_0, u_1, u_2, u_3, u_4, u_5, u_7, u_8, u_10, u_11, u_15, u_60, u_100, u_255, u_999, u_1000, u_100000, u_4294967295] at hd42)
              refine g_iconst (v := 0) dX7_tryByLaw_45 (by decide) ?_
              refine g_iret dX7_tryByLaw_46 rfl (rfl) (hQ _ _ ?_)
              exact ⟨fun _ => ⟨rfl, f, rfl, hr.1⟩, (fun c b t s q => by rw [← he] at q; cases q)⟩
      · rw [trl_s ho] at he
        have hb15 := trOf_bin hT (by rw [← htr]; exact ho)
        have hr1 := adt_row hr (by omega) (nI s) b1 y1
        have hfb1 : (if j = 0 then b1 else fb0) = fb := by
          by_cases q : j = 0
          · rw [if_pos q, hfb, ← hj0 q, ho]; rfl
          · rw [if_neg q]; exact hjp (by omega)
        rw [hfb1] at hr1
        refine g_iload dX7_tryByLaw_16 rfl ?_
        refine g_if_eq (tgt := 80) dX7_tryByLaw_18 (by decide) (fun hc18 => ?_) (fun hc18 => ?_)
        · have hd18 := i_eq.mp hc18; (try simp (disch := omega) only [nT, t_m1000100, t_m1000010, t_m1000003, t_m1000002, t_m1000001, t_m1000000, t_m65535, t_m1000, t_m3, t_m1, t_0, t_1, t_2, t_3, t_4, t_5, t_6, t_7, t_8, t_9, t_10, t_11, t_12, t_13, t_15, t_16, t_20, t_21, t_22, t_32, t_40, t_41, t_48, t_49, t_57, t_59, t_60, t_63, t_72, t_76, t_88, t_100, t_144, t_200, t_255, t_288, t_400, t_800, t_999, t_1000, t_1024, t_1200, t_1600, t_3200, t_100000, t_200000, t_252645135, t_858993459, t_1431655765, u_m1000002, u_m1000001, u_m1000, u_m3, u_m1, u_0, u_1, u_2, u_3, u_4, u_5, u_7, u_8, u_10, u_11, u_15, u_60, u_100, u_255, u_999, u_1000, u_100000, u_4294967295] at hd18); exact absurd hc18 (by decide)
        · have hd18 := mt i_eq.mpr hc18; (try simp (disch := omega) only [nT, t_m1000100, t_m1000010, t_m1000003, t_m1000002, t_m1000001, t_m1000000, t_m65535, t_m1000, t_m3, t_m1, t_0, t_1, t_2, t_3, t_4, t_5, t_6, t_7, t_8, t_9, t_10, t_11, t_12, t_13, t_15, t_16, t_20, t_21, t_22, t_32, t_40, t_41, t_48, t_49, t_57, t_59, t_60, t_63, t_72, t_76, t_88, t_100, t_144, t_200, t_255, t_288, t_400, t_800, t_999, t_1000, t_1024, t_1200, t_1600, t_3200, t_100000, t_200000, t_252645135, t_858993459, t_1431655765, u_m1000002, u_m1000001, u_m1000, u_m3, u_m1, u_0, u_1, u_2, u_3, u_4, u_5, u_7, u_8, u_10, u_11, u_15, u_60, u_100, u_255, u_999, u_1000, u_100000, u_4294967295] at hd18)
          refine g_iload dX7_tryByLaw_21 rfl ?_
          refine g_aload_n (i := 0) dX7_tryByLaw_23 rfl rfl ?_
          refine g_get dX7_tryByLaw_24 fl_X7_70 (by repeat' (first | assumption | exact rF_eq | refine rF_ne (by decide) ?_ | refine rF_a ?_ | exact rA_eq | refine rA_ne (by decide) ?_ | refine rA_f ?_)) (by repeat' (first | assumption | exact rF_eq | refine rF_ne (by decide) ?_ | refine rF_a ?_ | exact rA_eq | refine rA_ne (by decide) ?_ | refine rA_f ?_)) ?_
          refine g_icmp_ge (tgt := 80) dX7_tryByLaw_27 (by decide) (fun hc27 => ?_) (fun hc27 => ?_)
          · (try simp (disch := omega) only [nT, t_m1000100, t_m1000010, t_m1000003, t_m1000002, t_m1000001, t_m1000000, t_m65535, t_m1000, t_m3, t_m1, t_0, t_1, t_2, t_3, t_4, t_5, t_6, t_7, t_8, t_9, t_10, t_11, t_12, t_13, t_15, t_16, t_20, t_21, t_22, t_32, t_40, t_41, t_48, t_49, t_57, t_59, t_60, t_63, t_72, t_76, t_88, t_100, t_144, t_200, t_255, t_288, t_400, t_800, t_999, t_1000, t_1024, t_1200, t_1600, t_3200, t_100000, t_200000, t_252645135, t_858993459, t_1431655765, u_m1000002, u_m1000001, u_m1000, u_m3, u_m1, u_0, u_1, u_2, u_3, u_4, u_5, u_7, u_8, u_10, u_11, u_15, u_60, u_100, u_255, u_999, u_1000, u_100000, u_4294967295] at hc27); omega
          · (try simp (disch := omega) only [nT, t_m1000100, t_m1000010, t_m1000003, t_m1000002, t_m1000001, t_m1000000, t_m65535, t_m1000, t_m3, t_m1, t_0, t_1, t_2, t_3, t_4, t_5, t_6, t_7, t_8, t_9, t_10, t_11, t_12, t_13, t_15, t_16, t_20, t_21, t_22, t_32, t_40, t_41, t_48, t_49, t_57, t_59, t_60, t_63, t_72, t_76, t_88, t_100, t_144, t_200, t_255, t_288, t_400, t_800, t_999, t_1000, t_1024, t_1200, t_1600, t_3200, t_100000, t_200000, t_252645135, t_858993459, t_1431655765, u_m1000002, u_m1000001, u_m1000, u_m3, u_m1, u_0, u_1, u_2, u_3, u_4, u_5, u_7, u_8, u_10, u_11, u_15, u_60, u_100, u_255, u_999, u_1000, u_100000, u_4294967295] at hc27)
            refine g_aload_n (i := 0) dX7_tryByLaw_30 rfl rfl ?_
            refine g_iload_n (i := 1) dX7_tryByLaw_31 rfl rfl ?_
            refine g_iload_n (i := 3) dX7_tryByLaw_32 rfl rfl ?_
            refine g_callV (M' := mX7_tryIn) dX7_tryByLaw_33 lc_X7_tryIn ml_X7_245 (c_tryIn hT hg1 hn ha hz hs) rfl rfl (by repeat' (first | assumption | exact rF_eq | refine rF_ne (by decide) ?_ | refine rF_a ?_ | exact rA_eq | refine rA_ne (by decide) ?_ | refine rA_f ?_)) rfl ⟨Nat.le_of_ble_eq_true rfl, Nat.le_of_ble_eq_true rfl, Nat.le_of_ble_eq_true rfl, Nat.le_of_ble_eq_true rfl⟩ (Nat.le_of_ble_eq_true rfl) ?_
            intro r_ h_ q_; obtain ⟨q1, q2, q3⟩ := q_
            rw [← htr, ho] at q1 q3
            have q4 := (q3 _ _ rfl).symm
            subst q1
            subst q4
            rw [sA_sA]
            refine g_istore dX7_tryByLaw_36 (Nat.le_of_ble_eq_true rfl) rfl ?_
            refine g_iload dX7_tryByLaw_38 rfl ?_
            refine g_ldc dX7_tryByLaw_40 kc_X7_155 ?_
            refine g_icmp_ne (tgt := 47) dX7_tryByLaw_42 (by decide) (fun hc42 => ?_) (fun hc42 => ?_)
            · have hd42 := mt i_eq.mpr hc42; (try simp (disch := omega) only [nT, t_m1000100, t_m1000010, t_m1000003, t_m1000002, t_m1000001, t_m1000000, t_m65535, t_m1000, t_m3, t_m1, t_0, t_1, t_2, t_3, t_4, t_5, t_6, t_7, t_8, t_9, t_10, t_11, t_12, t_13, t_15, t_16, t_20, t_21, t_22, t_32, t_40, t_41, t_48, t_49, t_57, t_59, t_60, t_63, t_72, t_76, t_88, t_100, t_144, t_200, t_255, t_288, t_400, t_800, t_999, t_1000, t_1024, t_1200, t_1600, t_3200, t_100000, t_200000, t_252645135, t_858993459, t_1431655765, u_m1000002, u_m1000001, u_m1000, u_m3, u_m1, u_0, u_1, u_2, u_3, u_4, u_5, u_7, u_8, u_10, u_11, u_15, u_60, u_100, u_255, u_999, u_1000, u_100000, u_4294967295] at hd42)
              refine g_aload_n (i := 0) dX7_tryByLaw_47 rfl rfl ?_
              refine g_get dX7_tryByLaw_48 fl_X7_67 (by repeat' (first | assumption | exact rF_eq | refine rF_ne (by decide) ?_ | refine rF_a ?_ | exact rA_eq | refine rA_ne (by decide) ?_ | refine rA_f ?_)) (by repeat' (first | assumption | exact rF_eq | refine rF_ne (by decide) ?_ | refine rF_a ?_ | exact rA_eq | refine rA_ne (by decide) ?_ | refine rA_f ?_)) ?_
              refine g_iload dX7_tryByLaw_51 rfl ?_
              refine g_ishr dX7_tryByLaw_53 ?_
              refine g_iconst (v := 1) dX7_tryByLaw_54 (by decide) ?_
              refine g_iand dX7_tryByLaw_55 ?_
              refine g_iconst (v := 1) dX7_tryByLaw_56 (by decide) ?_
              refine g_icmp_ne (tgt := 64) dX7_tryByLaw_57 (by decide) (fun hc57 => ?_) (fun hc57 => ?_)
              · have hd57 := mt i_eq.mpr hc57; (try simp (disch := omega) only [nT, t_m1000100, t_m1000010, t_m1000003, t_m1000002, t_m1000001, t_m1000000, t_m65535, t_m1000, t_m3, t_m1, t_0, t_1, t_2, t_3, t_4, t_5, t_6, t_7, t_8, t_9, t_10, t_11, t_12, t_13, t_15, t_16, t_20, t_21, t_22, t_32, t_40, t_41, t_48, t_49, t_57, t_59, t_60, t_63, t_72, t_76, t_88, t_100, t_144, t_200, t_255, t_288, t_400, t_800, t_999, t_1000, t_1024, t_1200, t_1600, t_3200, t_100000, t_200000, t_252645135, t_858993459, t_1431655765, u_m1000002, u_m1000001, u_m1000, u_m3, u_m1, u_0, u_1, u_2, u_3, u_4, u_5, u_7, u_8, u_10, u_11, u_15, u_60, u_100, u_255, u_999, u_1000, u_100000, u_4294967295] at hd57)
                refine g_iconst (v := 0) dX7_tryByLaw_64 (by decide) ?_
                refine g_istore dX7_tryByLaw_65 (Nat.le_of_ble_eq_true rfl) rfl ?_
                refine g_iload_n (i := 3) dX7_tryByLaw_67 rfl rfl ?_
                refine g_iconst (v := 1) dX7_tryByLaw_68 (by decide) ?_
                refine g_iadd dX7_tryByLaw_69 ?_
                refine g_bipush (v := 8) dX7_tryByLaw_70 (by decide) ?_
                have e9 := rem8 hs
                refine g_irem dX7_tryByLaw_72 (by decide) ?_
                refine g_istore_n (i := 3) dX7_tryByLaw_73 rfl (Nat.le_of_ble_eq_true rfl) rfl ?_
                refine g_iinc dX7_tryByLaw_74 rfl (Nat.le_of_ble_eq_true rfl) rfl ?_
                refine g_goto (tgt := 16) dX7_tryByLaw_77 (by decide) ?_
                rw [e9, ni_incO]
                by_cases hm : 0 < m
                · first
                  | (rw [if_pos ⟨hm, decide_eq_true hc57⟩] at he
                     exact ih (j + 1) _ (by omega) hm (Nat.mod_lt _ (by omega)) _ _ _ _ _ _ hr1 (by omega) (fun _ => rfl) he)
                  | (rw [if_neg (fun q => hc57 (of_decide_eq_true q.2))] at he
                     refine g_iload dX7_tryByLaw_16 rfl ?_
                     refine g_if_eq (tgt := 80) dX7_tryByLaw_18 (by decide) (fun hc18 => ?_) (fun hc18 => ?_)
                     · have hd18 := i_eq.mp hc18; (try simp (disch := omega) only [nT, t_m1000100, t_m1000010, t_m1000003, t_m1000002, t_m1000001, t_m1000000, t_m65535, t_m1000, t_m3, t_m1, t_0, t_1, t_2, t_3, t_4, t_5, t_6, t_7, t_8, t_9, t_10, t_11, t_12, t_13, t_15, t_16, t_20, t_21, t_22, t_32, t_40, t_41, t_48, t_49, t_57, t_59, t_60, t_63, t_72, t_76, t_88, t_100, t_144, t_200, t_255, t_288, t_400, t_800, t_999, t_1000, t_1024, t_1200, t_1600, t_3200, t_100000, t_200000, t_252645135, t_858993459, t_1431655765, u_m1000002, u_m1000001, u_m1000, u_m3, u_m1, u_0, u_1, u_2, u_3, u_4, u_5, u_7, u_8, u_10, u_11, u_15, u_60, u_100, u_255, u_999, u_1000, u_100000, u_4294967295] at hd18)
                       exact fin _ _ _ _ _ _ _ _ _ he.symm (by omega) hr1
                     · have hd18 := mt i_eq.mpr hc18; (try simp (disch := omega) only [nT, t_m1000100, t_m1000010, t_m1000003, t_m1000002, t_m1000001, t_m1000000, t_m65535, t_m1000, t_m3, t_m1, t_0, t_1, t_2, t_3, t_4, t_5, t_6, t_7, t_8, t_9, t_10, t_11, t_12, t_13, t_15, t_16, t_20, t_21, t_22, t_32, t_40, t_41, t_48, t_49, t_57, t_59, t_60, t_63, t_72, t_76, t_88, t_100, t_144, t_200, t_255, t_288, t_400, t_800, t_999, t_1000, t_1024, t_1200, t_1600, t_3200, t_100000, t_200000, t_252645135, t_858993459, t_1431655765, u_m1000002, u_m1000001, u_m1000, u_m3, u_m1, u_0, u_1, u_2, u_3, u_4, u_5, u_7, u_8, u_10, u_11, u_15, u_60, u_100, u_255, u_999, u_1000, u_100000, u_4294967295] at hd18); exact absurd rfl hc18
                    )
                · rw [if_neg (fun q => hm q.1)] at he
                  first
                  | (skip
                     refine g_iload dX7_tryByLaw_16 rfl ?_
                     refine g_if_eq (tgt := 80) dX7_tryByLaw_18 (by decide) (fun hc18 => ?_) (fun hc18 => ?_)
                     · have hd18 := i_eq.mp hc18; (try simp (disch := omega) only [nT, t_m1000100, t_m1000010, t_m1000003, t_m1000002, t_m1000001, t_m1000000, t_m65535, t_m1000, t_m3, t_m1, t_0, t_1, t_2, t_3, t_4, t_5, t_6, t_7, t_8, t_9, t_10, t_11, t_12, t_13, t_15, t_16, t_20, t_21, t_22, t_32, t_40, t_41, t_48, t_49, t_57, t_59, t_60, t_63, t_72, t_76, t_88, t_100, t_144, t_200, t_255, t_288, t_400, t_800, t_999, t_1000, t_1024, t_1200, t_1600, t_3200, t_100000, t_200000, t_252645135, t_858993459, t_1431655765, u_m1000002, u_m1000001, u_m1000, u_m3, u_m1, u_0, u_1, u_2, u_3, u_4, u_5, u_7, u_8, u_10, u_11, u_15, u_60, u_100, u_255, u_999, u_1000, u_100000, u_4294967295] at hd18); exact absurd hc18 (by decide)
                     · have hd18 := mt i_eq.mpr hc18; (try simp (disch := omega) only [nT, t_m1000100, t_m1000010, t_m1000003, t_m1000002, t_m1000001, t_m1000000, t_m65535, t_m1000, t_m3, t_m1, t_0, t_1, t_2, t_3, t_4, t_5, t_6, t_7, t_8, t_9, t_10, t_11, t_12, t_13, t_15, t_16, t_20, t_21, t_22, t_32, t_40, t_41, t_48, t_49, t_57, t_59, t_60, t_63, t_72, t_76, t_88, t_100, t_144, t_200, t_255, t_288, t_400, t_800, t_999, t_1000, t_1024, t_1200, t_1600, t_3200, t_100000, t_200000, t_252645135, t_858993459, t_1431655765, u_m1000002, u_m1000001, u_m1000, u_m3, u_m1, u_0, u_1, u_2, u_3, u_4, u_5, u_7, u_8, u_10, u_11, u_15, u_60, u_100, u_255, u_999, u_1000, u_100000, u_4294967295] at hd18)
                       refine g_iload dX7_tryByLaw_21 rfl ?_
                       refine g_aload_n (i := 0) dX7_tryByLaw_23 rfl rfl ?_
                       refine g_get dX7_tryByLaw_24 fl_X7_70 (by repeat' (first | assumption | exact rF_eq | refine rF_ne (by decide) ?_ | refine rF_a ?_ | exact rA_eq | refine rA_ne (by decide) ?_ | refine rA_f ?_)) (by repeat' (first | assumption | exact rF_eq | refine rF_ne (by decide) ?_ | refine rF_a ?_ | exact rA_eq | refine rA_ne (by decide) ?_ | refine rA_f ?_)) ?_
                       refine g_icmp_ge (tgt := 80) dX7_tryByLaw_27 (by decide) (fun hc27 => ?_) (fun hc27 => ?_)
                       · (try simp (disch := omega) only [nT, t_m1000100, t_m1000010, t_m1000003, t_m1000002, t_m1000001, t_m1000000, t_m65535, t_m1000, t_m3, t_m1, t_0, t_1, t_2, t_3, t_4, t_5, t_6, t_7, t_8, t_9, t_10, t_11, t_12, t_13, t_15, t_16, t_20, t_21, t_22, t_32, t_40, t_41, t_48, t_49, t_57, t_59, t_60, t_63, t_72, t_76, t_88, t_100, t_144, t_200, t_255, t_288, t_400, t_800, t_999, t_1000, t_1024, t_1200, t_1600, t_3200, t_100000, t_200000, t_252645135, t_858993459, t_1431655765, u_m1000002, u_m1000001, u_m1000, u_m3, u_m1, u_0, u_1, u_2, u_3, u_4, u_5, u_7, u_8, u_10, u_11, u_15, u_60, u_100, u_255, u_999, u_1000, u_100000, u_4294967295] at hc27)
                         exact fin _ _ _ _ _ _ _ _ _ he.symm (by omega) hr1
                       · (try simp (disch := omega) only [nT, t_m1000100, t_m1000010, t_m1000003, t_m1000002, t_m1000001, t_m1000000, t_m65535, t_m1000, t_m3, t_m1, t_0, t_1, t_2, t_3, t_4, t_5, t_6, t_7, t_8, t_9, t_10, t_11, t_12, t_13, t_15, t_16, t_20, t_21, t_22, t_32, t_40, t_41, t_48, t_49, t_57, t_59, t_60, t_63, t_72, t_76, t_88, t_100, t_144, t_200, t_255, t_288, t_400, t_800, t_999, t_1000, t_1024, t_1200, t_1600, t_3200, t_100000, t_200000, t_252645135, t_858993459, t_1431655765, u_m1000002, u_m1000001, u_m1000, u_m3, u_m1, u_0, u_1, u_2, u_3, u_4, u_5, u_7, u_8, u_10, u_11, u_15, u_60, u_100, u_255, u_999, u_1000, u_100000, u_4294967295] at hc27); omega
                    )
                  | (skip
                     refine g_iload dX7_tryByLaw_16 rfl ?_
                     refine g_if_eq (tgt := 80) dX7_tryByLaw_18 (by decide) (fun hc18 => ?_) (fun hc18 => ?_)
                     · have hd18 := i_eq.mp hc18; (try simp (disch := omega) only [nT, t_m1000100, t_m1000010, t_m1000003, t_m1000002, t_m1000001, t_m1000000, t_m65535, t_m1000, t_m3, t_m1, t_0, t_1, t_2, t_3, t_4, t_5, t_6, t_7, t_8, t_9, t_10, t_11, t_12, t_13, t_15, t_16, t_20, t_21, t_22, t_32, t_40, t_41, t_48, t_49, t_57, t_59, t_60, t_63, t_72, t_76, t_88, t_100, t_144, t_200, t_255, t_288, t_400, t_800, t_999, t_1000, t_1024, t_1200, t_1600, t_3200, t_100000, t_200000, t_252645135, t_858993459, t_1431655765, u_m1000002, u_m1000001, u_m1000, u_m3, u_m1, u_0, u_1, u_2, u_3, u_4, u_5, u_7, u_8, u_10, u_11, u_15, u_60, u_100, u_255, u_999, u_1000, u_100000, u_4294967295] at hd18)
                       exact fin _ _ _ _ _ _ _ _ _ he.symm (by omega) hr1
                     · have hd18 := mt i_eq.mpr hc18; (try simp (disch := omega) only [nT, t_m1000100, t_m1000010, t_m1000003, t_m1000002, t_m1000001, t_m1000000, t_m65535, t_m1000, t_m3, t_m1, t_0, t_1, t_2, t_3, t_4, t_5, t_6, t_7, t_8, t_9, t_10, t_11, t_12, t_13, t_15, t_16, t_20, t_21, t_22, t_32, t_40, t_41, t_48, t_49, t_57, t_59, t_60, t_63, t_72, t_76, t_88, t_100, t_144, t_200, t_255, t_288, t_400, t_800, t_999, t_1000, t_1024, t_1200, t_1600, t_3200, t_100000, t_200000, t_252645135, t_858993459, t_1431655765, u_m1000002, u_m1000001, u_m1000, u_m3, u_m1, u_0, u_1, u_2, u_3, u_4, u_5, u_7, u_8, u_10, u_11, u_15, u_60, u_100, u_255, u_999, u_1000, u_100000, u_4294967295] at hd18); exact absurd rfl hc18
                    )
              · have hd57 := i_eq.mp hc57; (try simp (disch := omega) only [nT, t_m1000100, t_m1000010, t_m1000003, t_m1000002, t_m1000001, t_m1000000, t_m65535, t_m1000, t_m3, t_m1, t_0, t_1, t_2, t_3, t_4, t_5, t_6, t_7, t_8, t_9, t_10, t_11, t_12, t_13, t_15, t_16, t_20, t_21, t_22, t_32, t_40, t_41, t_48, t_49, t_57, t_59, t_60, t_63, t_72, t_76, t_88, t_100, t_144, t_200, t_255, t_288, t_400, t_800, t_999, t_1000, t_1024, t_1200, t_1600, t_3200, t_100000, t_200000, t_252645135, t_858993459, t_1431655765, u_m1000002, u_m1000001, u_m1000, u_m3, u_m1, u_0, u_1, u_2, u_3, u_4, u_5, u_7, u_8, u_10, u_11, u_15, u_60, u_100, u_255, u_999, u_1000, u_100000, u_4294967295] at hd57)
                refine g_iconst (v := 1) dX7_tryByLaw_60 (by decide) ?_
                refine g_goto (tgt := 65) dX7_tryByLaw_61 (by decide) ?_
                refine g_istore dX7_tryByLaw_65 (Nat.le_of_ble_eq_true rfl) rfl ?_
                refine g_iload_n (i := 3) dX7_tryByLaw_67 rfl rfl ?_
                refine g_iconst (v := 1) dX7_tryByLaw_68 (by decide) ?_
                refine g_iadd dX7_tryByLaw_69 ?_
                refine g_bipush (v := 8) dX7_tryByLaw_70 (by decide) ?_
                have e9 := rem8 hs
                refine g_irem dX7_tryByLaw_72 (by decide) ?_
                refine g_istore_n (i := 3) dX7_tryByLaw_73 rfl (Nat.le_of_ble_eq_true rfl) rfl ?_
                refine g_iinc dX7_tryByLaw_74 rfl (Nat.le_of_ble_eq_true rfl) rfl ?_
                refine g_goto (tgt := 16) dX7_tryByLaw_77 (by decide) ?_
                rw [e9, ni_incO]
                by_cases hm : 0 < m
                · first
                  | (rw [if_pos ⟨hm, decide_eq_true hc57⟩] at he
                     exact ih (j + 1) _ (by omega) hm (Nat.mod_lt _ (by omega)) _ _ _ _ _ _ hr1 (by omega) (fun _ => rfl) he)
                  | (rw [if_neg (fun q => hc57 (of_decide_eq_true q.2))] at he
                     refine g_iload dX7_tryByLaw_16 rfl ?_
                     refine g_if_eq (tgt := 80) dX7_tryByLaw_18 (by decide) (fun hc18 => ?_) (fun hc18 => ?_)
                     · have hd18 := i_eq.mp hc18; (try simp (disch := omega) only [nT, t_m1000100, t_m1000010, t_m1000003, t_m1000002, t_m1000001, t_m1000000, t_m65535, t_m1000, t_m3, t_m1, t_0, t_1, t_2, t_3, t_4, t_5, t_6, t_7, t_8, t_9, t_10, t_11, t_12, t_13, t_15, t_16, t_20, t_21, t_22, t_32, t_40, t_41, t_48, t_49, t_57, t_59, t_60, t_63, t_72, t_76, t_88, t_100, t_144, t_200, t_255, t_288, t_400, t_800, t_999, t_1000, t_1024, t_1200, t_1600, t_3200, t_100000, t_200000, t_252645135, t_858993459, t_1431655765, u_m1000002, u_m1000001, u_m1000, u_m3, u_m1, u_0, u_1, u_2, u_3, u_4, u_5, u_7, u_8, u_10, u_11, u_15, u_60, u_100, u_255, u_999, u_1000, u_100000, u_4294967295] at hd18)
                       exact fin _ _ _ _ _ _ _ _ _ he.symm (by omega) hr1
                     · have hd18 := mt i_eq.mpr hc18; (try simp (disch := omega) only [nT, t_m1000100, t_m1000010, t_m1000003, t_m1000002, t_m1000001, t_m1000000, t_m65535, t_m1000, t_m3, t_m1, t_0, t_1, t_2, t_3, t_4, t_5, t_6, t_7, t_8, t_9, t_10, t_11, t_12, t_13, t_15, t_16, t_20, t_21, t_22, t_32, t_40, t_41, t_48, t_49, t_57, t_59, t_60, t_63, t_72, t_76, t_88, t_100, t_144, t_200, t_255, t_288, t_400, t_800, t_999, t_1000, t_1024, t_1200, t_1600, t_3200, t_100000, t_200000, t_252645135, t_858993459, t_1431655765, u_m1000002, u_m1000001, u_m1000, u_m3, u_m1, u_0, u_1, u_2, u_3, u_4, u_5, u_7, u_8, u_10, u_11, u_15, u_60, u_100, u_255, u_999, u_1000, u_100000, u_4294967295] at hd18); exact absurd rfl hc18
                    )
                · rw [if_neg (fun q => hm q.1)] at he
                  first
                  | (skip
                     refine g_iload dX7_tryByLaw_16 rfl ?_
                     refine g_if_eq (tgt := 80) dX7_tryByLaw_18 (by decide) (fun hc18 => ?_) (fun hc18 => ?_)
                     · have hd18 := i_eq.mp hc18; (try simp (disch := omega) only [nT, t_m1000100, t_m1000010, t_m1000003, t_m1000002, t_m1000001, t_m1000000, t_m65535, t_m1000, t_m3, t_m1, t_0, t_1, t_2, t_3, t_4, t_5, t_6, t_7, t_8, t_9, t_10, t_11, t_12, t_13, t_15, t_16, t_20, t_21, t_22, t_32, t_40, t_41, t_48, t_49, t_57, t_59, t_60, t_63, t_72, t_76, t_88, t_100, t_144, t_200, t_255, t_288, t_400, t_800, t_999, t_1000, t_1024, t_1200, t_1600, t_3200, t_100000, t_200000, t_252645135, t_858993459, t_1431655765, u_m1000002, u_m1000001, u_m1000, u_m3, u_m1, u_0, u_1, u_2, u_3, u_4, u_5, u_7, u_8, u_10, u_11, u_15, u_60, u_100, u_255, u_999, u_1000, u_100000, u_4294967295] at hd18); exact absurd hc18 (by decide)
                     · have hd18 := mt i_eq.mpr hc18; (try simp (disch := omega) only [nT, t_m1000100, t_m1000010, t_m1000003, t_m1000002, t_m1000001, t_m1000000, t_m65535, t_m1000, t_m3, t_m1, t_0, t_1, t_2, t_3, t_4, t_5, t_6, t_7, t_8, t_9, t_10, t_11, t_12, t_13, t_15, t_16, t_20, t_21, t_22, t_32, t_40, t_41, t_48, t_49, t_57, t_59, t_60, t_63, t_72, t_76, t_88, t_100, t_144, t_200, t_255, t_288, t_400, t_800, t_999, t_1000, t_1024, t_1200, t_1600, t_3200, t_100000, t_200000, t_252645135, t_858993459, t_1431655765, u_m1000002, u_m1000001, u_m1000, u_m3, u_m1, u_0, u_1, u_2, u_3, u_4, u_5, u_7, u_8, u_10, u_11, u_15, u_60, u_100, u_255, u_999, u_1000, u_100000, u_4294967295] at hd18)
                       refine g_iload dX7_tryByLaw_21 rfl ?_
                       refine g_aload_n (i := 0) dX7_tryByLaw_23 rfl rfl ?_
                       refine g_get dX7_tryByLaw_24 fl_X7_70 (by repeat' (first | assumption | exact rF_eq | refine rF_ne (by decide) ?_ | refine rF_a ?_ | exact rA_eq | refine rA_ne (by decide) ?_ | refine rA_f ?_)) (by repeat' (first | assumption | exact rF_eq | refine rF_ne (by decide) ?_ | refine rF_a ?_ | exact rA_eq | refine rA_ne (by decide) ?_ | refine rA_f ?_)) ?_
                       refine g_icmp_ge (tgt := 80) dX7_tryByLaw_27 (by decide) (fun hc27 => ?_) (fun hc27 => ?_)
                       · (try simp (disch := omega) only [nT, t_m1000100, t_m1000010, t_m1000003, t_m1000002, t_m1000001, t_m1000000, t_m65535, t_m1000, t_m3, t_m1, t_0, t_1, t_2, t_3, t_4, t_5, t_6, t_7, t_8, t_9, t_10, t_11, t_12, t_13, t_15, t_16, t_20, t_21, t_22, t_32, t_40, t_41, t_48, t_49, t_57, t_59, t_60, t_63, t_72, t_76, t_88, t_100, t_144, t_200, t_255, t_288, t_400, t_800, t_999, t_1000, t_1024, t_1200, t_1600, t_3200, t_100000, t_200000, t_252645135, t_858993459, t_1431655765, u_m1000002, u_m1000001, u_m1000, u_m3, u_m1, u_0, u_1, u_2, u_3, u_4, u_5, u_7, u_8, u_10, u_11, u_15, u_60, u_100, u_255, u_999, u_1000, u_100000, u_4294967295] at hc27)
                         exact fin _ _ _ _ _ _ _ _ _ he.symm (by omega) hr1
                       · (try simp (disch := omega) only [nT, t_m1000100, t_m1000010, t_m1000003, t_m1000002, t_m1000001, t_m1000000, t_m65535, t_m1000, t_m3, t_m1, t_0, t_1, t_2, t_3, t_4, t_5, t_6, t_7, t_8, t_9, t_10, t_11, t_12, t_13, t_15, t_16, t_20, t_21, t_22, t_32, t_40, t_41, t_48, t_49, t_57, t_59, t_60, t_63, t_72, t_76, t_88, t_100, t_144, t_200, t_255, t_288, t_400, t_800, t_999, t_1000, t_1024, t_1200, t_1600, t_3200, t_100000, t_200000, t_252645135, t_858993459, t_1431655765, u_m1000002, u_m1000001, u_m1000, u_m3, u_m1, u_0, u_1, u_2, u_3, u_4, u_5, u_7, u_8, u_10, u_11, u_15, u_60, u_100, u_255, u_999, u_1000, u_100000, u_4294967295] at hc27); omega
                    )
                  | (skip
                     refine g_iload dX7_tryByLaw_16 rfl ?_
                     refine g_if_eq (tgt := 80) dX7_tryByLaw_18 (by decide) (fun hc18 => ?_) (fun hc18 => ?_)
                     · have hd18 := i_eq.mp hc18; (try simp (disch := omega) only [nT, t_m1000100, t_m1000010, t_m1000003, t_m1000002, t_m1000001, t_m1000000, t_m65535, t_m1000, t_m3, t_m1, t_0, t_1, t_2, t_3, t_4, t_5, t_6, t_7, t_8, t_9, t_10, t_11, t_12, t_13, t_15, t_16, t_20, t_21, t_22, t_32, t_40, t_41, t_48, t_49, t_57, t_59, t_60, t_63, t_72, t_76, t_88, t_100, t_144, t_200, t_255, t_288, t_400, t_800, t_999, t_1000, t_1024, t_1200, t_1600, t_3200, t_100000, t_200000, t_252645135, t_858993459, t_1431655765, u_m1000002, u_m1000001, u_m1000, u_m3, u_m1, u_0, u_1, u_2, u_3, u_4, u_5, u_7, u_8, u_10, u_11, u_15, u_60, u_100, u_255, u_999, u_1000, u_100000, u_4294967295] at hd18)
                       exact fin _ _ _ _ _ _ _ _ _ he.symm (by omega) hr1
                     · have hd18 := mt i_eq.mpr hc18; (try simp (disch := omega) only [nT, t_m1000100, t_m1000010, t_m1000003, t_m1000002, t_m1000001, t_m1000000, t_m65535, t_m1000, t_m3, t_m1, t_0, t_1, t_2, t_3, t_4, t_5, t_6, t_7, t_8, t_9, t_10, t_11, t_12, t_13, t_15, t_16, t_20, t_21, t_22, t_32, t_40, t_41, t_48, t_49, t_57, t_59, t_60, t_63, t_72, t_76, t_88, t_100, t_144, t_200, t_255, t_288, t_400, t_800, t_999, t_1000, t_1024, t_1200, t_1600, t_3200, t_100000, t_200000, t_252645135, t_858993459, t_1431655765, u_m1000002, u_m1000001, u_m1000, u_m3, u_m1, u_0, u_1, u_2, u_3, u_4, u_5, u_7, u_8, u_10, u_11, u_15, u_60, u_100, u_255, u_999, u_1000, u_100000, u_4294967295] at hd18); exact absurd rfl hc18
                    )
            · have hd42 := i_eq.mp hc42; (try simp (disch := omega) only [nT, t_m1000100, t_m1000010, t_m1000003, t_m1000002, t_m1000001, t_m1000000, t_m65535, t_m1000, t_m3, t_m1, t_0, t_1, t_2, t_3, t_4, t_5, t_6, t_7, t_8, t_9, t_10, t_11, t_12, t_13, t_15, t_16, t_20, t_21, t_22, t_32, t_40, t_41, t_48, t_49, t_57, t_59, t_60, t_63, t_72, t_76, t_88, t_100, t_144, t_200, t_255, t_288, t_400, t_800, t_999, t_1000, t_1024, t_1200, t_1600, t_3200, t_100000, t_200000, t_252645135, t_858993459, t_1431655765, u_m1000002, u_m1000001, u_m1000, u_m3, u_m1, u_0, u_1, u_2, u_3, u_4, u_5, u_7, u_8, u_10, u_11, u_15, u_60, u_100, u_255, u_999, u_1000, u_100000, u_4294967295] at hd42); exact absurd (i_eq.mp hc42) (by rw [show trV (some (b1, y1)) = b1 from rfl, t_m1000000]; omega)
  refine g_aload_n (i := 0) dX7_tryByLaw_0 rfl rfl ?_
  refine g_get dX7_tryByLaw_1 fl_X7_76 (by repeat' (first | assumption | exact rF_eq | refine rF_ne (by decide) ?_ | refine rF_a ?_ | exact rA_eq | refine rA_ne (by decide) ?_ | refine rA_f ?_)) (by repeat' (first | assumption | exact rF_eq | refine rF_ne (by decide) ?_ | refine rF_a ?_ | exact rA_eq | refine rA_ne (by decide) ?_ | refine rA_f ?_)) ?_
  refine g_iload_n (i := 2) dX7_tryByLaw_4 rfl rfl ?_
  refine g_callV (M' := mX1_begin) dX7_tryByLaw_5 lc_X1_begin ml_X7_241 (c_logBegin hL hn (nI s0)) rfl rfl (by repeat' (first | assumption | exact rF_eq | refine rF_ne (by decide) ?_ | refine rF_a ?_ | exact rA_eq | refine rA_ne (by decide) ?_ | refine rA_f ?_)) rfl ⟨Nat.le_of_ble_eq_true rfl, Nat.le_of_ble_eq_true rfl, Nat.le_of_ble_eq_true rfl, Nat.le_of_ble_eq_true rfl⟩ (Nat.le_of_ble_eq_true rfl) ?_
  intro r_ h_ q_; obtain ⟨rfl, f, q2, hr⟩ := q_
  subst q2
  refine g_iload_n (i := 2) dX7_tryByLaw_8 rfl rfl ?_
  refine g_istore_n (i := 3) dX7_tryByLaw_9 rfl (Nat.le_of_ble_eq_true rfl) rfl ?_
  refine g_iconst (v := 1) dX7_tryByLaw_10 (by decide) ?_
  refine g_istore dX7_tryByLaw_11 (Nat.le_of_ble_eq_true rfl) rfl ?_
  refine g_iconst (v := 0) dX7_tryByLaw_13 (by decide) ?_
  refine g_istore dX7_tryByLaw_14 (Nat.le_of_ble_eq_true rfl) rfl ?_
  exact key M 0 s0 (by omega) (by omega) hs0 0 0 0 0 f hU hr (fun _ => rfl) (fun q => absurd q (by omega)) rfl
