/-! order: masks, the class -/
theorem mk_bit : ∀ S, S < 1024 → ∀ t, t < 10 → ((nI S >>> (nI t &&& 31)) &&& 1) = (if S.testBit t = true then 1 else 0) := by decide +kernel
theorem mk_del : ∀ S, S < 1024 → ∀ t, t < 10 → S.testBit t = true → (nI S &&& ((1 <<< (nI t &&& 31)) ^^^ -1)) = nI (S ^^^ 2 ^ t) ∧ S ^^^ 2 ^ t < S := by decide +kernel
theorem mk_pow : ∀ n, n < 11 → ((1 : Int32) <<< (nI n &&& 31)) = nI (2 ^ n) ∧ 1 ≤ 2 ^ n ∧ 2 ^ n ≤ 1024 := by decide +kernel
theorem mk_full : ∀ n, n < 11 → ∀ t, t < 10 → (2 ^ n - 1).testBit t = decide (t < n) := by decide +kernel
theorem mk_dlt {S t : Nat} (h : S.testBit t = true) : (S ^^^ 2 ^ t).testBit = dlt S.testBit t := by
  funext u
  unfold dlt
  rw [Nat.testBit_xor, Nat.testBit_two_pow]
  by_cases q : t = u
  · subst q; simp [h]
  · have q2 : ¬ u = t := fun z => q z.symm
    simp [q, q2]
def ttO (T : TS) (t : Nat) : Nat := if t < T.1 then (T.2.2.2.1 t).toInt.toNat else 1
def ssO (T : TS) (t : Nat) : Nat := if t < T.1 then (T.2.2.2.2.2.1 t).toInt.toNat else 0
theorem ttO_p {T : TS} (hT : WfT T) (t : Nat) : 0 < ttO T t ∧ ttO T t ≤ 999 ∧ ssO T t ≤ 10 ∧ (t < T.1 → (T.2.2.2.1 t).toInt = (ttO T t : Int) ∧ (T.2.2.2.2.2.1 t).toInt = (ssO T t : Int)) := by
  unfold ttO ssO
  by_cases q : t < T.1
  · rw [if_pos q, if_pos q]
    have := hT.2.2.2.2 t q
    omega
  · rw [if_neg q, if_neg q]
    omega
def tkO (tt ss : Nat → Nat) (mat : Bool) (k : Nat) : Option Nat → Bool
  | none => true
  | some j => mat && decide (tt k * ss j < tt j * ss k)
theorem tkO_s {tt ss : Nat → Nat} {mat : Bool} {k j : Nat} : tkO tt ss mat k (some j) = true ↔ mat = true ∧ tt k * ss j < tt j * ss k := by
  unfold tkO
  rw [Bool.and_eq_true, decide_eq_true_iff]
def scn2 (tt ss : Nat → Nat) (p : Nat → Bool) (mat : Bool) : Nat → Nat → Option Nat → Option Nat
  | 0, _, b => b
  | m + 1, k, b => scn2 tt ss p mat m (k + 1) (if p k = true ∧ tkO tt ss mat k b = true then some k else b)
theorem mul_T {x y : Int32} {a b : Nat} (hx : x.toInt = (a : Int)) (hy : y.toInt = (b : Int)) (ha : a ≤ 999) (hb : b ≤ 10) : (x * y).toInt = ((a * b : Nat) : Int) := by
  have h1 : a * b ≤ 999 * 10 := Nat.mul_le_mul ha hb
  have h2 : x.toInt * y.toInt = ((a * b : Nat) : Int) := by rw [hx, hy]; exact (Int.natCast_mul a b).symm
  rw [i_mul (by omega) (by omega), h2]
theorem c_hasToBeAhead {T : TS} (hT : WfT T) {h : HH} {f : Nat → Int32} (hs : TsX h T.1 T.2.1 T.2.2.1 T.2.2.2.1 T.2.2.2.2.1 T.2.2.2.2.2.1 f) {t u : Nat} (ht : t < T.1) (hu : u < T.1) : CT mX5_hasToBeAhead 0 0 0 [.ref 27, .int (nI t), .int (nI u)] h (fun r h' => r = some (.int (bI (ttO T t * ssO T u < ttO T u * ssO T t))) ∧ h' = h) := by
  obtain ⟨e1, e2, e3, e4, e5, e6, e7, e8, e9, e10, e11, e12, e13, e14⟩ := hs
  have hT1 := hT.1
  obtain ⟨t1, t2, t3, t4⟩ := ttO_p hT t
  obtain ⟨u1, u2, u3, u4⟩ := ttO_p hT u
  have m1 := mul_T (t4 ht).1 (u4 hu).2 t2 u3
  have m2 := mul_T (u4 hu).1 (t4 ht).2 u2 t3
  generalize ttO T t * ssO T u = v1 at m1 ⊢
  generalize ttO T u * ssO T t = v2 at m2 ⊢
  refine CT.go [.ref 27, .int (nI t), .int (nI u)] (by decide +kernel) rfl rfl (fun Q' hQ => ?_)
  refine g_aload_n (i := 0) dX5_hasToBeAhead_0 rfl rfl ?_
  refine g_get dX5_hasToBeAhead_1 fl_X5_22 (by repeat' (first | assumption | exact rF_eq | refine rF_ne (by decide) ?_ | refine rF_a ?_ | exact rA_eq | refine rA_ne (by decide) ?_ | refine rA_f ?_)) (by repeat' (first | assumption | exact rF_eq | refine rF_ne (by decide) ?_ | refine rF_a ?_ | exact rA_eq | refine rA_ne (by decide) ?_ | refine rA_f ?_)) ?_
  refine g_iload_n (i := 1) dX5_hasToBeAhead_4 rfl rfl ?_
  refine g_iald dX5_hasToBeAhead_5 (by repeat' (first | assumption | exact rF_eq | refine rF_ne (by decide) ?_ | refine rF_a ?_ | exact rA_eq | refine rA_ne (by decide) ?_ | refine rA_f ?_)) (nT (by omega)) (by omega) ?_
  refine g_aload_n (i := 0) dX5_hasToBeAhead_6 rfl rfl ?_
  refine g_get dX5_hasToBeAhead_7 fl_X5_28 (by repeat' (first | assumption | exact rF_eq | refine rF_ne (by decide) ?_ | refine rF_a ?_ | exact rA_eq | refine rA_ne (by decide) ?_ | refine rA_f ?_)) (by repeat' (first | assumption | exact rF_eq | refine rF_ne (by decide) ?_ | refine rF_a ?_ | exact rA_eq | refine rA_ne (by decide) ?_ | refine rA_f ?_)) ?_
  refine g_iload_n (i := 2) dX5_hasToBeAhead_10 rfl rfl ?_
  refine g_iald dX5_hasToBeAhead_11 (by repeat' (first | assumption | exact rF_eq | refine rF_ne (by decide) ?_ | refine rF_a ?_ | exact rA_eq | refine rA_ne (by decide) ?_ | refine rA_f ?_)) (nT (by omega)) (by omega) ?_
  refine g_imul dX5_hasToBeAhead_12 ?_
  refine g_aload_n (i := 0) dX5_hasToBeAhead_13 rfl rfl ?_
  refine g_get dX5_hasToBeAhead_14 fl_X5_22 (by repeat' (first | assumption | exact rF_eq | refine rF_ne (by decide) ?_ | refine rF_a ?_ | exact rA_eq | refine rA_ne (by decide) ?_ | refine rA_f ?_)) (by repeat' (first | assumption | exact rF_eq | refine rF_ne (by decide) ?_ | refine rF_a ?_ | exact rA_eq | refine rA_ne (by decide) ?_ | refine rA_f ?_)) ?_
  refine g_iload_n (i := 2) dX5_hasToBeAhead_17 rfl rfl ?_
  refine g_iald dX5_hasToBeAhead_18 (by repeat' (first | assumption | exact rF_eq | refine rF_ne (by decide) ?_ | refine rF_a ?_ | exact rA_eq | refine rA_ne (by decide) ?_ | refine rA_f ?_)) (nT (by omega)) (by omega) ?_
  refine g_aload_n (i := 0) dX5_hasToBeAhead_19 rfl rfl ?_
  refine g_get dX5_hasToBeAhead_20 fl_X5_28 (by repeat' (first | assumption | exact rF_eq | refine rF_ne (by decide) ?_ | refine rF_a ?_ | exact rA_eq | refine rA_ne (by decide) ?_ | refine rA_f ?_)) (by repeat' (first | assumption | exact rF_eq | refine rF_ne (by decide) ?_ | refine rF_a ?_ | exact rA_eq | refine rA_ne (by decide) ?_ | refine rA_f ?_)) ?_
  refine g_iload_n (i := 1) dX5_hasToBeAhead_23 rfl rfl ?_
  refine g_iald dX5_hasToBeAhead_24 (by repeat' (first | assumption | exact rF_eq | refine rF_ne (by decide) ?_ | refine rF_a ?_ | exact rA_eq | refine rA_ne (by decide) ?_ | refine rA_f ?_)) (nT (by omega)) (by omega) ?_
  refine g_imul dX5_hasToBeAhead_25 ?_
  refine g_icmp_ge (tgt := 33) dX5_hasToBeAhead_26 (by decide) (fun hc26 => ?_) (fun hc26 => ?_)
  · (try simp (disch := omega) only [nT, t_m1000100, t_m1000010, t_m1000003, t_m1000002, t_m1000001, t_m1000000, t_m65535, t_m1000, t_m3, t_m1, t_0, t_1, t_2, t_3, t_4, t_5, t_6, t_7, t_8, t_9, t_10, t_11, t_12, t_13, t_15, t_16, t_20, t_21, t_22, t_32, t_40, t_41, t_48, t_49, t_57, t_59, t_60, t_63, t_72, t_76, t_88, t_100, t_144, t_200, t_255, t_288, t_400, t_800, t_999, t_1000, t_1024, t_1200, t_1600, t_3200, t_100000, t_200000, t_252645135, t_858993459, t_1431655765, u_m1000002, u_m1000001, u_m1000, u_m3, u_m1, u_0, u_1, u_2, u_3, u_4, u_5, u_7, u_8, u_10, u_11, u_15, u_60, u_100, u_255, u_999, u_1000, u_100000, u_4294967295] at hc26)
    rw [bI_f (by omega)] at hQ
    refine g_iconst (v := 0) dX5_hasToBeAhead_33 (by decide) ?_
    refine g_iret dX5_hasToBeAhead_34 rfl (rfl) (hQ _ _ ?_)
    exact ⟨rfl, rfl⟩
  · (try simp (disch := omega) only [nT, t_m1000100, t_m1000010, t_m1000003, t_m1000002, t_m1000001, t_m1000000, t_m65535, t_m1000, t_m3, t_m1, t_0, t_1, t_2, t_3, t_4, t_5, t_6, t_7, t_8, t_9, t_10, t_11, t_12, t_13, t_15, t_16, t_20, t_21, t_22, t_32, t_40, t_41, t_48, t_49, t_57, t_59, t_60, t_63, t_72, t_76, t_88, t_100, t_144, t_200, t_255, t_288, t_400, t_800, t_999, t_1000, t_1024, t_1200, t_1600, t_3200, t_100000, t_200000, t_252645135, t_858993459, t_1431655765, u_m1000002, u_m1000001, u_m1000, u_m3, u_m1, u_0, u_1, u_2, u_3, u_4, u_5, u_7, u_8, u_10, u_11, u_15, u_60, u_100, u_255, u_999, u_1000, u_100000, u_4294967295] at hc26)
    rw [bI_t (by omega)] at hQ
    refine g_iconst (v := 1) dX5_hasToBeAhead_29 (by decide) ?_
    refine g_goto (tgt := 34) dX5_hasToBeAhead_30 (by decide) ?_
    refine g_iret dX5_hasToBeAhead_34 rfl (rfl) (hQ _ _ ?_)
    exact ⟨rfl, rfl⟩
def oV : Option Nat → Int32
  | none => -1000000
  | some j => nI j
theorem c_nextOfBest {T : TS} (hT : WfT T) {h : HH} {f : Nat → Int32} (hs : TsX h T.1 T.2.1 T.2.2.1 T.2.2.2.1 T.2.2.2.2.1 T.2.2.2.2.2.1 f) {S : Nat} (hS : S < 1024) (mat : Bool) : CT mX5_nextOfBest 1 0 0 [.ref 27, .int (nI S), .int (bI (mat = true))] h (fun r h' => r = some (.int (oV (scn2 (ttO T) (ssO T) S.testBit mat T.1 0 none))) ∧ h' = h) := by
  obtain ⟨e1, e2, e3, e4, e5, e6, e7, e8, e9, e10, e11, e12, e13, e14⟩ := id hs
  have hT1 := hT.1
  refine CT.go [.ref 27, .int (nI S), .int (bI (mat = true)), hU, hU, hU] (by decide +kernel) rfl rfl (fun Q' hQ => ?_)
  generalize hz : scn2 (ttO T) (ssO T) S.testBit mat T.1 0 none = z at hQ
  have key : ∀ m k b (v5 : Value), k + m = T.1 → (∀ j, b = some j → j < T.1) → scn2 (ttO T) (ssO T) S.testBit mat m k b = z → GG (EM mX5_nextOfBest 1 0 0 Q') 0 0 6 [.ref 27, .int (nI S), .int (bI (mat = true)), .int (oV b), .int (nI k), v5] [] h := by
    intro m
    induction m with
    | zero =>
      intro k b v5 hk hb he
      obtain rfl : b = z := he
      refine g_iload dX5_nextOfBest_6 rfl ?_
      refine g_aload_n (i := 0) dX5_nextOfBest_8 rfl rfl ?_
      refine g_get dX5_nextOfBest_9 fl_X5_9 (by repeat' (first | assumption | exact rF_eq | refine rF_ne (by decide) ?_ | refine rF_a ?_ | exact rA_eq | refine rA_ne (by decide) ?_ | refine rA_f ?_)) (by repeat' (first | assumption | exact rF_eq | refine rF_ne (by decide) ?_ | refine rF_a ?_ | exact rA_eq | refine rA_ne (by decide) ?_ | refine rA_f ?_)) ?_
      refine g_icmp_ge (tgt := 66) dX5_nextOfBest_12 (by decide) (fun hc12 => ?_) (fun hc12 => ?_)
      · (try simp (disch := omega) only [nT, t_m1000100, t_m1000010, t_m1000003, t_m1000002, t_m1000001, t_m1000000, t_m65535, t_m1000, t_m3, t_m1, t_0, t_1, t_2, t_3, t_4, t_5, t_6, t_7, t_8, t_9, t_10, t_11, t_12, t_13, t_15, t_16, t_20, t_21, t_22, t_32, t_40, t_41, t_48, t_49, t_57, t_59, t_60, t_63, t_72, t_76, t_88, t_100, t_144, t_200, t_255, t_288, t_400, t_800, t_999, t_1000, t_1024, t_1200, t_1600, t_3200, t_100000, t_200000, t_252645135, t_858993459, t_1431655765, u_m1000002, u_m1000001, u_m1000, u_m3, u_m1, u_0, u_1, u_2, u_3, u_4, u_5, u_7, u_8, u_10, u_11, u_15, u_60, u_100, u_255, u_999, u_1000, u_100000, u_4294967295] at hc12)
        refine g_iload_n (i := 3) dX5_nextOfBest_66 rfl rfl ?_
        refine g_iret dX5_nextOfBest_67 rfl (rfl) (hQ _ _ ?_)
        exact ⟨rfl, rfl⟩
      · (try simp (disch := omega) only [nT, t_m1000100, t_m1000010, t_m1000003, t_m1000002, t_m1000001, t_m1000000, t_m65535, t_m1000, t_m3, t_m1, t_0, t_1, t_2, t_3, t_4, t_5, t_6, t_7, t_8, t_9, t_10, t_11, t_12, t_13, t_15, t_16, t_20, t_21, t_22, t_32, t_40, t_41, t_48, t_49, t_57, t_59, t_60, t_63, t_72, t_76, t_88, t_100, t_144, t_200, t_255, t_288, t_400, t_800, t_999, t_1000, t_1024, t_1200, t_1600, t_3200, t_100000, t_200000, t_252645135, t_858993459, t_1431655765, u_m1000002, u_m1000001, u_m1000, u_m3, u_m1, u_0, u_1, u_2, u_3, u_4, u_5, u_7, u_8, u_10, u_11, u_15, u_60, u_100, u_255, u_999, u_1000, u_100000, u_4294967295] at hc12); omega
    | succ m ih =>
      intro k b v5 hk hb he
      have hbit := mk_bit S hS k (by omega)
      unfold scn2 at he
      have take : S.testBit k = true → tkO (ttO T) (ssO T) mat k b = true → ∀ v5 : Value, GG (EM mX5_nextOfBest 1 0 0 Q') 0 0 57 [.ref 27, .int (nI S), .int (bI (mat = true)), .int (oV b), .int (nI k), v5] [] h := by
        intro h1 h2 v5
        rw [if_pos ⟨h1, h2⟩] at he
        refine g_iload dX5_nextOfBest_57 rfl ?_
        refine g_istore_n (i := 3) dX5_nextOfBest_59 rfl (Nat.le_of_ble_eq_true rfl) rfl ?_
        refine g_iinc dX5_nextOfBest_60 rfl (Nat.le_of_ble_eq_true rfl) rfl ?_
        refine g_goto (tgt := 6) dX5_nextOfBest_63 (by decide) ?_
        rw [ni_incO]
        exact ih (k + 1) (some k) _ (by omega) (fun j hj => by cases hj; omega) he
      have skip : ¬ (S.testBit k = true ∧ tkO (ttO T) (ssO T) mat k b = true) → ∀ v5 : Value, GG (EM mX5_nextOfBest 1 0 0 Q') 0 0 60 [.ref 27, .int (nI S), .int (bI (mat = true)), .int (oV b), .int (nI k), v5] [] h := by
        intro h1 v5
        rw [if_neg h1] at he
        refine g_iinc dX5_nextOfBest_60 rfl (Nat.le_of_ble_eq_true rfl) rfl ?_
        refine g_goto (tgt := 6) dX5_nextOfBest_63 (by decide) ?_
        rw [ni_incO]
        exact ih (k + 1) b _ (by omega) hb he
      by_cases hm : S.testBit k = true
      · rw [if_pos hm] at hbit
        rcases b with _ | j
        · refine g_iload dX5_nextOfBest_6 rfl ?_
          refine g_aload_n (i := 0) dX5_nextOfBest_8 rfl rfl ?_
          refine g_get dX5_nextOfBest_9 fl_X5_9 (by repeat' (first | assumption | exact rF_eq | refine rF_ne (by decide) ?_ | refine rF_a ?_ | exact rA_eq | refine rA_ne (by decide) ?_ | refine rA_f ?_)) (by repeat' (first | assumption | exact rF_eq | refine rF_ne (by decide) ?_ | refine rF_a ?_ | exact rA_eq | refine rA_ne (by decide) ?_ | refine rA_f ?_)) ?_
          refine g_icmp_ge (tgt := 66) dX5_nextOfBest_12 (by decide) (fun hc12 => ?_) (fun hc12 => ?_)
          · (try simp (disch := omega) only [nT, t_m1000100, t_m1000010, t_m1000003, t_m1000002, t_m1000001, t_m1000000, t_m65535, t_m1000, t_m3, t_m1, t_0, t_1, t_2, t_3, t_4, t_5, t_6, t_7, t_8, t_9, t_10, t_11, t_12, t_13, t_15, t_16, t_20, t_21, t_22, t_32, t_40, t_41, t_48, t_49, t_57, t_59, t_60, t_63, t_72, t_76, t_88, t_100, t_144, t_200, t_255, t_288, t_400, t_800, t_999, t_1000, t_1024, t_1200, t_1600, t_3200, t_100000, t_200000, t_252645135, t_858993459, t_1431655765, u_m1000002, u_m1000001, u_m1000, u_m3, u_m1, u_0, u_1, u_2, u_3, u_4, u_5, u_7, u_8, u_10, u_11, u_15, u_60, u_100, u_255, u_999, u_1000, u_100000, u_4294967295] at hc12); omega
          · (try simp (disch := omega) only [nT, t_m1000100, t_m1000010, t_m1000003, t_m1000002, t_m1000001, t_m1000000, t_m65535, t_m1000, t_m3, t_m1, t_0, t_1, t_2, t_3, t_4, t_5, t_6, t_7, t_8, t_9, t_10, t_11, t_12, t_13, t_15, t_16, t_20, t_21, t_22, t_32, t_40, t_41, t_48, t_49, t_57, t_59, t_60, t_63, t_72, t_76, t_88, t_100, t_144, t_200, t_255, t_288, t_400, t_800, t_999, t_1000, t_1024, t_1200, t_1600, t_3200, t_100000, t_200000, t_252645135, t_858993459, t_1431655765, u_m1000002, u_m1000001, u_m1000, u_m3, u_m1, u_0, u_1, u_2, u_3, u_4, u_5, u_7, u_8, u_10, u_11, u_15, u_60, u_100, u_255, u_999, u_1000, u_100000, u_4294967295] at hc12)
            refine g_iload_n (i := 1) dX5_nextOfBest_15 rfl rfl ?_
            refine g_iload dX5_nextOfBest_16 rfl ?_
            refine g_ishr dX5_nextOfBest_18 ?_
            refine g_iconst (v := 1) dX5_nextOfBest_19 (by decide) ?_
            refine g_iand dX5_nextOfBest_20 ?_
            rw [hbit]
            refine g_iconst (v := 1) dX5_nextOfBest_21 (by decide) ?_
            refine g_icmp_ne (tgt := 29) dX5_nextOfBest_22 (by decide) (fun hc22 => ?_) (fun hc22 => ?_)
            · have hd22 := mt i_eq.mpr hc22; (try simp (disch := omega) only [nT, t_m1000100, t_m1000010, t_m1000003, t_m1000002, t_m1000001, t_m1000000, t_m65535, t_m1000, t_m3, t_m1, t_0, t_1, t_2, t_3, t_4, t_5, t_6, t_7, t_8, t_9, t_10, t_11, t_12, t_13, t_15, t_16, t_20, t_21, t_22, t_32, t_40, t_41, t_48, t_49, t_57, t_59, t_60, t_63, t_72, t_76, t_88, t_100, t_144, t_200, t_255, t_288, t_400, t_800, t_999, t_1000, t_1024, t_1200, t_1600, t_3200, t_100000, t_200000, t_252645135, t_858993459, t_1431655765, u_m1000002, u_m1000001, u_m1000, u_m3, u_m1, u_0, u_1, u_2, u_3, u_4, u_5, u_7, u_8, u_10, u_11, u_15, u_60, u_100, u_255, u_999, u_1000, u_100000, u_4294967295] at hd22); exact absurd rfl hc22
            · have hd22 := i_eq.mp hc22; (try simp (disch := omega) only [nT, t_m1000100, t_m1000010, t_m1000003, t_m1000002, t_m1000001, t_m1000000, t_m65535, t_m1000, t_m3, t_m1, t_0, t_1, t_2, t_3, t_4, t_5, t_6, t_7, t_8, t_9, t_10, t_11, t_12, t_13, t_15, t_16, t_20, t_21, t_22, t_32, t_40, t_41, t_48, t_49, t_57, t_59, t_60, t_63, t_72, t_76, t_88, t_100, t_144, t_200, t_255, t_288, t_400, t_800, t_999, t_1000, t_1024, t_1200, t_1600, t_3200, t_100000, t_200000, t_252645135, t_858993459, t_1431655765, u_m1000002, u_m1000001, u_m1000, u_m3, u_m1, u_0, u_1, u_2, u_3, u_4, u_5, u_7, u_8, u_10, u_11, u_15, u_60, u_100, u_255, u_999, u_1000, u_100000, u_4294967295] at hd22)
              refine g_iconst (v := 1) dX5_nextOfBest_25 (by decide) ?_
              refine g_goto (tgt := 30) dX5_nextOfBest_26 (by decide) ?_
              refine g_istore dX5_nextOfBest_30 (Nat.le_of_ble_eq_true rfl) rfl ?_
              refine g_iload dX5_nextOfBest_32 rfl ?_
              refine g_if_eq (tgt := 60) dX5_nextOfBest_34 (by decide) (fun hc34 => ?_) (fun hc34 => ?_)
              · have hd34 := i_eq.mp hc34; (try simp (disch := omega) only [nT, t_m1000100, t_m1000010, t_m1000003, t_m1000002, t_m1000001, t_m1000000, t_m65535, t_m1000, t_m3, t_m1, t_0, t_1, t_2, t_3, t_4, t_5, t_6, t_7, t_8, t_9, t_10, t_11, t_12, t_13, t_15, t_16, t_20, t_21, t_22, t_32, t_40, t_41, t_48, t_49, t_57, t_59, t_60, t_63, t_72, t_76, t_88, t_100, t_144, t_200, t_255, t_288, t_400, t_800, t_999, t_1000, t_1024, t_1200, t_1600, t_3200, t_100000, t_200000, t_252645135, t_858993459, t_1431655765, u_m1000002, u_m1000001, u_m1000, u_m3, u_m1, u_0, u_1, u_2, u_3, u_4, u_5, u_7, u_8, u_10, u_11, u_15, u_60, u_100, u_255, u_999, u_1000, u_100000, u_4294967295] at hd34); exact absurd hc34 (by decide)
              · have hd34 := mt i_eq.mpr hc34; (try simp (disch := omega) only [nT, t_m1000100, t_m1000010, t_m1000003, t_m1000002, t_m1000001, t_m1000000, t_m65535, t_m1000, t_m3, t_m1, t_0, t_1, t_2, t_3, t_4, t_5, t_6, t_7, t_8, t_9, t_10, t_11, t_12, t_13, t_15, t_16, t_20, t_21, t_22, t_32, t_40, t_41, t_48, t_49, t_57, t_59, t_60, t_63, t_72, t_76, t_88, t_100, t_144, t_200, t_255, t_288, t_400, t_800, t_999, t_1000, t_1024, t_1200, t_1600, t_3200, t_100000, t_200000, t_252645135, t_858993459, t_1431655765, u_m1000002, u_m1000001, u_m1000, u_m3, u_m1, u_0, u_1, u_2, u_3, u_4, u_5, u_7, u_8, u_10, u_11, u_15, u_60, u_100, u_255, u_999, u_1000, u_100000, u_4294967295] at hd34)
                refine g_iload_n (i := 3) dX5_nextOfBest_37 rfl rfl ?_
                refine g_ldc dX5_nextOfBest_38 kc_X5_38 ?_
                refine g_icmp_eq (tgt := 57) dX5_nextOfBest_40 (by decide) (fun hc40 => ?_) (fun hc40 => ?_)
                · have hd40 := i_eq.mp hc40; (try simp (disch := omega) only [nT, t_m1000100, t_m1000010, t_m1000003, t_m1000002, t_m1000001, t_m1000000, t_m65535, t_m1000, t_m3, t_m1, t_0, t_1, t_2, t_3, t_4, t_5, t_6, t_7, t_8, t_9, t_10, t_11, t_12, t_13, t_15, t_16, t_20, t_21, t_22, t_32, t_40, t_41, t_48, t_49, t_57, t_59, t_60, t_63, t_72, t_76, t_88, t_100, t_144, t_200, t_255, t_288, t_400, t_800, t_999, t_1000, t_1024, t_1200, t_1600, t_3200, t_100000, t_200000, t_252645135, t_858993459, t_1431655765, u_m1000002, u_m1000001, u_m1000, u_m3, u_m1, u_0, u_1, u_2, u_3, u_4, u_5, u_7, u_8, u_10, u_11, u_15, u_60, u_100, u_255, u_999, u_1000, u_100000, u_4294967295] at hd40)
                  exact take hm rfl _
                · have hd40 := mt i_eq.mpr hc40; (try simp (disch := omega) only [nT, t_m1000100, t_m1000010, t_m1000003, t_m1000002, t_m1000001, t_m1000000, t_m65535, t_m1000, t_m3, t_m1, t_0, t_1, t_2, t_3, t_4, t_5, t_6, t_7, t_8, t_9, t_10, t_11, t_12, t_13, t_15, t_16, t_20, t_21, t_22, t_32, t_40, t_41, t_48, t_49, t_57, t_59, t_60, t_63, t_72, t_76, t_88, t_100, t_144, t_200, t_255, t_288, t_400, t_800, t_999, t_1000, t_1024, t_1200, t_1600, t_3200, t_100000, t_200000, t_252645135, t_858993459, t_1431655765, u_m1000002, u_m1000001, u_m1000, u_m3, u_m1, u_0, u_1, u_2, u_3, u_4, u_5, u_7, u_8, u_10, u_11, u_15, u_60, u_100, u_255, u_999, u_1000, u_100000, u_4294967295] at hd40); exact absurd rfl hc40
        · have hj := hb j rfl
          refine g_iload dX5_nextOfBest_6 rfl ?_
          refine g_aload_n (i := 0) dX5_nextOfBest_8 rfl rfl ?_
          refine g_get dX5_nextOfBest_9 fl_X5_9 (by repeat' (first | assumption | exact rF_eq | refine rF_ne (by decide) ?_ | refine rF_a ?_ | exact rA_eq | refine rA_ne (by decide) ?_ | refine rA_f ?_)) (by repeat' (first | assumption | exact rF_eq | refine rF_ne (by decide) ?_ | refine rF_a ?_ | exact rA_eq | refine rA_ne (by decide) ?_ | refine rA_f ?_)) ?_
          refine g_icmp_ge (tgt := 66) dX5_nextOfBest_12 (by decide) (fun hc12 => ?_) (fun hc12 => ?_)
          · (try simp (disch := omega) only [nT, t_m1000100, t_m1000010, t_m1000003, t_m1000002, t_m1000001, t_m1000000, t_m65535, t_m1000, t_m3, t_m1, t_0, t_1, t_2, t_3, t_4, t_5, t_6, t_7, t_8, t_9, t_10, t_11, t_12, t_13, t_15, t_16, t_20, t_21, t_22, t_32, t_40, t_41, t_48, t_49, t_57, t_59, t_60, t_63, t_72, t_76, t_88, t_100, t_144, t_200, t_255, t_288, t_400, t_800, t_999, t_1000, t_1024, t_1200, t_1600, t_3200, t_100000, t_200000, t_252645135, t_858993459, t_1431655765, u_m1000002, u_m1000001, u_m1000, u_m3, u_m1, u_0, u_1, u_2, u_3, u_4, u_5, u_7, u_8, u_10, u_11, u_15, u_60, u_100, u_255, u_999, u_1000, u_100000, u_4294967295] at hc12); omega
          · (try simp (disch := omega) only [nT, t_m1000100, t_m1000010, t_m1000003, t_m1000002, t_m1000001, t_m1000000, t_m65535, t_m1000, t_m3, t_m1, t_0, t_1, t_2, t_3, t_4, t_5, t_6, t_7, t_8, t_9, t_10, t_11, t_12, t_13, t_15, t_16, t_20, t_21, t_22, t_32, t_40, t_41, t_48, t_49, t_57, t_59, t_60, t_63, t_72, t_76, t_88, t_100, t_144, t_200, t_255, t_288, t_400, t_800, t_999, t_1000, t_1024, t_1200, t_1600, t_3200, t_100000, t_200000, t_252645135, t_858993459, t_1431655765, u_m1000002, u_m1000001, u_m1000, u_m3, u_m1, u_0, u_1, u_2, u_3, u_4, u_5, u_7, u_8, u_10, u_11, u_15, u_60, u_100, u_255, u_999, u_1000, u_100000, u_4294967295] at hc12)
            refine g_iload_n (i := 1) dX5_nextOfBest_15 rfl rfl ?_
            refine g_iload dX5_nextOfBest_16 rfl ?_
            refine g_ishr dX5_nextOfBest_18 ?_
            refine g_iconst (v := 1) dX5_nextOfBest_19 (by decide) ?_
            refine g_iand dX5_nextOfBest_20 ?_
            rw [hbit]
            refine g_iconst (v := 1) dX5_nextOfBest_21 (by decide) ?_
            refine g_icmp_ne (tgt := 29) dX5_nextOfBest_22 (by decide) (fun hc22 => ?_) (fun hc22 => ?_)
            · have hd22 := mt i_eq.mpr hc22; (try simp (disch := omega) only [nT, t_m1000100, t_m1000010, t_m1000003, t_m1000002, t_m1000001, t_m1000000, t_m65535, t_m1000, t_m3, t_m1, t_0, t_1, t_2, t_3, t_4, t_5, t_6, t_7, t_8, t_9, t_10, t_11, t_12, t_13, t_15, t_16, t_20, t_21, t_22, t_32, t_40, t_41, t_48, t_49, t_57, t_59, t_60, t_63, t_72, t_76, t_88, t_100, t_144, t_200, t_255, t_288, t_400, t_800, t_999, t_1000, t_1024, t_1200, t_1600, t_3200, t_100000, t_200000, t_252645135, t_858993459, t_1431655765, u_m1000002, u_m1000001, u_m1000, u_m3, u_m1, u_0, u_1, u_2, u_3, u_4, u_5, u_7, u_8, u_10, u_11, u_15, u_60, u_100, u_255, u_999, u_1000, u_100000, u_4294967295] at hd22); exact absurd rfl hc22
            · have hd22 := i_eq.mp hc22; (try simp (disch := omega) only [nT, t_m1000100, t_m1000010, t_m1000003, t_m1000002, t_m1000001, t_m1000000, t_m65535, t_m1000, t_m3, t_m1, t_0, t_1, t_2, t_3, t_4, t_5, t_6, t_7, t_8, t_9, t_10, t_11, t_12, t_13, t_15, t_16, t_20, t_21, t_22, t_32, t_40, t_41, t_48, t_49, t_57, t_59, t_60, t_63, t_72, t_76, t_88, t_100, t_144, t_200, t_255, t_288, t_400, t_800, t_999, t_1000, t_1024, t_1200, t_1600, t_3200, t_100000, t_200000, t_252645135, t_858993459, t_1431655765, u_m1000002, u_m1000001, u_m1000, u_m3, u_m1, u_0, u_1, u_2, u_3, u_4, u_5, u_7, u_8, u_10, u_11, u_15, u_60, u_100, u_255, u_999, u_1000, u_100000, u_4294967295] at hd22)
              refine g_iconst (v := 1) dX5_nextOfBest_25 (by decide) ?_
              refine g_goto (tgt := 30) dX5_nextOfBest_26 (by decide) ?_
              refine g_istore dX5_nextOfBest_30 (Nat.le_of_ble_eq_true rfl) rfl ?_
              refine g_iload dX5_nextOfBest_32 rfl ?_
              refine g_if_eq (tgt := 60) dX5_nextOfBest_34 (by decide) (fun hc34 => ?_) (fun hc34 => ?_)
              · have hd34 := i_eq.mp hc34; (try simp (disch := omega) only [nT, t_m1000100, t_m1000010, t_m1000003, t_m1000002, t_m1000001, t_m1000000, t_m65535, t_m1000, t_m3, t_m1, t_0, t_1, t_2, t_3, t_4, t_5, t_6, t_7, t_8, t_9, t_10, t_11, t_12, t_13, t_15, t_16, t_20, t_21, t_22, t_32, t_40, t_41, t_48, t_49, t_57, t_59, t_60, t_63, t_72, t_76, t_88, t_100, t_144, t_200, t_255, t_288, t_400, t_800, t_999, t_1000, t_1024, t_1200, t_1600, t_3200, t_100000, t_200000, t_252645135, t_858993459, t_1431655765, u_m1000002, u_m1000001, u_m1000, u_m3, u_m1, u_0, u_1, u_2, u_3, u_4, u_5, u_7, u_8, u_10, u_11, u_15, u_60, u_100, u_255, u_999, u_1000, u_100000, u_4294967295] at hd34); exact absurd hc34 (by decide)
              · have hd34 := mt i_eq.mpr hc34; (try simp (disch := omega) only [nT, t_m1000100, t_m1000010, t_m1000003, t_m1000002, t_m1000001, t_m1000000, t_m65535, t_m1000, t_m3, t_m1, t_0, t_1, t_2, t_3, t_4, t_5, t_6, t_7, t_8, t_9, t_10, t_11, t_12, t_13, t_15, t_16, t_20, t_21, t_22, t_32, t_40, t_41, t_48, t_49, t_57, t_59, t_60, t_63, t_72, t_76, t_88, t_100, t_144, t_200, t_255, t_288, t_400, t_800, t_999, t_1000, t_1024, t_1200, t_1600, t_3200, t_100000, t_200000, t_252645135, t_858993459, t_1431655765, u_m1000002, u_m1000001, u_m1000, u_m3, u_m1, u_0, u_1, u_2, u_3, u_4, u_5, u_7, u_8, u_10, u_11, u_15, u_60, u_100, u_255, u_999, u_1000, u_100000, u_4294967295] at hd34)
                refine g_iload_n (i := 3) dX5_nextOfBest_37 rfl rfl ?_
                refine g_ldc dX5_nextOfBest_38 kc_X5_38 ?_
                refine g_icmp_eq (tgt := 57) dX5_nextOfBest_40 (by decide) (fun hc40 => ?_) (fun hc40 => ?_)
                · have hd40 := i_eq.mp hc40; (try simp (disch := omega) only [nT, t_m1000100, t_m1000010, t_m1000003, t_m1000002, t_m1000001, t_m1000000, t_m65535, t_m1000, t_m3, t_m1, t_0, t_1, t_2, t_3, t_4, t_5, t_6, t_7, t_8, t_9, t_10, t_11, t_12, t_13, t_15, t_16, t_20, t_21, t_22, t_32, t_40, t_41, t_48, t_49, t_57, t_59, t_60, t_63, t_72, t_76, t_88, t_100, t_144, t_200, t_255, t_288, t_400, t_800, t_999, t_1000, t_1024, t_1200, t_1600, t_3200, t_100000, t_200000, t_252645135, t_858993459, t_1431655765, u_m1000002, u_m1000001, u_m1000, u_m3, u_m1, u_0, u_1, u_2, u_3, u_4, u_5, u_7, u_8, u_10, u_11, u_15, u_60, u_100, u_255, u_999, u_1000, u_100000, u_4294967295] at hd40); have q9 := congrArg Int32.toInt (show nI j = -1000000 from hc40); rw [nT (by omega), t_m1000000] at q9; omega
                · have hd40 := mt i_eq.mpr hc40; (try simp (disch := omega) only [nT, t_m1000100, t_m1000010, t_m1000003, t_m1000002, t_m1000001, t_m1000000, t_m65535, t_m1000, t_m3, t_m1, t_0, t_1, t_2, t_3, t_4, t_5, t_6, t_7, t_8, t_9, t_10, t_11, t_12, t_13, t_15, t_16, t_20, t_21, t_22, t_32, t_40, t_41, t_48, t_49, t_57, t_59, t_60, t_63, t_72, t_76, t_88, t_100, t_144, t_200, t_255, t_288, t_400, t_800, t_999, t_1000, t_1024, t_1200, t_1600, t_3200, t_100000, t_200000, t_252645135, t_858993459, t_1431655765, u_m1000002, u_m1000001, u_m1000, u_m3, u_m1, u_0, u_1, u_2, u_3, u_4, u_5, u_7, u_8, u_10, u_11, u_15, u_60, u_100, u_255, u_999, u_1000, u_100000, u_4294967295] at hd40)
                  refine g_iload_n (i := 2) dX5_nextOfBest_43 rfl rfl ?_
                  refine g_if_eq (tgt := 60) dX5_nextOfBest_44 (by decide) (fun hc44 => ?_) (fun hc44 => ?_)
                  · have hd44 := i_eq.mp hc44; (try simp (disch := omega) only [nT, t_m1000100, t_m1000010, t_m1000003, t_m1000002, t_m1000001, t_m1000000, t_m65535, t_m1000, t_m3, t_m1, t_0, t_1, t_2, t_3, t_4, t_5, t_6, t_7, t_8, t_9, t_10, t_11, t_12, t_13, t_15, t_16, t_20, t_21, t_22, t_32, t_40, t_41, t_48, t_49, t_57, t_59, t_60, t_63, t_72, t_76, t_88, t_100, t_144, t_200, t_255, t_288, t_400, t_800, t_999, t_1000, t_1024, t_1200, t_1600, t_3200, t_100000, t_200000, t_252645135, t_858993459, t_1431655765, u_m1000002, u_m1000001, u_m1000, u_m3, u_m1, u_0, u_1, u_2, u_3, u_4, u_5, u_7, u_8, u_10, u_11, u_15, u_60, u_100, u_255, u_999, u_1000, u_100000, u_4294967295] at hd44)
                    first
                    | exact skip (fun q => bI_0.mp hc44 (tkO_s.mp q.2).1) _
                    | exact skip (fun q => absurd (tkO_s.mp q.2).2 (by assumption)) _
                  · have hd44 := mt i_eq.mpr hc44; (try simp (disch := omega) only [nT, t_m1000100, t_m1000010, t_m1000003, t_m1000002, t_m1000001, t_m1000000, t_m65535, t_m1000, t_m3, t_m1, t_0, t_1, t_2, t_3, t_4, t_5, t_6, t_7, t_8, t_9, t_10, t_11, t_12, t_13, t_15, t_16, t_20, t_21, t_22, t_32, t_40, t_41, t_48, t_49, t_57, t_59, t_60, t_63, t_72, t_76, t_88, t_100, t_144, t_200, t_255, t_288, t_400, t_800, t_999, t_1000, t_1024, t_1200, t_1600, t_3200, t_100000, t_200000, t_252645135, t_858993459, t_1431655765, u_m1000002, u_m1000001, u_m1000, u_m3, u_m1, u_0, u_1, u_2, u_3, u_4, u_5, u_7, u_8, u_10, u_11, u_15, u_60, u_100, u_255, u_999, u_1000, u_100000, u_4294967295] at hd44)
                    refine g_aload_n (i := 0) dX5_nextOfBest_47 rfl rfl ?_
                    refine g_iload dX5_nextOfBest_48 rfl ?_
                    refine g_iload_n (i := 3) dX5_nextOfBest_50 rfl rfl ?_
                    show GG _ _ _ _ _ (.int (nI j) :: .int (nI k) :: .ref 27 :: []) _
                    refine g_callV (M' := mX5_hasToBeAhead) dX5_nextOfBest_51 lc_X5_hasToBeAhead ml_X5_45 (c_hasToBeAhead hT hs (t := k) (u := j) (by omega) hj) rfl rfl (by repeat' (first | assumption | exact rF_eq | refine rF_ne (by decide) ?_ | refine rF_a ?_ | exact rA_eq | refine rA_ne (by decide) ?_ | refine rA_f ?_)) rfl ⟨Nat.le_of_ble_eq_true rfl, Nat.le_of_ble_eq_true rfl, Nat.le_of_ble_eq_true rfl, Nat.le_of_ble_eq_true rfl⟩ (Nat.le_of_ble_eq_true rfl) ?_
                    intro r_ h_ q_; obtain ⟨q1_, q2_⟩ := q_; have q2_ := q2_.symm; subst q1_; subst q2_
                    refine g_if_eq (tgt := 60) dX5_nextOfBest_54 (by decide) (fun hc54 => ?_) (fun hc54 => ?_)
                    · replace hc54 := bI_0.mp hc54
                      (try simp (disch := omega) only [nT, t_m1000100, t_m1000010, t_m1000003, t_m1000002, t_m1000001, t_m1000000, t_m65535, t_m1000, t_m3, t_m1, t_0, t_1, t_2, t_3, t_4, t_5, t_6, t_7, t_8, t_9, t_10, t_11, t_12, t_13, t_15, t_16, t_20, t_21, t_22, t_32, t_40, t_41, t_48, t_49, t_57, t_59, t_60, t_63, t_72, t_76, t_88, t_100, t_144, t_200, t_255, t_288, t_400, t_800, t_999, t_1000, t_1024, t_1200, t_1600, t_3200, t_100000, t_200000, t_252645135, t_858993459, t_1431655765, u_m1000002, u_m1000001, u_m1000, u_m3, u_m1, u_0, u_1, u_2, u_3, u_4, u_5, u_7, u_8, u_10, u_11, u_15, u_60, u_100, u_255, u_999, u_1000, u_100000, u_4294967295] at hc54)
                      first
                      | exact skip (fun q => bI_0.mp hc44 (tkO_s.mp q.2).1) _
                      | exact skip (fun q => absurd (tkO_s.mp q.2).2 (by assumption)) _
                    · replace hc54 := bI_n0.mp hc54
                      (try simp (disch := omega) only [nT, t_m1000100, t_m1000010, t_m1000003, t_m1000002, t_m1000001, t_m1000000, t_m65535, t_m1000, t_m3, t_m1, t_0, t_1, t_2, t_3, t_4, t_5, t_6, t_7, t_8, t_9, t_10, t_11, t_12, t_13, t_15, t_16, t_20, t_21, t_22, t_32, t_40, t_41, t_48, t_49, t_57, t_59, t_60, t_63, t_72, t_76, t_88, t_100, t_144, t_200, t_255, t_288, t_400, t_800, t_999, t_1000, t_1024, t_1200, t_1600, t_3200, t_100000, t_200000, t_252645135, t_858993459, t_1431655765, u_m1000002, u_m1000001, u_m1000, u_m3, u_m1, u_0, u_1, u_2, u_3, u_4, u_5, u_7, u_8, u_10, u_11, u_15, u_60, u_100, u_255, u_999, u_1000, u_100000, u_4294967295] at hc54)
                      exact take hm (tkO_s.mpr ⟨bI_n0.mp hc44, by assumption⟩) _
      · rw [if_neg hm] at hbit
        refine g_iload dX5_nextOfBest_6 rfl ?_
        refine g_aload_n (i := 0) dX5_nextOfBest_8 rfl rfl ?_
        refine g_get dX5_nextOfBest_9 fl_X5_9 (by repeat' (first | assumption | exact rF_eq | refine rF_ne (by decide) ?_ | refine rF_a ?_ | exact rA_eq | refine rA_ne (by decide) ?_ | refine rA_f ?_)) (by repeat' (first | assumption | exact rF_eq | refine rF_ne (by decide) ?_ | refine rF_a ?_ | exact rA_eq | refine rA_ne (by decide) ?_ | refine rA_f ?_)) ?_
        refine g_icmp_ge (tgt := 66) dX5_nextOfBest_12 (by decide) (fun hc12 => ?_) (fun hc12 => ?_)
        · (try simp (disch := omega) only [nT, t_m1000100, t_m1000010, t_m1000003, t_m1000002, t_m1000001, t_m1000000, t_m65535, t_m1000, t_m3, t_m1, t_0, t_1, t_2, t_3, t_4, t_5, t_6, t_7, t_8, t_9, t_10, t_11, t_12, t_13, t_15, t_16, t_20, t_21, t_22, t_32, t_40, t_41, t_48, t_49, t_57, t_59, t_60, t_63, t_72, t_76, t_88, t_100, t_144, t_200, t_255, t_288, t_400, t_800, t_999, t_1000, t_1024, t_1200, t_1600, t_3200, t_100000, t_200000, t_252645135, t_858993459, t_1431655765, u_m1000002, u_m1000001, u_m1000, u_m3, u_m1, u_0, u_1, u_2, u_3, u_4, u_5, u_7, u_8, u_10, u_11, u_15, u_60, u_100, u_255, u_999, u_1000, u_100000, u_4294967295] at hc12); omega
        · (try simp (disch := omega) only [nT, t_m1000100, t_m1000010, t_m1000003, t_m1000002, t_m1000001, t_m1000000, t_m65535, t_m1000, t_m3, t_m1, t_0, t_1, t_2, t_3, t_4, t_5, t_6, t_7, t_8, t_9, t_10, t_11, t_12, t_13, t_15, t_16, t_20, t_21, t_22, t_32, t_40, t_41, t_48, t_49, t_57, t_59, t_60, t_63, t_72, t_76, t_88, t_100, t_144, t_200, t_255, t_288, t_400, t_800, t_999, t_1000, t_1024, t_1200, t_1600, t_3200, t_100000, t_200000, t_252645135, t_858993459, t_1431655765, u_m1000002, u_m1000001, u_m1000, u_m3, u_m1, u_0, u_1, u_2, u_3, u_4, u_5, u_7, u_8, u_10, u_11, u_15, u_60, u_100, u_255, u_999, u_1000, u_100000, u_4294967295] at hc12)
          refine g_iload_n (i := 1) dX5_nextOfBest_15 rfl rfl ?_
          refine g_iload dX5_nextOfBest_16 rfl ?_
          refine g_ishr dX5_nextOfBest_18 ?_
          refine g_iconst (v := 1) dX5_nextOfBest_19 (by decide) ?_
          refine g_iand dX5_nextOfBest_20 ?_
          rw [hbit]
          refine g_iconst (v := 1) dX5_nextOfBest_21 (by decide) ?_
          refine g_icmp_ne (tgt := 29) dX5_nextOfBest_22 (by decide) (fun hc22 => ?_) (fun hc22 => ?_)
          · have hd22 := mt i_eq.mpr hc22; (try simp (disch := omega) only [nT, t_m1000100, t_m1000010, t_m1000003, t_m1000002, t_m1000001, t_m1000000, t_m65535, t_m1000, t_m3, t_m1, t_0, t_1, t_2, t_3, t_4, t_5, t_6, t_7, t_8, t_9, t_10, t_11, t_12, t_13, t_15, t_16, t_20, t_21, t_22, t_32, t_40, t_41, t_48, t_49, t_57, t_59, t_60, t_63, t_72, t_76, t_88, t_100, t_144, t_200, t_255, t_288, t_400, t_800, t_999, t_1000, t_1024, t_1200, t_1600, t_3200, t_100000, t_200000, t_252645135, t_858993459, t_1431655765, u_m1000002, u_m1000001, u_m1000, u_m3, u_m1, u_0, u_1, u_2, u_3, u_4, u_5, u_7, u_8, u_10, u_11, u_15, u_60, u_100, u_255, u_999, u_1000, u_100000, u_4294967295] at hd22)
            refine g_iconst (v := 0) dX5_nextOfBest_29 (by decide) ?_
            refine g_istore dX5_nextOfBest_30 (Nat.le_of_ble_eq_true rfl) rfl ?_
            refine g_iload dX5_nextOfBest_32 rfl ?_
            refine g_if_eq (tgt := 60) dX5_nextOfBest_34 (by decide) (fun hc34 => ?_) (fun hc34 => ?_)
            · have hd34 := i_eq.mp hc34; (try simp (disch := omega) only [nT, t_m1000100, t_m1000010, t_m1000003, t_m1000002, t_m1000001, t_m1000000, t_m65535, t_m1000, t_m3, t_m1, t_0, t_1, t_2, t_3, t_4, t_5, t_6, t_7, t_8, t_9, t_10, t_11, t_12, t_13, t_15, t_16, t_20, t_21, t_22, t_32, t_40, t_41, t_48, t_49, t_57, t_59, t_60, t_63, t_72, t_76, t_88, t_100, t_144, t_200, t_255, t_288, t_400, t_800, t_999, t_1000, t_1024, t_1200, t_1600, t_3200, t_100000, t_200000, t_252645135, t_858993459, t_1431655765, u_m1000002, u_m1000001, u_m1000, u_m3, u_m1, u_0, u_1, u_2, u_3, u_4, u_5, u_7, u_8, u_10, u_11, u_15, u_60, u_100, u_255, u_999, u_1000, u_100000, u_4294967295] at hd34)
              exact skip (fun q => hm q.1) _
            · have hd34 := mt i_eq.mpr hc34; (try simp (disch := omega) only [nT, t_m1000100, t_m1000010, t_m1000003, t_m1000002, t_m1000001, t_m1000000, t_m65535, t_m1000, t_m3, t_m1, t_0, t_1, t_2, t_3, t_4, t_5, t_6, t_7, t_8, t_9, t_10, t_11, t_12, t_13, t_15, t_16, t_20, t_21, t_22, t_32, t_40, t_41, t_48, t_49, t_57, t_59, t_60, t_63, t_72, t_76, t_88, t_100, t_144, t_200, t_255, t_288, t_400, t_800, t_999, t_1000, t_1024, t_1200, t_1600, t_3200, t_100000, t_200000, t_252645135, t_858993459, t_1431655765, u_m1000002, u_m1000001, u_m1000, u_m3, u_m1, u_0, u_1, u_2, u_3, u_4, u_5, u_7, u_8, u_10, u_11, u_15, u_60, u_100, u_255, u_999, u_1000, u_100000, u_4294967295] at hd34); exact absurd rfl hc34
          · have hd22 := i_eq.mp hc22; (try simp (disch := omega) only [nT, t_m1000100, t_m1000010, t_m1000003, t_m1000002, t_m1000001, t_m1000000, t_m65535, t_m1000, t_m3, t_m1, t_0, t_1, t_2, t_3, t_4, t_5, t_6, t_7, t_8, t_9, t_10, t_11, t_12, t_13, t_15, t_16, t_20, t_21, t_22, t_32, t_40, t_41, t_48, t_49, t_57, t_59, t_60, t_63, t_72, t_76, t_88, t_100, t_144, t_200, t_255, t_288, t_400, t_800, t_999, t_1000, t_1024, t_1200, t_1600, t_3200, t_100000, t_200000, t_252645135, t_858993459, t_1431655765, u_m1000002, u_m1000001, u_m1000, u_m3, u_m1, u_0, u_1, u_2, u_3, u_4, u_5, u_7, u_8, u_10, u_11, u_15, u_60, u_100, u_255, u_999, u_1000, u_100000, u_4294967295] at hd22); exact absurd hc22 (by decide)
  refine g_ldc dX5_nextOfBest_0 kc_X5_38 ?_
  refine g_istore_n (i := 3) dX5_nextOfBest_2 rfl (Nat.le_of_ble_eq_true rfl) rfl ?_
  refine g_iconst (v := 0) dX5_nextOfBest_3 (by decide) ?_
  refine g_istore dX5_nextOfBest_4 (Nat.le_of_ble_eq_true rfl) rfl ?_
  exact key T.1 0 none _ (by omega) (fun j hj => by cases hj) hz
