/-! wafers -/
theorem n_div {a b : Nat} (ha : a < 2147483648) (hb : b < 2147483648) : nI a / nI b = nI (a / b) := by
  rw [i_eq, Int32.toInt_div, nT ha, nT hb, nT (Nat.lt_of_le_of_lt (Nat.div_le_self _ _) ha), ← Int.ofNat_tdiv]
  have := Nat.div_le_self a b
  generalize a / b = q at *
  exact Int.bmod_eq_of_le (by omega) (by omega)
theorem n_div12 {a : Nat} (ha : a < 2147483648) : nI a / 12 = nI (a / 12) := n_div (b := 12) ha (by decide)
theorem n_rem {a b : Nat} (ha : a < 2147483648) (hb : b < 2147483648) : nI a - nI a / nI b * nI b = nI (a % b) := by
  rw [n_div ha hb, pk_mul, n_sub (Nat.div_mul_le_self a b)]
  congr 1
  have := Nat.div_add_mod' a b
  omega
theorem n_rem12 {a : Nat} (ha : a < 2147483648) : nI a - nI a / 12 * 12 = nI (a % 12) := n_rem (b := 12) ha (by decide)
theorem n_div3 {a : Nat} (ha : a < 2147483648) : nI a / 3 = nI (a / 3) := n_div (b := 3) ha (by decide)
theorem n_rem3 {a : Nat} (ha : a < 2147483648) : nI a - nI a / 3 * 3 = nI (a % 3) := n_rem (b := 3) ha (by decide)
abbrev WA : Type := (Nat → Nat) × (Nat → Nat)
def WfW (W : WA) : Prop := ∀ p, p < 144 → W.1 p ≤ 16 ∧ W.2 p ≤ 16
def bv (n : Nat) : Int32 := if n = 0 then -1000000 else nI (n - 1)
theorem bv_0 : bv 0 = -1000000 := rfl
theorem bv_p {n : Nat} (h : 0 < n) : bv n = nI (n - 1) := if_neg (by omega)
theorem bv_T {n : Nat} (h : n ≤ 16) : (n = 0 ∧ (bv n).toInt = -1000000) ∨ (0 < n ∧ (bv n).toInt = (n : Int) - 1) := by
  by_cases q : n = 0
  · subst q; left; exact ⟨rfl, rfl⟩
  · right
    rw [bv_p (by omega), nT (by omega)]
    omega
def atW (d : Nat → Nat) (x y : Int) : Nat := if (0 ≤ x ∧ x < 12) ∧ 0 ≤ y ∧ y < 12 then d (12 * y.toNat + x.toNat) else 0
theorem atW_le {d : Nat → Nat} (h : ∀ p, p < 144 → d p ≤ 16) (x y : Int) : atW d x y ≤ 16 := by
  unfold atW
  split
  · exact h _ (by omega)
  · omega
def GWX (W : WA) (h : HH) : Prop := gA h 0 = aO 7 ∧ gF h 0 14 = .ref 40 ∧ gF h 0 15 = .ref 42 ∧ gA h 40 = aO 6 ∧ gF h 40 0 = .ref 41 ∧ gA h 42 = aO 6 ∧ gF h 42 0 = .ref 43 ∧ gA h 41 = aI 144 (fun p => bv (W.1 p)) ∧ gA h 43 = aI 144 (fun p => bv (W.2 p))
def dm (W : WA) : Nat → Nat := fun p => if p < 144 then W.1 p else W.2 (p - 144)
def GWM (W : WA) (h : HH) : Prop := gA h 44 = aO 8 ∧ gF h 44 46 = .ref 73 ∧ gF h 44 47 = .ref 74 ∧ (∃ f, gA h 74 = aI 4 f) ∧ gA h 73 = aI 288 (fun p => nI (dm W p))
theorem c_isPlace (h : HH) (x y : Int32) : CT mX6_isPlace 1 0 0 [.int x, .int y] h (fun r h' => r = some (.int (bI ((0 ≤ x.toInt ∧ x.toInt < 12) ∧ 0 ≤ y.toInt ∧ y.toInt < 12))) ∧ h' = h) := by
  refine CT.go [.int x, .int y] (by decide +kernel) rfl rfl (fun Q' hQ => ?_)
  refine g_iload_n (i := 0) dX6_isPlace_0 rfl rfl ?_
  refine g_bipush (v := 12) dX6_isPlace_1 (by decide) ?_
  refine g_callSN (M' := mX7_isWithin) dX6_isPlace_3 lc_X7_isWithin nl_X6_22 (c_isWithin h x 12 12 rfl) rfl rfl ⟨Nat.le_of_ble_eq_true rfl, Nat.le_of_ble_eq_true rfl, Nat.le_of_ble_eq_true rfl, Nat.le_of_ble_eq_true rfl⟩ (Nat.le_of_ble_eq_true rfl) ?_
  intro r_ h_ q_; obtain ⟨q1_, q2_⟩ := q_; have q2_ := q2_.symm; subst q1_; subst q2_
  refine g_if_eq (tgt := 22) dX6_isPlace_6 (by decide) (fun hc6 => ?_) (fun hc6 => ?_)
  · replace hc6 := bI_0.mp hc6
    (try simp (disch := omega) only [nT, t_m1000100, t_m1000010, t_m1000003, t_m1000002, t_m1000001, t_m1000000, t_m65535, t_m1000, t_m3, t_m1, t_0, t_1, t_2, t_3, t_4, t_5, t_6, t_7, t_8, t_9, t_10, t_11, t_12, t_13, t_15, t_16, t_20, t_21, t_22, t_32, t_40, t_41, t_48, t_49, t_57, t_59, t_60, t_63, t_72, t_76, t_88, t_100, t_144, t_200, t_255, t_288, t_400, t_800, t_999, t_1000, t_1024, t_1200, t_1600, t_3200, t_100000, t_200000, t_252645135, t_858993459, t_1431655765, u_m1000002, u_m1000001, u_m1000, u_m3, u_m1, u_0, u_1, u_2, u_3, u_4, u_5, u_7, u_8, u_10, u_11, u_15, u_60, u_100, u_255, u_999, u_1000, u_100000, u_4294967295] at hc6)
    rw [bI_f (by omega)] at hQ
    refine g_iconst (v := 0) dX6_isPlace_22 (by decide) ?_
    refine g_iret dX6_isPlace_23 rfl (rfl) (hQ _ _ ?_)
    exact ⟨rfl, rfl⟩
  · replace hc6 := bI_n0.mp hc6
    (try simp (disch := omega) only [nT, t_m1000100, t_m1000010, t_m1000003, t_m1000002, t_m1000001, t_m1000000, t_m65535, t_m1000, t_m3, t_m1, t_0, t_1, t_2, t_3, t_4, t_5, t_6, t_7, t_8, t_9, t_10, t_11, t_12, t_13, t_15, t_16, t_20, t_21, t_22, t_32, t_40, t_41, t_48, t_49, t_57, t_59, t_60, t_63, t_72, t_76, t_88, t_100, t_144, t_200, t_255, t_288, t_400, t_800, t_999, t_1000, t_1024, t_1200, t_1600, t_3200, t_100000, t_200000, t_252645135, t_858993459, t_1431655765, u_m1000002, u_m1000001, u_m1000, u_m3, u_m1, u_0, u_1, u_2, u_3, u_4, u_5, u_7, u_8, u_10, u_11, u_15, u_60, u_100, u_255, u_999, u_1000, u_100000, u_4294967295] at hc6)
    refine g_iload_n (i := 1) dX6_isPlace_9 rfl rfl ?_
    refine g_bipush (v := 12) dX6_isPlace_10 (by decide) ?_
    refine g_callSN (M' := mX7_isWithin) dX6_isPlace_12 lc_X7_isWithin nl_X6_22 (c_isWithin h y 12 12 rfl) rfl rfl ⟨Nat.le_of_ble_eq_true rfl, Nat.le_of_ble_eq_true rfl, Nat.le_of_ble_eq_true rfl, Nat.le_of_ble_eq_true rfl⟩ (Nat.le_of_ble_eq_true rfl) ?_
    intro r_ h_ q_; obtain ⟨q1_, q2_⟩ := q_; have q2_ := q2_.symm; subst q1_; subst q2_
    refine g_if_eq (tgt := 22) dX6_isPlace_15 (by decide) (fun hc15 => ?_) (fun hc15 => ?_)
    · replace hc15 := bI_0.mp hc15
      (try simp (disch := omega) only [nT, t_m1000100, t_m1000010, t_m1000003, t_m1000002, t_m1000001, t_m1000000, t_m65535, t_m1000, t_m3, t_m1, t_0, t_1, t_2, t_3, t_4, t_5, t_6, t_7, t_8, t_9, t_10, t_11, t_12, t_13, t_15, t_16, t_20, t_21, t_22, t_32, t_40, t_41, t_48, t_49, t_57, t_59, t_60, t_63, t_72, t_76, t_88, t_100, t_144, t_200, t_255, t_288, t_400, t_800, t_999, t_1000, t_1024, t_1200, t_1600, t_3200, t_100000, t_200000, t_252645135, t_858993459, t_1431655765, u_m1000002, u_m1000001, u_m1000, u_m3, u_m1, u_0, u_1, u_2, u_3, u_4, u_5, u_7, u_8, u_10, u_11, u_15, u_60, u_100, u_255, u_999, u_1000, u_100000, u_4294967295] at hc15)
      rw [bI_f (by omega)] at hQ
      refine g_iconst (v := 0) dX6_isPlace_22 (by decide) ?_
      refine g_iret dX6_isPlace_23 rfl (rfl) (hQ _ _ ?_)
      exact ⟨rfl, rfl⟩
    · replace hc15 := bI_n0.mp hc15
      (try simp (disch := omega) only [nT, t_m1000100, t_m1000010, t_m1000003, t_m1000002, t_m1000001, t_m1000000, t_m65535, t_m1000, t_m3, t_m1, t_0, t_1, t_2, t_3, t_4, t_5, t_6, t_7, t_8, t_9, t_10, t_11, t_12, t_13, t_15, t_16, t_20, t_21, t_22, t_32, t_40, t_41, t_48, t_49, t_57, t_59, t_60, t_63, t_72, t_76, t_88, t_100, t_144, t_200, t_255, t_288, t_400, t_800, t_999, t_1000, t_1024, t_1200, t_1600, t_3200, t_100000, t_200000, t_252645135, t_858993459, t_1431655765, u_m1000002, u_m1000001, u_m1000, u_m3, u_m1, u_0, u_1, u_2, u_3, u_4, u_5, u_7, u_8, u_10, u_11, u_15, u_60, u_100, u_255, u_999, u_1000, u_100000, u_4294967295] at hc15)
      rw [bI_t ⟨by assumption, by assumption⟩] at hQ
      refine g_iconst (v := 1) dX6_isPlace_18 (by decide) ?_
      refine g_goto (tgt := 23) dX6_isPlace_19 (by decide) ?_
      refine g_iret dX6_isPlace_23 rfl (rfl) (hQ _ _ ?_)
      exact ⟨rfl, rfl⟩
abbrev RwX (h : HH) (c : Nat) (d : Nat → Nat) : Prop := gA h c = aO 6 ∧ gF h c 0 = .ref (c + 1) ∧ gA h (c + 1) = aI 144 (fun p => bv (d p))
theorem c_binAt {h : HH} {c : Nat} {d : Nat → Nat} (hr : RwX h c d) (x y : Int32) : CT mX6_binAt 2 0 0 [.ref c, .int x, .int y] h (fun r h' => r = some (.int (bv (atW d x.toInt y.toInt))) ∧ h' = h) := by
  obtain ⟨e1, e2, e3⟩ := hr
  refine CT.go [.ref c, .int x, .int y] (by decide +kernel) rfl rfl (fun Q' hQ => ?_)
  refine g_iload_n (i := 1) dX6_binAt_0 rfl rfl ?_
  refine g_iload_n (i := 2) dX6_binAt_1 rfl rfl ?_
  refine g_callS (M' := mX6_isPlace) dX6_binAt_2 lc_X6_isPlace ml_X6_26 (c_isPlace h x y) rfl rfl ⟨Nat.le_of_ble_eq_true rfl, Nat.le_of_ble_eq_true rfl, Nat.le_of_ble_eq_true rfl, Nat.le_of_ble_eq_true rfl⟩ (Nat.le_of_ble_eq_true rfl) ?_
  intro r_ h_ q_; obtain ⟨q1_, q2_⟩ := q_; have q2_ := q2_.symm; subst q1_; subst q2_
  refine g_if_eq (tgt := 22) dX6_binAt_5 (by decide) (fun hc5 => ?_) (fun hc5 => ?_)
  · replace hc5 := bI_0.mp hc5
    (try simp (disch := omega) only [nT, t_m1000100, t_m1000010, t_m1000003, t_m1000002, t_m1000001, t_m1000000, t_m65535, t_m1000, t_m3, t_m1, t_0, t_1, t_2, t_3, t_4, t_5, t_6, t_7, t_8, t_9, t_10, t_11, t_12, t_13, t_15, t_16, t_20, t_21, t_22, t_32, t_40, t_41, t_48, t_49, t_57, t_59, t_60, t_63, t_72, t_76, t_88, t_100, t_144, t_200, t_255, t_288, t_400, t_800, t_999, t_1000, t_1024, t_1200, t_1600, t_3200, t_100000, t_200000, t_252645135, t_858993459, t_1431655765, u_m1000002, u_m1000001, u_m1000, u_m3, u_m1, u_0, u_1, u_2, u_3, u_4, u_5, u_7, u_8, u_10, u_11, u_15, u_60, u_100, u_255, u_999, u_1000, u_100000, u_4294967295] at hc5)
    have e : atW d x.toInt y.toInt = _ := if_neg (by omega)
    rw [e] at hQ
    refine g_ldc dX6_binAt_22 kc_X6_15 ?_
    refine g_iret dX6_binAt_24 rfl (rfl) (hQ _ _ ?_)
    exact ⟨rfl, rfl⟩
  · replace hc5 := bI_n0.mp hc5
    (try simp (disch := omega) only [nT, t_m1000100, t_m1000010, t_m1000003, t_m1000002, t_m1000001, t_m1000000, t_m65535, t_m1000, t_m3, t_m1, t_0, t_1, t_2, t_3, t_4, t_5, t_6, t_7, t_8, t_9, t_10, t_11, t_12, t_13, t_15, t_16, t_20, t_21, t_22, t_32, t_40, t_41, t_48, t_49, t_57, t_59, t_60, t_63, t_72, t_76, t_88, t_100, t_144, t_200, t_255, t_288, t_400, t_800, t_999, t_1000, t_1024, t_1200, t_1600, t_3200, t_100000, t_200000, t_252645135, t_858993459, t_1431655765, u_m1000002, u_m1000001, u_m1000, u_m3, u_m1, u_0, u_1, u_2, u_3, u_4, u_5, u_7, u_8, u_10, u_11, u_15, u_60, u_100, u_255, u_999, u_1000, u_100000, u_4294967295] at hc5)
    obtain ⟨a, ha, rfl, hta⟩ := n_of (n := 12) (x := x) (by omega) (by omega)
    obtain ⟨b, hb, rfl, htb⟩ := n_of (n := 12) (x := y) (by omega) (by omega)
    have e : atW d (nI a).toInt (nI b).toInt = _ := if_pos (by omega)
    rw [hta, htb, Int.toNat_natCast, Int.toNat_natCast] at e
    rw [hta, htb, e] at hQ
    refine g_aload_n (i := 0) dX6_binAt_8 rfl rfl ?_
    refine g_get dX6_binAt_9 fl_X6_9 (by repeat' (first | assumption | exact rF_eq | refine rF_ne (by decide) ?_ | refine rF_a ?_ | exact rA_eq | refine rA_ne (by decide) ?_ | refine rA_f ?_)) (by repeat' (first | assumption | exact rF_eq | refine rF_ne (by decide) ?_ | refine rF_a ?_ | exact rA_eq | refine rA_ne (by decide) ?_ | refine rA_f ?_)) ?_
    refine g_bipush (v := 12) dX6_binAt_12 (by decide) ?_
    refine g_iload_n (i := 2) dX6_binAt_14 rfl rfl ?_
    refine g_imul dX6_binAt_15 ?_
    refine g_iload_n (i := 1) dX6_binAt_16 rfl rfl ?_
    refine g_iadd dX6_binAt_17 ?_
    rw [show (12 : Int32) = nI 12 from rfl, pk_mul, ni_add]
    refine g_iald dX6_binAt_18 (by repeat' (first | assumption | exact rF_eq | refine rF_ne (by decide) ?_ | refine rF_a ?_ | exact rA_eq | refine rA_ne (by decide) ?_ | refine rA_f ?_)) (nT (by omega)) (by omega) ?_
    refine g_goto (tgt := 24) dX6_binAt_19 (by decide) ?_
    refine g_iret dX6_binAt_24 rfl (rfl) (hQ _ _ ?_)
    exact ⟨rfl, rfl⟩
theorem c_wput {h : HH} {c : Nat} {d : Nat → Nat} (hr : RwX h c d) {x y : Nat} (hx : x < 12) (hy : y < 12) (b : Int32) : CT mX6_put 3 0 0 [.ref c, .int (nI x), .int (nI y), .int b] h (fun r h' => r = some (.int (bv (d (12 * y + x)))) ∧ h' = sA h (c + 1) (aI 144 (upd (fun p => bv (d p)) (12 * y + x) b))) := by
  obtain ⟨e1, e2, e3⟩ := id hr
  have e : atW d (nI x).toInt (nI y).toInt = _ := if_pos (by rw [nT (by omega), nT (by omega)]; omega)
  rw [nT (by omega), nT (by omega), Int.toNat_natCast, Int.toNat_natCast] at e
  refine CT.go [.ref c, .int (nI x), .int (nI y), .int b, hU] (by decide +kernel) rfl rfl (fun Q' hQ => ?_)
  refine g_aload_n (i := 0) dX6_put_0 rfl rfl ?_
  refine g_iload_n (i := 1) dX6_put_1 rfl rfl ?_
  refine g_iload_n (i := 2) dX6_put_2 rfl rfl ?_
  refine g_callV (M' := mX6_binAt) dX6_put_3 lc_X6_binAt ml_X6_29 (c_binAt hr (nI x) (nI y)) rfl rfl (by repeat' (first | assumption | exact rF_eq | refine rF_ne (by decide) ?_ | refine rF_a ?_ | exact rA_eq | refine rA_ne (by decide) ?_ | refine rA_f ?_)) rfl ⟨Nat.le_of_ble_eq_true rfl, Nat.le_of_ble_eq_true rfl, Nat.le_of_ble_eq_true rfl, Nat.le_of_ble_eq_true rfl⟩ (Nat.le_of_ble_eq_true rfl) ?_
  intro r_ h_ q_; obtain ⟨q1_, q2_⟩ := q_; have q2_ := q2_.symm; subst q1_; subst q2_
  rw [nT (show x < 2147483648 by omega), nT (show y < 2147483648 by omega), e]
  refine g_istore dX6_put_6 (Nat.le_of_ble_eq_true rfl) rfl ?_
  refine g_aload_n (i := 0) dX6_put_8 rfl rfl ?_
  refine g_get dX6_put_9 fl_X6_9 (by repeat' (first | assumption | exact rF_eq | refine rF_ne (by decide) ?_ | refine rF_a ?_ | exact rA_eq | refine rA_ne (by decide) ?_ | refine rA_f ?_)) (by repeat' (first | assumption | exact rF_eq | refine rF_ne (by decide) ?_ | refine rF_a ?_ | exact rA_eq | refine rA_ne (by decide) ?_ | refine rA_f ?_)) ?_
  refine g_bipush (v := 12) dX6_put_12 (by decide) ?_
  refine g_iload_n (i := 2) dX6_put_14 rfl rfl ?_
  refine g_imul dX6_put_15 ?_
  refine g_iload_n (i := 1) dX6_put_16 rfl rfl ?_
  refine g_iadd dX6_put_17 ?_
  refine g_iload_n (i := 3) dX6_put_18 rfl rfl ?_
  rw [show (12 : Int32) = nI 12 from rfl, pk_mul, ni_add]
  refine g_iast dX6_put_19 (by repeat' (first | assumption | exact rF_eq | refine rF_ne (by decide) ?_ | refine rF_a ?_ | exact rA_eq | refine rA_ne (by decide) ?_ | refine rA_f ?_)) (nT (by omega)) (by omega) ?_
  refine g_iload dX6_put_20 rfl ?_
  refine g_iret dX6_put_22 rfl (rfl) (hQ _ _ ?_)
  exact ⟨rfl, rfl⟩
theorem c_filled {h : HH} {c : Nat} {d : Nat → Nat} (hr : RwX h c d) (hd : ∀ p, p < 144 → d p ≤ 16) : CT mX6_filled 0 0 0 [.ref c] h (fun r h' => r = some (.int (nI (cnt (fun p => decide (0 < d p)) 144 0))) ∧ h' = h) := by
  obtain ⟨e1, e2, e3⟩ := hr
  refine CT.go [.ref c, hU, hU] (by decide +kernel) rfl rfl (fun Q' hQ => ?_)
  obtain ⟨N, hN⟩ : ∃ N : Nat, N = 144 := ⟨_, rfl⟩
  rw [← hN] at hQ
  generalize hz : cnt (fun p => decide (0 < d p)) N 0 = z at hQ
  have key : ∀ m k acc : Nat, k + m = 144 → acc ≤ k → acc + cnt (fun p => decide (0 < d p)) m k = z → GG (EM mX6_filled 0 0 0 Q') 0 0 4 [.ref c, .int (nI acc), .int (nI k)] [] h := by
    intro m
    induction m with
    | zero =>
      intro k acc hk ha he
      obtain rfl : acc = z := he
      refine g_iload_n (i := 2) dX6_filled_4 rfl rfl ?_
      refine g_sipush (v := 144) dX6_filled_5 (by decide) ?_
      refine g_icmp_ge (tgt := 31) dX6_filled_8 (by decide) (fun hc8 => ?_) (fun hc8 => ?_)
      · (try simp (disch := omega) only [nT, t_m1000100, t_m1000010, t_m1000003, t_m1000002, t_m1000001, t_m1000000, t_m65535, t_m1000, t_m3, t_m1, t_0, t_1, t_2, t_3, t_4, t_5, t_6, t_7, t_8, t_9, t_10, t_11, t_12, t_13, t_15, t_16, t_20, t_21, t_22, t_32, t_40, t_41, t_48, t_49, t_57, t_59, t_60, t_63, t_72, t_76, t_88, t_100, t_144, t_200, t_255, t_288, t_400, t_800, t_999, t_1000, t_1024, t_1200, t_1600, t_3200, t_100000, t_200000, t_252645135, t_858993459, t_1431655765, u_m1000002, u_m1000001, u_m1000, u_m3, u_m1, u_0, u_1, u_2, u_3, u_4, u_5, u_7, u_8, u_10, u_11, u_15, u_60, u_100, u_255, u_999, u_1000, u_100000, u_4294967295] at hc8)
        refine g_iload_n (i := 1) dX6_filled_31 rfl rfl ?_
        refine g_iret dX6_filled_32 rfl (rfl) (hQ _ _ ?_)
        exact ⟨rfl, rfl⟩
      · (try simp (disch := omega) only [nT, t_m1000100, t_m1000010, t_m1000003, t_m1000002, t_m1000001, t_m1000000, t_m65535, t_m1000, t_m3, t_m1, t_0, t_1, t_2, t_3, t_4, t_5, t_6, t_7, t_8, t_9, t_10, t_11, t_12, t_13, t_15, t_16, t_20, t_21, t_22, t_32, t_40, t_41, t_48, t_49, t_57, t_59, t_60, t_63, t_72, t_76, t_88, t_100, t_144, t_200, t_255, t_288, t_400, t_800, t_999, t_1000, t_1024, t_1200, t_1600, t_3200, t_100000, t_200000, t_252645135, t_858993459, t_1431655765, u_m1000002, u_m1000001, u_m1000, u_m3, u_m1, u_0, u_1, u_2, u_3, u_4, u_5, u_7, u_8, u_10, u_11, u_15, u_60, u_100, u_255, u_999, u_1000, u_100000, u_4294967295] at hc8); omega
    | succ m ih =>
      intro k acc hk ha he
      have hb := bv_T (hd k (by omega))
      refine g_iload_n (i := 2) dX6_filled_4 rfl rfl ?_
      refine g_sipush (v := 144) dX6_filled_5 (by decide) ?_
      refine g_icmp_ge (tgt := 31) dX6_filled_8 (by decide) (fun hc8 => ?_) (fun hc8 => ?_)
      · (try simp (disch := omega) only [nT, t_m1000100, t_m1000010, t_m1000003, t_m1000002, t_m1000001, t_m1000000, t_m65535, t_m1000, t_m3, t_m1, t_0, t_1, t_2, t_3, t_4, t_5, t_6, t_7, t_8, t_9, t_10, t_11, t_12, t_13, t_15, t_16, t_20, t_21, t_22, t_32, t_40, t_41, t_48, t_49, t_57, t_59, t_60, t_63, t_72, t_76, t_88, t_100, t_144, t_200, t_255, t_288, t_400, t_800, t_999, t_1000, t_1024, t_1200, t_1600, t_3200, t_100000, t_200000, t_252645135, t_858993459, t_1431655765, u_m1000002, u_m1000001, u_m1000, u_m3, u_m1, u_0, u_1, u_2, u_3, u_4, u_5, u_7, u_8, u_10, u_11, u_15, u_60, u_100, u_255, u_999, u_1000, u_100000, u_4294967295] at hc8); omega
      · (try simp (disch := omega) only [nT, t_m1000100, t_m1000010, t_m1000003, t_m1000002, t_m1000001, t_m1000000, t_m65535, t_m1000, t_m3, t_m1, t_0, t_1, t_2, t_3, t_4, t_5, t_6, t_7, t_8, t_9, t_10, t_11, t_12, t_13, t_15, t_16, t_20, t_21, t_22, t_32, t_40, t_41, t_48, t_49, t_57, t_59, t_60, t_63, t_72, t_76, t_88, t_100, t_144, t_200, t_255, t_288, t_400, t_800, t_999, t_1000, t_1024, t_1200, t_1600, t_3200, t_100000, t_200000, t_252645135, t_858993459, t_1431655765, u_m1000002, u_m1000001, u_m1000, u_m3, u_m1, u_0, u_1, u_2, u_3, u_4, u_5, u_7, u_8, u_10, u_11, u_15, u_60, u_100, u_255, u_999, u_1000, u_100000, u_4294967295] at hc8)
        refine g_aload_n (i := 0) dX6_filled_11 rfl rfl ?_
        refine g_get dX6_filled_12 fl_X6_9 (by repeat' (first | assumption | exact rF_eq | refine rF_ne (by decide) ?_ | refine rF_a ?_ | exact rA_eq | refine rA_ne (by decide) ?_ | refine rA_f ?_)) (by repeat' (first | assumption | exact rF_eq | refine rF_ne (by decide) ?_ | refine rF_a ?_ | exact rA_eq | refine rA_ne (by decide) ?_ | refine rA_f ?_)) ?_
        refine g_iload_n (i := 2) dX6_filled_15 rfl rfl ?_
        refine g_iald dX6_filled_16 (by repeat' (first | assumption | exact rF_eq | refine rF_ne (by decide) ?_ | refine rF_a ?_ | exact rA_eq | refine rA_ne (by decide) ?_ | refine rA_f ?_)) (nT (by omega)) (by omega) ?_
        refine g_ldc dX6_filled_17 kc_X6_15 ?_
        refine g_icmp_eq (tgt := 25) dX6_filled_19 (by decide) (fun hc19 => ?_) (fun hc19 => ?_)
        · have hd19 := i_eq.mp hc19; (try simp (disch := omega) only [nT, t_m1000100, t_m1000010, t_m1000003, t_m1000002, t_m1000001, t_m1000000, t_m65535, t_m1000, t_m3, t_m1, t_0, t_1, t_2, t_3, t_4, t_5, t_6, t_7, t_8, t_9, t_10, t_11, t_12, t_13, t_15, t_16, t_20, t_21, t_22, t_32, t_40, t_41, t_48, t_49, t_57, t_59, t_60, t_63, t_72, t_76, t_88, t_100, t_144, t_200, t_255, t_288, t_400, t_800, t_999, t_1000, t_1024, t_1200, t_1600, t_3200, t_100000, t_200000, t_252645135, t_858993459, t_1431655765, u_m1000002, u_m1000001, u_m1000, u_m3, u_m1, u_0, u_1, u_2, u_3, u_4, u_5, u_7, u_8, u_10, u_11, u_15, u_60, u_100, u_255, u_999, u_1000, u_100000, u_4294967295] at hd19)
          refine g_iinc dX6_filled_25 rfl (Nat.le_of_ble_eq_true rfl) rfl ?_
          refine g_goto (tgt := 4) dX6_filled_28 (by decide) ?_
          rw [ni_incO]
          first
          | (rw [cnt_t (p := fun p => decide (0 < d p)) (decide_eq_true (by omega))] at he; rw [ni_incO]; exact ih _ _ (by omega) (by omega) (by omega))
          | (rw [cnt_f (p := fun p => decide (0 < d p)) (fun q => by have := of_decide_eq_true q; omega)] at he; exact ih _ _ (by omega) (by omega) (by omega))
        · have hd19 := mt i_eq.mpr hc19; (try simp (disch := omega) only [nT, t_m1000100, t_m1000010, t_m1000003, t_m1000002, t_m1000001, t_m1000000, t_m65535, t_m1000, t_m3, t_m1, t_0, t_1, t_2, t_3, t_4, t_5, t_6, t_7, t_8, t_9, t_10, t_11, t_12, t_13, t_15, t_16, t_20, t_21, t_22, t_32, t_40, t_41, t_48, t_49, t_57, t_59, t_60, t_63, t_72, t_76, t_88, t_100, t_144, t_200, t_255, t_288, t_400, t_800, t_999, t_1000, t_1024, t_1200, t_1600, t_3200, t_100000, t_200000, t_252645135, t_858993459, t_1431655765, u_m1000002, u_m1000001, u_m1000, u_m3, u_m1, u_0, u_1, u_2, u_3, u_4, u_5, u_7, u_8, u_10, u_11, u_15, u_60, u_100, u_255, u_999, u_1000, u_100000, u_4294967295] at hd19)
          refine g_iinc dX6_filled_22 rfl (Nat.le_of_ble_eq_true rfl) rfl ?_
          refine g_iinc dX6_filled_25 rfl (Nat.le_of_ble_eq_true rfl) rfl ?_
          refine g_goto (tgt := 4) dX6_filled_28 (by decide) ?_
          rw [ni_incO]
          first
          | (rw [cnt_t (p := fun p => decide (0 < d p)) (decide_eq_true (by omega))] at he; rw [ni_incO]; exact ih _ _ (by omega) (by omega) (by omega))
          | (rw [cnt_f (p := fun p => decide (0 < d p)) (fun q => by have := of_decide_eq_true q; omega)] at he; exact ih _ _ (by omega) (by omega) (by omega))
  refine g_iconst (v := 0) dX6_filled_0 (by decide) ?_
  refine g_istore_n (i := 1) dX6_filled_1 rfl (Nat.le_of_ble_eq_true rfl) rfl ?_
  refine g_iconst (v := 0) dX6_filled_2 (by decide) ?_
  refine g_istore_n (i := 2) dX6_filled_3 rfl (Nat.le_of_ble_eq_true rfl) rfl ?_
  exact key N 0 0 (by omega) (by omega) (by rw [Nat.zero_add]; exact hz)
theorem c_waferOf {W : WA} {h : HH} (hg : GWX W h) (n : Int32) : CT mX7_waferOf 0 0 0 [.ref 0, .int n] h (fun r h' => r = some (.ref (if n = 0 then 40 else 42)) ∧ h' = h) := by
  obtain ⟨e1, e2, e3, e4, e5, e6, e7, e8, e9⟩ := hg
  refine CT.go [.ref 0, .int n] (by decide +kernel) rfl rfl (fun Q' hQ => ?_)
  refine g_iload_n (i := 1) dX7_waferOf_0 rfl rfl ?_
  refine g_if_ne (tgt := 11) dX7_waferOf_1 (by decide) (fun hc1 => ?_) (fun hc1 => ?_)
  · have hd1 := mt i_eq.mpr hc1; (try simp (disch := omega) only [nT, t_m1000100, t_m1000010, t_m1000003, t_m1000002, t_m1000001, t_m1000000, t_m65535, t_m1000, t_m3, t_m1, t_0, t_1, t_2, t_3, t_4, t_5, t_6, t_7, t_8, t_9, t_10, t_11, t_12, t_13, t_15, t_16, t_20, t_21, t_22, t_32, t_40, t_41, t_48, t_49, t_57, t_59, t_60, t_63, t_72, t_76, t_88, t_100, t_144, t_200, t_255, t_288, t_400, t_800, t_999, t_1000, t_1024, t_1200, t_1600, t_3200, t_100000, t_200000, t_252645135, t_858993459, t_1431655765, u_m1000002, u_m1000001, u_m1000, u_m3, u_m1, u_0, u_1, u_2, u_3, u_4, u_5, u_7, u_8, u_10, u_11, u_15, u_60, u_100, u_255, u_999, u_1000, u_100000, u_4294967295] at hd1)
    refine g_aload_n (i := 0) dX7_waferOf_11 rfl rfl ?_
    refine g_get dX7_waferOf_12 fl_X7_87 (by repeat' (first | assumption | exact rF_eq | refine rF_ne (by decide) ?_ | refine rF_a ?_ | exact rA_eq | refine rA_ne (by decide) ?_ | refine rA_f ?_)) (by repeat' (first | assumption | exact rF_eq | refine rF_ne (by decide) ?_ | refine rF_a ?_ | exact rA_eq | refine rA_ne (by decide) ?_ | refine rA_f ?_)) ?_
    refine g_aret dX7_waferOf_15 rfl (hQ _ _ ?_)
    first
    | (rw [if_pos (by assumption)]; exact ⟨rfl, rfl⟩)
    | (rw [if_neg (by assumption)]; exact ⟨rfl, rfl⟩)
  · have hd1 := i_eq.mp hc1; (try simp (disch := omega) only [nT, t_m1000100, t_m1000010, t_m1000003, t_m1000002, t_m1000001, t_m1000000, t_m65535, t_m1000, t_m3, t_m1, t_0, t_1, t_2, t_3, t_4, t_5, t_6, t_7, t_8, t_9, t_10, t_11, t_12, t_13, t_15, t_16, t_20, t_21, t_22, t_32, t_40, t_41, t_48, t_49, t_57, t_59, t_60, t_63, t_72, t_76, t_88, t_100, t_144, t_200, t_255, t_288, t_400, t_800, t_999, t_1000, t_1024, t_1200, t_1600, t_3200, t_100000, t_200000, t_252645135, t_858993459, t_1431655765, u_m1000002, u_m1000001, u_m1000, u_m3, u_m1, u_0, u_1, u_2, u_3, u_4, u_5, u_7, u_8, u_10, u_11, u_15, u_60, u_100, u_255, u_999, u_1000, u_100000, u_4294967295] at hd1)
    refine g_aload_n (i := 0) dX7_waferOf_4 rfl rfl ?_
    refine g_get dX7_waferOf_5 fl_X7_83 (by repeat' (first | assumption | exact rF_eq | refine rF_ne (by decide) ?_ | refine rF_a ?_ | exact rA_eq | refine rA_ne (by decide) ?_ | refine rA_f ?_)) (by repeat' (first | assumption | exact rF_eq | refine rF_ne (by decide) ?_ | refine rF_a ?_ | exact rA_eq | refine rA_ne (by decide) ?_ | refine rA_f ?_)) ?_
    refine g_goto (tgt := 15) dX7_waferOf_8 (by decide) ?_
    refine g_aret dX7_waferOf_15 rfl (hQ _ _ ?_)
    first
    | (rw [if_pos (by assumption)]; exact ⟨rfl, rfl⟩)
    | (rw [if_neg (by assumption)]; exact ⟨rfl, rfl⟩)
/-! failed around -/
def pF (d : Nat → Nat) (x y : Nat) : Nat → Bool := fun q => decide (1 < atW d ((x : Int) + ((q % 3 : Nat) : Int) - 1) ((y : Int) + ((q / 3 : Nat) : Int) - 1))
theorem pF_t {d : Nat → Nat} {x y q : Nat} : pF d x y q = true ↔ 1 < atW d ((x : Int) + ((q % 3 : Nat) : Int) - 1) ((y : Int) + ((q / 3 : Nat) : Int) - 1) := decide_eq_true_iff
theorem s1_T {x k : Nat} (hx : x < 12) (hk : k < 4) : (nI x - 1 + nI k).toInt = (x : Int) + (k : Int) - 1 := by
  have h1 := @nT x (by omega)
  have h2 := @nT k (by omega)
  have h3 : (nI x - 1).toInt = (x : Int) - 1 := by rw [i_sub (by rw [t_1]; omega) (by rw [t_1]; omega), t_1, h1]
  rw [i_add (by omega) (by omega)]
  omega
theorem s1_i (x k : Nat) : nI x - 1 + nI k + Int32.ofInt 1 = nI x - 1 + nI (k + 1) := by rw [Int32.add_assoc, ni_incO]
theorem c_failedAround {h : HH} {c : Nat} {d : Nat → Nat} (hr : RwX h c d) (hd : ∀ p, p < 144 → d p ≤ 16) {x y : Nat} (hx : x < 12) (hy : y < 12) : CT mX6_failedAround 3 0 0 [.ref c, .int (nI x), .int (nI y)] h (fun r h' => r = some (.int (nI (cnt (pF d x y) 9 0))) ∧ h' = h) := by
  obtain ⟨e1, e2, e3⟩ := id hr
  have x1 : (nI x + 1).toInt = (x : Int) + 1 := by rw [ni_inc, nT (by omega)]; omega
  have y1 : (nI y + 1).toInt = (y : Int) + 1 := by rw [ni_inc, nT (by omega)]; omega
  refine CT.go [.ref c, .int (nI x), .int (nI y), hU, hU, hU] (by decide +kernel) rfl rfl (fun Q' hQ => ?_)
  generalize hz : cnt (pF d x y) 9 0 = z at hQ
  have key : ∀ m r acc v, r + m = 3 → acc ≤ 3 * r → acc + cnt (pF d x y) (3 * m) (3 * r) = z → GG (EM mX6_failedAround 3 0 0 Q') 0 0 7 [.ref c, .int (nI x), .int (nI y), .int (nI acc), .int (nI y - 1 + nI r), v] [] h := by
    intro m
    induction m with
    | zero =>
      intro r acc v hr3 ha he
      obtain rfl : acc = z := he
      have hy2 := s1_T hy (k := r) (by omega)
      refine g_iload dX6_failedAround_7 rfl ?_
      refine g_iload_n (i := 2) dX6_failedAround_9 rfl rfl ?_
      refine g_iconst (v := 1) dX6_failedAround_10 (by decide) ?_
      refine g_iadd dX6_failedAround_11 ?_
      refine g_icmp_gt (tgt := 54) dX6_failedAround_12 (by decide) (fun hc12 => ?_) (fun hc12 => ?_)
      · (try simp (disch := omega) only [nT, t_m1000100, t_m1000010, t_m1000003, t_m1000002, t_m1000001, t_m1000000, t_m65535, t_m1000, t_m3, t_m1, t_0, t_1, t_2, t_3, t_4, t_5, t_6, t_7, t_8, t_9, t_10, t_11, t_12, t_13, t_15, t_16, t_20, t_21, t_22, t_32, t_40, t_41, t_48, t_49, t_57, t_59, t_60, t_63, t_72, t_76, t_88, t_100, t_144, t_200, t_255, t_288, t_400, t_800, t_999, t_1000, t_1024, t_1200, t_1600, t_3200, t_100000, t_200000, t_252645135, t_858993459, t_1431655765, u_m1000002, u_m1000001, u_m1000, u_m3, u_m1, u_0, u_1, u_2, u_3, u_4, u_5, u_7, u_8, u_10, u_11, u_15, u_60, u_100, u_255, u_999, u_1000, u_100000, u_4294967295] at hc12)
        refine g_iload_n (i := 3) dX6_failedAround_54 rfl rfl ?_
        refine g_iret dX6_failedAround_55 rfl (rfl) (hQ _ _ ?_)
        exact ⟨rfl, rfl⟩
      · (try simp (disch := omega) only [nT, t_m1000100, t_m1000010, t_m1000003, t_m1000002, t_m1000001, t_m1000000, t_m65535, t_m1000, t_m3, t_m1, t_0, t_1, t_2, t_3, t_4, t_5, t_6, t_7, t_8, t_9, t_10, t_11, t_12, t_13, t_15, t_16, t_20, t_21, t_22, t_32, t_40, t_41, t_48, t_49, t_57, t_59, t_60, t_63, t_72, t_76, t_88, t_100, t_144, t_200, t_255, t_288, t_400, t_800, t_999, t_1000, t_1024, t_1200, t_1600, t_3200, t_100000, t_200000, t_252645135, t_858993459, t_1431655765, u_m1000002, u_m1000001, u_m1000, u_m3, u_m1, u_0, u_1, u_2, u_3, u_4, u_5, u_7, u_8, u_10, u_11, u_15, u_60, u_100, u_255, u_999, u_1000, u_100000, u_4294967295] at hc12); omega
    | succ m ih =>
      intro r acc v hr3 ha he
      have hy2 := s1_T hy (k := r) (by omega)
      have keyI : ∀ n k acc, k + n = 3 → acc ≤ 3 * r + k → acc + cnt (pF d x y) (3 * m + n) (3 * r + k) = z → GG (EM mX6_failedAround 3 0 0 Q') 0 0 20 [.ref c, .int (nI x), .int (nI y), .int (nI acc), .int (nI y - 1 + nI r), .int (nI x - 1 + nI k)] [] h := by
        intro n
        induction n with
        | zero =>
          intro k acc hk ha he
          have hx2 := s1_T hx (k := k) (by omega)
          obtain rfl : k = 3 := by omega
          refine g_iload dX6_failedAround_20 rfl ?_
          refine g_iload_n (i := 1) dX6_failedAround_22 rfl rfl ?_
          refine g_iconst (v := 1) dX6_failedAround_23 (by decide) ?_
          refine g_iadd dX6_failedAround_24 ?_
          refine g_icmp_gt (tgt := 48) dX6_failedAround_25 (by decide) (fun hc25 => ?_) (fun hc25 => ?_)
          · (try simp (disch := omega) only [nT, t_m1000100, t_m1000010, t_m1000003, t_m1000002, t_m1000001, t_m1000000, t_m65535, t_m1000, t_m3, t_m1, t_0, t_1, t_2, t_3, t_4, t_5, t_6, t_7, t_8, t_9, t_10, t_11, t_12, t_13, t_15, t_16, t_20, t_21, t_22, t_32, t_40, t_41, t_48, t_49, t_57, t_59, t_60, t_63, t_72, t_76, t_88, t_100, t_144, t_200, t_255, t_288, t_400, t_800, t_999, t_1000, t_1024, t_1200, t_1600, t_3200, t_100000, t_200000, t_252645135, t_858993459, t_1431655765, u_m1000002, u_m1000001, u_m1000, u_m3, u_m1, u_0, u_1, u_2, u_3, u_4, u_5, u_7, u_8, u_10, u_11, u_15, u_60, u_100, u_255, u_999, u_1000, u_100000, u_4294967295] at hc25)
            refine g_iinc dX6_failedAround_48 rfl (Nat.le_of_ble_eq_true rfl) rfl ?_
            refine g_goto (tgt := 7) dX6_failedAround_51 (by decide) ?_
            rw [s1_i]
            exact ih (r + 1) acc _ (by omega) (by omega) he
          · (try simp (disch := omega) only [nT, t_m1000100, t_m1000010, t_m1000003, t_m1000002, t_m1000001, t_m1000000, t_m65535, t_m1000, t_m3, t_m1, t_0, t_1, t_2, t_3, t_4, t_5, t_6, t_7, t_8, t_9, t_10, t_11, t_12, t_13, t_15, t_16, t_20, t_21, t_22, t_32, t_40, t_41, t_48, t_49, t_57, t_59, t_60, t_63, t_72, t_76, t_88, t_100, t_144, t_200, t_255, t_288, t_400, t_800, t_999, t_1000, t_1024, t_1200, t_1600, t_3200, t_100000, t_200000, t_252645135, t_858993459, t_1431655765, u_m1000002, u_m1000001, u_m1000, u_m3, u_m1, u_0, u_1, u_2, u_3, u_4, u_5, u_7, u_8, u_10, u_11, u_15, u_60, u_100, u_255, u_999, u_1000, u_100000, u_4294967295] at hc25); omega
        | succ n ihn =>
          intro k acc hk ha he
          have hx2 := s1_T hx (k := k) (by omega)
          have hp : pF d x y (3 * r + k) = true ↔ _ := pF_t
          rw [show (3 * r + k) % 3 = k by omega, show (3 * r + k) / 3 = r by omega, ← hx2, ← hy2] at hp
          have hb := bv_T (atW_le hd (nI x - 1 + nI k).toInt (nI y - 1 + nI r).toInt)
          refine g_iload dX6_failedAround_20 rfl ?_
          refine g_iload_n (i := 1) dX6_failedAround_22 rfl rfl ?_
          refine g_iconst (v := 1) dX6_failedAround_23 (by decide) ?_
          refine g_iadd dX6_failedAround_24 ?_
          refine g_icmp_gt (tgt := 48) dX6_failedAround_25 (by decide) (fun hc25 => ?_) (fun hc25 => ?_)
          · (try simp (disch := omega) only [nT, t_m1000100, t_m1000010, t_m1000003, t_m1000002, t_m1000001, t_m1000000, t_m65535, t_m1000, t_m3, t_m1, t_0, t_1, t_2, t_3, t_4, t_5, t_6, t_7, t_8, t_9, t_10, t_11, t_12, t_13, t_15, t_16, t_20, t_21, t_22, t_32, t_40, t_41, t_48, t_49, t_57, t_59, t_60, t_63, t_72, t_76, t_88, t_100, t_144, t_200, t_255, t_288, t_400, t_800, t_999, t_1000, t_1024, t_1200, t_1600, t_3200, t_100000, t_200000, t_252645135, t_858993459, t_1431655765, u_m1000002, u_m1000001, u_m1000, u_m3, u_m1, u_0, u_1, u_2, u_3, u_4, u_5, u_7, u_8, u_10, u_11, u_15, u_60, u_100, u_255, u_999, u_1000, u_100000, u_4294967295] at hc25); omega
          · (try simp (disch := omega) only [nT, t_m1000100, t_m1000010, t_m1000003, t_m1000002, t_m1000001, t_m1000000, t_m65535, t_m1000, t_m3, t_m1, t_0, t_1, t_2, t_3, t_4, t_5, t_6, t_7, t_8, t_9, t_10, t_11, t_12, t_13, t_15, t_16, t_20, t_21, t_22, t_32, t_40, t_41, t_48, t_49, t_57, t_59, t_60, t_63, t_72, t_76, t_88, t_100, t_144, t_200, t_255, t_288, t_400, t_800, t_999, t_1000, t_1024, t_1200, t_1600, t_3200, t_100000, t_200000, t_252645135, t_858993459, t_1431655765, u_m1000002, u_m1000001, u_m1000, u_m3, u_m1, u_0, u_1, u_2, u_3, u_4, u_5, u_7, u_8, u_10, u_11, u_15, u_60, u_100, u_255, u_999, u_1000, u_100000, u_4294967295] at hc25)
            refine g_aload_n (i := 0) dX6_failedAround_28 rfl rfl ?_
            refine g_iload dX6_failedAround_29 rfl ?_
            refine g_iload dX6_failedAround_31 rfl ?_
            refine g_callV (M' := mX6_binAt) dX6_failedAround_33 lc_X6_binAt ml_X6_29 (c_binAt hr (nI x - 1 + nI k) (nI y - 1 + nI r)) rfl rfl (by repeat' (first | assumption | exact rF_eq | refine rF_ne (by decide) ?_ | refine rF_a ?_ | exact rA_eq | refine rA_ne (by decide) ?_ | refine rA_f ?_)) rfl ⟨Nat.le_of_ble_eq_true rfl, Nat.le_of_ble_eq_true rfl, Nat.le_of_ble_eq_true rfl, Nat.le_of_ble_eq_true rfl⟩ (Nat.le_of_ble_eq_true rfl) ?_
            intro r_ h_ q_; obtain ⟨q1_, q2_⟩ := q_; have q2_ := q2_.symm; subst q1_; subst q2_
            refine g_if_le (tgt := 42) dX6_failedAround_36 (by decide) (fun hc36 => ?_) (fun hc36 => ?_)
            · (try simp (disch := omega) only [nT, t_m1000100, t_m1000010, t_m1000003, t_m1000002, t_m1000001, t_m1000000, t_m65535, t_m1000, t_m3, t_m1, t_0, t_1, t_2, t_3, t_4, t_5, t_6, t_7, t_8, t_9, t_10, t_11, t_12, t_13, t_15, t_16, t_20, t_21, t_22, t_32, t_40, t_41, t_48, t_49, t_57, t_59, t_60, t_63, t_72, t_76, t_88, t_100, t_144, t_200, t_255, t_288, t_400, t_800, t_999, t_1000, t_1024, t_1200, t_1600, t_3200, t_100000, t_200000, t_252645135, t_858993459, t_1431655765, u_m1000002, u_m1000001, u_m1000, u_m3, u_m1, u_0, u_1, u_2, u_3, u_4, u_5, u_7, u_8, u_10, u_11, u_15, u_60, u_100, u_255, u_999, u_1000, u_100000, u_4294967295] at hc36)
              refine g_iinc dX6_failedAround_42 rfl (Nat.le_of_ble_eq_true rfl) rfl ?_
              refine g_goto (tgt := 20) dX6_failedAround_45 (by decide) ?_
              rw [s1_i]
              first
              | (rw [show 3 * m + (n + 1) = (3 * m + n) + 1 by omega, cnt_t (hp.mpr (by omega))] at he; rw [ni_incO]; exact ihn (k + 1) (acc + 1) (by omega) (by omega) (by rw [← he, Nat.add_assoc, show 3 * r + (k + 1) = 3 * r + k + 1 by omega]))
              | (rw [show 3 * m + (n + 1) = (3 * m + n) + 1 by omega, cnt_f (fun q => by have := hp.mp q; omega)] at he; exact ihn (k + 1) acc (by omega) (by omega) he)
            · (try simp (disch := omega) only [nT, t_m1000100, t_m1000010, t_m1000003, t_m1000002, t_m1000001, t_m1000000, t_m65535, t_m1000, t_m3, t_m1, t_0, t_1, t_2, t_3, t_4, t_5, t_6, t_7, t_8, t_9, t_10, t_11, t_12, t_13, t_15, t_16, t_20, t_21, t_22, t_32, t_40, t_41, t_48, t_49, t_57, t_59, t_60, t_63, t_72, t_76, t_88, t_100, t_144, t_200, t_255, t_288, t_400, t_800, t_999, t_1000, t_1024, t_1200, t_1600, t_3200, t_100000, t_200000, t_252645135, t_858993459, t_1431655765, u_m1000002, u_m1000001, u_m1000, u_m3, u_m1, u_0, u_1, u_2, u_3, u_4, u_5, u_7, u_8, u_10, u_11, u_15, u_60, u_100, u_255, u_999, u_1000, u_100000, u_4294967295] at hc36)
              refine g_iinc dX6_failedAround_39 rfl (Nat.le_of_ble_eq_true rfl) rfl ?_
              refine g_iinc dX6_failedAround_42 rfl (Nat.le_of_ble_eq_true rfl) rfl ?_
              refine g_goto (tgt := 20) dX6_failedAround_45 (by decide) ?_
              rw [s1_i]
              first
              | (rw [show 3 * m + (n + 1) = (3 * m + n) + 1 by omega, cnt_t (hp.mpr (by omega))] at he; rw [ni_incO]; exact ihn (k + 1) (acc + 1) (by omega) (by omega) (by rw [← he, Nat.add_assoc, show 3 * r + (k + 1) = 3 * r + k + 1 by omega]))
              | (rw [show 3 * m + (n + 1) = (3 * m + n) + 1 by omega, cnt_f (fun q => by have := hp.mp q; omega)] at he; exact ihn (k + 1) acc (by omega) (by omega) he)
      refine g_iload dX6_failedAround_7 rfl ?_
      refine g_iload_n (i := 2) dX6_failedAround_9 rfl rfl ?_
      refine g_iconst (v := 1) dX6_failedAround_10 (by decide) ?_
      refine g_iadd dX6_failedAround_11 ?_
      refine g_icmp_gt (tgt := 54) dX6_failedAround_12 (by decide) (fun hc12 => ?_) (fun hc12 => ?_)
      · (try simp (disch := omega) only [nT, t_m1000100, t_m1000010, t_m1000003, t_m1000002, t_m1000001, t_m1000000, t_m65535, t_m1000, t_m3, t_m1, t_0, t_1, t_2, t_3, t_4, t_5, t_6, t_7, t_8, t_9, t_10, t_11, t_12, t_13, t_15, t_16, t_20, t_21, t_22, t_32, t_40, t_41, t_48, t_49, t_57, t_59, t_60, t_63, t_72, t_76, t_88, t_100, t_144, t_200, t_255, t_288, t_400, t_800, t_999, t_1000, t_1024, t_1200, t_1600, t_3200, t_100000, t_200000, t_252645135, t_858993459, t_1431655765, u_m1000002, u_m1000001, u_m1000, u_m3, u_m1, u_0, u_1, u_2, u_3, u_4, u_5, u_7, u_8, u_10, u_11, u_15, u_60, u_100, u_255, u_999, u_1000, u_100000, u_4294967295] at hc12); omega
      · (try simp (disch := omega) only [nT, t_m1000100, t_m1000010, t_m1000003, t_m1000002, t_m1000001, t_m1000000, t_m65535, t_m1000, t_m3, t_m1, t_0, t_1, t_2, t_3, t_4, t_5, t_6, t_7, t_8, t_9, t_10, t_11, t_12, t_13, t_15, t_16, t_20, t_21, t_22, t_32, t_40, t_41, t_48, t_49, t_57, t_59, t_60, t_63, t_72, t_76, t_88, t_100, t_144, t_200, t_255, t_288, t_400, t_800, t_999, t_1000, t_1024, t_1200, t_1600, t_3200, t_100000, t_200000, t_252645135, t_858993459, t_1431655765, u_m1000002, u_m1000001, u_m1000, u_m3, u_m1, u_0, u_1, u_2, u_3, u_4, u_5, u_7, u_8, u_10, u_11, u_15, u_60, u_100, u_255, u_999, u_1000, u_100000, u_4294967295] at hc12)
        refine g_iload_n (i := 1) dX6_failedAround_15 rfl rfl ?_
        refine g_iconst (v := 1) dX6_failedAround_16 (by decide) ?_
        refine g_isub dX6_failedAround_17 ?_
        refine g_istore dX6_failedAround_18 (Nat.le_of_ble_eq_true rfl) rfl ?_
        have k0 := keyI 3 0 acc (by omega) (by omega) he
        rw [show nI x - 1 + nI 0 = nI x - 1 from Int32.add_zero _] at k0
        exact k0
  refine g_iconst (v := 0) dX6_failedAround_0 (by decide) ?_
  refine g_istore_n (i := 3) dX6_failedAround_1 rfl (Nat.le_of_ble_eq_true rfl) rfl ?_
  refine g_iload_n (i := 2) dX6_failedAround_2 rfl rfl ?_
  refine g_iconst (v := 1) dX6_failedAround_3 (by decide) ?_
  refine g_isub dX6_failedAround_4 ?_
  refine g_istore dX6_failedAround_5 (Nat.le_of_ble_eq_true rfl) rfl ?_
  have k0 := key 3 0 0 hU (by omega) (by omega) (by rw [Nat.zero_add]; exact hz)
  rw [show nI y - 1 + nI 0 = nI y - 1 from Int32.add_zero _] at k0
  exact k0
/-! odd -/
def oddB (d : Nat → Nat) (nb : Nat) : Nat → Bool := fun p => decide (d p = 1 ∧ nb ≤ cnt (pF d (p % 12) (p / 12)) 9 0)
theorem oddB_t {d : Nat → Nat} {nb p : Nat} : oddB d nb p = true ↔ d p = 1 ∧ nb ≤ cnt (pF d (p % 12) (p / 12)) 9 0 := decide_eq_true_iff
theorem c_isOdd {h : HH} {c : Nat} {d : Nat → Nat} (hr : RwX h c d) (hd : ∀ p, p < 144 → d p ≤ 16) {p nb : Nat} (hp : p < 144) (hn : nb ≤ 8) : CT mX6_isOdd 4 0 0 [.ref c, .int (nI p), .int (nI nb)] h (fun r h' => r = some (.int (bI (oddB d nb p = true))) ∧ h' = h) := by
  obtain ⟨e1, e2, e3⟩ := id hr
  have hb := bv_T (hd p hp)
  have hl := cnt_le (pF d (p % 12) (p / 12)) 9 0
  refine CT.go [.ref c, .int (nI p), .int (nI nb)] (by decide +kernel) rfl rfl (fun Q' hQ => ?_)
  have ho := @oddB_t d nb p
  generalize hzz : cnt (pF d (p % 12) (p / 12)) 9 0 = z at hl ho
  refine g_aload_n (i := 0) dX6_isOdd_0 rfl rfl ?_
  refine g_get dX6_isOdd_1 fl_X6_9 (by repeat' (first | assumption | exact rF_eq | refine rF_ne (by decide) ?_ | refine rF_a ?_ | exact rA_eq | refine rA_ne (by decide) ?_ | refine rA_f ?_)) (by repeat' (first | assumption | exact rF_eq | refine rF_ne (by decide) ?_ | refine rF_a ?_ | exact rA_eq | refine rA_ne (by decide) ?_ | refine rA_f ?_)) ?_
  refine g_iload_n (i := 1) dX6_isOdd_4 rfl rfl ?_
  refine g_iald dX6_isOdd_5 (by repeat' (first | assumption | exact rF_eq | refine rF_ne (by decide) ?_ | refine rF_a ?_ | exact rA_eq | refine rA_ne (by decide) ?_ | refine rA_f ?_)) (nT (by omega)) (hp) ?_
  refine g_if_ne (tgt := 29) dX6_isOdd_6 (by decide) (fun hc6 => ?_) (fun hc6 => ?_)
  · have hd6 := mt i_eq.mpr hc6; (try simp (disch := omega) only [nT, t_m1000100, t_m1000010, t_m1000003, t_m1000002, t_m1000001, t_m1000000, t_m65535, t_m1000, t_m3, t_m1, t_0, t_1, t_2, t_3, t_4, t_5, t_6, t_7, t_8, t_9, t_10, t_11, t_12, t_13, t_15, t_16, t_20, t_21, t_22, t_32, t_40, t_41, t_48, t_49, t_57, t_59, t_60, t_63, t_72, t_76, t_88, t_100, t_144, t_200, t_255, t_288, t_400, t_800, t_999, t_1000, t_1024, t_1200, t_1600, t_3200, t_100000, t_200000, t_252645135, t_858993459, t_1431655765, u_m1000002, u_m1000001, u_m1000, u_m3, u_m1, u_0, u_1, u_2, u_3, u_4, u_5, u_7, u_8, u_10, u_11, u_15, u_60, u_100, u_255, u_999, u_1000, u_100000, u_4294967295] at hd6)
    rw [bI_f (fun q => by have := ho.mp q; omega)] at hQ
    refine g_iconst (v := 0) dX6_isOdd_29 (by decide) ?_
    refine g_iret dX6_isOdd_30 rfl (rfl) (hQ _ _ ?_)
    exact ⟨rfl, rfl⟩
  · have hd6 := i_eq.mp hc6; (try simp (disch := omega) only [nT, t_m1000100, t_m1000010, t_m1000003, t_m1000002, t_m1000001, t_m1000000, t_m65535, t_m1000, t_m3, t_m1, t_0, t_1, t_2, t_3, t_4, t_5, t_6, t_7, t_8, t_9, t_10, t_11, t_12, t_13, t_15, t_16, t_20, t_21, t_22, t_32, t_40, t_41, t_48, t_49, t_57, t_59, t_60, t_63, t_72, t_76, t_88, t_100, t_144, t_200, t_255, t_288, t_400, t_800, t_999, t_1000, t_1024, t_1200, t_1600, t_3200, t_100000, t_200000, t_252645135, t_858993459, t_1431655765, u_m1000002, u_m1000001, u_m1000, u_m3, u_m1, u_0, u_1, u_2, u_3, u_4, u_5, u_7, u_8, u_10, u_11, u_15, u_60, u_100, u_255, u_999, u_1000, u_100000, u_4294967295] at hd6)
    refine g_aload_n (i := 0) dX6_isOdd_9 rfl rfl ?_
    refine g_iload_n (i := 1) dX6_isOdd_10 rfl rfl ?_
    refine g_bipush (v := 12) dX6_isOdd_11 (by decide) ?_
    refine g_irem dX6_isOdd_13 (by decide) ?_
    rw [n_rem12 (by omega)]
    refine g_iload_n (i := 1) dX6_isOdd_14 rfl rfl ?_
    refine g_bipush (v := 12) dX6_isOdd_15 (by decide) ?_
    refine g_idiv dX6_isOdd_17 (by decide) ?_
    rw [n_div12 (by omega)]
    refine g_callV (M' := mX6_failedAround) dX6_isOdd_18 lc_X6_failedAround ml_X6_36 (c_failedAround hr hd (x := p % 12) (y := p / 12) (by omega) (by omega)) rfl rfl (by repeat' (first | assumption | exact rF_eq | refine rF_ne (by decide) ?_ | refine rF_a ?_ | exact rA_eq | refine rA_ne (by decide) ?_ | refine rA_f ?_)) rfl ⟨Nat.le_of_ble_eq_true rfl, Nat.le_of_ble_eq_true rfl, Nat.le_of_ble_eq_true rfl, Nat.le_of_ble_eq_true rfl⟩ (Nat.le_of_ble_eq_true rfl) ?_
    intro r_ h_ q_; obtain ⟨q1_, q2_⟩ := q_; have q2_ := q2_.symm; subst q1_; subst q2_
    rw [hzz]
    refine g_iload_n (i := 2) dX6_isOdd_21 rfl rfl ?_
    refine g_icmp_lt (tgt := 29) dX6_isOdd_22 (by decide) (fun hc22 => ?_) (fun hc22 => ?_)
    · (try simp (disch := omega) only [nT, t_m1000100, t_m1000010, t_m1000003, t_m1000002, t_m1000001, t_m1000000, t_m65535, t_m1000, t_m3, t_m1, t_0, t_1, t_2, t_3, t_4, t_5, t_6, t_7, t_8, t_9, t_10, t_11, t_12, t_13, t_15, t_16, t_20, t_21, t_22, t_32, t_40, t_41, t_48, t_49, t_57, t_59, t_60, t_63, t_72, t_76, t_88, t_100, t_144, t_200, t_255, t_288, t_400, t_800, t_999, t_1000, t_1024, t_1200, t_1600, t_3200, t_100000, t_200000, t_252645135, t_858993459, t_1431655765, u_m1000002, u_m1000001, u_m1000, u_m3, u_m1, u_0, u_1, u_2, u_3, u_4, u_5, u_7, u_8, u_10, u_11, u_15, u_60, u_100, u_255, u_999, u_1000, u_100000, u_4294967295] at hc22)
      rw [bI_f (fun q => by have := ho.mp q; omega)] at hQ
      refine g_iconst (v := 0) dX6_isOdd_29 (by decide) ?_
      refine g_iret dX6_isOdd_30 rfl (rfl) (hQ _ _ ?_)
      exact ⟨rfl, rfl⟩
    · (try simp (disch := omega) only [nT, t_m1000100, t_m1000010, t_m1000003, t_m1000002, t_m1000001, t_m1000000, t_m65535, t_m1000, t_m3, t_m1, t_0, t_1, t_2, t_3, t_4, t_5, t_6, t_7, t_8, t_9, t_10, t_11, t_12, t_13, t_15, t_16, t_20, t_21, t_22, t_32, t_40, t_41, t_48, t_49, t_57, t_59, t_60, t_63, t_72, t_76, t_88, t_100, t_144, t_200, t_255, t_288, t_400, t_800, t_999, t_1000, t_1024, t_1200, t_1600, t_3200, t_100000, t_200000, t_252645135, t_858993459, t_1431655765, u_m1000002, u_m1000001, u_m1000, u_m3, u_m1, u_0, u_1, u_2, u_3, u_4, u_5, u_7, u_8, u_10, u_11, u_15, u_60, u_100, u_255, u_999, u_1000, u_100000, u_4294967295] at hc22)
      rw [bI_t (ho.mpr ⟨by omega, by omega⟩)] at hQ
      refine g_iconst (v := 1) dX6_isOdd_25 (by decide) ?_
      refine g_goto (tgt := 30) dX6_isOdd_26 (by decide) ?_
      refine g_iret dX6_isOdd_30 rfl (rfl) (hQ _ _ ?_)
      exact ⟨rfl, rfl⟩
theorem c_oddCount {h : HH} {c : Nat} {d : Nat → Nat} (hr : RwX h c d) (hd : ∀ p, p < 144 → d p ≤ 16) {nb : Nat} (hn : nb ≤ 8) : CT mX6_oddCount 5 0 0 [.ref c, .int (nI nb)] h (fun r h' => r = some (.int (nI (cnt (oddB d nb) 144 0))) ∧ h' = h) := by
  obtain ⟨e1, e2, e3⟩ := id hr
  refine CT.go [.ref c, .int (nI nb), hU, hU] (by decide +kernel) rfl rfl (fun Q' hQ => ?_)
  obtain ⟨N, hN⟩ : ∃ N : Nat, N = 144 := ⟨_, rfl⟩
  rw [← hN] at hQ
  generalize hz : cnt (oddB d nb) N 0 = z at hQ
  have key : ∀ m k acc : Nat, k + m = 144 → acc ≤ k → acc + cnt (oddB d nb) m k = z → GG (EM mX6_oddCount 5 0 0 Q') 0 0 4 [.ref c, .int (nI nb), .int (nI acc), .int (nI k)] [] h := by
    intro m
    induction m with
    | zero =>
      intro k acc hk ha he
      obtain rfl : acc = z := he
      refine g_iload_n (i := 3) dX6_oddCount_4 rfl rfl ?_
      refine g_sipush (v := 144) dX6_oddCount_5 (by decide) ?_
      refine g_icmp_ge (tgt := 29) dX6_oddCount_8 (by decide) (fun hc8 => ?_) (fun hc8 => ?_)
      · (try simp (disch := omega) only [nT, t_m1000100, t_m1000010, t_m1000003, t_m1000002, t_m1000001, t_m1000000, t_m65535, t_m1000, t_m3, t_m1, t_0, t_1, t_2, t_3, t_4, t_5, t_6, t_7, t_8, t_9, t_10, t_11, t_12, t_13, t_15, t_16, t_20, t_21, t_22, t_32, t_40, t_41, t_48, t_49, t_57, t_59, t_60, t_63, t_72, t_76, t_88, t_100, t_144, t_200, t_255, t_288, t_400, t_800, t_999, t_1000, t_1024, t_1200, t_1600, t_3200, t_100000, t_200000, t_252645135, t_858993459, t_1431655765, u_m1000002, u_m1000001, u_m1000, u_m3, u_m1, u_0, u_1, u_2, u_3, u_4, u_5, u_7, u_8, u_10, u_11, u_15, u_60, u_100, u_255, u_999, u_1000, u_100000, u_4294967295] at hc8)
        refine g_iload_n (i := 2) dX6_oddCount_29 rfl rfl ?_
        refine g_iret dX6_oddCount_30 rfl (rfl) (hQ _ _ ?_)
        exact ⟨rfl, rfl⟩
      · (try simp (disch := omega) only [nT, t_m1000100, t_m1000010, t_m1000003, t_m1000002, t_m1000001, t_m1000000, t_m65535, t_m1000, t_m3, t_m1, t_0, t_1, t_2, t_3, t_4, t_5, t_6, t_7, t_8, t_9, t_10, t_11, t_12, t_13, t_15, t_16, t_20, t_21, t_22, t_32, t_40, t_41, t_48, t_49, t_57, t_59, t_60, t_63, t_72, t_76, t_88, t_100, t_144, t_200, t_255, t_288, t_400, t_800, t_999, t_1000, t_1024, t_1200, t_1600, t_3200, t_100000, t_200000, t_252645135, t_858993459, t_1431655765, u_m1000002, u_m1000001, u_m1000, u_m3, u_m1, u_0, u_1, u_2, u_3, u_4, u_5, u_7, u_8, u_10, u_11, u_15, u_60, u_100, u_255, u_999, u_1000, u_100000, u_4294967295] at hc8); omega
    | succ m ih =>
      intro k acc hk ha he
      refine g_iload_n (i := 3) dX6_oddCount_4 rfl rfl ?_
      refine g_sipush (v := 144) dX6_oddCount_5 (by decide) ?_
      refine g_icmp_ge (tgt := 29) dX6_oddCount_8 (by decide) (fun hc8 => ?_) (fun hc8 => ?_)
      · (try simp (disch := omega) only [nT, t_m1000100, t_m1000010, t_m1000003, t_m1000002, t_m1000001, t_m1000000, t_m65535, t_m1000, t_m3, t_m1, t_0, t_1, t_2, t_3, t_4, t_5, t_6, t_7, t_8, t_9, t_10, t_11, t_12, t_13, t_15, t_16, t_20, t_21, t_22, t_32, t_40, t_41, t_48, t_49, t_57, t_59, t_60, t_63, t_72, t_76, t_88, t_100, t_144, t_200, t_255, t_288, t_400, t_800, t_999, t_1000, t_1024, t_1200, t_1600, t_3200, t_100000, t_200000, t_252645135, t_858993459, t_1431655765, u_m1000002, u_m1000001, u_m1000, u_m3, u_m1, u_0, u_1, u_2, u_3, u_4, u_5, u_7, u_8, u_10, u_11, u_15, u_60, u_100, u_255, u_999, u_1000, u_100000, u_4294967295] at hc8); omega
      · (try simp (disch := omega) only [nT, t_m1000100, t_m1000010, t_m1000003, t_m1000002, t_m1000001, t_m1000000, t_m65535, t_m1000, t_m3, t_m1, t_0, t_1, t_2, t_3, t_4, t_5, t_6, t_7, t_8, t_9, t_10, t_11, t_12, t_13, t_15, t_16, t_20, t_21, t_22, t_32, t_40, t_41, t_48, t_49, t_57, t_59, t_60, t_63, t_72, t_76, t_88, t_100, t_144, t_200, t_255, t_288, t_400, t_800, t_999, t_1000, t_1024, t_1200, t_1600, t_3200, t_100000, t_200000, t_252645135, t_858993459, t_1431655765, u_m1000002, u_m1000001, u_m1000, u_m3, u_m1, u_0, u_1, u_2, u_3, u_4, u_5, u_7, u_8, u_10, u_11, u_15, u_60, u_100, u_255, u_999, u_1000, u_100000, u_4294967295] at hc8)
        refine g_aload_n (i := 0) dX6_oddCount_11 rfl rfl ?_
        refine g_iload_n (i := 3) dX6_oddCount_12 rfl rfl ?_
        refine g_iload_n (i := 1) dX6_oddCount_13 rfl rfl ?_
        refine g_callV (M' := mX6_isOdd) dX6_oddCount_14 lc_X6_isOdd ml_X6_33 (c_isOdd hr hd (p := k) (by omega) hn) rfl rfl (by repeat' (first | assumption | exact rF_eq | refine rF_ne (by decide) ?_ | refine rF_a ?_ | exact rA_eq | refine rA_ne (by decide) ?_ | refine rA_f ?_)) rfl ⟨Nat.le_of_ble_eq_true rfl, Nat.le_of_ble_eq_true rfl, Nat.le_of_ble_eq_true rfl, Nat.le_of_ble_eq_true rfl⟩ (Nat.le_of_ble_eq_true rfl) ?_
        intro r_ h_ q_; obtain ⟨q1_, q2_⟩ := q_; have q2_ := q2_.symm; subst q1_; subst q2_
        refine g_if_eq (tgt := 23) dX6_oddCount_17 (by decide) (fun hc17 => ?_) (fun hc17 => ?_)
        · replace hc17 := bI_0.mp hc17
          (try simp (disch := omega) only [nT, t_m1000100, t_m1000010, t_m1000003, t_m1000002, t_m1000001, t_m1000000, t_m65535, t_m1000, t_m3, t_m1, t_0, t_1, t_2, t_3, t_4, t_5, t_6, t_7, t_8, t_9, t_10, t_11, t_12, t_13, t_15, t_16, t_20, t_21, t_22, t_32, t_40, t_41, t_48, t_49, t_57, t_59, t_60, t_63, t_72, t_76, t_88, t_100, t_144, t_200, t_255, t_288, t_400, t_800, t_999, t_1000, t_1024, t_1200, t_1600, t_3200, t_100000, t_200000, t_252645135, t_858993459, t_1431655765, u_m1000002, u_m1000001, u_m1000, u_m3, u_m1, u_0, u_1, u_2, u_3, u_4, u_5, u_7, u_8, u_10, u_11, u_15, u_60, u_100, u_255, u_999, u_1000, u_100000, u_4294967295] at hc17)
          refine g_iinc dX6_oddCount_23 rfl (Nat.le_of_ble_eq_true rfl) rfl ?_
          refine g_goto (tgt := 4) dX6_oddCount_26 (by decide) ?_
          rw [ni_incO]
          first
          | (rw [cnt_t (by assumption)] at he; rw [ni_incO]; exact ih _ _ (by omega) (by omega) (by omega))
          | (rw [cnt_f (by assumption)] at he; exact ih _ _ (by omega) (by omega) (by omega))
        · replace hc17 := bI_n0.mp hc17
          (try simp (disch := omega) only [nT, t_m1000100, t_m1000010, t_m1000003, t_m1000002, t_m1000001, t_m1000000, t_m65535, t_m1000, t_m3, t_m1, t_0, t_1, t_2, t_3, t_4, t_5, t_6, t_7, t_8, t_9, t_10, t_11, t_12, t_13, t_15, t_16, t_20, t_21, t_22, t_32, t_40, t_41, t_48, t_49, t_57, t_59, t_60, t_63, t_72, t_76, t_88, t_100, t_144, t_200, t_255, t_288, t_400, t_800, t_999, t_1000, t_1024, t_1200, t_1600, t_3200, t_100000, t_200000, t_252645135, t_858993459, t_1431655765, u_m1000002, u_m1000001, u_m1000, u_m3, u_m1, u_0, u_1, u_2, u_3, u_4, u_5, u_7, u_8, u_10, u_11, u_15, u_60, u_100, u_255, u_999, u_1000, u_100000, u_4294967295] at hc17)
          refine g_iinc dX6_oddCount_20 rfl (Nat.le_of_ble_eq_true rfl) rfl ?_
          refine g_iinc dX6_oddCount_23 rfl (Nat.le_of_ble_eq_true rfl) rfl ?_
          refine g_goto (tgt := 4) dX6_oddCount_26 (by decide) ?_
          rw [ni_incO]
          first
          | (rw [cnt_t (by assumption)] at he; rw [ni_incO]; exact ih _ _ (by omega) (by omega) (by omega))
          | (rw [cnt_f (by assumption)] at he; exact ih _ _ (by omega) (by omega) (by omega))
  refine g_iconst (v := 0) dX6_oddCount_0 (by decide) ?_
  refine g_istore_n (i := 2) dX6_oddCount_1 rfl (Nat.le_of_ble_eq_true rfl) rfl ?_
  refine g_iconst (v := 0) dX6_oddCount_2 (by decide) ?_
  refine g_istore_n (i := 3) dX6_oddCount_3 rfl (Nat.le_of_ble_eq_true rfl) rfl ?_
  exact key N 0 0 (by omega) (by omega) (by rw [Nat.zero_add]; exact hz)
def oddP (o : Nat → Bool) (i : Int32) : Nat → Nat → Nat → Int32
  | 0, _, _ => -1000000
  | n + 1, k, a => if o k = true then (if nI a = i then nI k else oddP o i n (k + 1) (a + 1)) else oddP o i n (k + 1) a
theorem c_oddPlace {h : HH} {c : Nat} {d : Nat → Nat} (hr : RwX h c d) (hd : ∀ p, p < 144 → d p ≤ 16) {nb : Nat} (hn : nb ≤ 8) (i : Int32) : CT mX6_oddPlace 5 0 0 [.ref c, .int (nI nb), .int i] h (fun r h' => r = some (.int (oddP (oddB d nb) i 144 0 0)) ∧ h' = h) := by
  obtain ⟨e1, e2, e3⟩ := id hr
  refine CT.go [.ref c, .int (nI nb), .int i, hU, hU] (by decide +kernel) rfl rfl (fun Q' hQ => ?_)
  obtain ⟨N, hN⟩ : ∃ N : Nat, N = 144 := ⟨_, rfl⟩
  rw [← hN] at hQ
  generalize hz : oddP (oddB d nb) i N 0 0 = z at hQ
  have key : ∀ m k acc : Nat, k + m = 144 → acc ≤ k → oddP (oddB d nb) i m k acc = z → GG (EM mX6_oddPlace 5 0 0 Q') 0 0 5 [.ref c, .int (nI nb), .int i, .int (nI acc), .int (nI k)] [] h := by
    intro m
    induction m with
    | zero =>
      intro k acc hk ha he
      obtain rfl : -1000000 = z := he
      refine g_iload dX6_oddPlace_5 rfl ?_
      refine g_sipush (v := 144) dX6_oddPlace_7 (by decide) ?_
      refine g_icmp_ge (tgt := 40) dX6_oddPlace_10 (by decide) (fun hc10 => ?_) (fun hc10 => ?_)
      · (try simp (disch := omega) only [nT, t_m1000100, t_m1000010, t_m1000003, t_m1000002, t_m1000001, t_m1000000, t_m65535, t_m1000, t_m3, t_m1, t_0, t_1, t_2, t_3, t_4, t_5, t_6, t_7, t_8, t_9, t_10, t_11, t_12, t_13, t_15, t_16, t_20, t_21, t_22, t_32, t_40, t_41, t_48, t_49, t_57, t_59, t_60, t_63, t_72, t_76, t_88, t_100, t_144, t_200, t_255, t_288, t_400, t_800, t_999, t_1000, t_1024, t_1200, t_1600, t_3200, t_100000, t_200000, t_252645135, t_858993459, t_1431655765, u_m1000002, u_m1000001, u_m1000, u_m3, u_m1, u_0, u_1, u_2, u_3, u_4, u_5, u_7, u_8, u_10, u_11, u_15, u_60, u_100, u_255, u_999, u_1000, u_100000, u_4294967295] at hc10)
        refine g_ldc dX6_oddPlace_40 kc_X6_15 ?_
        refine g_iret dX6_oddPlace_42 rfl (rfl) (hQ _ _ ?_)
        exact ⟨rfl, rfl⟩
      · (try simp (disch := omega) only [nT, t_m1000100, t_m1000010, t_m1000003, t_m1000002, t_m1000001, t_m1000000, t_m65535, t_m1000, t_m3, t_m1, t_0, t_1, t_2, t_3, t_4, t_5, t_6, t_7, t_8, t_9, t_10, t_11, t_12, t_13, t_15, t_16, t_20, t_21, t_22, t_32, t_40, t_41, t_48, t_49, t_57, t_59, t_60, t_63, t_72, t_76, t_88, t_100, t_144, t_200, t_255, t_288, t_400, t_800, t_999, t_1000, t_1024, t_1200, t_1600, t_3200, t_100000, t_200000, t_252645135, t_858993459, t_1431655765, u_m1000002, u_m1000001, u_m1000, u_m3, u_m1, u_0, u_1, u_2, u_3, u_4, u_5, u_7, u_8, u_10, u_11, u_15, u_60, u_100, u_255, u_999, u_1000, u_100000, u_4294967295] at hc10); omega
    | succ m ih =>
      intro k acc hk ha he
      unfold oddP at he
      refine g_iload dX6_oddPlace_5 rfl ?_
      refine g_sipush (v := 144) dX6_oddPlace_7 (by decide) ?_
      refine g_icmp_ge (tgt := 40) dX6_oddPlace_10 (by decide) (fun hc10 => ?_) (fun hc10 => ?_)
      · (try simp (disch := omega) only [nT, t_m1000100, t_m1000010, t_m1000003, t_m1000002, t_m1000001, t_m1000000, t_m65535, t_m1000, t_m3, t_m1, t_0, t_1, t_2, t_3, t_4, t_5, t_6, t_7, t_8, t_9, t_10, t_11, t_12, t_13, t_15, t_16, t_20, t_21, t_22, t_32, t_40, t_41, t_48, t_49, t_57, t_59, t_60, t_63, t_72, t_76, t_88, t_100, t_144, t_200, t_255, t_288, t_400, t_800, t_999, t_1000, t_1024, t_1200, t_1600, t_3200, t_100000, t_200000, t_252645135, t_858993459, t_1431655765, u_m1000002, u_m1000001, u_m1000, u_m3, u_m1, u_0, u_1, u_2, u_3, u_4, u_5, u_7, u_8, u_10, u_11, u_15, u_60, u_100, u_255, u_999, u_1000, u_100000, u_4294967295] at hc10); omega
      · (try simp (disch := omega) only [nT, t_m1000100, t_m1000010, t_m1000003, t_m1000002, t_m1000001, t_m1000000, t_m65535, t_m1000, t_m3, t_m1, t_0, t_1, t_2, t_3, t_4, t_5, t_6, t_7, t_8, t_9, t_10, t_11, t_12, t_13, t_15, t_16, t_20, t_21, t_22, t_32, t_40, t_41, t_48, t_49, t_57, t_59, t_60, t_63, t_72, t_76, t_88, t_100, t_144, t_200, t_255, t_288, t_400, t_800, t_999, t_1000, t_1024, t_1200, t_1600, t_3200, t_100000, t_200000, t_252645135, t_858993459, t_1431655765, u_m1000002, u_m1000001, u_m1000, u_m3, u_m1, u_0, u_1, u_2, u_3, u_4, u_5, u_7, u_8, u_10, u_11, u_15, u_60, u_100, u_255, u_999, u_1000, u_100000, u_4294967295] at hc10)
        refine g_aload_n (i := 0) dX6_oddPlace_13 rfl rfl ?_
        refine g_iload dX6_oddPlace_14 rfl ?_
        refine g_iload_n (i := 1) dX6_oddPlace_16 rfl rfl ?_
        refine g_callV (M' := mX6_isOdd) dX6_oddPlace_17 lc_X6_isOdd ml_X6_33 (c_isOdd hr hd (p := k) (by omega) hn) rfl rfl (by repeat' (first | assumption | exact rF_eq | refine rF_ne (by decide) ?_ | refine rF_a ?_ | exact rA_eq | refine rA_ne (by decide) ?_ | refine rA_f ?_)) rfl ⟨Nat.le_of_ble_eq_true rfl, Nat.le_of_ble_eq_true rfl, Nat.le_of_ble_eq_true rfl, Nat.le_of_ble_eq_true rfl⟩ (Nat.le_of_ble_eq_true rfl) ?_
        intro r_ h_ q_; obtain ⟨q1_, q2_⟩ := q_; have q2_ := q2_.symm; subst q1_; subst q2_
        refine g_if_eq (tgt := 34) dX6_oddPlace_20 (by decide) (fun hc20 => ?_) (fun hc20 => ?_)
        · replace hc20 := bI_0.mp hc20
          (try simp (disch := omega) only [nT, t_m1000100, t_m1000010, t_m1000003, t_m1000002, t_m1000001, t_m1000000, t_m65535, t_m1000, t_m3, t_m1, t_0, t_1, t_2, t_3, t_4, t_5, t_6, t_7, t_8, t_9, t_10, t_11, t_12, t_13, t_15, t_16, t_20, t_21, t_22, t_32, t_40, t_41, t_48, t_49, t_57, t_59, t_60, t_63, t_72, t_76, t_88, t_100, t_144, t_200, t_255, t_288, t_400, t_800, t_999, t_1000, t_1024, t_1200, t_1600, t_3200, t_100000, t_200000, t_252645135, t_858993459, t_1431655765, u_m1000002, u_m1000001, u_m1000, u_m3, u_m1, u_0, u_1, u_2, u_3, u_4, u_5, u_7, u_8, u_10, u_11, u_15, u_60, u_100, u_255, u_999, u_1000, u_100000, u_4294967295] at hc20)
          refine g_iinc dX6_oddPlace_34 rfl (Nat.le_of_ble_eq_true rfl) rfl ?_
          refine g_goto (tgt := 5) dX6_oddPlace_37 (by decide) ?_
          rw [ni_incO]
          first
          | (rw [if_neg (by assumption)] at he; exact ih _ _ (by omega) (by omega) he)
          | (rw [if_pos (by assumption), if_neg (by assumption)] at he; rw [ni_incO]; exact ih _ _ (by omega) (by omega) he)
        · replace hc20 := bI_n0.mp hc20
          (try simp (disch := omega) only [nT, t_m1000100, t_m1000010, t_m1000003, t_m1000002, t_m1000001, t_m1000000, t_m65535, t_m1000, t_m3, t_m1, t_0, t_1, t_2, t_3, t_4, t_5, t_6, t_7, t_8, t_9, t_10, t_11, t_12, t_13, t_15, t_16, t_20, t_21, t_22, t_32, t_40, t_41, t_48, t_49, t_57, t_59, t_60, t_63, t_72, t_76, t_88, t_100, t_144, t_200, t_255, t_288, t_400, t_800, t_999, t_1000, t_1024, t_1200, t_1600, t_3200, t_100000, t_200000, t_252645135, t_858993459, t_1431655765, u_m1000002, u_m1000001, u_m1000, u_m3, u_m1, u_0, u_1, u_2, u_3, u_4, u_5, u_7, u_8, u_10, u_11, u_15, u_60, u_100, u_255, u_999, u_1000, u_100000, u_4294967295] at hc20)
          refine g_iload_n (i := 3) dX6_oddPlace_23 rfl rfl ?_
          refine g_iload_n (i := 2) dX6_oddPlace_24 rfl rfl ?_
          refine g_icmp_ne (tgt := 31) dX6_oddPlace_25 (by decide) (fun hc25 => ?_) (fun hc25 => ?_)
          · have hd25 := mt i_eq.mpr hc25; (try simp (disch := omega) only [nT, t_m1000100, t_m1000010, t_m1000003, t_m1000002, t_m1000001, t_m1000000, t_m65535, t_m1000, t_m3, t_m1, t_0, t_1, t_2, t_3, t_4, t_5, t_6, t_7, t_8, t_9, t_10, t_11, t_12, t_13, t_15, t_16, t_20, t_21, t_22, t_32, t_40, t_41, t_48, t_49, t_57, t_59, t_60, t_63, t_72, t_76, t_88, t_100, t_144, t_200, t_255, t_288, t_400, t_800, t_999, t_1000, t_1024, t_1200, t_1600, t_3200, t_100000, t_200000, t_252645135, t_858993459, t_1431655765, u_m1000002, u_m1000001, u_m1000, u_m3, u_m1, u_0, u_1, u_2, u_3, u_4, u_5, u_7, u_8, u_10, u_11, u_15, u_60, u_100, u_255, u_999, u_1000, u_100000, u_4294967295] at hd25)
            refine g_iinc dX6_oddPlace_31 rfl (Nat.le_of_ble_eq_true rfl) rfl ?_
            refine g_iinc dX6_oddPlace_34 rfl (Nat.le_of_ble_eq_true rfl) rfl ?_
            refine g_goto (tgt := 5) dX6_oddPlace_37 (by decide) ?_
            rw [ni_incO]
            first
            | (rw [if_neg (by assumption)] at he; exact ih _ _ (by omega) (by omega) he)
            | (rw [if_pos (by assumption), if_neg (by assumption)] at he; rw [ni_incO]; exact ih _ _ (by omega) (by omega) he)
          · have hd25 := i_eq.mp hc25; (try simp (disch := omega) only [nT, t_m1000100, t_m1000010, t_m1000003, t_m1000002, t_m1000001, t_m1000000, t_m65535, t_m1000, t_m3, t_m1, t_0, t_1, t_2, t_3, t_4, t_5, t_6, t_7, t_8, t_9, t_10, t_11, t_12, t_13, t_15, t_16, t_20, t_21, t_22, t_32, t_40, t_41, t_48, t_49, t_57, t_59, t_60, t_63, t_72, t_76, t_88, t_100, t_144, t_200, t_255, t_288, t_400, t_800, t_999, t_1000, t_1024, t_1200, t_1600, t_3200, t_100000, t_200000, t_252645135, t_858993459, t_1431655765, u_m1000002, u_m1000001, u_m1000, u_m3, u_m1, u_0, u_1, u_2, u_3, u_4, u_5, u_7, u_8, u_10, u_11, u_15, u_60, u_100, u_255, u_999, u_1000, u_100000, u_4294967295] at hd25)
            refine g_iload dX6_oddPlace_28 rfl ?_
            rw [if_pos (by assumption), if_pos (by assumption)] at he
            subst he
            refine g_iret dX6_oddPlace_30 rfl (rfl) (hQ _ _ ?_)
            exact ⟨rfl, rfl⟩
  refine g_iconst (v := 0) dX6_oddPlace_0 (by decide) ?_
  refine g_istore_n (i := 3) dX6_oddPlace_1 rfl (Nat.le_of_ble_eq_true rfl) rfl ?_
  refine g_iconst (v := 0) dX6_oddPlace_2 (by decide) ?_
  refine g_istore dX6_oddPlace_3 (Nat.le_of_ble_eq_true rfl) rfl ?_
  exact key N 0 0 (by omega) (by omega) hz
abbrev wOf (W : WA) (w : Int32) : Nat → Nat := if w = 0 then W.1 else W.2
def opOdd (W : WA) (w n i : Int32) : Int32 :=
  if ¬ (0 ≤ w.toInt ∧ w.toInt < 2) ∨ ¬ (1 ≤ n.toInt ∧ n.toInt ≤ 8) then -1000001
  else if i = -1000000 then nI (cnt (oddB (wOf W w) n.toInt.toNat) 144 0) else oddP (oddB (wOf W w) n.toInt.toNat) i 144 0 0
theorem gwx_r {W : WA} (hW : WfW W) {h : HH} (hg : GWX W h) (w : Int32) : RwX h (if w = 0 then 40 else 42) (wOf W w) ∧ ∀ p, p < 144 → wOf W w p ≤ 16 := by
  obtain ⟨e1, e2, e3, e4, e5, e6, e7, e8, e9⟩ := hg
  by_cases q : w = 0
  · rw [if_pos q, wOf, if_pos q]; exact ⟨⟨e4, e5, e8⟩, fun p hp => (hW p hp).1⟩
  · rw [if_neg q, wOf, if_neg q]; exact ⟨⟨e6, e7, e9⟩, fun p hp => (hW p hp).2⟩
theorem x_odd {W : WA} (hW : WfW W) {h : HH} (hg : GWX W h) (w n i : Int32) : CT mX7_odd 6 0 0 [.ref 0, .int w, .int n, .int i] h (fun r h' => r = some (.int (opOdd W w n i)) ∧ h' = h) := by
  obtain ⟨hr, hd⟩ := gwx_r hW hg w
  have h0 := hg.1
  have hr1 := hr.1
  refine CT.go [.ref 0, .int w, .int n, .int i] (by decide +kernel) rfl rfl (fun Q' hQ => ?_)
  refine g_iload_n (i := 1) dX7_odd_0 rfl rfl ?_
  refine g_iconst (v := 2) dX7_odd_1 (by decide) ?_
  refine g_callS (M' := mX7_isWithin) dX7_odd_2 lc_X7_isWithin ml_X7_90 (c_isWithin h w 2 2 rfl) rfl rfl ⟨Nat.le_of_ble_eq_true rfl, Nat.le_of_ble_eq_true rfl, Nat.le_of_ble_eq_true rfl, Nat.le_of_ble_eq_true rfl⟩ (Nat.le_of_ble_eq_true rfl) ?_
  intro r_ h_ q_; obtain ⟨q1_, q2_⟩ := q_; have q2_ := q2_.symm; subst q1_; subst q2_
  refine g_if_eq (tgt := 19) dX7_odd_5 (by decide) (fun hc5 => ?_) (fun hc5 => ?_)
  · replace hc5 := bI_0.mp hc5
    (try simp (disch := omega) only [nT, t_m1000100, t_m1000010, t_m1000003, t_m1000002, t_m1000001, t_m1000000, t_m65535, t_m1000, t_m3, t_m1, t_0, t_1, t_2, t_3, t_4, t_5, t_6, t_7, t_8, t_9, t_10, t_11, t_12, t_13, t_15, t_16, t_20, t_21, t_22, t_32, t_40, t_41, t_48, t_49, t_57, t_59, t_60, t_63, t_72, t_76, t_88, t_100, t_144, t_200, t_255, t_288, t_400, t_800, t_999, t_1000, t_1024, t_1200, t_1600, t_3200, t_100000, t_200000, t_252645135, t_858993459, t_1431655765, u_m1000002, u_m1000001, u_m1000, u_m3, u_m1, u_0, u_1, u_2, u_3, u_4, u_5, u_7, u_8, u_10, u_11, u_15, u_60, u_100, u_255, u_999, u_1000, u_100000, u_4294967295] at hc5)
    rw [show opOdd W w n i = _ from if_pos (by omega)] at hQ
    refine g_ldc dX7_odd_19 kc_X7_94 ?_
    refine g_iret dX7_odd_21 rfl (rfl) (hQ _ _ ?_)
    exact ⟨rfl, rfl⟩
  · replace hc5 := bI_n0.mp hc5
    (try simp (disch := omega) only [nT, t_m1000100, t_m1000010, t_m1000003, t_m1000002, t_m1000001, t_m1000000, t_m65535, t_m1000, t_m3, t_m1, t_0, t_1, t_2, t_3, t_4, t_5, t_6, t_7, t_8, t_9, t_10, t_11, t_12, t_13, t_15, t_16, t_20, t_21, t_22, t_32, t_40, t_41, t_48, t_49, t_57, t_59, t_60, t_63, t_72, t_76, t_88, t_100, t_144, t_200, t_255, t_288, t_400, t_800, t_999, t_1000, t_1024, t_1200, t_1600, t_3200, t_100000, t_200000, t_252645135, t_858993459, t_1431655765, u_m1000002, u_m1000001, u_m1000, u_m3, u_m1, u_0, u_1, u_2, u_3, u_4, u_5, u_7, u_8, u_10, u_11, u_15, u_60, u_100, u_255, u_999, u_1000, u_100000, u_4294967295] at hc5)
    refine g_iload_n (i := 2) dX7_odd_8 rfl rfl ?_
    refine g_iconst (v := 1) dX7_odd_9 (by decide) ?_
    refine g_icmp_lt (tgt := 19) dX7_odd_10 (by decide) (fun hc10 => ?_) (fun hc10 => ?_)
    · (try simp (disch := omega) only [nT, t_m1000100, t_m1000010, t_m1000003, t_m1000002, t_m1000001, t_m1000000, t_m65535, t_m1000, t_m3, t_m1, t_0, t_1, t_2, t_3, t_4, t_5, t_6, t_7, t_8, t_9, t_10, t_11, t_12, t_13, t_15, t_16, t_20, t_21, t_22, t_32, t_40, t_41, t_48, t_49, t_57, t_59, t_60, t_63, t_72, t_76, t_88, t_100, t_144, t_200, t_255, t_288, t_400, t_800, t_999, t_1000, t_1024, t_1200, t_1600, t_3200, t_100000, t_200000, t_252645135, t_858993459, t_1431655765, u_m1000002, u_m1000001, u_m1000, u_m3, u_m1, u_0, u_1, u_2, u_3, u_4, u_5, u_7, u_8, u_10, u_11, u_15, u_60, u_100, u_255, u_999, u_1000, u_100000, u_4294967295] at hc10)
      rw [show opOdd W w n i = _ from if_pos (by omega)] at hQ
      refine g_ldc dX7_odd_19 kc_X7_94 ?_
      refine g_iret dX7_odd_21 rfl (rfl) (hQ _ _ ?_)
      exact ⟨rfl, rfl⟩
    · (try simp (disch := omega) only [nT, t_m1000100, t_m1000010, t_m1000003, t_m1000002, t_m1000001, t_m1000000, t_m65535, t_m1000, t_m3, t_m1, t_0, t_1, t_2, t_3, t_4, t_5, t_6, t_7, t_8, t_9, t_10, t_11, t_12, t_13, t_15, t_16, t_20, t_21, t_22, t_32, t_40, t_41, t_48, t_49, t_57, t_59, t_60, t_63, t_72, t_76, t_88, t_100, t_144, t_200, t_255, t_288, t_400, t_800, t_999, t_1000, t_1024, t_1200, t_1600, t_3200, t_100000, t_200000, t_252645135, t_858993459, t_1431655765, u_m1000002, u_m1000001, u_m1000, u_m3, u_m1, u_0, u_1, u_2, u_3, u_4, u_5, u_7, u_8, u_10, u_11, u_15, u_60, u_100, u_255, u_999, u_1000, u_100000, u_4294967295] at hc10)
      refine g_iload_n (i := 2) dX7_odd_13 rfl rfl ?_
      refine g_bipush (v := 8) dX7_odd_14 (by decide) ?_
      refine g_icmp_le (tgt := 22) dX7_odd_16 (by decide) (fun hc16 => ?_) (fun hc16 => ?_)
      · (try simp (disch := omega) only [nT, t_m1000100, t_m1000010, t_m1000003, t_m1000002, t_m1000001, t_m1000000, t_m65535, t_m1000, t_m3, t_m1, t_0, t_1, t_2, t_3, t_4, t_5, t_6, t_7, t_8, t_9, t_10, t_11, t_12, t_13, t_15, t_16, t_20, t_21, t_22, t_32, t_40, t_41, t_48, t_49, t_57, t_59, t_60, t_63, t_72, t_76, t_88, t_100, t_144, t_200, t_255, t_288, t_400, t_800, t_999, t_1000, t_1024, t_1200, t_1600, t_3200, t_100000, t_200000, t_252645135, t_858993459, t_1431655765, u_m1000002, u_m1000001, u_m1000, u_m3, u_m1, u_0, u_1, u_2, u_3, u_4, u_5, u_7, u_8, u_10, u_11, u_15, u_60, u_100, u_255, u_999, u_1000, u_100000, u_4294967295] at hc16)
        have e : opOdd W w n i = _ := if_neg (by omega)
        obtain ⟨b, hb, rfl, htb⟩ := n_of (n := 9) (x := n) (by omega) (by omega)
        rw [nTN (by omega)] at e
        refine g_iload_n (i := 3) dX7_odd_22 rfl rfl ?_
        refine g_ldc dX7_odd_23 kc_X7_155 ?_
        refine g_icmp_ne (tgt := 40) dX7_odd_25 (by decide) (fun hc25 => ?_) (fun hc25 => ?_)
        · have hd25 := mt i_eq.mpr hc25; (try simp (disch := omega) only [nT, t_m1000100, t_m1000010, t_m1000003, t_m1000002, t_m1000001, t_m1000000, t_m65535, t_m1000, t_m3, t_m1, t_0, t_1, t_2, t_3, t_4, t_5, t_6, t_7, t_8, t_9, t_10, t_11, t_12, t_13, t_15, t_16, t_20, t_21, t_22, t_32, t_40, t_41, t_48, t_49, t_57, t_59, t_60, t_63, t_72, t_76, t_88, t_100, t_144, t_200, t_255, t_288, t_400, t_800, t_999, t_1000, t_1024, t_1200, t_1600, t_3200, t_100000, t_200000, t_252645135, t_858993459, t_1431655765, u_m1000002, u_m1000001, u_m1000, u_m3, u_m1, u_0, u_1, u_2, u_3, u_4, u_5, u_7, u_8, u_10, u_11, u_15, u_60, u_100, u_255, u_999, u_1000, u_100000, u_4294967295] at hd25)
          refine g_aload_n (i := 0) dX7_odd_40 rfl rfl ?_
          refine g_iload_n (i := 1) dX7_odd_41 rfl rfl ?_
          refine g_callV (M' := mX7_waferOf) dX7_odd_42 lc_X7_waferOf ml_X7_284 (c_waferOf hg w) rfl rfl (by repeat' (first | assumption | exact rF_eq | refine rF_ne (by decide) ?_ | refine rF_a ?_ | exact rA_eq | refine rA_ne (by decide) ?_ | refine rA_f ?_)) rfl ⟨Nat.le_of_ble_eq_true rfl, Nat.le_of_ble_eq_true rfl, Nat.le_of_ble_eq_true rfl, Nat.le_of_ble_eq_true rfl⟩ (Nat.le_of_ble_eq_true rfl) ?_
          intro r_ h_ q_; obtain ⟨q1_, q2_⟩ := q_; have q2_ := q2_.symm; subst q1_; subst q2_
          refine g_iload_n (i := 2) dX7_odd_45 rfl rfl ?_
          refine g_iload_n (i := 3) dX7_odd_46 rfl rfl ?_
          rw [if_neg (by assumption)] at e
          rw [e] at hQ
          refine g_callV (M' := mX6_oddPlace) dX7_odd_47 lc_X6_oddPlace ml_X7_292 (c_oddPlace hr hd (nb := b) (by omega) i) rfl rfl (by repeat' (first | assumption | exact rF_eq | refine rF_ne (by decide) ?_ | refine rF_a ?_ | exact rA_eq | refine rA_ne (by decide) ?_ | refine rA_f ?_)) rfl ⟨Nat.le_of_ble_eq_true rfl, Nat.le_of_ble_eq_true rfl, Nat.le_of_ble_eq_true rfl, Nat.le_of_ble_eq_true rfl⟩ (Nat.le_of_ble_eq_true rfl) ?_
          intro r_ h_ q_; obtain ⟨q1_, q2_⟩ := q_; have q2_ := q2_.symm; subst q1_; subst q2_
          refine g_iret dX7_odd_50 rfl (rfl) (hQ _ _ ?_)
          exact ⟨rfl, rfl⟩
        · have hd25 := i_eq.mp hc25; (try simp (disch := omega) only [nT, t_m1000100, t_m1000010, t_m1000003, t_m1000002, t_m1000001, t_m1000000, t_m65535, t_m1000, t_m3, t_m1, t_0, t_1, t_2, t_3, t_4, t_5, t_6, t_7, t_8, t_9, t_10, t_11, t_12, t_13, t_15, t_16, t_20, t_21, t_22, t_32, t_40, t_41, t_48, t_49, t_57, t_59, t_60, t_63, t_72, t_76, t_88, t_100, t_144, t_200, t_255, t_288, t_400, t_800, t_999, t_1000, t_1024, t_1200, t_1600, t_3200, t_100000, t_200000, t_252645135, t_858993459, t_1431655765, u_m1000002, u_m1000001, u_m1000, u_m3, u_m1, u_0, u_1, u_2, u_3, u_4, u_5, u_7, u_8, u_10, u_11, u_15, u_60, u_100, u_255, u_999, u_1000, u_100000, u_4294967295] at hd25)
          refine g_aload_n (i := 0) dX7_odd_28 rfl rfl ?_
          refine g_iload_n (i := 1) dX7_odd_29 rfl rfl ?_
          refine g_callV (M' := mX7_waferOf) dX7_odd_30 lc_X7_waferOf ml_X7_284 (c_waferOf hg w) rfl rfl (by repeat' (first | assumption | exact rF_eq | refine rF_ne (by decide) ?_ | refine rF_a ?_ | exact rA_eq | refine rA_ne (by decide) ?_ | refine rA_f ?_)) rfl ⟨Nat.le_of_ble_eq_true rfl, Nat.le_of_ble_eq_true rfl, Nat.le_of_ble_eq_true rfl, Nat.le_of_ble_eq_true rfl⟩ (Nat.le_of_ble_eq_true rfl) ?_
          intro r_ h_ q_; obtain ⟨q1_, q2_⟩ := q_; have q2_ := q2_.symm; subst q1_; subst q2_
          refine g_iload_n (i := 2) dX7_odd_33 rfl rfl ?_
          rw [if_pos (by assumption)] at e
          rw [e] at hQ
          refine g_callV (M' := mX6_oddCount) dX7_odd_34 lc_X6_oddCount ml_X7_289 (c_oddCount hr hd (nb := b) (by omega)) rfl rfl (by repeat' (first | assumption | exact rF_eq | refine rF_ne (by decide) ?_ | refine rF_a ?_ | exact rA_eq | refine rA_ne (by decide) ?_ | refine rA_f ?_)) rfl ⟨Nat.le_of_ble_eq_true rfl, Nat.le_of_ble_eq_true rfl, Nat.le_of_ble_eq_true rfl, Nat.le_of_ble_eq_true rfl⟩ (Nat.le_of_ble_eq_true rfl) ?_
          intro r_ h_ q_; obtain ⟨q1_, q2_⟩ := q_; have q2_ := q2_.symm; subst q1_; subst q2_
          refine g_goto (tgt := 50) dX7_odd_37 (by decide) ?_
          refine g_iret dX7_odd_50 rfl (rfl) (hQ _ _ ?_)
          exact ⟨rfl, rfl⟩
      · (try simp (disch := omega) only [nT, t_m1000100, t_m1000010, t_m1000003, t_m1000002, t_m1000001, t_m1000000, t_m65535, t_m1000, t_m3, t_m1, t_0, t_1, t_2, t_3, t_4, t_5, t_6, t_7, t_8, t_9, t_10, t_11, t_12, t_13, t_15, t_16, t_20, t_21, t_22, t_32, t_40, t_41, t_48, t_49, t_57, t_59, t_60, t_63, t_72, t_76, t_88, t_100, t_144, t_200, t_255, t_288, t_400, t_800, t_999, t_1000, t_1024, t_1200, t_1600, t_3200, t_100000, t_200000, t_252645135, t_858993459, t_1431655765, u_m1000002, u_m1000001, u_m1000, u_m3, u_m1, u_0, u_1, u_2, u_3, u_4, u_5, u_7, u_8, u_10, u_11, u_15, u_60, u_100, u_255, u_999, u_1000, u_100000, u_4294967295] at hc16)
        rw [show opOdd W w n i = _ from if_pos (by omega)] at hQ
        refine g_ldc dX7_odd_19 kc_X7_94 ?_
        refine g_iret dX7_odd_21 rfl (rfl) (hQ _ _ ?_)
        exact ⟨rfl, rfl⟩
def opDie (W : WA) (w x y b : Int32) : Int32 × WA :=
  if ¬ (0 ≤ w.toInt ∧ w.toInt < 2) ∨ ¬ ((0 ≤ x.toInt ∧ x.toInt < 12) ∧ 0 ≤ y.toInt ∧ y.toInt < 12) ∨ (¬ (0 ≤ b.toInt ∧ b.toInt < 16) ∧ ¬ b = -1000000) then (-1000001, W)
  else (bv (wOf W w (12 * y.toInt.toNat + x.toInt.toNat)),
    if w = 0 then (fun p => if p = 12 * y.toInt.toNat + x.toInt.toNat then (if b = -1000000 then 0 else b.toInt.toNat + 1) else W.1 p, W.2)
    else (W.1, fun p => if p = 12 * y.toInt.toNat + x.toInt.toNat then (if b = -1000000 then 0 else b.toInt.toNat + 1) else W.2 p))
theorem bv_b {b : Int32} (h : (0 ≤ b.toInt ∧ b.toInt < 16) ∨ b = -1000000) : bv (if b = -1000000 then 0 else b.toInt.toNat + 1) = b := by
  by_cases q : b = -1000000
  · rw [if_pos q, q]; rfl
  · rw [if_neg q, bv_p (by omega), Nat.add_sub_cancel]
    obtain ⟨j, hj, rfl, hjt⟩ := n_of (n := 16) (h.resolve_right q).1 (h.resolve_right q).2
    rw [nTN (by omega)]
theorem bv_u {d : Nat → Nat} {q v : Nat} {b : Int32} (h : bv v = b) : upd (fun p => bv (d p)) q b = fun p => bv (if p = q then v else d p) := by
  funext p
  unfold upd
  by_cases e : p = q
  · rw [if_pos e, if_pos e, h]
  · rw [if_neg e, if_neg e]
theorem x_die {W : WA} (hW : WfW W) {h : HH} (hg : GWX W h) (w x y b : Int32) : CT mX7_die 4 0 0 [.ref 0, .int w, .int x, .int y, .int b] h (fun r h' => r = some (.int (opDie W w x y b).1) ∧ GWX (opDie W w x y b).2 h' ∧ Fr [41, 43] [] h h') := by
  obtain ⟨hr, hd⟩ := gwx_r hW hg w
  obtain ⟨e1, e2, e3, e4, e5, e6, e7, e8, e9⟩ := id hg
  have hr1 := hr.1
  refine CT.go [.ref 0, .int w, .int x, .int y, .int b] (by decide +kernel) rfl rfl (fun Q' hQ => ?_)
  refine g_iload_n (i := 1) dX7_die_0 rfl rfl ?_
  refine g_iconst (v := 2) dX7_die_1 (by decide) ?_
  refine g_callS (M' := mX7_isWithin) dX7_die_2 lc_X7_isWithin ml_X7_90 (c_isWithin h w 2 2 rfl) rfl rfl ⟨Nat.le_of_ble_eq_true rfl, Nat.le_of_ble_eq_true rfl, Nat.le_of_ble_eq_true rfl, Nat.le_of_ble_eq_true rfl⟩ (Nat.le_of_ble_eq_true rfl) ?_
  intro r_ h_ q_; obtain ⟨q1_, q2_⟩ := q_; have q2_ := q2_.symm; subst q1_; subst q2_
  refine g_if_eq (tgt := 33) dX7_die_5 (by decide) (fun hc5 => ?_) (fun hc5 => ?_)
  · replace hc5 := bI_0.mp hc5
    (try simp (disch := omega) only [nT, t_m1000100, t_m1000010, t_m1000003, t_m1000002, t_m1000001, t_m1000000, t_m65535, t_m1000, t_m3, t_m1, t_0, t_1, t_2, t_3, t_4, t_5, t_6, t_7, t_8, t_9, t_10, t_11, t_12, t_13, t_15, t_16, t_20, t_21, t_22, t_32, t_40, t_41, t_48, t_49, t_57, t_59, t_60, t_63, t_72, t_76, t_88, t_100, t_144, t_200, t_255, t_288, t_400, t_800, t_999, t_1000, t_1024, t_1200, t_1600, t_3200, t_100000, t_200000, t_252645135, t_858993459, t_1431655765, u_m1000002, u_m1000001, u_m1000, u_m3, u_m1, u_0, u_1, u_2, u_3, u_4, u_5, u_7, u_8, u_10, u_11, u_15, u_60, u_100, u_255, u_999, u_1000, u_100000, u_4294967295] at hc5)
    rw [show opDie W w x y b = _ from if_pos (by first | omega | exact Or.inr (Or.inr ⟨by assumption, by assumption⟩))] at hQ
    refine g_ldc dX7_die_33 kc_X7_94 ?_
    refine g_iret dX7_die_35 rfl (rfl) (hQ _ _ ?_)
    exact ⟨rfl, hg, fr_rf⟩
  · replace hc5 := bI_n0.mp hc5
    (try simp (disch := omega) only [nT, t_m1000100, t_m1000010, t_m1000003, t_m1000002, t_m1000001, t_m1000000, t_m65535, t_m1000, t_m3, t_m1, t_0, t_1, t_2, t_3, t_4, t_5, t_6, t_7, t_8, t_9, t_10, t_11, t_12, t_13, t_15, t_16, t_20, t_21, t_22, t_32, t_40, t_41, t_48, t_49, t_57, t_59, t_60, t_63, t_72, t_76, t_88, t_100, t_144, t_200, t_255, t_288, t_400, t_800, t_999, t_1000, t_1024, t_1200, t_1600, t_3200, t_100000, t_200000, t_252645135, t_858993459, t_1431655765, u_m1000002, u_m1000001, u_m1000, u_m3, u_m1, u_0, u_1, u_2, u_3, u_4, u_5, u_7, u_8, u_10, u_11, u_15, u_60, u_100, u_255, u_999, u_1000, u_100000, u_4294967295] at hc5)
    refine g_iload_n (i := 2) dX7_die_8 rfl rfl ?_
    refine g_iload_n (i := 3) dX7_die_9 rfl rfl ?_
    refine g_callS (M' := mX6_isPlace) dX7_die_10 lc_X6_isPlace ml_X7_281 (c_isPlace h x y) rfl rfl ⟨Nat.le_of_ble_eq_true rfl, Nat.le_of_ble_eq_true rfl, Nat.le_of_ble_eq_true rfl, Nat.le_of_ble_eq_true rfl⟩ (Nat.le_of_ble_eq_true rfl) ?_
    intro r_ h_ q_; obtain ⟨q1_, q2_⟩ := q_; have q2_ := q2_.symm; subst q1_; subst q2_
    refine g_if_eq (tgt := 33) dX7_die_13 (by decide) (fun hc13 => ?_) (fun hc13 => ?_)
    · replace hc13 := bI_0.mp hc13
      (try simp (disch := omega) only [nT, t_m1000100, t_m1000010, t_m1000003, t_m1000002, t_m1000001, t_m1000000, t_m65535, t_m1000, t_m3, t_m1, t_0, t_1, t_2, t_3, t_4, t_5, t_6, t_7, t_8, t_9, t_10, t_11, t_12, t_13, t_15, t_16, t_20, t_21, t_22, t_32, t_40, t_41, t_48, t_49, t_57, t_59, t_60, t_63, t_72, t_76, t_88, t_100, t_144, t_200, t_255, t_288, t_400, t_800, t_999, t_1000, t_1024, t_1200, t_1600, t_3200, t_100000, t_200000, t_252645135, t_858993459, t_1431655765, u_m1000002, u_m1000001, u_m1000, u_m3, u_m1, u_0, u_1, u_2, u_3, u_4, u_5, u_7, u_8, u_10, u_11, u_15, u_60, u_100, u_255, u_999, u_1000, u_100000, u_4294967295] at hc13)
      rw [show opDie W w x y b = _ from if_pos (by first | omega | exact Or.inr (Or.inr ⟨by assumption, by assumption⟩))] at hQ
      refine g_ldc dX7_die_33 kc_X7_94 ?_
      refine g_iret dX7_die_35 rfl (rfl) (hQ _ _ ?_)
      exact ⟨rfl, hg, fr_rf⟩
    · replace hc13 := bI_n0.mp hc13
      (try simp (disch := omega) only [nT, t_m1000100, t_m1000010, t_m1000003, t_m1000002, t_m1000001, t_m1000000, t_m65535, t_m1000, t_m3, t_m1, t_0, t_1, t_2, t_3, t_4, t_5, t_6, t_7, t_8, t_9, t_10, t_11, t_12, t_13, t_15, t_16, t_20, t_21, t_22, t_32, t_40, t_41, t_48, t_49, t_57, t_59, t_60, t_63, t_72, t_76, t_88, t_100, t_144, t_200, t_255, t_288, t_400, t_800, t_999, t_1000, t_1024, t_1200, t_1600, t_3200, t_100000, t_200000, t_252645135, t_858993459, t_1431655765, u_m1000002, u_m1000001, u_m1000, u_m3, u_m1, u_0, u_1, u_2, u_3, u_4, u_5, u_7, u_8, u_10, u_11, u_15, u_60, u_100, u_255, u_999, u_1000, u_100000, u_4294967295] at hc13)
      refine g_iload dX7_die_16 rfl ?_
      refine g_bipush (v := 16) dX7_die_18 (by decide) ?_
      refine g_callS (M' := mX7_isWithin) dX7_die_20 lc_X7_isWithin ml_X7_90 (c_isWithin h b 16 16 rfl) rfl rfl ⟨Nat.le_of_ble_eq_true rfl, Nat.le_of_ble_eq_true rfl, Nat.le_of_ble_eq_true rfl, Nat.le_of_ble_eq_true rfl⟩ (Nat.le_of_ble_eq_true rfl) ?_
      intro r_ h_ q_; obtain ⟨q1_, q2_⟩ := q_; have q2_ := q2_.symm; subst q1_; subst q2_
      refine g_if_ne (tgt := 36) dX7_die_23 (by decide) (fun hc23 => ?_) (fun hc23 => ?_)
      · replace hc23 := bI_n0.mp hc23
        (try simp (disch := omega) only [nT, t_m1000100, t_m1000010, t_m1000003, t_m1000002, t_m1000001, t_m1000000, t_m65535, t_m1000, t_m3, t_m1, t_0, t_1, t_2, t_3, t_4, t_5, t_6, t_7, t_8, t_9, t_10, t_11, t_12, t_13, t_15, t_16, t_20, t_21, t_22, t_32, t_40, t_41, t_48, t_49, t_57, t_59, t_60, t_63, t_72, t_76, t_88, t_100, t_144, t_200, t_255, t_288, t_400, t_800, t_999, t_1000, t_1024, t_1200, t_1600, t_3200, t_100000, t_200000, t_252645135, t_858993459, t_1431655765, u_m1000002, u_m1000001, u_m1000, u_m3, u_m1, u_0, u_1, u_2, u_3, u_4, u_5, u_7, u_8, u_10, u_11, u_15, u_60, u_100, u_255, u_999, u_1000, u_100000, u_4294967295] at hc23)
        have hb : (0 ≤ b.toInt ∧ b.toInt < 16) ∨ b = -1000000 := by first | (left; assumption) | (right; assumption)
        have e : opDie W w x y b = _ := if_neg (fun q => q.elim (fun q => by omega) (fun q => q.elim (fun q => by omega) (fun q => hb.elim q.1 q.2)))
        have hbb := bv_b hb
        generalize (if b = -1000000 then 0 else b.toInt.toNat + 1) = v at e hbb
        obtain ⟨a1, ha1, rfl, hta1⟩ := n_of (n := 12) (x := x) (by omega) (by omega)
        obtain ⟨a2, ha2, rfl, hta2⟩ := n_of (n := 12) (x := y) (by omega) (by omega)
        rw [nTN (by omega), nTN (by omega)] at e
        refine g_aload_n (i := 0) dX7_die_36 rfl rfl ?_
        refine g_iload_n (i := 1) dX7_die_37 rfl rfl ?_
        refine g_callV (M' := mX7_waferOf) dX7_die_38 lc_X7_waferOf ml_X7_284 (c_waferOf hg w) rfl rfl (by repeat' (first | assumption | exact rF_eq | refine rF_ne (by decide) ?_ | refine rF_a ?_ | exact rA_eq | refine rA_ne (by decide) ?_ | refine rA_f ?_)) rfl ⟨Nat.le_of_ble_eq_true rfl, Nat.le_of_ble_eq_true rfl, Nat.le_of_ble_eq_true rfl, Nat.le_of_ble_eq_true rfl⟩ (Nat.le_of_ble_eq_true rfl) ?_
        intro r_ h_ q_; obtain ⟨q1_, q2_⟩ := q_; have q2_ := q2_.symm; subst q1_; subst q2_
        refine g_iload_n (i := 2) dX7_die_41 rfl rfl ?_
        refine g_iload_n (i := 3) dX7_die_42 rfl rfl ?_
        refine g_iload dX7_die_43 rfl ?_
        refine g_callV (M' := mX6_put) dX7_die_45 lc_X6_put ml_X7_288 (c_wput hr ha1 ha2 b) rfl rfl (by repeat' (first | assumption | exact rF_eq | refine rF_ne (by decide) ?_ | refine rF_a ?_ | exact rA_eq | refine rA_ne (by decide) ?_ | refine rA_f ?_)) rfl ⟨Nat.le_of_ble_eq_true rfl, Nat.le_of_ble_eq_true rfl, Nat.le_of_ble_eq_true rfl, Nat.le_of_ble_eq_true rfl⟩ (Nat.le_of_ble_eq_true rfl) ?_
        intro r_ h_ q_; obtain ⟨q1_, q2_⟩ := q_; have q2_ := q2_.symm; subst q1_; subst q2_
        refine g_iret dX7_die_48 rfl (rfl) (hQ _ _ ?_)
        rw [e]
        by_cases q : w = 0
        · rw [if_pos q, if_pos q]
          refine ⟨rfl, ⟨e1, e2, e3, e4, e5, e6, e7, ?_, e9⟩, fr_sA (by decide) fr_rf⟩
          rw [wOf, if_pos q]
          exact congrArg (aI 144) (bv_u hbb)
        · rw [if_neg q, if_neg q]
          refine ⟨rfl, ⟨e1, e2, e3, e4, e5, e6, e7, e8, ?_⟩, fr_sA (by decide) fr_rf⟩
          rw [wOf, if_neg q]
          exact congrArg (aI 144) (bv_u hbb)
      · replace hc23 := bI_0.mp hc23
        (try simp (disch := omega) only [nT, t_m1000100, t_m1000010, t_m1000003, t_m1000002, t_m1000001, t_m1000000, t_m65535, t_m1000, t_m3, t_m1, t_0, t_1, t_2, t_3, t_4, t_5, t_6, t_7, t_8, t_9, t_10, t_11, t_12, t_13, t_15, t_16, t_20, t_21, t_22, t_32, t_40, t_41, t_48, t_49, t_57, t_59, t_60, t_63, t_72, t_76, t_88, t_100, t_144, t_200, t_255, t_288, t_400, t_800, t_999, t_1000, t_1024, t_1200, t_1600, t_3200, t_100000, t_200000, t_252645135, t_858993459, t_1431655765, u_m1000002, u_m1000001, u_m1000, u_m3, u_m1, u_0, u_1, u_2, u_3, u_4, u_5, u_7, u_8, u_10, u_11, u_15, u_60, u_100, u_255, u_999, u_1000, u_100000, u_4294967295] at hc23)
        refine g_iload dX7_die_26 rfl ?_
        refine g_ldc dX7_die_28 kc_X7_155 ?_
        refine g_icmp_eq (tgt := 36) dX7_die_30 (by decide) (fun hc30 => ?_) (fun hc30 => ?_)
        · have hd30 := i_eq.mp hc30; (try simp (disch := omega) only [nT, t_m1000100, t_m1000010, t_m1000003, t_m1000002, t_m1000001, t_m1000000, t_m65535, t_m1000, t_m3, t_m1, t_0, t_1, t_2, t_3, t_4, t_5, t_6, t_7, t_8, t_9, t_10, t_11, t_12, t_13, t_15, t_16, t_20, t_21, t_22, t_32, t_40, t_41, t_48, t_49, t_57, t_59, t_60, t_63, t_72, t_76, t_88, t_100, t_144, t_200, t_255, t_288, t_400, t_800, t_999, t_1000, t_1024, t_1200, t_1600, t_3200, t_100000, t_200000, t_252645135, t_858993459, t_1431655765, u_m1000002, u_m1000001, u_m1000, u_m3, u_m1, u_0, u_1, u_2, u_3, u_4, u_5, u_7, u_8, u_10, u_11, u_15, u_60, u_100, u_255, u_999, u_1000, u_100000, u_4294967295] at hd30)
          have hb : (0 ≤ b.toInt ∧ b.toInt < 16) ∨ b = -1000000 := by first | (left; assumption) | (right; assumption)
          have e : opDie W w x y b = _ := if_neg (fun q => q.elim (fun q => by omega) (fun q => q.elim (fun q => by omega) (fun q => hb.elim q.1 q.2)))
          have hbb := bv_b hb
          generalize (if b = -1000000 then 0 else b.toInt.toNat + 1) = v at e hbb
          obtain ⟨a1, ha1, rfl, hta1⟩ := n_of (n := 12) (x := x) (by omega) (by omega)
          obtain ⟨a2, ha2, rfl, hta2⟩ := n_of (n := 12) (x := y) (by omega) (by omega)
          rw [nTN (by omega), nTN (by omega)] at e
          refine g_aload_n (i := 0) dX7_die_36 rfl rfl ?_
          refine g_iload_n (i := 1) dX7_die_37 rfl rfl ?_
          refine g_callV (M' := mX7_waferOf) dX7_die_38 lc_X7_waferOf ml_X7_284 (c_waferOf hg w) rfl rfl (by repeat' (first | assumption | exact rF_eq | refine rF_ne (by decide) ?_ | refine rF_a ?_ | exact rA_eq | refine rA_ne (by decide) ?_ | refine rA_f ?_)) rfl ⟨Nat.le_of_ble_eq_true rfl, Nat.le_of_ble_eq_true rfl, Nat.le_of_ble_eq_true rfl, Nat.le_of_ble_eq_true rfl⟩ (Nat.le_of_ble_eq_true rfl) ?_
          intro r_ h_ q_; obtain ⟨q1_, q2_⟩ := q_; have q2_ := q2_.symm; subst q1_; subst q2_
          refine g_iload_n (i := 2) dX7_die_41 rfl rfl ?_
          refine g_iload_n (i := 3) dX7_die_42 rfl rfl ?_
          refine g_iload dX7_die_43 rfl ?_
          refine g_callV (M' := mX6_put) dX7_die_45 lc_X6_put ml_X7_288 (c_wput hr ha1 ha2 b) rfl rfl (by repeat' (first | assumption | exact rF_eq | refine rF_ne (by decide) ?_ | refine rF_a ?_ | exact rA_eq | refine rA_ne (by decide) ?_ | refine rA_f ?_)) rfl ⟨Nat.le_of_ble_eq_true rfl, Nat.le_of_ble_eq_true rfl, Nat.le_of_ble_eq_true rfl, Nat.le_of_ble_eq_true rfl⟩ (Nat.le_of_ble_eq_true rfl) ?_
          intro r_ h_ q_; obtain ⟨q1_, q2_⟩ := q_; have q2_ := q2_.symm; subst q1_; subst q2_
          refine g_iret dX7_die_48 rfl (rfl) (hQ _ _ ?_)
          rw [e]
          by_cases q : w = 0
          · rw [if_pos q, if_pos q]
            refine ⟨rfl, ⟨e1, e2, e3, e4, e5, e6, e7, ?_, e9⟩, fr_sA (by decide) fr_rf⟩
            rw [wOf, if_pos q]
            exact congrArg (aI 144) (bv_u hbb)
          · rw [if_neg q, if_neg q]
            refine ⟨rfl, ⟨e1, e2, e3, e4, e5, e6, e7, e8, ?_⟩, fr_sA (by decide) fr_rf⟩
            rw [wOf, if_neg q]
            exact congrArg (aI 144) (bv_u hbb)
        · have hd30 := mt i_eq.mpr hc30; (try simp (disch := omega) only [nT, t_m1000100, t_m1000010, t_m1000003, t_m1000002, t_m1000001, t_m1000000, t_m65535, t_m1000, t_m3, t_m1, t_0, t_1, t_2, t_3, t_4, t_5, t_6, t_7, t_8, t_9, t_10, t_11, t_12, t_13, t_15, t_16, t_20, t_21, t_22, t_32, t_40, t_41, t_48, t_49, t_57, t_59, t_60, t_63, t_72, t_76, t_88, t_100, t_144, t_200, t_255, t_288, t_400, t_800, t_999, t_1000, t_1024, t_1200, t_1600, t_3200, t_100000, t_200000, t_252645135, t_858993459, t_1431655765, u_m1000002, u_m1000001, u_m1000, u_m3, u_m1, u_0, u_1, u_2, u_3, u_4, u_5, u_7, u_8, u_10, u_11, u_15, u_60, u_100, u_255, u_999, u_1000, u_100000, u_4294967295] at hd30)
          rw [show opDie W w x y b = _ from if_pos (by first | omega | exact Or.inr (Or.inr ⟨by assumption, by assumption⟩))] at hQ
          refine g_ldc dX7_die_33 kc_X7_94 ?_
          refine g_iret dX7_die_35 rfl (rfl) (hQ _ _ ?_)
          exact ⟨rfl, hg, fr_rf⟩
