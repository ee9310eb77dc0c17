/-! a CHIP is TRIED -/
abbrev GL2 : Type := Nat × Nat × (Nat → Nat → Int32)
def WfG (w : GL2) : Prop := w.1 ≤ 200 ∧ w.2.1 ≤ w.1
def LgX (h : HH) (n l : Nat) (fa : Nat → Int32) : Prop := gA h 38 = aO 1 ∧ gF h 38 0 = .ref 39 ∧ gF h 38 1 = .int (nI n) ∧ gF h 38 2 = .int (nI l) ∧ gA h 39 = aI 1200 fa
def GOX (w : GL2) (h : HH) : Prop := ∃ fa, (gA h 0 = aO 7 ∧ gF h 0 13 = .ref 38) ∧ LgX h w.1 w.2.1 fa ∧ ∀ c i, c < w.1 → i < 6 → fa (6 * c + i) = w.2.2 c i
def GOM (w : GL2) (h : HH) : Prop := gA h 44 = aO 8 ∧ gF h 44 36 = .int (nI w.1) ∧ gF h 44 43 = .int (nI w.2.1) ∧ (gF h 44 37 = .ref 66 ∧ gF h 44 38 = .ref 67 ∧ gF h 44 39 = .ref 68 ∧ gF h 44 40 = .ref 69 ∧ gF h 44 41 = .ref 70 ∧ gF h 44 42 = .ref 71) ∧ gA h 66 = aI 200 (fun c => w.2.2 c 0) ∧ gA h 67 = aI 200 (fun c => w.2.2 c 1) ∧ gA h 68 = aI 200 (fun c => w.2.2 c 2) ∧ gA h 69 = aI 200 (fun c => w.2.2 c 3) ∧ gA h 70 = aI 200 (fun c => w.2.2 c 4) ∧ gA h 71 = aI 200 (fun c => w.2.2 c 5)
/-- a TEST is not passed -/
def fls (T : TS) (f : Nat → Int32) (ad : Int32) (t : Nat) : Bool := decide ((f t).toInt + ad.toInt < (T.2.1 t).toInt ∨ (T.2.2.1 t).toInt < (f t).toInt + ad.toInt)
theorem fls_t {T : TS} {f : Nat → Int32} {ad : Int32} {t : Nat} : fls T f ad t = true ↔ (f t).toInt + ad.toInt < (T.2.1 t).toInt ∨ (T.2.2.1 t).toInt < (f t).toInt + ad.toInt := by unfold fls; exact decide_eq_true_iff
/-- in a SEAT that is not DEAD: the BIN and the time; none: an ITEM is not there -/
def scn (T : TS) (f : Nat → Int32) (sz : Int) (ad : Int32) : Nat → Nat → Int32 → Option (Int32 × Int32)
  | 0, _, a => some (0, a)
  | n + 1, k, a => if sz ≤ (tAt T k : Int) then none else if fls T f ad (tAt T k) = true then some (T.2.2.2.2.1 (tAt T k), a + T.2.2.2.1 (tAt T k)) else scn T f sz ad n (k + 1) (a + T.2.2.2.1 (tAt T k))
def eofl (T : TS) (f : Nat → Int32) (sz : Int) (ad : Int32) : Nat → Nat → Option Nat
  | 0, k => some k
  | n + 1, k => if sz ≤ (tAt T k : Int) then none else if fls T f ad (tAt T k) = true then some k else eofl T f sz ad n (k + 1)
def tsum (T : TS) : Nat → Nat → Int32 → Int32
  | 0, _, a => a
  | m + 1, k, a => tsum T m (k + 1) (a + T.2.2.2.1 (tAt T k))
theorem scn_none {T : TS} {f : Nat → Int32} {sz : Int} {ad : Int32} : ∀ (n k : Nat) (a : Int32), eofl T f sz ad n k = none → scn T f sz ad n k a = none
  | 0, k, a, h => by cases h
  | n + 1, k, a, h => by
    unfold eofl at h
    unfold scn
    by_cases h1 : sz ≤ (tAt T k : Int)
    · rw [if_pos h1]
    · rw [if_neg h1] at h ⊢
      by_cases h2 : fls T f ad (tAt T k) = true
      · rw [if_pos h2] at h; cases h
      · rw [if_neg h2] at h ⊢
        exact scn_none n (k + 1) _ h
theorem scn_some {T : TS} {f : Nat → Int32} {sz : Int} {ad : Int32} : ∀ (n k e : Nat) (a : Int32), eofl T f sz ad n k = some e → k ≤ e ∧ e ≤ k + n ∧ scn T f sz ad n k a = some (if e < k + n then T.2.2.2.2.1 (tAt T e) else 0, tsum T (if e < k + n then e - k + 1 else n) k a)
  | 0, k, e, a, h => by
    cases h
    refine ⟨Nat.le_refl _, Nat.le_refl _, ?_⟩
    rw [if_neg (by omega), if_neg (by omega)]; rfl
  | n + 1, k, e, a, h => by
    unfold eofl at h
    unfold scn
    by_cases h1 : sz ≤ (tAt T k : Int)
    · rw [if_pos h1] at h; cases h
    · rw [if_neg h1] at h ⊢
      by_cases h2 : fls T f ad (tAt T k) = true
      · rw [if_pos h2] at h ⊢
        cases h
        refine ⟨Nat.le_refl _, by omega, ?_⟩
        rw [if_pos (by omega), if_pos (by omega), Nat.sub_self]; rfl
      · rw [if_neg h2] at h ⊢
        obtain ⟨q1, q2, q3⟩ := scn_some n (k + 1) e (a + T.2.2.2.1 (tAt T k)) h
        refine ⟨by omega, by omega, ?_⟩
        rw [q3]
        by_cases q : e < k + 1 + n
        · rw [if_pos q, if_pos q, if_pos (by omega), if_pos (by omega), show e - k + 1 = (e - (k + 1) + 1) + 1 by omega]; rfl
        · rw [if_neg q, if_neg q, if_neg (by omega), if_neg (by omega)]; rfl
theorem scn_acc {T : TS} {f : Nat → Int32} {sz : Int} {ad : Int32} (b : Int32) : ∀ (n k : Nat) (a : Int32), scn T f sz ad n k (b + a) = (scn T f sz ad n k a).map (fun q => (q.1, b + q.2))
  | 0, k, a => rfl
  | n + 1, k, a => by
    unfold scn
    by_cases h1 : sz ≤ (tAt T k : Int)
    · rw [if_pos h1, if_pos h1]; rfl
    · rw [if_neg h1, if_neg h1]
      by_cases h2 : fls T f ad (tAt T k) = true
      · rw [if_pos h2, if_pos h2, Int32.add_assoc]; rfl
      · rw [if_neg h2, if_neg h2, Int32.add_assoc]; exact scn_acc b n (k + 1) _
theorem tAt_lt {T : TS} (hT : WfT T) {k : Nat} (hk : k < T.1) : tAt T k < T.1 ∧ T.2.2.2.2.2.2 k = nI (tAt T k) := by
  obtain ⟨j, hj, e⟩ := hT.2.1 k hk
  have h10 := hT.1
  unfold tAt
  rw [e, nTN (by omega)]
  exact ⟨hj, rfl⟩
theorem scn_bin {T : TS} (hT : WfT T) {f : Nat → Int32} {sz : Int} {ad : Int32} : ∀ (n k : Nat) (a b y : Int32), k + n ≤ T.1 → scn T f sz ad n k a = some (b, y) → 0 ≤ b.toInt ∧ b.toInt ≤ 15
  | 0, k, a, b, y, _, h => by cases h; decide
  | n + 1, k, a, b, y, hk, h => by
    unfold scn at h
    by_cases h1 : sz ≤ (tAt T k : Int)
    · rw [if_pos h1] at h; cases h
    · rw [if_neg h1] at h
      by_cases h2 : fls T f ad (tAt T k) = true
      · rw [if_pos h2] at h
        cases h
        have := (hT.2.2.2.2 (tAt T k) (tAt_lt hT (by omega)).1).2.2
        omega
      · rw [if_neg h2] at h
        exact scn_bin hT n (k + 1) _ b y (by omega) h
theorem c_passes {T : TS} {h : HH} (hs : TX' h T) {t : Nat} (ht : t < 10) (v : Int64) : CT mX5_passes 0 0 0 [.ref 27, .int (nI t), .long v] h (fun r h' => r = some (.int (bI ((T.2.1 t).toInt ≤ v.toInt ∧ v.toInt ≤ (T.2.2.1 t).toInt))) ∧ h' = h) := by
  obtain ⟨e1, e2, e3, e4, e5, e6, e7, e8, e9, e10, e11, e12, e13, e14⟩ := hs
  refine CT.go [.ref 27, .int (nI t), .long v, hU] (by decide +kernel) rfl rfl (fun Q' hQ => ?_)
  refine g_lload_n (i := 2) dX5_passes_0 rfl rfl ?_
  refine g_aload_n (i := 0) dX5_passes_1 rfl rfl ?_
  refine g_get dX5_passes_2 fl_X5_15 (by repeat' (first | assumption | exact rF_eq | refine rF_ne (by decide) ?_ | refine rF_a ?_ | exact rA_eq | refine rA_ne (by decide) ?_ | refine rA_f ?_)) (by repeat' (first | assumption | exact rF_eq | refine rF_ne (by decide) ?_ | refine rF_a ?_ | exact rA_eq | refine rA_ne (by decide) ?_ | refine rA_f ?_)) ?_
  refine g_iload_n (i := 1) dX5_passes_5 rfl rfl ?_
  refine g_iald dX5_passes_6 (by repeat' (first | assumption | exact rF_eq | refine rF_ne (by decide) ?_ | refine rF_a ?_ | exact rA_eq | refine rA_ne (by decide) ?_ | refine rA_f ?_)) (nT (by omega)) (ht) ?_
  refine g_i2l dX5_passes_7 ?_
  refine g_lcmp dX5_passes_8 ?_
  refine g_if_lt (tgt := 28) dX5_passes_9 (by decide) (fun hc9 => ?_) (fun hc9 => ?_)
  · replace hc9 := lc_lt.mp hc9; (try simp only [l_add32, l_i] at hc9)
    (try simp (disch := omega) only [nT, t_m1000100, t_m1000010, t_m1000003, t_m1000002, t_m1000001, t_m1000000, t_m65535, t_m1000, t_m3, t_m1, t_0, t_1, t_2, t_3, t_4, t_5, t_6, t_7, t_8, t_9, t_10, t_11, t_12, t_13, t_15, t_16, t_20, t_21, t_22, t_32, t_40, t_41, t_48, t_49, t_57, t_59, t_60, t_63, t_72, t_76, t_88, t_100, t_144, t_200, t_255, t_288, t_400, t_800, t_999, t_1000, t_1024, t_1200, t_1600, t_3200, t_100000, t_200000, t_252645135, t_858993459, t_1431655765, u_m1000002, u_m1000001, u_m1000, u_m3, u_m1, u_0, u_1, u_2, u_3, u_4, u_5, u_7, u_8, u_10, u_11, u_15, u_60, u_100, u_255, u_999, u_1000, u_100000, u_4294967295] at hc9)
    refine g_iconst (v := 0) dX5_passes_28 (by decide) ?_
    refine g_iret dX5_passes_29 rfl (rfl) (hQ _ _ ?_)
    refine ⟨?_, rfl⟩
    first | rw [bI_t ⟨by omega, by omega⟩] | rw [bI_f (fun q => by omega)]
  · replace hc9 := lc_ge.mp hc9; (try simp only [l_add32, l_i] at hc9)
    (try simp (disch := omega) only [nT, t_m1000100, t_m1000010, t_m1000003, t_m1000002, t_m1000001, t_m1000000, t_m65535, t_m1000, t_m3, t_m1, t_0, t_1, t_2, t_3, t_4, t_5, t_6, t_7, t_8, t_9, t_10, t_11, t_12, t_13, t_15, t_16, t_20, t_21, t_22, t_32, t_40, t_41, t_48, t_49, t_57, t_59, t_60, t_63, t_72, t_76, t_88, t_100, t_144, t_200, t_255, t_288, t_400, t_800, t_999, t_1000, t_1024, t_1200, t_1600, t_3200, t_100000, t_200000, t_252645135, t_858993459, t_1431655765, u_m1000002, u_m1000001, u_m1000, u_m3, u_m1, u_0, u_1, u_2, u_3, u_4, u_5, u_7, u_8, u_10, u_11, u_15, u_60, u_100, u_255, u_999, u_1000, u_100000, u_4294967295] at hc9)
    refine g_lload_n (i := 2) dX5_passes_12 rfl rfl ?_
    refine g_aload_n (i := 0) dX5_passes_13 rfl rfl ?_
    refine g_get dX5_passes_14 fl_X5_19 (by repeat' (first | assumption | exact rF_eq | refine rF_ne (by decide) ?_ | refine rF_a ?_ | exact rA_eq | refine rA_ne (by decide) ?_ | refine rA_f ?_)) (by repeat' (first | assumption | exact rF_eq | refine rF_ne (by decide) ?_ | refine rF_a ?_ | exact rA_eq | refine rA_ne (by decide) ?_ | refine rA_f ?_)) ?_
    refine g_iload_n (i := 1) dX5_passes_17 rfl rfl ?_
    refine g_iald dX5_passes_18 (by repeat' (first | assumption | exact rF_eq | refine rF_ne (by decide) ?_ | refine rF_a ?_ | exact rA_eq | refine rA_ne (by decide) ?_ | refine rA_f ?_)) (nT (by omega)) (ht) ?_
    refine g_i2l dX5_passes_19 ?_
    refine g_lcmp dX5_passes_20 ?_
    refine g_if_gt (tgt := 28) dX5_passes_21 (by decide) (fun hc21 => ?_) (fun hc21 => ?_)
    · replace hc21 := lc_gt.mp hc21; (try simp only [l_add32, l_i] at hc21)
      (try simp (disch := omega) only [nT, t_m1000100, t_m1000010, t_m1000003, t_m1000002, t_m1000001, t_m1000000, t_m65535, t_m1000, t_m3, t_m1, t_0, t_1, t_2, t_3, t_4, t_5, t_6, t_7, t_8, t_9, t_10, t_11, t_12, t_13, t_15, t_16, t_20, t_21, t_22, t_32, t_40, t_41, t_48, t_49, t_57, t_59, t_60, t_63, t_72, t_76, t_88, t_100, t_144, t_200, t_255, t_288, t_400, t_800, t_999, t_1000, t_1024, t_1200, t_1600, t_3200, t_100000, t_200000, t_252645135, t_858993459, t_1431655765, u_m1000002, u_m1000001, u_m1000, u_m3, u_m1, u_0, u_1, u_2, u_3, u_4, u_5, u_7, u_8, u_10, u_11, u_15, u_60, u_100, u_255, u_999, u_1000, u_100000, u_4294967295] at hc21)
      refine g_iconst (v := 0) dX5_passes_28 (by decide) ?_
      refine g_iret dX5_passes_29 rfl (rfl) (hQ _ _ ?_)
      refine ⟨?_, rfl⟩
      first | rw [bI_t ⟨by omega, by omega⟩] | rw [bI_f (fun q => by omega)]
    · replace hc21 := lc_le.mp hc21; (try simp only [l_add32, l_i] at hc21)
      (try simp (disch := omega) only [nT, t_m1000100, t_m1000010, t_m1000003, t_m1000002, t_m1000001, t_m1000000, t_m65535, t_m1000, t_m3, t_m1, t_0, t_1, t_2, t_3, t_4, t_5, t_6, t_7, t_8, t_9, t_10, t_11, t_12, t_13, t_15, t_16, t_20, t_21, t_22, t_32, t_40, t_41, t_48, t_49, t_57, t_59, t_60, t_63, t_72, t_76, t_88, t_100, t_144, t_200, t_255, t_288, t_400, t_800, t_999, t_1000, t_1024, t_1200, t_1600, t_3200, t_100000, t_200000, t_252645135, t_858993459, t_1431655765, u_m1000002, u_m1000001, u_m1000, u_m3, u_m1, u_0, u_1, u_2, u_3, u_4, u_5, u_7, u_8, u_10, u_11, u_15, u_60, u_100, u_255, u_999, u_1000, u_100000, u_4294967295] at hc21)
      refine g_iconst (v := 1) dX5_passes_24 (by decide) ?_
      refine g_goto (tgt := 29) dX5_passes_25 (by decide) ?_
      refine g_iret dX5_passes_29 rfl (rfl) (hQ _ _ ?_)
      refine ⟨?_, rfl⟩
      first | rw [bI_t ⟨by omega, by omega⟩] | rw [bI_f (fun q => by omega)]
theorem c_binAtEnd {T : TS} (hT : WfT T) {h : HH} (hs : TX' h T) {e : Nat} (he : e ≤ T.1) : CT mX5_binAtEnd 0 0 0 [.ref 27, .int (nI e)] h (fun r h' => r = some (.int (if e < T.1 then T.2.2.2.2.1 (tAt T e) else 0)) ∧ h' = h) := by
  obtain ⟨e1, e2, e3, e4, e5, e6, e7, e8, e9, e10, e11, e12, e13, e14⟩ := hs
  have h10 := hT.1
  refine CT.go [.ref 27, .int (nI e)] (by decide +kernel) rfl rfl (fun Q' hQ => ?_)
  refine g_iload_n (i := 1) dX5_binAtEnd_0 rfl rfl ?_
  refine g_aload_n (i := 0) dX5_binAtEnd_1 rfl rfl ?_
  refine g_get dX5_binAtEnd_2 fl_X5_9 (by repeat' (first | assumption | exact rF_eq | refine rF_ne (by decide) ?_ | refine rF_a ?_ | exact rA_eq | refine rA_ne (by decide) ?_ | refine rA_f ?_)) (by repeat' (first | assumption | exact rF_eq | refine rF_ne (by decide) ?_ | refine rF_a ?_ | exact rA_eq | refine rA_ne (by decide) ?_ | refine rA_f ?_)) ?_
  refine g_icmp_ge (tgt := 22) dX5_binAtEnd_5 (by decide) (fun hc5 => ?_) (fun hc5 => ?_)
  · (try simp (disch := omega) only [nT, t_m1000100, t_m1000010, t_m1000003, t_m1000002, t_m1000001, t_m1000000, t_m65535, t_m1000, t_m3, t_m1, t_0, t_1, t_2, t_3, t_4, t_5, t_6, t_7, t_8, t_9, t_10, t_11, t_12, t_13, t_15, t_16, t_20, t_21, t_22, t_32, t_40, t_41, t_48, t_49, t_57, t_59, t_60, t_63, t_72, t_76, t_88, t_100, t_144, t_200, t_255, t_288, t_400, t_800, t_999, t_1000, t_1024, t_1200, t_1600, t_3200, t_100000, t_200000, t_252645135, t_858993459, t_1431655765, u_m1000002, u_m1000001, u_m1000, u_m3, u_m1, u_0, u_1, u_2, u_3, u_4, u_5, u_7, u_8, u_10, u_11, u_15, u_60, u_100, u_255, u_999, u_1000, u_100000, u_4294967295] at hc5)
    refine g_iconst (v := 0) dX5_binAtEnd_22 (by decide) ?_
    refine g_iret dX5_binAtEnd_23 rfl (rfl) (hQ _ _ ?_)
    refine ⟨?_, rfl⟩
    first | rw [if_pos (by omega)] | rw [if_neg (by omega)]
  · (try simp (disch := omega) only [nT, t_m1000100, t_m1000010, t_m1000003, t_m1000002, t_m1000001, t_m1000000, t_m65535, t_m1000, t_m3, t_m1, t_0, t_1, t_2, t_3, t_4, t_5, t_6, t_7, t_8, t_9, t_10, t_11, t_12, t_13, t_15, t_16, t_20, t_21, t_22, t_32, t_40, t_41, t_48, t_49, t_57, t_59, t_60, t_63, t_72, t_76, t_88, t_100, t_144, t_200, t_255, t_288, t_400, t_800, t_999, t_1000, t_1024, t_1200, t_1600, t_3200, t_100000, t_200000, t_252645135, t_858993459, t_1431655765, u_m1000002, u_m1000001, u_m1000, u_m3, u_m1, u_0, u_1, u_2, u_3, u_4, u_5, u_7, u_8, u_10, u_11, u_15, u_60, u_100, u_255, u_999, u_1000, u_100000, u_4294967295] at hc5)
    obtain ⟨q1, q2⟩ := tAt_lt hT (show e < T.1 by omega)
    refine g_aload_n (i := 0) dX5_binAtEnd_8 rfl rfl ?_
    refine g_get dX5_binAtEnd_9 fl_X5_25 (by repeat' (first | assumption | exact rF_eq | refine rF_ne (by decide) ?_ | refine rF_a ?_ | exact rA_eq | refine rA_ne (by decide) ?_ | refine rA_f ?_)) (by repeat' (first | assumption | exact rF_eq | refine rF_ne (by decide) ?_ | refine rF_a ?_ | exact rA_eq | refine rA_ne (by decide) ?_ | refine rA_f ?_)) ?_
    refine g_aload_n (i := 0) dX5_binAtEnd_12 rfl rfl ?_
    refine g_get dX5_binAtEnd_13 fl_X5_31 (by repeat' (first | assumption | exact rF_eq | refine rF_ne (by decide) ?_ | refine rF_a ?_ | exact rA_eq | refine rA_ne (by decide) ?_ | refine rA_f ?_)) (by repeat' (first | assumption | exact rF_eq | refine rF_ne (by decide) ?_ | refine rF_a ?_ | exact rA_eq | refine rA_ne (by decide) ?_ | refine rA_f ?_)) ?_
    refine g_iload_n (i := 1) dX5_binAtEnd_16 rfl rfl ?_
    refine g_iald dX5_binAtEnd_17 (by repeat' (first | assumption | exact rF_eq | refine rF_ne (by decide) ?_ | refine rF_a ?_ | exact rA_eq | refine rA_ne (by decide) ?_ | refine rA_f ?_)) (nT (by omega)) (by omega) ?_
    rw [q2]
    refine g_iald dX5_binAtEnd_18 (by repeat' (first | assumption | exact rF_eq | refine rF_ne (by decide) ?_ | refine rF_a ?_ | exact rA_eq | refine rA_ne (by decide) ?_ | refine rA_f ?_)) (nT (by omega)) (by omega) ?_
    refine g_goto (tgt := 23) dX5_binAtEnd_19 (by decide) ?_
    refine g_iret dX5_binAtEnd_23 rfl (rfl) (hQ _ _ ?_)
    refine ⟨?_, rfl⟩
    first | rw [if_pos (by omega)] | rw [if_neg (by omega)]
theorem c_timeToEnd {T : TS} (hT : WfT T) {h : HH} (hs : TX' h T) {e : Nat} (he : e ≤ T.1) : CT mX5_timeToEnd 0 0 0 [.ref 27, .int (nI e)] h (fun r h' => r = some (.int (tsum T (if e < T.1 then e + 1 else T.1) 0 0)) ∧ h' = h) := by
  obtain ⟨e1, e2, e3, e4, e5, e6, e7, e8, e9, e10, e11, e12, e13, e14⟩ := hs
  have h10 := hT.1
  refine CT.go [.ref 27, .int (nI e), hU, hU] (by decide +kernel) rfl rfl (fun Q' hQ => ?_)
  generalize hz : tsum T (if e < T.1 then e + 1 else T.1) 0 0 = z at hQ
  have hM : (if e < T.1 then e + 1 else T.1) ≤ T.1 ∧ (if e < T.1 then e + 1 else T.1) ≤ e + 1 ∧ ((if e < T.1 then e + 1 else T.1) = e + 1 ∨ (if e < T.1 then e + 1 else T.1) = T.1) := by split <;> omega
  generalize (if e < T.1 then e + 1 else T.1) = M at hz hM
  have key : ∀ m k a, k + m = M → tsum T m k a = z → GG (EM mX5_timeToEnd 0 0 0 Q') 0 0 4 [.ref 27, .int (nI e), .int a, .int (nI k)] [] h := by
    intro m
    induction m with
    | zero =>
      intro k a hk ha
      have ha2 : a = z := ha
      subst ha2
      refine g_iload_n (i := 3) dX5_timeToEnd_4 rfl rfl ?_
      refine g_iload_n (i := 1) dX5_timeToEnd_5 rfl rfl ?_
      refine g_icmp_gt (tgt := 37) dX5_timeToEnd_6 (by decide) (fun hc6 => ?_) (fun hc6 => ?_)
      · (try simp (disch := omega) only [nT, t_m1000100, t_m1000010, t_m1000003, t_m1000002, t_m1000001, t_m1000000, t_m65535, t_m1000, t_m3, t_m1, t_0, t_1, t_2, t_3, t_4, t_5, t_6, t_7, t_8, t_9, t_10, t_11, t_12, t_13, t_15, t_16, t_20, t_21, t_22, t_32, t_40, t_41, t_48, t_49, t_57, t_59, t_60, t_63, t_72, t_76, t_88, t_100, t_144, t_200, t_255, t_288, t_400, t_800, t_999, t_1000, t_1024, t_1200, t_1600, t_3200, t_100000, t_200000, t_252645135, t_858993459, t_1431655765, u_m1000002, u_m1000001, u_m1000, u_m3, u_m1, u_0, u_1, u_2, u_3, u_4, u_5, u_7, u_8, u_10, u_11, u_15, u_60, u_100, u_255, u_999, u_1000, u_100000, u_4294967295] at hc6)
        refine g_iload_n (i := 2) dX5_timeToEnd_37 rfl rfl ?_
        refine g_iret dX5_timeToEnd_38 rfl (rfl) (hQ _ _ ?_)
        exact ⟨rfl, rfl⟩
      · (try simp (disch := omega) only [nT, t_m1000100, t_m1000010, t_m1000003, t_m1000002, t_m1000001, t_m1000000, t_m65535, t_m1000, t_m3, t_m1, t_0, t_1, t_2, t_3, t_4, t_5, t_6, t_7, t_8, t_9, t_10, t_11, t_12, t_13, t_15, t_16, t_20, t_21, t_22, t_32, t_40, t_41, t_48, t_49, t_57, t_59, t_60, t_63, t_72, t_76, t_88, t_100, t_144, t_200, t_255, t_288, t_400, t_800, t_999, t_1000, t_1024, t_1200, t_1600, t_3200, t_100000, t_200000, t_252645135, t_858993459, t_1431655765, u_m1000002, u_m1000001, u_m1000, u_m3, u_m1, u_0, u_1, u_2, u_3, u_4, u_5, u_7, u_8, u_10, u_11, u_15, u_60, u_100, u_255, u_999, u_1000, u_100000, u_4294967295] at hc6)
        refine g_iload_n (i := 3) dX5_timeToEnd_9 rfl rfl ?_
        refine g_aload_n (i := 0) dX5_timeToEnd_10 rfl rfl ?_
        refine g_get dX5_timeToEnd_11 fl_X5_9 (by repeat' (first | assumption | exact rF_eq | refine rF_ne (by decide) ?_ | refine rF_a ?_ | exact rA_eq | refine rA_ne (by decide) ?_ | refine rA_f ?_)) (by repeat' (first | assumption | exact rF_eq | refine rF_ne (by decide) ?_ | refine rF_a ?_ | exact rA_eq | refine rA_ne (by decide) ?_ | refine rA_f ?_)) ?_
        refine g_icmp_ge (tgt := 37) dX5_timeToEnd_14 (by decide) (fun hc14 => ?_) (fun hc14 => ?_)
        · (try simp (disch := omega) only [nT, t_m1000100, t_m1000010, t_m1000003, t_m1000002, t_m1000001, t_m1000000, t_m65535, t_m1000, t_m3, t_m1, t_0, t_1, t_2, t_3, t_4, t_5, t_6, t_7, t_8, t_9, t_10, t_11, t_12, t_13, t_15, t_16, t_20, t_21, t_22, t_32, t_40, t_41, t_48, t_49, t_57, t_59, t_60, t_63, t_72, t_76, t_88, t_100, t_144, t_200, t_255, t_288, t_400, t_800, t_999, t_1000, t_1024, t_1200, t_1600, t_3200, t_100000, t_200000, t_252645135, t_858993459, t_1431655765, u_m1000002, u_m1000001, u_m1000, u_m3, u_m1, u_0, u_1, u_2, u_3, u_4, u_5, u_7, u_8, u_10, u_11, u_15, u_60, u_100, u_255, u_999, u_1000, u_100000, u_4294967295] at hc14)
          refine g_iload_n (i := 2) dX5_timeToEnd_37 rfl rfl ?_
          refine g_iret dX5_timeToEnd_38 rfl (rfl) (hQ _ _ ?_)
          exact ⟨rfl, rfl⟩
        · (try simp (disch := omega) only [nT, t_m1000100, t_m1000010, t_m1000003, t_m1000002, t_m1000001, t_m1000000, t_m65535, t_m1000, t_m3, t_m1, t_0, t_1, t_2, t_3, t_4, t_5, t_6, t_7, t_8, t_9, t_10, t_11, t_12, t_13, t_15, t_16, t_20, t_21, t_22, t_32, t_40, t_41, t_48, t_49, t_57, t_59, t_60, t_63, t_72, t_76, t_88, t_100, t_144, t_200, t_255, t_288, t_400, t_800, t_999, t_1000, t_1024, t_1200, t_1600, t_3200, t_100000, t_200000, t_252645135, t_858993459, t_1431655765, u_m1000002, u_m1000001, u_m1000, u_m3, u_m1, u_0, u_1, u_2, u_3, u_4, u_5, u_7, u_8, u_10, u_11, u_15, u_60, u_100, u_255, u_999, u_1000, u_100000, u_4294967295] at hc14); omega
    | succ m ih =>
      intro k a hk ha
      obtain ⟨q1, q2⟩ := tAt_lt hT (show k < T.1 by omega)
      refine g_iload_n (i := 3) dX5_timeToEnd_4 rfl rfl ?_
      refine g_iload_n (i := 1) dX5_timeToEnd_5 rfl rfl ?_
      refine g_icmp_gt (tgt := 37) dX5_timeToEnd_6 (by decide) (fun hc6 => ?_) (fun hc6 => ?_)
      · (try simp (disch := omega) only [nT, t_m1000100, t_m1000010, t_m1000003, t_m1000002, t_m1000001, t_m1000000, t_m65535, t_m1000, t_m3, t_m1, t_0, t_1, t_2, t_3, t_4, t_5, t_6, t_7, t_8, t_9, t_10, t_11, t_12, t_13, t_15, t_16, t_20, t_21, t_22, t_32, t_40, t_41, t_48, t_49, t_57, t_59, t_60, t_63, t_72, t_76, t_88, t_100, t_144, t_200, t_255, t_288, t_400, t_800, t_999, t_1000, t_1024, t_1200, t_1600, t_3200, t_100000, t_200000, t_252645135, t_858993459, t_1431655765, u_m1000002, u_m1000001, u_m1000, u_m3, u_m1, u_0, u_1, u_2, u_3, u_4, u_5, u_7, u_8, u_10, u_11, u_15, u_60, u_100, u_255, u_999, u_1000, u_100000, u_4294967295] at hc6); omega
      · (try simp (disch := omega) only [nT, t_m1000100, t_m1000010, t_m1000003, t_m1000002, t_m1000001, t_m1000000, t_m65535, t_m1000, t_m3, t_m1, t_0, t_1, t_2, t_3, t_4, t_5, t_6, t_7, t_8, t_9, t_10, t_11, t_12, t_13, t_15, t_16, t_20, t_21, t_22, t_32, t_40, t_41, t_48, t_49, t_57, t_59, t_60, t_63, t_72, t_76, t_88, t_100, t_144, t_200, t_255, t_288, t_400, t_800, t_999, t_1000, t_1024, t_1200, t_1600, t_3200, t_100000, t_200000, t_252645135, t_858993459, t_1431655765, u_m1000002, u_m1000001, u_m1000, u_m3, u_m1, u_0, u_1, u_2, u_3, u_4, u_5, u_7, u_8, u_10, u_11, u_15, u_60, u_100, u_255, u_999, u_1000, u_100000, u_4294967295] at hc6)
        refine g_iload_n (i := 3) dX5_timeToEnd_9 rfl rfl ?_
        refine g_aload_n (i := 0) dX5_timeToEnd_10 rfl rfl ?_
        refine g_get dX5_timeToEnd_11 fl_X5_9 (by repeat' (first | assumption | exact rF_eq | refine rF_ne (by decide) ?_ | refine rF_a ?_ | exact rA_eq | refine rA_ne (by decide) ?_ | refine rA_f ?_)) (by repeat' (first | assumption | exact rF_eq | refine rF_ne (by decide) ?_ | refine rF_a ?_ | exact rA_eq | refine rA_ne (by decide) ?_ | refine rA_f ?_)) ?_
        refine g_icmp_ge (tgt := 37) dX5_timeToEnd_14 (by decide) (fun hc14 => ?_) (fun hc14 => ?_)
        · (try simp (disch := omega) only [nT, t_m1000100, t_m1000010, t_m1000003, t_m1000002, t_m1000001, t_m1000000, t_m65535, t_m1000, t_m3, t_m1, t_0, t_1, t_2, t_3, t_4, t_5, t_6, t_7, t_8, t_9, t_10, t_11, t_12, t_13, t_15, t_16, t_20, t_21, t_22, t_32, t_40, t_41, t_48, t_49, t_57, t_59, t_60, t_63, t_72, t_76, t_88, t_100, t_144, t_200, t_255, t_288, t_400, t_800, t_999, t_1000, t_1024, t_1200, t_1600, t_3200, t_100000, t_200000, t_252645135, t_858993459, t_1431655765, u_m1000002, u_m1000001, u_m1000, u_m3, u_m1, u_0, u_1, u_2, u_3, u_4, u_5, u_7, u_8, u_10, u_11, u_15, u_60, u_100, u_255, u_999, u_1000, u_100000, u_4294967295] at hc14); omega
        · (try simp (disch := omega) only [nT, t_m1000100, t_m1000010, t_m1000003, t_m1000002, t_m1000001, t_m1000000, t_m65535, t_m1000, t_m3, t_m1, t_0, t_1, t_2, t_3, t_4, t_5, t_6, t_7, t_8, t_9, t_10, t_11, t_12, t_13, t_15, t_16, t_20, t_21, t_22, t_32, t_40, t_41, t_48, t_49, t_57, t_59, t_60, t_63, t_72, t_76, t_88, t_100, t_144, t_200, t_255, t_288, t_400, t_800, t_999, t_1000, t_1024, t_1200, t_1600, t_3200, t_100000, t_200000, t_252645135, t_858993459, t_1431655765, u_m1000002, u_m1000001, u_m1000, u_m3, u_m1, u_0, u_1, u_2, u_3, u_4, u_5, u_7, u_8, u_10, u_11, u_15, u_60, u_100, u_255, u_999, u_1000, u_100000, u_4294967295] at hc14)
          refine g_iload_n (i := 2) dX5_timeToEnd_17 rfl rfl ?_
          refine g_aload_n (i := 0) dX5_timeToEnd_18 rfl rfl ?_
          refine g_get dX5_timeToEnd_19 fl_X5_22 (by repeat' (first | assumption | exact rF_eq | refine rF_ne (by decide) ?_ | refine rF_a ?_ | exact rA_eq | refine rA_ne (by decide) ?_ | refine rA_f ?_)) (by repeat' (first | assumption | exact rF_eq | refine rF_ne (by decide) ?_ | refine rF_a ?_ | exact rA_eq | refine rA_ne (by decide) ?_ | refine rA_f ?_)) ?_
          refine g_aload_n (i := 0) dX5_timeToEnd_22 rfl rfl ?_
          refine g_get dX5_timeToEnd_23 fl_X5_31 (by repeat' (first | assumption | exact rF_eq | refine rF_ne (by decide) ?_ | refine rF_a ?_ | exact rA_eq | refine rA_ne (by decide) ?_ | refine rA_f ?_)) (by repeat' (first | assumption | exact rF_eq | refine rF_ne (by decide) ?_ | refine rF_a ?_ | exact rA_eq | refine rA_ne (by decide) ?_ | refine rA_f ?_)) ?_
          refine g_iload_n (i := 3) dX5_timeToEnd_26 rfl rfl ?_
          refine g_iald dX5_timeToEnd_27 (by repeat' (first | assumption | exact rF_eq | refine rF_ne (by decide) ?_ | refine rF_a ?_ | exact rA_eq | refine rA_ne (by decide) ?_ | refine rA_f ?_)) (nT (by omega)) (by omega) ?_
          rw [q2]
          refine g_iald dX5_timeToEnd_28 (by repeat' (first | assumption | exact rF_eq | refine rF_ne (by decide) ?_ | refine rF_a ?_ | exact rA_eq | refine rA_ne (by decide) ?_ | refine rA_f ?_)) (nT (by omega)) (by omega) ?_
          refine g_iadd dX5_timeToEnd_29 ?_
          refine g_istore_n (i := 2) dX5_timeToEnd_30 rfl (Nat.le_of_ble_eq_true rfl) rfl ?_
          refine g_iinc dX5_timeToEnd_31 rfl (Nat.le_of_ble_eq_true rfl) rfl ?_
          refine g_goto (tgt := 4) dX5_timeToEnd_34 (by decide) ?_
          rw [ni_incO]; exact ih (k + 1) _ (by omega) ha
  refine g_iconst (v := 0) dX5_timeToEnd_0 (by decide) ?_
  refine g_istore_n (i := 2) dX5_timeToEnd_1 rfl (Nat.le_of_ble_eq_true rfl) rfl ?_
  refine g_iconst (v := 0) dX5_timeToEnd_2 (by decide) ?_
  refine g_istore_n (i := 3) dX5_timeToEnd_3 rfl (Nat.le_of_ble_eq_true rfl) rfl ?_
  exact key M 0 0 (by omega) hz
def eoV (o : Option Nat) : Int32 := match o with
  | none => -1000000
  | some e => nI e
theorem c_endOfFlow {T : TS} (hT : WfT T) {h : HH} (h0 : gA h 0 = aO 7 ∧ gF h 0 0 = .ref 1 ∧ gF h 0 7 = .ref 27) (hs : TX' h T) {ln sz it : Nat → Int32} (hS : ShX h ln sz it) {a : Nat} (ha : a < 8) (hz : (sz a).toInt ≤ 100) (ad : Int32) : CT mX7_endOfFlow 2 0 0 [.ref 0, .int (nI a), .int ad] h (fun r h' => r = some (.int (eoV (eofl T (fun q => it (100 * a + q)) (sz a).toInt ad T.1 0))) ∧ h' = h) := by
  obtain ⟨d1, d2, d3⟩ := h0
  obtain ⟨e1, e2, e3, e4, e5, e6, e7, e8, e9, e10, e11, e12, e13, e14⟩ := id hs
  have c1 := hS.1
  have h10 := hT.1
  refine CT.go [.ref 0, .int (nI a), .int ad, hU, hU] (by decide +kernel) rfl rfl (fun Q' hQ => ?_)
  generalize hzz : eofl T (fun q => it (100 * a + q)) (sz a).toInt ad T.1 0 = z at hQ
  have key : ∀ n k (x4 : Value), k + n = T.1 → eofl T (fun q => it (100 * a + q)) (sz a).toInt ad n k = z → GG (EM mX7_endOfFlow 2 0 0 Q') 0 0 2 [.ref 0, .int (nI a), .int ad, .int (nI k), x4] [] h := by
    intro n
    induction n with
    | zero =>
      intro k x4 hk hzk
      have hzk2 : z = some k := hzk.symm
      subst hzk2
      obtain rfl : k = T.1 := by omega
      refine g_iload_n (i := 3) dX7_endOfFlow_2 rfl rfl ?_
      refine g_aload_n (i := 0) dX7_endOfFlow_3 rfl rfl ?_
      refine g_get dX7_endOfFlow_4 fl_X7_47 (by repeat' (first | assumption | exact rF_eq | refine rF_ne (by decide) ?_ | refine rF_a ?_ | exact rA_eq | refine rA_ne (by decide) ?_ | refine rA_f ?_)) (by repeat' (first | assumption | exact rF_eq | refine rF_ne (by decide) ?_ | refine rF_a ?_ | exact rA_eq | refine rA_ne (by decide) ?_ | refine rA_f ?_)) ?_
      refine g_get dX7_endOfFlow_7 fl_X7_194 (by repeat' (first | assumption | exact rF_eq | refine rF_ne (by decide) ?_ | refine rF_a ?_ | exact rA_eq | refine rA_ne (by decide) ?_ | refine rA_f ?_)) (by repeat' (first | assumption | exact rF_eq | refine rF_ne (by decide) ?_ | refine rF_a ?_ | exact rA_eq | refine rA_ne (by decide) ?_ | refine rA_f ?_)) ?_
      refine g_icmp_ge (tgt := 75) dX7_endOfFlow_10 (by decide) (fun hc10 => ?_) (fun hc10 => ?_)
      · (try simp (disch := omega) only [nT, t_m1000100, t_m1000010, t_m1000003, t_m1000002, t_m1000001, t_m1000000, t_m65535, t_m1000, t_m3, t_m1, t_0, t_1, t_2, t_3, t_4, t_5, t_6, t_7, t_8, t_9, t_10, t_11, t_12, t_13, t_15, t_16, t_20, t_21, t_22, t_32, t_40, t_41, t_48, t_49, t_57, t_59, t_60, t_63, t_72, t_76, t_88, t_100, t_144, t_200, t_255, t_288, t_400, t_800, t_999, t_1000, t_1024, t_1200, t_1600, t_3200, t_100000, t_200000, t_252645135, t_858993459, t_1431655765, u_m1000002, u_m1000001, u_m1000, u_m3, u_m1, u_0, u_1, u_2, u_3, u_4, u_5, u_7, u_8, u_10, u_11, u_15, u_60, u_100, u_255, u_999, u_1000, u_100000, u_4294967295] at hc10)
        refine g_aload_n (i := 0) dX7_endOfFlow_75 rfl rfl ?_
        refine g_get dX7_endOfFlow_76 fl_X7_47 (by repeat' (first | assumption | exact rF_eq | refine rF_ne (by decide) ?_ | refine rF_a ?_ | exact rA_eq | refine rA_ne (by decide) ?_ | refine rA_f ?_)) (by repeat' (first | assumption | exact rF_eq | refine rF_ne (by decide) ?_ | refine rF_a ?_ | exact rA_eq | refine rA_ne (by decide) ?_ | refine rA_f ?_)) ?_
        refine g_get dX7_endOfFlow_79 fl_X7_194 (by repeat' (first | assumption | exact rF_eq | refine rF_ne (by decide) ?_ | refine rF_a ?_ | exact rA_eq | refine rA_ne (by decide) ?_ | refine rA_f ?_)) (by repeat' (first | assumption | exact rF_eq | refine rF_ne (by decide) ?_ | refine rF_a ?_ | exact rA_eq | refine rA_ne (by decide) ?_ | refine rA_f ?_)) ?_
        refine g_iret dX7_endOfFlow_82 rfl (rfl) (hQ _ _ ?_)
        exact ⟨rfl, rfl⟩
      · (try simp (disch := omega) only [nT, t_m1000100, t_m1000010, t_m1000003, t_m1000002, t_m1000001, t_m1000000, t_m65535, t_m1000, t_m3, t_m1, t_0, t_1, t_2, t_3, t_4, t_5, t_6, t_7, t_8, t_9, t_10, t_11, t_12, t_13, t_15, t_16, t_20, t_21, t_22, t_32, t_40, t_41, t_48, t_49, t_57, t_59, t_60, t_63, t_72, t_76, t_88, t_100, t_144, t_200, t_255, t_288, t_400, t_800, t_999, t_1000, t_1024, t_1200, t_1600, t_3200, t_100000, t_200000, t_252645135, t_858993459, t_1431655765, u_m1000002, u_m1000001, u_m1000, u_m3, u_m1, u_0, u_1, u_2, u_3, u_4, u_5, u_7, u_8, u_10, u_11, u_15, u_60, u_100, u_255, u_999, u_1000, u_100000, u_4294967295] at hc10); omega
    | succ n ih =>
      intro k x4 hk hzk
      obtain ⟨q1, q2⟩ := tAt_lt hT (show k < T.1 by omega)
      unfold eofl at hzk
      refine g_iload_n (i := 3) dX7_endOfFlow_2 rfl rfl ?_
      refine g_aload_n (i := 0) dX7_endOfFlow_3 rfl rfl ?_
      refine g_get dX7_endOfFlow_4 fl_X7_47 (by repeat' (first | assumption | exact rF_eq | refine rF_ne (by decide) ?_ | refine rF_a ?_ | exact rA_eq | refine rA_ne (by decide) ?_ | refine rA_f ?_)) (by repeat' (first | assumption | exact rF_eq | refine rF_ne (by decide) ?_ | refine rF_a ?_ | exact rA_eq | refine rA_ne (by decide) ?_ | refine rA_f ?_)) ?_
      refine g_get dX7_endOfFlow_7 fl_X7_194 (by repeat' (first | assumption | exact rF_eq | refine rF_ne (by decide) ?_ | refine rF_a ?_ | exact rA_eq | refine rA_ne (by decide) ?_ | refine rA_f ?_)) (by repeat' (first | assumption | exact rF_eq | refine rF_ne (by decide) ?_ | refine rF_a ?_ | exact rA_eq | refine rA_ne (by decide) ?_ | refine rA_f ?_)) ?_
      refine g_icmp_ge (tgt := 75) dX7_endOfFlow_10 (by decide) (fun hc10 => ?_) (fun hc10 => ?_)
      · (try simp (disch := omega) only [nT, t_m1000100, t_m1000010, t_m1000003, t_m1000002, t_m1000001, t_m1000000, t_m65535, t_m1000, t_m3, t_m1, t_0, t_1, t_2, t_3, t_4, t_5, t_6, t_7, t_8, t_9, t_10, t_11, t_12, t_13, t_15, t_16, t_20, t_21, t_22, t_32, t_40, t_41, t_48, t_49, t_57, t_59, t_60, t_63, t_72, t_76, t_88, t_100, t_144, t_200, t_255, t_288, t_400, t_800, t_999, t_1000, t_1024, t_1200, t_1600, t_3200, t_100000, t_200000, t_252645135, t_858993459, t_1431655765, u_m1000002, u_m1000001, u_m1000, u_m3, u_m1, u_0, u_1, u_2, u_3, u_4, u_5, u_7, u_8, u_10, u_11, u_15, u_60, u_100, u_255, u_999, u_1000, u_100000, u_4294967295] at hc10); omega
      · (try simp (disch := omega) only [nT, t_m1000100, t_m1000010, t_m1000003, t_m1000002, t_m1000001, t_m1000000, t_m65535, t_m1000, t_m3, t_m1, t_0, t_1, t_2, t_3, t_4, t_5, t_6, t_7, t_8, t_9, t_10, t_11, t_12, t_13, t_15, t_16, t_20, t_21, t_22, t_32, t_40, t_41, t_48, t_49, t_57, t_59, t_60, t_63, t_72, t_76, t_88, t_100, t_144, t_200, t_255, t_288, t_400, t_800, t_999, t_1000, t_1024, t_1200, t_1600, t_3200, t_100000, t_200000, t_252645135, t_858993459, t_1431655765, u_m1000002, u_m1000001, u_m1000, u_m3, u_m1, u_0, u_1, u_2, u_3, u_4, u_5, u_7, u_8, u_10, u_11, u_15, u_60, u_100, u_255, u_999, u_1000, u_100000, u_4294967295] at hc10)
        refine g_aload_n (i := 0) dX7_endOfFlow_13 rfl rfl ?_
        refine g_get dX7_endOfFlow_14 fl_X7_47 (by repeat' (first | assumption | exact rF_eq | refine rF_ne (by decide) ?_ | refine rF_a ?_ | exact rA_eq | refine rA_ne (by decide) ?_ | refine rA_f ?_)) (by repeat' (first | assumption | exact rF_eq | refine rF_ne (by decide) ?_ | refine rF_a ?_ | exact rA_eq | refine rA_ne (by decide) ?_ | refine rA_f ?_)) ?_
        refine g_get dX7_endOfFlow_17 fl_X7_207 (by repeat' (first | assumption | exact rF_eq | refine rF_ne (by decide) ?_ | refine rF_a ?_ | exact rA_eq | refine rA_ne (by decide) ?_ | refine rA_f ?_)) (by repeat' (first | assumption | exact rF_eq | refine rF_ne (by decide) ?_ | refine rF_a ?_ | exact rA_eq | refine rA_ne (by decide) ?_ | refine rA_f ?_)) ?_
        refine g_iload_n (i := 3) dX7_endOfFlow_20 rfl rfl ?_
        refine g_iald dX7_endOfFlow_21 (by repeat' (first | assumption | exact rF_eq | refine rF_ne (by decide) ?_ | refine rF_a ?_ | exact rA_eq | refine rA_ne (by decide) ?_ | refine rA_f ?_)) (nT (by omega)) (by omega) ?_
        rw [q2]
        refine g_istore dX7_endOfFlow_22 (Nat.le_of_ble_eq_true rfl) rfl ?_
        refine g_aload_n (i := 0) dX7_endOfFlow_24 rfl rfl ?_
        refine g_get dX7_endOfFlow_25 fl_X7_10 (by repeat' (first | assumption | exact rF_eq | refine rF_ne (by decide) ?_ | refine rF_a ?_ | exact rA_eq | refine rA_ne (by decide) ?_ | refine rA_f ?_)) (by repeat' (first | assumption | exact rF_eq | refine rF_ne (by decide) ?_ | refine rF_a ?_ | exact rA_eq | refine rA_ne (by decide) ?_ | refine rA_f ?_)) ?_
        refine g_iload_n (i := 1) dX7_endOfFlow_28 rfl rfl ?_
        refine g_iload dX7_endOfFlow_29 rfl ?_
        refine g_iconst (v := 1) dX7_endOfFlow_31 (by decide) ?_
        refine g_callV (M' := mX3_hasItems) dX7_endOfFlow_32 lc_X3_hasItems ml_X7_110 (c_hasItems hS (nT (by omega)) ha) rfl rfl (by repeat' (first | assumption | exact rF_eq | refine rF_ne (by decide) ?_ | refine rF_a ?_ | exact rA_eq | refine rA_ne (by decide) ?_ | refine rA_f ?_)) rfl ⟨Nat.le_of_ble_eq_true rfl, Nat.le_of_ble_eq_true rfl, Nat.le_of_ble_eq_true rfl, Nat.le_of_ble_eq_true rfl⟩ (Nat.le_of_ble_eq_true rfl) ?_
        intro r_ h_ q_; obtain ⟨q1_, q2_⟩ := q_; have q2_ := q2_.symm; subst q1_; subst q2_
        rw [nT (by omega), show (1 : Int32).toInt = 1 from rfl]
        refine g_if_ne (tgt := 41) dX7_endOfFlow_35 (by decide) (fun hc35 => ?_) (fun hc35 => ?_)
        · replace hc35 := bI_n0.mp hc35
          (try simp (disch := omega) only [nT, t_m1000100, t_m1000010, t_m1000003, t_m1000002, t_m1000001, t_m1000000, t_m65535, t_m1000, t_m3, t_m1, t_0, t_1, t_2, t_3, t_4, t_5, t_6, t_7, t_8, t_9, t_10, t_11, t_12, t_13, t_15, t_16, t_20, t_21, t_22, t_32, t_40, t_41, t_48, t_49, t_57, t_59, t_60, t_63, t_72, t_76, t_88, t_100, t_144, t_200, t_255, t_288, t_400, t_800, t_999, t_1000, t_1024, t_1200, t_1600, t_3200, t_100000, t_200000, t_252645135, t_858993459, t_1431655765, u_m1000002, u_m1000001, u_m1000, u_m3, u_m1, u_0, u_1, u_2, u_3, u_4, u_5, u_7, u_8, u_10, u_11, u_15, u_60, u_100, u_255, u_999, u_1000, u_100000, u_4294967295] at hc35)
          rw [if_neg (by omega)] at hzk
          refine g_aload_n (i := 0) dX7_endOfFlow_41 rfl rfl ?_
          refine g_get dX7_endOfFlow_42 fl_X7_47 (by repeat' (first | assumption | exact rF_eq | refine rF_ne (by decide) ?_ | refine rF_a ?_ | exact rA_eq | refine rA_ne (by decide) ?_ | refine rA_f ?_)) (by repeat' (first | assumption | exact rF_eq | refine rF_ne (by decide) ?_ | refine rF_a ?_ | exact rA_eq | refine rA_ne (by decide) ?_ | refine rA_f ?_)) ?_
          refine g_iload dX7_endOfFlow_45 rfl ?_
          refine g_aload_n (i := 0) dX7_endOfFlow_47 rfl rfl ?_
          refine g_get dX7_endOfFlow_48 fl_X7_10 (by repeat' (first | assumption | exact rF_eq | refine rF_ne (by decide) ?_ | refine rF_a ?_ | exact rA_eq | refine rA_ne (by decide) ?_ | refine rA_f ?_)) (by repeat' (first | assumption | exact rF_eq | refine rF_ne (by decide) ?_ | refine rF_a ?_ | exact rA_eq | refine rA_ne (by decide) ?_ | refine rA_f ?_)) ?_
          refine g_iload_n (i := 1) dX7_endOfFlow_51 rfl rfl ?_
          refine g_iload dX7_endOfFlow_52 rfl ?_
          refine g_callV (M' := mX3_itemAt) dX7_endOfFlow_54 lc_X3_itemAt ml_X7_188 (c_itemAt hS ha (by omega)) rfl rfl (by repeat' (first | assumption | exact rF_eq | refine rF_ne (by decide) ?_ | refine rF_a ?_ | exact rA_eq | refine rA_ne (by decide) ?_ | refine rA_f ?_)) rfl ⟨Nat.le_of_ble_eq_true rfl, Nat.le_of_ble_eq_true rfl, Nat.le_of_ble_eq_true rfl, Nat.le_of_ble_eq_true rfl⟩ (Nat.le_of_ble_eq_true rfl) ?_
          intro r_ h_ q_; obtain ⟨q1_, q2_⟩ := q_; have q2_ := q2_.symm; subst q1_; subst q2_
          refine g_i2l dX7_endOfFlow_57 ?_
          refine g_iload_n (i := 2) dX7_endOfFlow_58 rfl rfl ?_
          refine g_i2l dX7_endOfFlow_59 ?_
          refine g_ladd dX7_endOfFlow_60 ?_
          refine g_callV (M' := mX5_passes) dX7_endOfFlow_61 lc_X5_passes ml_X7_260 (c_passes hs (by omega) _) rfl rfl (by repeat' (first | assumption | exact rF_eq | refine rF_ne (by decide) ?_ | refine rF_a ?_ | exact rA_eq | refine rA_ne (by decide) ?_ | refine rA_f ?_)) rfl ⟨Nat.le_of_ble_eq_true rfl, Nat.le_of_ble_eq_true rfl, Nat.le_of_ble_eq_true rfl, Nat.le_of_ble_eq_true rfl⟩ (Nat.le_of_ble_eq_true rfl) ?_
          intro r_ h_ q_; obtain ⟨q1_, q2_⟩ := q_; have q2_ := q2_.symm; subst q1_; subst q2_
          rw [l_add32]
          refine g_if_ne (tgt := 69) dX7_endOfFlow_64 (by decide) (fun hc64 => ?_) (fun hc64 => ?_)
          · replace hc64 := bI_n0.mp hc64
            (try simp (disch := omega) only [nT, t_m1000100, t_m1000010, t_m1000003, t_m1000002, t_m1000001, t_m1000000, t_m65535, t_m1000, t_m3, t_m1, t_0, t_1, t_2, t_3, t_4, t_5, t_6, t_7, t_8, t_9, t_10, t_11, t_12, t_13, t_15, t_16, t_20, t_21, t_22, t_32, t_40, t_41, t_48, t_49, t_57, t_59, t_60, t_63, t_72, t_76, t_88, t_100, t_144, t_200, t_255, t_288, t_400, t_800, t_999, t_1000, t_1024, t_1200, t_1600, t_3200, t_100000, t_200000, t_252645135, t_858993459, t_1431655765, u_m1000002, u_m1000001, u_m1000, u_m3, u_m1, u_0, u_1, u_2, u_3, u_4, u_5, u_7, u_8, u_10, u_11, u_15, u_60, u_100, u_255, u_999, u_1000, u_100000, u_4294967295] at hc64)
            rw [if_neg (fun q => by have := fls_t.mp q; omega)] at hzk
            refine g_iinc dX7_endOfFlow_69 rfl (Nat.le_of_ble_eq_true rfl) rfl ?_
            refine g_goto (tgt := 2) dX7_endOfFlow_72 (by decide) ?_
            rw [ni_incO]; exact ih (k + 1) _ (by omega) hzk
          · replace hc64 := bI_0.mp hc64
            (try simp (disch := omega) only [nT, t_m1000100, t_m1000010, t_m1000003, t_m1000002, t_m1000001, t_m1000000, t_m65535, t_m1000, t_m3, t_m1, t_0, t_1, t_2, t_3, t_4, t_5, t_6, t_7, t_8, t_9, t_10, t_11, t_12, t_13, t_15, t_16, t_20, t_21, t_22, t_32, t_40, t_41, t_48, t_49, t_57, t_59, t_60, t_63, t_72, t_76, t_88, t_100, t_144, t_200, t_255, t_288, t_400, t_800, t_999, t_1000, t_1024, t_1200, t_1600, t_3200, t_100000, t_200000, t_252645135, t_858993459, t_1431655765, u_m1000002, u_m1000001, u_m1000, u_m3, u_m1, u_0, u_1, u_2, u_3, u_4, u_5, u_7, u_8, u_10, u_11, u_15, u_60, u_100, u_255, u_999, u_1000, u_100000, u_4294967295] at hc64)
            rw [if_pos (fls_t.mpr (by omega))] at hzk
            subst hzk
            refine g_iload_n (i := 3) dX7_endOfFlow_67 rfl rfl ?_
            refine g_iret dX7_endOfFlow_68 rfl (rfl) (hQ _ _ ?_)
            exact ⟨rfl, rfl⟩
        · replace hc35 := bI_0.mp hc35
          (try simp (disch := omega) only [nT, t_m1000100, t_m1000010, t_m1000003, t_m1000002, t_m1000001, t_m1000000, t_m65535, t_m1000, t_m3, t_m1, t_0, t_1, t_2, t_3, t_4, t_5, t_6, t_7, t_8, t_9, t_10, t_11, t_12, t_13, t_15, t_16, t_20, t_21, t_22, t_32, t_40, t_41, t_48, t_49, t_57, t_59, t_60, t_63, t_72, t_76, t_88, t_100, t_144, t_200, t_255, t_288, t_400, t_800, t_999, t_1000, t_1024, t_1200, t_1600, t_3200, t_100000, t_200000, t_252645135, t_858993459, t_1431655765, u_m1000002, u_m1000001, u_m1000, u_m3, u_m1, u_0, u_1, u_2, u_3, u_4, u_5, u_7, u_8, u_10, u_11, u_15, u_60, u_100, u_255, u_999, u_1000, u_100000, u_4294967295] at hc35)
          rw [if_pos (by omega)] at hzk
          subst hzk
          refine g_ldc dX7_endOfFlow_38 kc_X7_155 ?_
          refine g_iret dX7_endOfFlow_40 rfl (rfl) (hQ _ _ ?_)
          exact ⟨rfl, rfl⟩
  refine g_iconst (v := 0) dX7_endOfFlow_0 (by decide) ?_
  refine g_istore_n (i := 3) dX7_endOfFlow_1 rfl (Nat.le_of_ble_eq_true rfl) rfl ?_
  exact key T.1 0 hU (by omega) hzz
