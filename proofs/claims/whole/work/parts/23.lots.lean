/-! lots -/
def cnt (p : Nat → Bool) : Nat → Nat → Nat
  | 0, _ => 0
  | n + 1, k => (if p k = true then 1 else 0) + cnt p n (k + 1)
theorem cnt_le (p : Nat → Bool) : ∀ n k, cnt p n k ≤ n
  | 0, _ => Nat.le_refl _
  | n + 1, k => by have := cnt_le p n (k + 1); unfold cnt; split <;> omega
theorem cnt_t {p : Nat → Bool} {n k : Nat} (h : p k = true) : cnt p (n + 1) k = 1 + cnt p n (k + 1) := by rw [cnt, if_pos h]
theorem cnt_f {p : Nat → Bool} {n k : Nat} (h : ¬ p k = true) : cnt p (n + 1) k = cnt p n (k + 1) := by rw [cnt, if_neg h, Nat.zero_add]
theorem cnt_mono {p q : Nat → Bool} (h : ∀ i, p i = true → q i = true) : ∀ n k, cnt p n k ≤ cnt q n k
  | 0, _ => Nat.le_refl _
  | n + 1, k => by
    have ih := cnt_mono h n (k + 1)
    by_cases h1 : p k = true
    · rw [cnt_t h1, cnt_t (h k h1)]; omega
    · rw [cnt_f h1]
      by_cases h2 : q k = true
      · rw [cnt_t h2]; omega
      · rw [cnt_f h2]; exact ih
def pB (f : Nat → Nat → Int32) (b : Int32) : Nat → Bool := fun c => decide (f c 0 = b)
def pS (f : Nat → Nat → Int32) (s : Int32) : Nat → Bool := fun c => decide (f c 4 = s)
def pP (f : Nat → Nat → Int32) (s : Int32) : Nat → Bool := fun c => decide (f c 4 = s ∧ (f c 0).toInt = 0)
theorem pB_t {f : Nat → Nat → Int32} {b : Int32} {c : Nat} : pB f b c = true ↔ f c 0 = b := decide_eq_true_iff
theorem pS_t {f : Nat → Nat → Int32} {b : Int32} {c : Nat} : pS f b c = true ↔ f c 4 = b := decide_eq_true_iff
theorem pP_t {f : Nat → Nat → Int32} {b : Int32} {c : Nat} : pP f b c = true ↔ f c 4 = b ∧ (f c 0).toInt = 0 := decide_eq_true_iff
def cB (G : GL2) (b : Int32) : Nat := cnt (pB G.2.2 b) (G.1 - G.2.1) G.2.1
def cS (G : GL2) (b : Int32) : Nat := cnt (pS G.2.2 b) (G.1 - G.2.1) G.2.1
def cP (G : GL2) (b : Int32) : Nat := cnt (pP G.2.2 b) (G.1 - G.2.1) G.2.1
theorem cB_le {G : GL2} (hG : WfG G) (b : Int32) : cB G b ≤ 200 := Nat.le_trans (cnt_le _ _ _) (Nat.le_trans (Nat.sub_le _ _) hG.1)
abbrev LgG (G : GL2) (h : HH) (fa : Nat → Int32) : Prop := LgX h G.1 G.2.1 fa ∧ ∀ c i, c < G.1 → i < 6 → fa (6 * c + i) = G.2.2 c i
theorem c_countOfBin {G : GL2} (hG : WfG G) {h : HH} {fa : Nat → Int32} (hg : LgG G h fa) (b : Int32) : CT mX1_countOfBin 1 0 0 [.ref 38, .int b] h (fun r h' => r = some (.int (nI (cB G b))) ∧ h' = h) := by
  obtain ⟨hL, hfa⟩ := hg
  obtain ⟨e1, e2, e3, e4, e5⟩ := id hL
  have hG1 := hG.1
  have hG2 := hG.2
  refine CT.go [.ref 38, .int b, hU, hU] (by decide +kernel) rfl rfl (fun Q' hQ => ?_)
  generalize hz : cB G b = z at hQ
  have key : ∀ m k acc : Nat, k + m = G.1 → acc ≤ k → acc + cnt (pB G.2.2 b) m k = z → GG (EM mX1_countOfBin 1 0 0 Q') 0 0 7 [.ref 38, .int b, .int (nI acc), .int (nI k)] [] h := by
    intro m
    induction m with
    | zero =>
      intro k acc hk ha he
      obtain rfl : acc = z := he
      refine g_iload_n (i := 3) dX1_countOfBin_7 rfl rfl ?_
      refine g_aload_n (i := 0) dX1_countOfBin_8 rfl rfl ?_
      refine g_get dX1_countOfBin_9 fl_X1_15 (by repeat' (first | assumption | exact rF_eq | refine rF_ne (by decide) ?_ | refine rF_a ?_ | exact rA_eq | refine rA_ne (by decide) ?_ | refine rA_f ?_)) (by repeat' (first | assumption | exact rF_eq | refine rF_ne (by decide) ?_ | refine rF_a ?_ | exact rA_eq | refine rA_ne (by decide) ?_ | refine rA_f ?_)) ?_
      refine g_icmp_ge (tgt := 34) dX1_countOfBin_12 (by decide) (fun hc12 => ?_) (fun hc12 => ?_)
      · (try simp (disch := omega) only [nT, t_m1000100, t_m1000010, t_m1000003, t_m1000002, t_m1000001, t_m1000000, t_m65535, t_m1000, t_m3, t_m1, t_0, t_1, t_2, t_3, t_4, t_5, t_6, t_7, t_8, t_9, t_10, t_11, t_12, t_13, t_15, t_16, t_20, t_21, t_22, t_32, t_40, t_41, t_48, t_49, t_57, t_59, t_60, t_63, t_72, t_76, t_88, t_100, t_144, t_200, t_255, t_288, t_400, t_800, t_999, t_1000, t_1024, t_1200, t_1600, t_3200, t_100000, t_200000, t_252645135, t_858993459, t_1431655765, u_m1000002, u_m1000001, u_m1000, u_m3, u_m1, u_0, u_1, u_2, u_3, u_4, u_5, u_7, u_8, u_10, u_11, u_15, u_60, u_100, u_255, u_999, u_1000, u_100000, u_4294967295] at hc12)
        refine g_iload_n (i := 2) dX1_countOfBin_34 rfl rfl ?_
        refine g_iret dX1_countOfBin_35 rfl (rfl) (hQ _ _ ?_)
        exact ⟨rfl, rfl⟩
      · (try simp (disch := omega) only [nT, t_m1000100, t_m1000010, t_m1000003, t_m1000002, t_m1000001, t_m1000000, t_m65535, t_m1000, t_m3, t_m1, t_0, t_1, t_2, t_3, t_4, t_5, t_6, t_7, t_8, t_9, t_10, t_11, t_12, t_13, t_15, t_16, t_20, t_21, t_22, t_32, t_40, t_41, t_48, t_49, t_57, t_59, t_60, t_63, t_72, t_76, t_88, t_100, t_144, t_200, t_255, t_288, t_400, t_800, t_999, t_1000, t_1024, t_1200, t_1600, t_3200, t_100000, t_200000, t_252645135, t_858993459, t_1431655765, u_m1000002, u_m1000001, u_m1000, u_m3, u_m1, u_0, u_1, u_2, u_3, u_4, u_5, u_7, u_8, u_10, u_11, u_15, u_60, u_100, u_255, u_999, u_1000, u_100000, u_4294967295] at hc12); omega
    | succ m ih =>
      intro k acc hk ha he
      have hf := hfa k 0 (by omega) (by omega)
      refine g_iload_n (i := 3) dX1_countOfBin_7 rfl rfl ?_
      refine g_aload_n (i := 0) dX1_countOfBin_8 rfl rfl ?_
      refine g_get dX1_countOfBin_9 fl_X1_15 (by repeat' (first | assumption | exact rF_eq | refine rF_ne (by decide) ?_ | refine rF_a ?_ | exact rA_eq | refine rA_ne (by decide) ?_ | refine rA_f ?_)) (by repeat' (first | assumption | exact rF_eq | refine rF_ne (by decide) ?_ | refine rF_a ?_ | exact rA_eq | refine rA_ne (by decide) ?_ | refine rA_f ?_)) ?_
      refine g_icmp_ge (tgt := 34) dX1_countOfBin_12 (by decide) (fun hc12 => ?_) (fun hc12 => ?_)
      · (try simp (disch := omega) only [nT, t_m1000100, t_m1000010, t_m1000003, t_m1000002, t_m1000001, t_m1000000, t_m65535, t_m1000, t_m3, t_m1, t_0, t_1, t_2, t_3, t_4, t_5, t_6, t_7, t_8, t_9, t_10, t_11, t_12, t_13, t_15, t_16, t_20, t_21, t_22, t_32, t_40, t_41, t_48, t_49, t_57, t_59, t_60, t_63, t_72, t_76, t_88, t_100, t_144, t_200, t_255, t_288, t_400, t_800, t_999, t_1000, t_1024, t_1200, t_1600, t_3200, t_100000, t_200000, t_252645135, t_858993459, t_1431655765, u_m1000002, u_m1000001, u_m1000, u_m3, u_m1, u_0, u_1, u_2, u_3, u_4, u_5, u_7, u_8, u_10, u_11, u_15, u_60, u_100, u_255, u_999, u_1000, u_100000, u_4294967295] at hc12); omega
      · (try simp (disch := omega) only [nT, t_m1000100, t_m1000010, t_m1000003, t_m1000002, t_m1000001, t_m1000000, t_m65535, t_m1000, t_m3, t_m1, t_0, t_1, t_2, t_3, t_4, t_5, t_6, t_7, t_8, t_9, t_10, t_11, t_12, t_13, t_15, t_16, t_20, t_21, t_22, t_32, t_40, t_41, t_48, t_49, t_57, t_59, t_60, t_63, t_72, t_76, t_88, t_100, t_144, t_200, t_255, t_288, t_400, t_800, t_999, t_1000, t_1024, t_1200, t_1600, t_3200, t_100000, t_200000, t_252645135, t_858993459, t_1431655765, u_m1000002, u_m1000001, u_m1000, u_m3, u_m1, u_0, u_1, u_2, u_3, u_4, u_5, u_7, u_8, u_10, u_11, u_15, u_60, u_100, u_255, u_999, u_1000, u_100000, u_4294967295] at hc12)
        refine g_aload_n (i := 0) dX1_countOfBin_15 rfl rfl ?_
        refine g_iload_n (i := 3) dX1_countOfBin_16 rfl rfl ?_
        refine g_iconst (v := 0) dX1_countOfBin_17 (by decide) ?_
        refine g_callV (M' := mX1_fact) dX1_countOfBin_18 lc_X1_fact ml_X1_22 (c_fact hL (c := k) (i := 0) (by omega) (by omega)) rfl rfl (by repeat' (first | assumption | exact rF_eq | refine rF_ne (by decide) ?_ | refine rF_a ?_ | exact rA_eq | refine rA_ne (by decide) ?_ | refine rA_f ?_)) rfl ⟨Nat.le_of_ble_eq_true rfl, Nat.le_of_ble_eq_true rfl, Nat.le_of_ble_eq_true rfl, Nat.le_of_ble_eq_true rfl⟩ (Nat.le_of_ble_eq_true rfl) ?_
        intro r_ h_ q_; obtain ⟨q1_, q2_⟩ := q_; have q2_ := q2_.symm; subst q1_; subst q2_
        rw [hf]
        refine g_iload_n (i := 1) dX1_countOfBin_21 rfl rfl ?_
        refine g_icmp_ne (tgt := 28) dX1_countOfBin_22 (by decide) (fun hc22 => ?_) (fun hc22 => ?_)
        · have hd22 := mt i_eq.mpr hc22; (try simp (disch := omega) only [nT, t_m1000100, t_m1000010, t_m1000003, t_m1000002, t_m1000001, t_m1000000, t_m65535, t_m1000, t_m3, t_m1, t_0, t_1, t_2, t_3, t_4, t_5, t_6, t_7, t_8, t_9, t_10, t_11, t_12, t_13, t_15, t_16, t_20, t_21, t_22, t_32, t_40, t_41, t_48, t_49, t_57, t_59, t_60, t_63, t_72, t_76, t_88, t_100, t_144, t_200, t_255, t_288, t_400, t_800, t_999, t_1000, t_1024, t_1200, t_1600, t_3200, t_100000, t_200000, t_252645135, t_858993459, t_1431655765, u_m1000002, u_m1000001, u_m1000, u_m3, u_m1, u_0, u_1, u_2, u_3, u_4, u_5, u_7, u_8, u_10, u_11, u_15, u_60, u_100, u_255, u_999, u_1000, u_100000, u_4294967295] at hd22)
          refine g_iinc dX1_countOfBin_28 rfl (Nat.le_of_ble_eq_true rfl) rfl ?_
          refine g_goto (tgt := 7) dX1_countOfBin_31 (by decide) ?_
          rw [ni_incO]
          first
          | (rw [cnt_t (pB_t.mpr (by assumption))] at he; rw [ni_incO]; exact ih _ _ (by omega) (by omega) (by omega))
          | (rw [cnt_f (fun q => absurd (pB_t.mp q) (by assumption))] at he; exact ih _ _ (by omega) (by omega) (by omega))
        · have hd22 := i_eq.mp hc22; (try simp (disch := omega) only [nT, t_m1000100, t_m1000010, t_m1000003, t_m1000002, t_m1000001, t_m1000000, t_m65535, t_m1000, t_m3, t_m1, t_0, t_1, t_2, t_3, t_4, t_5, t_6, t_7, t_8, t_9, t_10, t_11, t_12, t_13, t_15, t_16, t_20, t_21, t_22, t_32, t_40, t_41, t_48, t_49, t_57, t_59, t_60, t_63, t_72, t_76, t_88, t_100, t_144, t_200, t_255, t_288, t_400, t_800, t_999, t_1000, t_1024, t_1200, t_1600, t_3200, t_100000, t_200000, t_252645135, t_858993459, t_1431655765, u_m1000002, u_m1000001, u_m1000, u_m3, u_m1, u_0, u_1, u_2, u_3, u_4, u_5, u_7, u_8, u_10, u_11, u_15, u_60, u_100, u_255, u_999, u_1000, u_100000, u_4294967295] at hd22)
          refine g_iinc dX1_countOfBin_25 rfl (Nat.le_of_ble_eq_true rfl) rfl ?_
          refine g_iinc dX1_countOfBin_28 rfl (Nat.le_of_ble_eq_true rfl) rfl ?_
          refine g_goto (tgt := 7) dX1_countOfBin_31 (by decide) ?_
          rw [ni_incO]
          first
          | (rw [cnt_t (pB_t.mpr (by assumption))] at he; rw [ni_incO]; exact ih _ _ (by omega) (by omega) (by omega))
          | (rw [cnt_f (fun q => absurd (pB_t.mp q) (by assumption))] at he; exact ih _ _ (by omega) (by omega) (by omega))
  refine g_iconst (v := 0) dX1_countOfBin_0 (by decide) ?_
  refine g_istore_n (i := 2) dX1_countOfBin_1 rfl (Nat.le_of_ble_eq_true rfl) rfl ?_
  refine g_aload_n (i := 0) dX1_countOfBin_2 rfl rfl ?_
  refine g_get dX1_countOfBin_3 fl_X1_19 (by repeat' (first | assumption | exact rF_eq | refine rF_ne (by decide) ?_ | refine rF_a ?_ | exact rA_eq | refine rA_ne (by decide) ?_ | refine rA_f ?_)) (by repeat' (first | assumption | exact rF_eq | refine rF_ne (by decide) ?_ | refine rF_a ?_ | exact rA_eq | refine rA_ne (by decide) ?_ | refine rA_f ?_)) ?_
  refine g_istore_n (i := 3) dX1_countOfBin_6 rfl (Nat.le_of_ble_eq_true rfl) rfl ?_
  exact key (G.1 - G.2.1) G.2.1 0 (by omega) (by omega) (by rw [Nat.zero_add]; exact hz)
theorem c_countOfSeat {G : GL2} (hG : WfG G) {h : HH} {fa : Nat → Int32} (hg : LgG G h fa) (b : Int32) : CT mX1_countOfSeat 1 0 0 [.ref 38, .int b] h (fun r h' => r = some (.int (nI (cS G b))) ∧ h' = h) := by
  obtain ⟨hL, hfa⟩ := hg
  obtain ⟨e1, e2, e3, e4, e5⟩ := id hL
  have hG1 := hG.1
  have hG2 := hG.2
  refine CT.go [.ref 38, .int b, hU, hU] (by decide +kernel) rfl rfl (fun Q' hQ => ?_)
  generalize hz : cS G b = z at hQ
  have key : ∀ m k acc : Nat, k + m = G.1 → acc ≤ k → acc + cnt (pS G.2.2 b) m k = z → GG (EM mX1_countOfSeat 1 0 0 Q') 0 0 7 [.ref 38, .int b, .int (nI acc), .int (nI k)] [] h := by
    intro m
    induction m with
    | zero =>
      intro k acc hk ha he
      obtain rfl : acc = z := he
      refine g_iload_n (i := 3) dX1_countOfSeat_7 rfl rfl ?_
      refine g_aload_n (i := 0) dX1_countOfSeat_8 rfl rfl ?_
      refine g_get dX1_countOfSeat_9 fl_X1_15 (by repeat' (first | assumption | exact rF_eq | refine rF_ne (by decide) ?_ | refine rF_a ?_ | exact rA_eq | refine rA_ne (by decide) ?_ | refine rA_f ?_)) (by repeat' (first | assumption | exact rF_eq | refine rF_ne (by decide) ?_ | refine rF_a ?_ | exact rA_eq | refine rA_ne (by decide) ?_ | refine rA_f ?_)) ?_
      refine g_icmp_ge (tgt := 34) dX1_countOfSeat_12 (by decide) (fun hc12 => ?_) (fun hc12 => ?_)
      · (try simp (disch := omega) only [nT, t_m1000100, t_m1000010, t_m1000003, t_m1000002, t_m1000001, t_m1000000, t_m65535, t_m1000, t_m3, t_m1, t_0, t_1, t_2, t_3, t_4, t_5, t_6, t_7, t_8, t_9, t_10, t_11, t_12, t_13, t_15, t_16, t_20, t_21, t_22, t_32, t_40, t_41, t_48, t_49, t_57, t_59, t_60, t_63, t_72, t_76, t_88, t_100, t_144, t_200, t_255, t_288, t_400, t_800, t_999, t_1000, t_1024, t_1200, t_1600, t_3200, t_100000, t_200000, t_252645135, t_858993459, t_1431655765, u_m1000002, u_m1000001, u_m1000, u_m3, u_m1, u_0, u_1, u_2, u_3, u_4, u_5, u_7, u_8, u_10, u_11, u_15, u_60, u_100, u_255, u_999, u_1000, u_100000, u_4294967295] at hc12)
        refine g_iload_n (i := 2) dX1_countOfSeat_34 rfl rfl ?_
        refine g_iret dX1_countOfSeat_35 rfl (rfl) (hQ _ _ ?_)
        exact ⟨rfl, rfl⟩
      · (try simp (disch := omega) only [nT, t_m1000100, t_m1000010, t_m1000003, t_m1000002, t_m1000001, t_m1000000, t_m65535, t_m1000, t_m3, t_m1, t_0, t_1, t_2, t_3, t_4, t_5, t_6, t_7, t_8, t_9, t_10, t_11, t_12, t_13, t_15, t_16, t_20, t_21, t_22, t_32, t_40, t_41, t_48, t_49, t_57, t_59, t_60, t_63, t_72, t_76, t_88, t_100, t_144, t_200, t_255, t_288, t_400, t_800, t_999, t_1000, t_1024, t_1200, t_1600, t_3200, t_100000, t_200000, t_252645135, t_858993459, t_1431655765, u_m1000002, u_m1000001, u_m1000, u_m3, u_m1, u_0, u_1, u_2, u_3, u_4, u_5, u_7, u_8, u_10, u_11, u_15, u_60, u_100, u_255, u_999, u_1000, u_100000, u_4294967295] at hc12); omega
    | succ m ih =>
      intro k acc hk ha he
      have hf := hfa k 4 (by omega) (by omega)
      refine g_iload_n (i := 3) dX1_countOfSeat_7 rfl rfl ?_
      refine g_aload_n (i := 0) dX1_countOfSeat_8 rfl rfl ?_
      refine g_get dX1_countOfSeat_9 fl_X1_15 (by repeat' (first | assumption | exact rF_eq | refine rF_ne (by decide) ?_ | refine rF_a ?_ | exact rA_eq | refine rA_ne (by decide) ?_ | refine rA_f ?_)) (by repeat' (first | assumption | exact rF_eq | refine rF_ne (by decide) ?_ | refine rF_a ?_ | exact rA_eq | refine rA_ne (by decide) ?_ | refine rA_f ?_)) ?_
      refine g_icmp_ge (tgt := 34) dX1_countOfSeat_12 (by decide) (fun hc12 => ?_) (fun hc12 => ?_)
      · (try simp (disch := omega) only [nT, t_m1000100, t_m1000010, t_m1000003, t_m1000002, t_m1000001, t_m1000000, t_m65535, t_m1000, t_m3, t_m1, t_0, t_1, t_2, t_3, t_4, t_5, t_6, t_7, t_8, t_9, t_10, t_11, t_12, t_13, t_15, t_16, t_20, t_21, t_22, t_32, t_40, t_41, t_48, t_49, t_57, t_59, t_60, t_63, t_72, t_76, t_88, t_100, t_144, t_200, t_255, t_288, t_400, t_800, t_999, t_1000, t_1024, t_1200, t_1600, t_3200, t_100000, t_200000, t_252645135, t_858993459, t_1431655765, u_m1000002, u_m1000001, u_m1000, u_m3, u_m1, u_0, u_1, u_2, u_3, u_4, u_5, u_7, u_8, u_10, u_11, u_15, u_60, u_100, u_255, u_999, u_1000, u_100000, u_4294967295] at hc12); omega
      · (try simp (disch := omega) only [nT, t_m1000100, t_m1000010, t_m1000003, t_m1000002, t_m1000001, t_m1000000, t_m65535, t_m1000, t_m3, t_m1, t_0, t_1, t_2, t_3, t_4, t_5, t_6, t_7, t_8, t_9, t_10, t_11, t_12, t_13, t_15, t_16, t_20, t_21, t_22, t_32, t_40, t_41, t_48, t_49, t_57, t_59, t_60, t_63, t_72, t_76, t_88, t_100, t_144, t_200, t_255, t_288, t_400, t_800, t_999, t_1000, t_1024, t_1200, t_1600, t_3200, t_100000, t_200000, t_252645135, t_858993459, t_1431655765, u_m1000002, u_m1000001, u_m1000, u_m3, u_m1, u_0, u_1, u_2, u_3, u_4, u_5, u_7, u_8, u_10, u_11, u_15, u_60, u_100, u_255, u_999, u_1000, u_100000, u_4294967295] at hc12)
        refine g_aload_n (i := 0) dX1_countOfSeat_15 rfl rfl ?_
        refine g_iload_n (i := 3) dX1_countOfSeat_16 rfl rfl ?_
        refine g_iconst (v := 4) dX1_countOfSeat_17 (by decide) ?_
        refine g_callV (M' := mX1_fact) dX1_countOfSeat_18 lc_X1_fact ml_X1_22 (c_fact hL (c := k) (i := 4) (by omega) (by omega)) rfl rfl (by repeat' (first | assumption | exact rF_eq | refine rF_ne (by decide) ?_ | refine rF_a ?_ | exact rA_eq | refine rA_ne (by decide) ?_ | refine rA_f ?_)) rfl ⟨Nat.le_of_ble_eq_true rfl, Nat.le_of_ble_eq_true rfl, Nat.le_of_ble_eq_true rfl, Nat.le_of_ble_eq_true rfl⟩ (Nat.le_of_ble_eq_true rfl) ?_
        intro r_ h_ q_; obtain ⟨q1_, q2_⟩ := q_; have q2_ := q2_.symm; subst q1_; subst q2_
        rw [hf]
        refine g_iload_n (i := 1) dX1_countOfSeat_21 rfl rfl ?_
        refine g_icmp_ne (tgt := 28) dX1_countOfSeat_22 (by decide) (fun hc22 => ?_) (fun hc22 => ?_)
        · have hd22 := mt i_eq.mpr hc22; (try simp (disch := omega) only [nT, t_m1000100, t_m1000010, t_m1000003, t_m1000002, t_m1000001, t_m1000000, t_m65535, t_m1000, t_m3, t_m1, t_0, t_1, t_2, t_3, t_4, t_5, t_6, t_7, t_8, t_9, t_10, t_11, t_12, t_13, t_15, t_16, t_20, t_21, t_22, t_32, t_40, t_41, t_48, t_49, t_57, t_59, t_60, t_63, t_72, t_76, t_88, t_100, t_144, t_200, t_255, t_288, t_400, t_800, t_999, t_1000, t_1024, t_1200, t_1600, t_3200, t_100000, t_200000, t_252645135, t_858993459, t_1431655765, u_m1000002, u_m1000001, u_m1000, u_m3, u_m1, u_0, u_1, u_2, u_3, u_4, u_5, u_7, u_8, u_10, u_11, u_15, u_60, u_100, u_255, u_999, u_1000, u_100000, u_4294967295] at hd22)
          refine g_iinc dX1_countOfSeat_28 rfl (Nat.le_of_ble_eq_true rfl) rfl ?_
          refine g_goto (tgt := 7) dX1_countOfSeat_31 (by decide) ?_
          rw [ni_incO]
          first
          | (rw [cnt_t (pS_t.mpr (by assumption))] at he; rw [ni_incO]; exact ih _ _ (by omega) (by omega) (by omega))
          | (rw [cnt_f (fun q => absurd (pS_t.mp q) (by assumption))] at he; exact ih _ _ (by omega) (by omega) (by omega))
        · have hd22 := i_eq.mp hc22; (try simp (disch := omega) only [nT, t_m1000100, t_m1000010, t_m1000003, t_m1000002, t_m1000001, t_m1000000, t_m65535, t_m1000, t_m3, t_m1, t_0, t_1, t_2, t_3, t_4, t_5, t_6, t_7, t_8, t_9, t_10, t_11, t_12, t_13, t_15, t_16, t_20, t_21, t_22, t_32, t_40, t_41, t_48, t_49, t_57, t_59, t_60, t_63, t_72, t_76, t_88, t_100, t_144, t_200, t_255, t_288, t_400, t_800, t_999, t_1000, t_1024, t_1200, t_1600, t_3200, t_100000, t_200000, t_252645135, t_858993459, t_1431655765, u_m1000002, u_m1000001, u_m1000, u_m3, u_m1, u_0, u_1, u_2, u_3, u_4, u_5, u_7, u_8, u_10, u_11, u_15, u_60, u_100, u_255, u_999, u_1000, u_100000, u_4294967295] at hd22)
          refine g_iinc dX1_countOfSeat_25 rfl (Nat.le_of_ble_eq_true rfl) rfl ?_
          refine g_iinc dX1_countOfSeat_28 rfl (Nat.le_of_ble_eq_true rfl) rfl ?_
          refine g_goto (tgt := 7) dX1_countOfSeat_31 (by decide) ?_
          rw [ni_incO]
          first
          | (rw [cnt_t (pS_t.mpr (by assumption))] at he; rw [ni_incO]; exact ih _ _ (by omega) (by omega) (by omega))
          | (rw [cnt_f (fun q => absurd (pS_t.mp q) (by assumption))] at he; exact ih _ _ (by omega) (by omega) (by omega))
  refine g_iconst (v := 0) dX1_countOfSeat_0 (by decide) ?_
  refine g_istore_n (i := 2) dX1_countOfSeat_1 rfl (Nat.le_of_ble_eq_true rfl) rfl ?_
  refine g_aload_n (i := 0) dX1_countOfSeat_2 rfl rfl ?_
  refine g_get dX1_countOfSeat_3 fl_X1_19 (by repeat' (first | assumption | exact rF_eq | refine rF_ne (by decide) ?_ | refine rF_a ?_ | exact rA_eq | refine rA_ne (by decide) ?_ | refine rA_f ?_)) (by repeat' (first | assumption | exact rF_eq | refine rF_ne (by decide) ?_ | refine rF_a ?_ | exact rA_eq | refine rA_ne (by decide) ?_ | refine rA_f ?_)) ?_
  refine g_istore_n (i := 3) dX1_countOfSeat_6 rfl (Nat.le_of_ble_eq_true rfl) rfl ?_
  exact key (G.1 - G.2.1) G.2.1 0 (by omega) (by omega) (by rw [Nat.zero_add]; exact hz)
theorem c_passedOfSeat {G : GL2} (hG : WfG G) {h : HH} {fa : Nat → Int32} (hg : LgG G h fa) (b : Int32) : CT mX1_passedOfSeat 1 0 0 [.ref 38, .int b] h (fun r h' => r = some (.int (nI (cP G b))) ∧ h' = h) := by
  obtain ⟨hL, hfa⟩ := hg
  obtain ⟨e1, e2, e3, e4, e5⟩ := id hL
  have hG1 := hG.1
  have hG2 := hG.2
  refine CT.go [.ref 38, .int b, hU, hU] (by decide +kernel) rfl rfl (fun Q' hQ => ?_)
  generalize hz : cP G b = z at hQ
  have key : ∀ m k acc : Nat, k + m = G.1 → acc ≤ k → acc + cnt (pP G.2.2 b) m k = z → GG (EM mX1_passedOfSeat 1 0 0 Q') 0 0 7 [.ref 38, .int b, .int (nI acc), .int (nI k)] [] h := by
    intro m
    induction m with
    | zero =>
      intro k acc hk ha he
      obtain rfl : acc = z := he
      refine g_iload_n (i := 3) dX1_passedOfSeat_7 rfl rfl ?_
      refine g_aload_n (i := 0) dX1_passedOfSeat_8 rfl rfl ?_
      refine g_get dX1_passedOfSeat_9 fl_X1_15 (by repeat' (first | assumption | exact rF_eq | refine rF_ne (by decide) ?_ | refine rF_a ?_ | exact rA_eq | refine rA_ne (by decide) ?_ | refine rA_f ?_)) (by repeat' (first | assumption | exact rF_eq | refine rF_ne (by decide) ?_ | refine rF_a ?_ | exact rA_eq | refine rA_ne (by decide) ?_ | refine rA_f ?_)) ?_
      refine g_icmp_ge (tgt := 43) dX1_passedOfSeat_12 (by decide) (fun hc12 => ?_) (fun hc12 => ?_)
      · (try simp (disch := omega) only [nT, t_m1000100, t_m1000010, t_m1000003, t_m1000002, t_m1000001, t_m1000000, t_m65535, t_m1000, t_m3, t_m1, t_0, t_1, t_2, t_3, t_4, t_5, t_6, t_7, t_8, t_9, t_10, t_11, t_12, t_13, t_15, t_16, t_20, t_21, t_22, t_32, t_40, t_41, t_48, t_49, t_57, t_59, t_60, t_63, t_72, t_76, t_88, t_100, t_144, t_200, t_255, t_288, t_400, t_800, t_999, t_1000, t_1024, t_1200, t_1600, t_3200, t_100000, t_200000, t_252645135, t_858993459, t_1431655765, u_m1000002, u_m1000001, u_m1000, u_m3, u_m1, u_0, u_1, u_2, u_3, u_4, u_5, u_7, u_8, u_10, u_11, u_15, u_60, u_100, u_255, u_999, u_1000, u_100000, u_4294967295] at hc12)
        refine g_iload_n (i := 2) dX1_passedOfSeat_43 rfl rfl ?_
        refine g_iret dX1_passedOfSeat_44 rfl (rfl) (hQ _ _ ?_)
        exact ⟨rfl, rfl⟩
      · (try simp (disch := omega) only [nT, t_m1000100, t_m1000010, t_m1000003, t_m1000002, t_m1000001, t_m1000000, t_m65535, t_m1000, t_m3, t_m1, t_0, t_1, t_2, t_3, t_4, t_5, t_6, t_7, t_8, t_9, t_10, t_11, t_12, t_13, t_15, t_16, t_20, t_21, t_22, t_32, t_40, t_41, t_48, t_49, t_57, t_59, t_60, t_63, t_72, t_76, t_88, t_100, t_144, t_200, t_255, t_288, t_400, t_800, t_999, t_1000, t_1024, t_1200, t_1600, t_3200, t_100000, t_200000, t_252645135, t_858993459, t_1431655765, u_m1000002, u_m1000001, u_m1000, u_m3, u_m1, u_0, u_1, u_2, u_3, u_4, u_5, u_7, u_8, u_10, u_11, u_15, u_60, u_100, u_255, u_999, u_1000, u_100000, u_4294967295] at hc12); omega
    | succ m ih =>
      intro k acc hk ha he
      have hf := hfa k 4 (by omega) (by omega)
      have hf0 := hfa k 0 (by omega) (by omega)
      refine g_iload_n (i := 3) dX1_passedOfSeat_7 rfl rfl ?_
      refine g_aload_n (i := 0) dX1_passedOfSeat_8 rfl rfl ?_
      refine g_get dX1_passedOfSeat_9 fl_X1_15 (by repeat' (first | assumption | exact rF_eq | refine rF_ne (by decide) ?_ | refine rF_a ?_ | exact rA_eq | refine rA_ne (by decide) ?_ | refine rA_f ?_)) (by repeat' (first | assumption | exact rF_eq | refine rF_ne (by decide) ?_ | refine rF_a ?_ | exact rA_eq | refine rA_ne (by decide) ?_ | refine rA_f ?_)) ?_
      refine g_icmp_ge (tgt := 43) dX1_passedOfSeat_12 (by decide) (fun hc12 => ?_) (fun hc12 => ?_)
      · (try simp (disch := omega) only [nT, t_m1000100, t_m1000010, t_m1000003, t_m1000002, t_m1000001, t_m1000000, t_m65535, t_m1000, t_m3, t_m1, t_0, t_1, t_2, t_3, t_4, t_5, t_6, t_7, t_8, t_9, t_10, t_11, t_12, t_13, t_15, t_16, t_20, t_21, t_22, t_32, t_40, t_41, t_48, t_49, t_57, t_59, t_60, t_63, t_72, t_76, t_88, t_100, t_144, t_200, t_255, t_288, t_400, t_800, t_999, t_1000, t_1024, t_1200, t_1600, t_3200, t_100000, t_200000, t_252645135, t_858993459, t_1431655765, u_m1000002, u_m1000001, u_m1000, u_m3, u_m1, u_0, u_1, u_2, u_3, u_4, u_5, u_7, u_8, u_10, u_11, u_15, u_60, u_100, u_255, u_999, u_1000, u_100000, u_4294967295] at hc12); omega
      · (try simp (disch := omega) only [nT, t_m1000100, t_m1000010, t_m1000003, t_m1000002, t_m1000001, t_m1000000, t_m65535, t_m1000, t_m3, t_m1, t_0, t_1, t_2, t_3, t_4, t_5, t_6, t_7, t_8, t_9, t_10, t_11, t_12, t_13, t_15, t_16, t_20, t_21, t_22, t_32, t_40, t_41, t_48, t_49, t_57, t_59, t_60, t_63, t_72, t_76, t_88, t_100, t_144, t_200, t_255, t_288, t_400, t_800, t_999, t_1000, t_1024, t_1200, t_1600, t_3200, t_100000, t_200000, t_252645135, t_858993459, t_1431655765, u_m1000002, u_m1000001, u_m1000, u_m3, u_m1, u_0, u_1, u_2, u_3, u_4, u_5, u_7, u_8, u_10, u_11, u_15, u_60, u_100, u_255, u_999, u_1000, u_100000, u_4294967295] at hc12)
        refine g_aload_n (i := 0) dX1_passedOfSeat_15 rfl rfl ?_
        refine g_iload_n (i := 3) dX1_passedOfSeat_16 rfl rfl ?_
        refine g_iconst (v := 4) dX1_passedOfSeat_17 (by decide) ?_
        refine g_callV (M' := mX1_fact) dX1_passedOfSeat_18 lc_X1_fact ml_X1_22 (c_fact hL (c := k) (i := 4) (by omega) (by omega)) rfl rfl (by repeat' (first | assumption | exact rF_eq | refine rF_ne (by decide) ?_ | refine rF_a ?_ | exact rA_eq | refine rA_ne (by decide) ?_ | refine rA_f ?_)) rfl ⟨Nat.le_of_ble_eq_true rfl, Nat.le_of_ble_eq_true rfl, Nat.le_of_ble_eq_true rfl, Nat.le_of_ble_eq_true rfl⟩ (Nat.le_of_ble_eq_true rfl) ?_
        intro r_ h_ q_; obtain ⟨q1_, q2_⟩ := q_; have q2_ := q2_.symm; subst q1_; subst q2_
        rw [hf]
        refine g_iload_n (i := 1) dX1_passedOfSeat_21 rfl rfl ?_
        refine g_icmp_ne (tgt := 37) dX1_passedOfSeat_22 (by decide) (fun hc22 => ?_) (fun hc22 => ?_)
        · have hd22 := mt i_eq.mpr hc22; (try simp (disch := omega) only [nT, t_m1000100, t_m1000010, t_m1000003, t_m1000002, t_m1000001, t_m1000000, t_m65535, t_m1000, t_m3, t_m1, t_0, t_1, t_2, t_3, t_4, t_5, t_6, t_7, t_8, t_9, t_10, t_11, t_12, t_13, t_15, t_16, t_20, t_21, t_22, t_32, t_40, t_41, t_48, t_49, t_57, t_59, t_60, t_63, t_72, t_76, t_88, t_100, t_144, t_200, t_255, t_288, t_400, t_800, t_999, t_1000, t_1024, t_1200, t_1600, t_3200, t_100000, t_200000, t_252645135, t_858993459, t_1431655765, u_m1000002, u_m1000001, u_m1000, u_m3, u_m1, u_0, u_1, u_2, u_3, u_4, u_5, u_7, u_8, u_10, u_11, u_15, u_60, u_100, u_255, u_999, u_1000, u_100000, u_4294967295] at hd22)
          refine g_iinc dX1_passedOfSeat_37 rfl (Nat.le_of_ble_eq_true rfl) rfl ?_
          refine g_goto (tgt := 7) dX1_passedOfSeat_40 (by decide) ?_
          rw [ni_incO]
          first
          | (rw [cnt_t (pP_t.mpr ⟨by assumption, by omega⟩)] at he; rw [ni_incO]; exact ih _ _ (by omega) (by omega) (by omega))
          | (rw [cnt_f (fun q => absurd (pP_t.mp q).1 (by assumption))] at he; exact ih _ _ (by omega) (by omega) (by omega))
          | (rw [cnt_f (fun q => by have := (pP_t.mp q).2; omega)] at he; exact ih _ _ (by omega) (by omega) (by omega))
        · have hd22 := i_eq.mp hc22; (try simp (disch := omega) only [nT, t_m1000100, t_m1000010, t_m1000003, t_m1000002, t_m1000001, t_m1000000, t_m65535, t_m1000, t_m3, t_m1, t_0, t_1, t_2, t_3, t_4, t_5, t_6, t_7, t_8, t_9, t_10, t_11, t_12, t_13, t_15, t_16, t_20, t_21, t_22, t_32, t_40, t_41, t_48, t_49, t_57, t_59, t_60, t_63, t_72, t_76, t_88, t_100, t_144, t_200, t_255, t_288, t_400, t_800, t_999, t_1000, t_1024, t_1200, t_1600, t_3200, t_100000, t_200000, t_252645135, t_858993459, t_1431655765, u_m1000002, u_m1000001, u_m1000, u_m3, u_m1, u_0, u_1, u_2, u_3, u_4, u_5, u_7, u_8, u_10, u_11, u_15, u_60, u_100, u_255, u_999, u_1000, u_100000, u_4294967295] at hd22)
          refine g_aload_n (i := 0) dX1_passedOfSeat_25 rfl rfl ?_
          refine g_iload_n (i := 3) dX1_passedOfSeat_26 rfl rfl ?_
          refine g_iconst (v := 0) dX1_passedOfSeat_27 (by decide) ?_
          refine g_callV (M' := mX1_fact) dX1_passedOfSeat_28 lc_X1_fact ml_X1_22 (c_fact hL (c := k) (i := 0) (by omega) (by omega)) rfl rfl (by repeat' (first | assumption | exact rF_eq | refine rF_ne (by decide) ?_ | refine rF_a ?_ | exact rA_eq | refine rA_ne (by decide) ?_ | refine rA_f ?_)) rfl ⟨Nat.le_of_ble_eq_true rfl, Nat.le_of_ble_eq_true rfl, Nat.le_of_ble_eq_true rfl, Nat.le_of_ble_eq_true rfl⟩ (Nat.le_of_ble_eq_true rfl) ?_
          intro r_ h_ q_; obtain ⟨q1_, q2_⟩ := q_; have q2_ := q2_.symm; subst q1_; subst q2_
          rw [hf0]
          refine g_if_ne (tgt := 37) dX1_passedOfSeat_31 (by decide) (fun hc31 => ?_) (fun hc31 => ?_)
          · have hd31 := mt i_eq.mpr hc31; (try simp (disch := omega) only [nT, t_m1000100, t_m1000010, t_m1000003, t_m1000002, t_m1000001, t_m1000000, t_m65535, t_m1000, t_m3, t_m1, t_0, t_1, t_2, t_3, t_4, t_5, t_6, t_7, t_8, t_9, t_10, t_11, t_12, t_13, t_15, t_16, t_20, t_21, t_22, t_32, t_40, t_41, t_48, t_49, t_57, t_59, t_60, t_63, t_72, t_76, t_88, t_100, t_144, t_200, t_255, t_288, t_400, t_800, t_999, t_1000, t_1024, t_1200, t_1600, t_3200, t_100000, t_200000, t_252645135, t_858993459, t_1431655765, u_m1000002, u_m1000001, u_m1000, u_m3, u_m1, u_0, u_1, u_2, u_3, u_4, u_5, u_7, u_8, u_10, u_11, u_15, u_60, u_100, u_255, u_999, u_1000, u_100000, u_4294967295] at hd31)
            refine g_iinc dX1_passedOfSeat_37 rfl (Nat.le_of_ble_eq_true rfl) rfl ?_
            refine g_goto (tgt := 7) dX1_passedOfSeat_40 (by decide) ?_
            rw [ni_incO]
            first
            | (rw [cnt_t (pP_t.mpr ⟨by assumption, by omega⟩)] at he; rw [ni_incO]; exact ih _ _ (by omega) (by omega) (by omega))
            | (rw [cnt_f (fun q => absurd (pP_t.mp q).1 (by assumption))] at he; exact ih _ _ (by omega) (by omega) (by omega))
            | (rw [cnt_f (fun q => by have := (pP_t.mp q).2; omega)] at he; exact ih _ _ (by omega) (by omega) (by omega))
          · have hd31 := i_eq.mp hc31; (try simp (disch := omega) only [nT, t_m1000100, t_m1000010, t_m1000003, t_m1000002, t_m1000001, t_m1000000, t_m65535, t_m1000, t_m3, t_m1, t_0, t_1, t_2, t_3, t_4, t_5, t_6, t_7, t_8, t_9, t_10, t_11, t_12, t_13, t_15, t_16, t_20, t_21, t_22, t_32, t_40, t_41, t_48, t_49, t_57, t_59, t_60, t_63, t_72, t_76, t_88, t_100, t_144, t_200, t_255, t_288, t_400, t_800, t_999, t_1000, t_1024, t_1200, t_1600, t_3200, t_100000, t_200000, t_252645135, t_858993459, t_1431655765, u_m1000002, u_m1000001, u_m1000, u_m3, u_m1, u_0, u_1, u_2, u_3, u_4, u_5, u_7, u_8, u_10, u_11, u_15, u_60, u_100, u_255, u_999, u_1000, u_100000, u_4294967295] at hd31)
            refine g_iinc dX1_passedOfSeat_34 rfl (Nat.le_of_ble_eq_true rfl) rfl ?_
            refine g_iinc dX1_passedOfSeat_37 rfl (Nat.le_of_ble_eq_true rfl) rfl ?_
            refine g_goto (tgt := 7) dX1_passedOfSeat_40 (by decide) ?_
            rw [ni_incO]
            first
            | (rw [cnt_t (pP_t.mpr ⟨by assumption, by omega⟩)] at he; rw [ni_incO]; exact ih _ _ (by omega) (by omega) (by omega))
            | (rw [cnt_f (fun q => absurd (pP_t.mp q).1 (by assumption))] at he; exact ih _ _ (by omega) (by omega) (by omega))
            | (rw [cnt_f (fun q => by have := (pP_t.mp q).2; omega)] at he; exact ih _ _ (by omega) (by omega) (by omega))
  refine g_iconst (v := 0) dX1_passedOfSeat_0 (by decide) ?_
  refine g_istore_n (i := 2) dX1_passedOfSeat_1 rfl (Nat.le_of_ble_eq_true rfl) rfl ?_
  refine g_aload_n (i := 0) dX1_passedOfSeat_2 rfl rfl ?_
  refine g_get dX1_passedOfSeat_3 fl_X1_19 (by repeat' (first | assumption | exact rF_eq | refine rF_ne (by decide) ?_ | refine rF_a ?_ | exact rA_eq | refine rA_ne (by decide) ?_ | refine rA_f ?_)) (by repeat' (first | assumption | exact rF_eq | refine rF_ne (by decide) ?_ | refine rF_a ?_ | exact rA_eq | refine rA_ne (by decide) ?_ | refine rA_f ?_)) ?_
  refine g_istore_n (i := 3) dX1_passedOfSeat_6 rfl (Nat.le_of_ble_eq_true rfl) rfl ?_
  exact key (G.1 - G.2.1) G.2.1 0 (by omega) (by omega) (by rw [Nat.zero_add]; exact hz)
theorem c_lotSize {G : GL2} (hG : WfG G) {h : HH} {fa : Nat → Int32} (hg : LgG G h fa) : CT mX1_lotSize 0 0 0 [.ref 38] h (fun r h' => r = some (.int (nI (G.1 - G.2.1))) ∧ h' = h) := by
  obtain ⟨⟨e1, e2, e3, e4, e5⟩, hfa⟩ := hg
  have hG2 := hG.2
  refine CT.go [.ref 38] (by decide +kernel) rfl rfl (fun Q' hQ => ?_)
  refine g_aload_n (i := 0) dX1_lotSize_0 rfl rfl ?_
  refine g_get dX1_lotSize_1 fl_X1_15 (by repeat' (first | assumption | exact rF_eq | refine rF_ne (by decide) ?_ | refine rF_a ?_ | exact rA_eq | refine rA_ne (by decide) ?_ | refine rA_f ?_)) (by repeat' (first | assumption | exact rF_eq | refine rF_ne (by decide) ?_ | refine rF_a ?_ | exact rA_eq | refine rA_ne (by decide) ?_ | refine rA_f ?_)) ?_
  refine g_aload_n (i := 0) dX1_lotSize_4 rfl rfl ?_
  refine g_get dX1_lotSize_5 fl_X1_19 (by repeat' (first | assumption | exact rF_eq | refine rF_ne (by decide) ?_ | refine rF_a ?_ | exact rA_eq | refine rA_ne (by decide) ?_ | refine rA_f ?_)) (by repeat' (first | assumption | exact rF_eq | refine rF_ne (by decide) ?_ | refine rF_a ?_ | exact rA_eq | refine rA_ne (by decide) ?_ | refine rA_f ?_)) ?_
  refine g_isub dX1_lotSize_8 ?_
  refine g_iret dX1_lotSize_9 rfl (rfl) (hQ _ _ ?_)
  rw [n_sub hG2]; exact ⟨rfl, rfl⟩
theorem c_binned {G : GL2} (hG : WfG G) {h : HH} (go : GOM G h) (b : Int32) : CT mX8_binned 0 0 0 [.ref 44, .int b] h (fun r h' => r = some (.int (nI (cB G b))) ∧ h' = h) := by
  obtain ⟨e1, o2, o3, ⟨o4, o5, o6, o7, o8, o9⟩, o10, o11, o12, o13, o14, o15⟩ := go
  have hG1 := hG.1
  have hG2 := hG.2
  refine CT.go [.ref 44, .int b, hU, hU] (by decide +kernel) rfl rfl (fun Q' hQ => ?_)
  generalize hz : cB G b = z at hQ
  have key : ∀ m k acc : Nat, k + m = G.1 → acc ≤ k → acc + cnt (pB G.2.2 b) m k = z → GG (EM mX8_binned 0 0 0 Q') 0 0 7 [.ref 44, .int b, .int (nI acc), .int (nI k)] [] h := by
    intro m
    induction m with
    | zero =>
      intro k acc hk ha he
      obtain rfl : acc = z := he
      refine g_iload_n (i := 3) dX8_binned_7 rfl rfl ?_
      refine g_aload_n (i := 0) dX8_binned_8 rfl rfl ?_
      refine g_get dX8_binned_9 fl_X8_240 (by repeat' (first | assumption | exact rF_eq | refine rF_ne (by decide) ?_ | refine rF_a ?_ | exact rA_eq | refine rA_ne (by decide) ?_ | refine rA_f ?_)) (by repeat' (first | assumption | exact rF_eq | refine rF_ne (by decide) ?_ | refine rF_a ?_ | exact rA_eq | refine rA_ne (by decide) ?_ | refine rA_f ?_)) ?_
      refine g_icmp_ge (tgt := 39) dX8_binned_12 (by decide) (fun hc12 => ?_) (fun hc12 => ?_)
      · (try simp (disch := omega) only [nT, t_m1000100, t_m1000010, t_m1000003, t_m1000002, t_m1000001, t_m1000000, t_m65535, t_m1000, t_m3, t_m1, t_0, t_1, t_2, t_3, t_4, t_5, t_6, t_7, t_8, t_9, t_10, t_11, t_12, t_13, t_15, t_16, t_20, t_21, t_22, t_32, t_40, t_41, t_48, t_49, t_57, t_59, t_60, t_63, t_72, t_76, t_88, t_100, t_144, t_200, t_255, t_288, t_400, t_800, t_999, t_1000, t_1024, t_1200, t_1600, t_3200, t_100000, t_200000, t_252645135, t_858993459, t_1431655765, u_m1000002, u_m1000001, u_m1000, u_m3, u_m1, u_0, u_1, u_2, u_3, u_4, u_5, u_7, u_8, u_10, u_11, u_15, u_60, u_100, u_255, u_999, u_1000, u_100000, u_4294967295] at hc12)
        refine g_iload_n (i := 2) dX8_binned_39 rfl rfl ?_
        refine g_iret dX8_binned_40 rfl (rfl) (hQ _ _ ?_)
        exact ⟨rfl, rfl⟩
      · (try simp (disch := omega) only [nT, t_m1000100, t_m1000010, t_m1000003, t_m1000002, t_m1000001, t_m1000000, t_m65535, t_m1000, t_m3, t_m1, t_0, t_1, t_2, t_3, t_4, t_5, t_6, t_7, t_8, t_9, t_10, t_11, t_12, t_13, t_15, t_16, t_20, t_21, t_22, t_32, t_40, t_41, t_48, t_49, t_57, t_59, t_60, t_63, t_72, t_76, t_88, t_100, t_144, t_200, t_255, t_288, t_400, t_800, t_999, t_1000, t_1024, t_1200, t_1600, t_3200, t_100000, t_200000, t_252645135, t_858993459, t_1431655765, u_m1000002, u_m1000001, u_m1000, u_m3, u_m1, u_0, u_1, u_2, u_3, u_4, u_5, u_7, u_8, u_10, u_11, u_15, u_60, u_100, u_255, u_999, u_1000, u_100000, u_4294967295] at hc12); omega
    | succ m ih =>
      intro k acc hk ha he
      refine g_iload_n (i := 3) dX8_binned_7 rfl rfl ?_
      refine g_aload_n (i := 0) dX8_binned_8 rfl rfl ?_
      refine g_get dX8_binned_9 fl_X8_240 (by repeat' (first | assumption | exact rF_eq | refine rF_ne (by decide) ?_ | refine rF_a ?_ | exact rA_eq | refine rA_ne (by decide) ?_ | refine rA_f ?_)) (by repeat' (first | assumption | exact rF_eq | refine rF_ne (by decide) ?_ | refine rF_a ?_ | exact rA_eq | refine rA_ne (by decide) ?_ | refine rA_f ?_)) ?_
      refine g_icmp_ge (tgt := 39) dX8_binned_12 (by decide) (fun hc12 => ?_) (fun hc12 => ?_)
      · (try simp (disch := omega) only [nT, t_m1000100, t_m1000010, t_m1000003, t_m1000002, t_m1000001, t_m1000000, t_m65535, t_m1000, t_m3, t_m1, t_0, t_1, t_2, t_3, t_4, t_5, t_6, t_7, t_8, t_9, t_10, t_11, t_12, t_13, t_15, t_16, t_20, t_21, t_22, t_32, t_40, t_41, t_48, t_49, t_57, t_59, t_60, t_63, t_72, t_76, t_88, t_100, t_144, t_200, t_255, t_288, t_400, t_800, t_999, t_1000, t_1024, t_1200, t_1600, t_3200, t_100000, t_200000, t_252645135, t_858993459, t_1431655765, u_m1000002, u_m1000001, u_m1000, u_m3, u_m1, u_0, u_1, u_2, u_3, u_4, u_5, u_7, u_8, u_10, u_11, u_15, u_60, u_100, u_255, u_999, u_1000, u_100000, u_4294967295] at hc12); omega
      · (try simp (disch := omega) only [nT, t_m1000100, t_m1000010, t_m1000003, t_m1000002, t_m1000001, t_m1000000, t_m65535, t_m1000, t_m3, t_m1, t_0, t_1, t_2, t_3, t_4, t_5, t_6, t_7, t_8, t_9, t_10, t_11, t_12, t_13, t_15, t_16, t_20, t_21, t_22, t_32, t_40, t_41, t_48, t_49, t_57, t_59, t_60, t_63, t_72, t_76, t_88, t_100, t_144, t_200, t_255, t_288, t_400, t_800, t_999, t_1000, t_1024, t_1200, t_1600, t_3200, t_100000, t_200000, t_252645135, t_858993459, t_1431655765, u_m1000002, u_m1000001, u_m1000, u_m3, u_m1, u_0, u_1, u_2, u_3, u_4, u_5, u_7, u_8, u_10, u_11, u_15, u_60, u_100, u_255, u_999, u_1000, u_100000, u_4294967295] at hc12)
        refine g_iload_n (i := 2) dX8_binned_15 rfl rfl ?_
        refine g_aload_n (i := 0) dX8_binned_16 rfl rfl ?_
        refine g_get dX8_binned_17 fl_X8_79 (by repeat' (first | assumption | exact rF_eq | refine rF_ne (by decide) ?_ | refine rF_a ?_ | exact rA_eq | refine rA_ne (by decide) ?_ | refine rA_f ?_)) (by repeat' (first | assumption | exact rF_eq | refine rF_ne (by decide) ?_ | refine rF_a ?_ | exact rA_eq | refine rA_ne (by decide) ?_ | refine rA_f ?_)) ?_
        refine g_iload_n (i := 3) dX8_binned_20 rfl rfl ?_
        refine g_iald dX8_binned_21 (by repeat' (first | assumption | exact rF_eq | refine rF_ne (by decide) ?_ | refine rF_a ?_ | exact rA_eq | refine rA_ne (by decide) ?_ | refine rA_f ?_)) (nT (by omega)) (by omega) ?_
        refine g_iload_n (i := 1) dX8_binned_22 rfl rfl ?_
        refine g_icmp_ne (tgt := 30) dX8_binned_23 (by decide) (fun hc23 => ?_) (fun hc23 => ?_)
        · have hd23 := mt i_eq.mpr hc23; (try simp (disch := omega) only [nT, t_m1000100, t_m1000010, t_m1000003, t_m1000002, t_m1000001, t_m1000000, t_m65535, t_m1000, t_m3, t_m1, t_0, t_1, t_2, t_3, t_4, t_5, t_6, t_7, t_8, t_9, t_10, t_11, t_12, t_13, t_15, t_16, t_20, t_21, t_22, t_32, t_40, t_41, t_48, t_49, t_57, t_59, t_60, t_63, t_72, t_76, t_88, t_100, t_144, t_200, t_255, t_288, t_400, t_800, t_999, t_1000, t_1024, t_1200, t_1600, t_3200, t_100000, t_200000, t_252645135, t_858993459, t_1431655765, u_m1000002, u_m1000001, u_m1000, u_m3, u_m1, u_0, u_1, u_2, u_3, u_4, u_5, u_7, u_8, u_10, u_11, u_15, u_60, u_100, u_255, u_999, u_1000, u_100000, u_4294967295] at hd23)
          refine g_iconst (v := 0) dX8_binned_30 (by decide) ?_
          refine g_iadd dX8_binned_31 ?_
          refine g_istore_n (i := 2) dX8_binned_32 rfl (Nat.le_of_ble_eq_true rfl) rfl ?_
          refine g_iinc dX8_binned_33 rfl (Nat.le_of_ble_eq_true rfl) rfl ?_
          refine g_goto (tgt := 7) dX8_binned_36 (by decide) ?_
          rw [ni_incO]
          first
          | (rw [cnt_t (pB_t.mpr (by assumption))] at he; rw [ni_inc]; exact ih _ _ (by omega) (by omega) (by omega))
          | (rw [cnt_f (fun q => absurd (pB_t.mp q) (by assumption))] at he; rw [Int32.add_zero]; exact ih _ _ (by omega) (by omega) (by omega))
        · have hd23 := i_eq.mp hc23; (try simp (disch := omega) only [nT, t_m1000100, t_m1000010, t_m1000003, t_m1000002, t_m1000001, t_m1000000, t_m65535, t_m1000, t_m3, t_m1, t_0, t_1, t_2, t_3, t_4, t_5, t_6, t_7, t_8, t_9, t_10, t_11, t_12, t_13, t_15, t_16, t_20, t_21, t_22, t_32, t_40, t_41, t_48, t_49, t_57, t_59, t_60, t_63, t_72, t_76, t_88, t_100, t_144, t_200, t_255, t_288, t_400, t_800, t_999, t_1000, t_1024, t_1200, t_1600, t_3200, t_100000, t_200000, t_252645135, t_858993459, t_1431655765, u_m1000002, u_m1000001, u_m1000, u_m3, u_m1, u_0, u_1, u_2, u_3, u_4, u_5, u_7, u_8, u_10, u_11, u_15, u_60, u_100, u_255, u_999, u_1000, u_100000, u_4294967295] at hd23)
          refine g_iconst (v := 1) dX8_binned_26 (by decide) ?_
          refine g_goto (tgt := 31) dX8_binned_27 (by decide) ?_
          refine g_iadd dX8_binned_31 ?_
          refine g_istore_n (i := 2) dX8_binned_32 rfl (Nat.le_of_ble_eq_true rfl) rfl ?_
          refine g_iinc dX8_binned_33 rfl (Nat.le_of_ble_eq_true rfl) rfl ?_
          refine g_goto (tgt := 7) dX8_binned_36 (by decide) ?_
          rw [ni_incO]
          first
          | (rw [cnt_t (pB_t.mpr (by assumption))] at he; rw [ni_inc]; exact ih _ _ (by omega) (by omega) (by omega))
          | (rw [cnt_f (fun q => absurd (pB_t.mp q) (by assumption))] at he; rw [Int32.add_zero]; exact ih _ _ (by omega) (by omega) (by omega))
  refine g_iconst (v := 0) dX8_binned_0 (by decide) ?_
  refine g_istore_n (i := 2) dX8_binned_1 rfl (Nat.le_of_ble_eq_true rfl) rfl ?_
  refine g_aload_n (i := 0) dX8_binned_2 rfl rfl ?_
  refine g_get dX8_binned_3 fl_X8_284 (by repeat' (first | assumption | exact rF_eq | refine rF_ne (by decide) ?_ | refine rF_a ?_ | exact rA_eq | refine rA_ne (by decide) ?_ | refine rA_f ?_)) (by repeat' (first | assumption | exact rF_eq | refine rF_ne (by decide) ?_ | refine rF_a ?_ | exact rA_eq | refine rA_ne (by decide) ?_ | refine rA_f ?_)) ?_
  refine g_istore_n (i := 3) dX8_binned_6 rfl (Nat.le_of_ble_eq_true rfl) rfl ?_
  exact key (G.1 - G.2.1) G.2.1 0 (by omega) (by omega) (by rw [Nat.zero_add]; exact hz)
theorem bI_c {c e : Prop} [Decidable c] [Decidable e] (h : c ↔ e) : bI c = bI e := by
  by_cases q : c
  · rw [bI_t q, bI_t (h.mp q)]
  · rw [bI_f q, bI_f (fun z => q (h.mpr z))]
/-! lot, bins -/
theorem x_lot {G : GL2} (hG : WfG G) {h : HH} (go : GOX G h) : CT mX7_lot 1 0 0 [.ref 0] h (fun r h' => r = some (.int (nI (G.1 - G.2.1))) ∧ h' = sF h 38 2 (.int (nI G.1))) := by
  obtain ⟨fa, ⟨h0, h13⟩, hL, hfa⟩ := go
  obtain ⟨l1, l2, l3, l4, l5⟩ := id hL
  refine CT.go [.ref 0, hU] (by decide +kernel) rfl rfl (fun Q' hQ => ?_)
  refine g_aload_n (i := 0) dX7_lot_0 rfl rfl ?_
  refine g_get dX7_lot_1 fl_X7_76 (by repeat' (first | assumption | exact rF_eq | refine rF_ne (by decide) ?_ | refine rF_a ?_ | exact rA_eq | refine rA_ne (by decide) ?_ | refine rA_f ?_)) (by repeat' (first | assumption | exact rF_eq | refine rF_ne (by decide) ?_ | refine rF_a ?_ | exact rA_eq | refine rA_ne (by decide) ?_ | refine rA_f ?_)) ?_
  refine g_callV (M' := mX1_lotSize) dX7_lot_4 lc_X1_lotSize ml_X7_307 (c_lotSize hG ⟨hL, hfa⟩) rfl rfl (by repeat' (first | assumption | exact rF_eq | refine rF_ne (by decide) ?_ | refine rF_a ?_ | exact rA_eq | refine rA_ne (by decide) ?_ | refine rA_f ?_)) rfl ⟨Nat.le_of_ble_eq_true rfl, Nat.le_of_ble_eq_true rfl, Nat.le_of_ble_eq_true rfl, Nat.le_of_ble_eq_true rfl⟩ (Nat.le_of_ble_eq_true rfl) ?_
  intro r_ h_ q_; obtain ⟨q1_, q2_⟩ := q_; have q2_ := q2_.symm; subst q1_; subst q2_
  refine g_istore_n (i := 1) dX7_lot_7 rfl (Nat.le_of_ble_eq_true rfl) rfl ?_
  refine g_aload_n (i := 0) dX7_lot_8 rfl rfl ?_
  refine g_get dX7_lot_9 fl_X7_76 (by repeat' (first | assumption | exact rF_eq | refine rF_ne (by decide) ?_ | refine rF_a ?_ | exact rA_eq | refine rA_ne (by decide) ?_ | refine rA_f ?_)) (by repeat' (first | assumption | exact rF_eq | refine rF_ne (by decide) ?_ | refine rF_a ?_ | exact rA_eq | refine rA_ne (by decide) ?_ | refine rA_f ?_)) ?_
  refine g_aload_n (i := 0) dX7_lot_12 rfl rfl ?_
  refine g_get dX7_lot_13 fl_X7_76 (by repeat' (first | assumption | exact rF_eq | refine rF_ne (by decide) ?_ | refine rF_a ?_ | exact rA_eq | refine rA_ne (by decide) ?_ | refine rA_f ?_)) (by repeat' (first | assumption | exact rF_eq | refine rF_ne (by decide) ?_ | refine rF_a ?_ | exact rA_eq | refine rA_ne (by decide) ?_ | refine rA_f ?_)) ?_
  refine g_get dX7_lot_16 fl_X7_232 (by repeat' (first | assumption | exact rF_eq | refine rF_ne (by decide) ?_ | refine rF_a ?_ | exact rA_eq | refine rA_ne (by decide) ?_ | refine rA_f ?_)) (by repeat' (first | assumption | exact rF_eq | refine rF_ne (by decide) ?_ | refine rF_a ?_ | exact rA_eq | refine rA_ne (by decide) ?_ | refine rA_f ?_)) ?_
  refine g_put dX7_lot_19 pl_X7_310 (by repeat' (first | assumption | exact rF_eq | refine rF_ne (by decide) ?_ | refine rF_a ?_ | exact rA_eq | refine rA_ne (by decide) ?_ | refine rA_f ?_)) (fun _ => ⟨rfl, rfl⟩) ?_
  refine g_iload_n (i := 1) dX7_lot_22 rfl rfl ?_
  refine g_iret dX7_lot_23 rfl (rfl) (hQ _ _ ?_)
  exact ⟨rfl, rfl⟩
theorem m_lot {G : GL2} (hG : WfG G) {h : HH} (go : GOM G h) : CT mX8_lot 0 0 0 [.ref 44] h (fun r h' => r = some (.int (nI (G.1 - G.2.1))) ∧ h' = sF (sF h 44 0 (.int 0)) 44 43 (.int (nI G.1))) := by
  obtain ⟨e1, o2, o3, ⟨o4, o5, o6, o7, o8, o9⟩, o10, o11, o12, o13, o14, o15⟩ := go
  refine CT.go [.ref 44, hU] (by decide +kernel) rfl rfl (fun Q' hQ => ?_)
  refine g_aload_n (i := 0) dX8_lot_0 rfl rfl ?_
  refine g_iconst (v := 0) dX8_lot_1 (by decide) ?_
  refine g_put dX8_lot_2 pl_X8_107 (by repeat' (first | assumption | exact rF_eq | refine rF_ne (by decide) ?_ | refine rF_a ?_ | exact rA_eq | refine rA_ne (by decide) ?_ | refine rA_f ?_)) (fun _ => ⟨rfl, rfl⟩) ?_
  refine g_aload_n (i := 0) dX8_lot_5 rfl rfl ?_
  refine g_get dX8_lot_6 fl_X8_240 (by repeat' (first | assumption | exact rF_eq | refine rF_ne (by decide) ?_ | refine rF_a ?_ | exact rA_eq | refine rA_ne (by decide) ?_ | refine rA_f ?_)) (by repeat' (first | assumption | exact rF_eq | refine rF_ne (by decide) ?_ | refine rF_a ?_ | exact rA_eq | refine rA_ne (by decide) ?_ | refine rA_f ?_)) ?_
  refine g_aload_n (i := 0) dX8_lot_9 rfl rfl ?_
  refine g_get dX8_lot_10 fl_X8_284 (by repeat' (first | assumption | exact rF_eq | refine rF_ne (by decide) ?_ | refine rF_a ?_ | exact rA_eq | refine rA_ne (by decide) ?_ | refine rA_f ?_)) (by repeat' (first | assumption | exact rF_eq | refine rF_ne (by decide) ?_ | refine rF_a ?_ | exact rA_eq | refine rA_ne (by decide) ?_ | refine rA_f ?_)) ?_
  refine g_isub dX8_lot_13 ?_
  refine g_istore_n (i := 1) dX8_lot_14 rfl (Nat.le_of_ble_eq_true rfl) rfl ?_
  refine g_aload_n (i := 0) dX8_lot_15 rfl rfl ?_
  refine g_aload_n (i := 0) dX8_lot_16 rfl rfl ?_
  refine g_get dX8_lot_17 fl_X8_240 (by repeat' (first | assumption | exact rF_eq | refine rF_ne (by decide) ?_ | refine rF_a ?_ | exact rA_eq | refine rA_ne (by decide) ?_ | refine rA_f ?_)) (by repeat' (first | assumption | exact rF_eq | refine rF_ne (by decide) ?_ | refine rF_a ?_ | exact rA_eq | refine rA_ne (by decide) ?_ | refine rA_f ?_)) ?_
  refine g_put dX8_lot_20 pl_X8_284 (by repeat' (first | assumption | exact rF_eq | refine rF_ne (by decide) ?_ | refine rF_a ?_ | exact rA_eq | refine rA_ne (by decide) ?_ | refine rA_f ?_)) (fun _ => ⟨rfl, rfl⟩) ?_
  refine g_iload_n (i := 1) dX8_lot_23 rfl rfl ?_
  refine g_iret dX8_lot_24 rfl (rfl) (hQ _ _ ?_)
  rw [n_sub hG.2]; exact ⟨rfl, rfl⟩
def opBins (G : GL2) (b : Int32) : Int32 := if 0 ≤ b.toInt ∧ b.toInt < 16 then nI (cB G b) else -1000001
theorem x_bins {G : GL2} (hG : WfG G) {h : HH} (go : GOX G h) (b : Int32) : CT mX7_bins 2 0 0 [.ref 0, .int b] h (fun r h' => r = some (.int (opBins G b)) ∧ h' = h) := by
  obtain ⟨fa, ⟨h0, h13⟩, hL, hfa⟩ := go
  have l1 := hL.1
  refine CT.go [.ref 0, .int b] (by decide +kernel) rfl rfl (fun Q' hQ => ?_)
  refine g_iload_n (i := 1) dX7_bins_0 rfl rfl ?_
  refine g_bipush (v := 16) dX7_bins_1 (by decide) ?_
  refine g_callS (M' := mX7_isWithin) dX7_bins_3 lc_X7_isWithin ml_X7_90 (c_isWithin h b 16 16 rfl) rfl rfl ⟨Nat.le_of_ble_eq_true rfl, Nat.le_of_ble_eq_true rfl, Nat.le_of_ble_eq_true rfl, Nat.le_of_ble_eq_true rfl⟩ (Nat.le_of_ble_eq_true rfl) ?_
  intro r_ h_ q_; obtain ⟨q1_, q2_⟩ := q_; have q2_ := q2_.symm; subst q1_; subst q2_
  refine g_if_eq (tgt := 20) dX7_bins_6 (by decide) (fun hc6 => ?_) (fun hc6 => ?_)
  · replace hc6 := bI_0.mp hc6
    (try simp (disch := omega) only [nT, t_m1000100, t_m1000010, t_m1000003, t_m1000002, t_m1000001, t_m1000000, t_m65535, t_m1000, t_m3, t_m1, t_0, t_1, t_2, t_3, t_4, t_5, t_6, t_7, t_8, t_9, t_10, t_11, t_12, t_13, t_15, t_16, t_20, t_21, t_22, t_32, t_40, t_41, t_48, t_49, t_57, t_59, t_60, t_63, t_72, t_76, t_88, t_100, t_144, t_200, t_255, t_288, t_400, t_800, t_999, t_1000, t_1024, t_1200, t_1600, t_3200, t_100000, t_200000, t_252645135, t_858993459, t_1431655765, u_m1000002, u_m1000001, u_m1000, u_m3, u_m1, u_0, u_1, u_2, u_3, u_4, u_5, u_7, u_8, u_10, u_11, u_15, u_60, u_100, u_255, u_999, u_1000, u_100000, u_4294967295] at hc6)
    refine g_ldc dX7_bins_20 kc_X7_94 ?_
    refine g_iret dX7_bins_22 rfl (rfl) (hQ _ _ ?_)
    first
    | (have e : opBins G b = _ := if_pos (by omega); rw [e]; exact ⟨rfl, rfl⟩)
    | (have e : opBins G b = _ := if_neg (by omega); rw [e]; exact ⟨rfl, rfl⟩)
  · replace hc6 := bI_n0.mp hc6
    (try simp (disch := omega) only [nT, t_m1000100, t_m1000010, t_m1000003, t_m1000002, t_m1000001, t_m1000000, t_m65535, t_m1000, t_m3, t_m1, t_0, t_1, t_2, t_3, t_4, t_5, t_6, t_7, t_8, t_9, t_10, t_11, t_12, t_13, t_15, t_16, t_20, t_21, t_22, t_32, t_40, t_41, t_48, t_49, t_57, t_59, t_60, t_63, t_72, t_76, t_88, t_100, t_144, t_200, t_255, t_288, t_400, t_800, t_999, t_1000, t_1024, t_1200, t_1600, t_3200, t_100000, t_200000, t_252645135, t_858993459, t_1431655765, u_m1000002, u_m1000001, u_m1000, u_m3, u_m1, u_0, u_1, u_2, u_3, u_4, u_5, u_7, u_8, u_10, u_11, u_15, u_60, u_100, u_255, u_999, u_1000, u_100000, u_4294967295] at hc6)
    refine g_aload_n (i := 0) dX7_bins_9 rfl rfl ?_
    refine g_get dX7_bins_10 fl_X7_76 (by repeat' (first | assumption | exact rF_eq | refine rF_ne (by decide) ?_ | refine rF_a ?_ | exact rA_eq | refine rA_ne (by decide) ?_ | refine rA_f ?_)) (by repeat' (first | assumption | exact rF_eq | refine rF_ne (by decide) ?_ | refine rF_a ?_ | exact rA_eq | refine rA_ne (by decide) ?_ | refine rA_f ?_)) ?_
    refine g_iload_n (i := 1) dX7_bins_13 rfl rfl ?_
    refine g_callV (M' := mX1_countOfBin) dX7_bins_14 lc_X1_countOfBin ml_X7_313 (c_countOfBin hG ⟨hL, hfa⟩ b) rfl rfl (by repeat' (first | assumption | exact rF_eq | refine rF_ne (by decide) ?_ | refine rF_a ?_ | exact rA_eq | refine rA_ne (by decide) ?_ | refine rA_f ?_)) rfl ⟨Nat.le_of_ble_eq_true rfl, Nat.le_of_ble_eq_true rfl, Nat.le_of_ble_eq_true rfl, Nat.le_of_ble_eq_true rfl⟩ (Nat.le_of_ble_eq_true rfl) ?_
    intro r_ h_ q_; obtain ⟨q1_, q2_⟩ := q_; have q2_ := q2_.symm; subst q1_; subst q2_
    refine g_goto (tgt := 22) dX7_bins_17 (by decide) ?_
    refine g_iret dX7_bins_22 rfl (rfl) (hQ _ _ ?_)
    first
    | (have e : opBins G b = _ := if_pos (by omega); rw [e]; exact ⟨rfl, rfl⟩)
    | (have e : opBins G b = _ := if_neg (by omega); rw [e]; exact ⟨rfl, rfl⟩)
theorem m_bins {G : GL2} (hG : WfG G) {h : HH} (go : GOM G h) (b : Int32) : CT mX8_bins 1 0 0 [.ref 44, .int b] h (fun r h' => r = some (.int (opBins G b)) ∧ h' = sF h 44 0 (.int 0)) := by
  have e1 := go.1
  refine CT.go [.ref 44, .int b] (by decide +kernel) rfl rfl (fun Q' hQ => ?_)
  refine g_aload_n (i := 0) dX8_bins_0 rfl rfl ?_
  refine g_iconst (v := 0) dX8_bins_1 (by decide) ?_
  refine g_put dX8_bins_2 pl_X8_107 (by repeat' (first | assumption | exact rF_eq | refine rF_ne (by decide) ?_ | refine rF_a ?_ | exact rA_eq | refine rA_ne (by decide) ?_ | refine rA_f ?_)) (fun _ => ⟨rfl, rfl⟩) ?_
  refine g_iload_n (i := 1) dX8_bins_5 rfl rfl ?_
  refine g_i2l dX8_bins_6 ?_
  refine g_lconst (v := 0) dX8_bins_7 (by decide) ?_
  refine g_ldc2 dX8_bins_8 kc_X8_202 ?_
  refine g_callS (M' := mX8_in) dX8_bins_11 lc_X8_in ml_X8_116 (c_in _ b.toInt64 0 15 0 15 rfl rfl) rfl rfl ⟨Nat.le_of_ble_eq_true rfl, Nat.le_of_ble_eq_true rfl, Nat.le_of_ble_eq_true rfl, Nat.le_of_ble_eq_true rfl⟩ (Nat.le_of_ble_eq_true rfl) ?_
  intro r_ h_ q_; obtain ⟨q1_, q2_⟩ := q_; have q2_ := q2_.symm; subst q1_; subst q2_
  rw [l_i]
  refine g_if_eq (tgt := 25) dX8_bins_14 (by decide) (fun hc14 => ?_) (fun hc14 => ?_)
  · replace hc14 := bI_0.mp hc14
    (try simp (disch := omega) only [nT, t_m1000100, t_m1000010, t_m1000003, t_m1000002, t_m1000001, t_m1000000, t_m65535, t_m1000, t_m3, t_m1, t_0, t_1, t_2, t_3, t_4, t_5, t_6, t_7, t_8, t_9, t_10, t_11, t_12, t_13, t_15, t_16, t_20, t_21, t_22, t_32, t_40, t_41, t_48, t_49, t_57, t_59, t_60, t_63, t_72, t_76, t_88, t_100, t_144, t_200, t_255, t_288, t_400, t_800, t_999, t_1000, t_1024, t_1200, t_1600, t_3200, t_100000, t_200000, t_252645135, t_858993459, t_1431655765, u_m1000002, u_m1000001, u_m1000, u_m3, u_m1, u_0, u_1, u_2, u_3, u_4, u_5, u_7, u_8, u_10, u_11, u_15, u_60, u_100, u_255, u_999, u_1000, u_100000, u_4294967295] at hc14)
    refine g_ldc dX8_bins_25 kc_X8_126 ?_
    refine g_iret dX8_bins_27 rfl (rfl) (hQ _ _ ?_)
    first
    | (have e : opBins G b = _ := if_pos (by omega); rw [e]; exact ⟨rfl, rfl⟩)
    | (have e : opBins G b = _ := if_neg (by omega); rw [e]; exact ⟨rfl, rfl⟩)
  · replace hc14 := bI_n0.mp hc14
    (try simp (disch := omega) only [nT, t_m1000100, t_m1000010, t_m1000003, t_m1000002, t_m1000001, t_m1000000, t_m65535, t_m1000, t_m3, t_m1, t_0, t_1, t_2, t_3, t_4, t_5, t_6, t_7, t_8, t_9, t_10, t_11, t_12, t_13, t_15, t_16, t_20, t_21, t_22, t_32, t_40, t_41, t_48, t_49, t_57, t_59, t_60, t_63, t_72, t_76, t_88, t_100, t_144, t_200, t_255, t_288, t_400, t_800, t_999, t_1000, t_1024, t_1200, t_1600, t_3200, t_100000, t_200000, t_252645135, t_858993459, t_1431655765, u_m1000002, u_m1000001, u_m1000, u_m3, u_m1, u_0, u_1, u_2, u_3, u_4, u_5, u_7, u_8, u_10, u_11, u_15, u_60, u_100, u_255, u_999, u_1000, u_100000, u_4294967295] at hc14)
    refine g_aload_n (i := 0) dX8_bins_17 rfl rfl ?_
    refine g_iload_n (i := 1) dX8_bins_18 rfl rfl ?_
    refine g_callV (M' := mX8_binned) dX8_bins_19 lc_X8_binned ml_X8_287 (c_binned (h := sF h 44 0 (.int 0)) hG go b) rfl rfl (by repeat' (first | assumption | exact rF_eq | refine rF_ne (by decide) ?_ | refine rF_a ?_ | exact rA_eq | refine rA_ne (by decide) ?_ | refine rA_f ?_)) rfl ⟨Nat.le_of_ble_eq_true rfl, Nat.le_of_ble_eq_true rfl, Nat.le_of_ble_eq_true rfl, Nat.le_of_ble_eq_true rfl⟩ (Nat.le_of_ble_eq_true rfl) ?_
    intro r_ h_ q_; obtain ⟨q1_, q2_⟩ := q_; have q2_ := q2_.symm; subst q1_; subst q2_
    refine g_goto (tgt := 27) dX8_bins_22 (by decide) ?_
    refine g_iret dX8_bins_27 rfl (rfl) (hQ _ _ ?_)
    first
    | (have e : opBins G b = _ := if_pos (by omega); rw [e]; exact ⟨rfl, rfl⟩)
    | (have e : opBins G b = _ := if_neg (by omega); rw [e]; exact ⟨rfl, rfl⟩)
/-! held -/
def hldB (G : GL2) (m : Int32) : Nat → Nat → Bool
  | 0, _ => false
  | r + 1, b => decide (m.toInt < (cB G (nI b) : Int)) || hldB G m r (b + 1)
def opHeld (G : GL2) (y m : Int32) : Int32 :=
  if ¬ (0 ≤ y.toInt ∧ y.toInt ≤ 100) ∨ m.toInt < 0 then -1000001
  else if G.1 = G.2.1 then -1000002
  else bI (((100 : Int32) * nI (cB G 0)).toInt < (y * nI (G.1 - G.2.1)).toInt ∨ hldB G m 15 1 = true)
theorem c_isHeld {G : GL2} (hG : WfG G) {h : HH} {fa : Nat → Int32} (hg : LgG G h fa) (y m : Int32) : CT mX1_isHeld 2 0 0 [.ref 38, .int y, .int m] h (fun r h' => r = some (.int (bI (((100 : Int32) * nI (cB G 0)).toInt < (y * nI (G.1 - G.2.1)).toInt ∨ hldB G m 15 1 = true))) ∧ h' = h) := by
  have l1 := hg.1.1
  refine CT.go [.ref 38, .int y, .int m, hU] (by decide +kernel) rfl rfl (fun Q' hQ => ?_)
  generalize hz : hldB G m 15 1 = z at hQ
  have key : ¬ ((100 : Int32) * nI (cB G 0)).toInt < (y * nI (G.1 - G.2.1)).toInt → ∀ r b : Nat, b + r = 16 → hldB G m r b = z → GG (EM mX1_isHeld 2 0 0 Q') 0 0 21 [.ref 38, .int y, .int m, .int (nI b)] [] h := by
    intro hn r
    induction r with
    | zero =>
      intro b hb he
      obtain rfl : false = z := he
      rw [bI_f (fun q => q.elim hn (fun z => Bool.noConfusion z))] at hQ
      refine g_iload_n (i := 3) dX1_isHeld_21 rfl rfl ?_
      refine g_bipush (v := 16) dX1_isHeld_22 (by decide) ?_
      refine g_icmp_ge (tgt := 44) dX1_isHeld_24 (by decide) (fun hc24 => ?_) (fun hc24 => ?_)
      · (try simp (disch := omega) only [nT, t_m1000100, t_m1000010, t_m1000003, t_m1000002, t_m1000001, t_m1000000, t_m65535, t_m1000, t_m3, t_m1, t_0, t_1, t_2, t_3, t_4, t_5, t_6, t_7, t_8, t_9, t_10, t_11, t_12, t_13, t_15, t_16, t_20, t_21, t_22, t_32, t_40, t_41, t_48, t_49, t_57, t_59, t_60, t_63, t_72, t_76, t_88, t_100, t_144, t_200, t_255, t_288, t_400, t_800, t_999, t_1000, t_1024, t_1200, t_1600, t_3200, t_100000, t_200000, t_252645135, t_858993459, t_1431655765, u_m1000002, u_m1000001, u_m1000, u_m3, u_m1, u_0, u_1, u_2, u_3, u_4, u_5, u_7, u_8, u_10, u_11, u_15, u_60, u_100, u_255, u_999, u_1000, u_100000, u_4294967295] at hc24)
        refine g_iconst (v := 0) dX1_isHeld_44 (by decide) ?_
        refine g_iret dX1_isHeld_45 rfl (rfl) (hQ _ _ ?_)
        exact ⟨rfl, rfl⟩
      · (try simp (disch := omega) only [nT, t_m1000100, t_m1000010, t_m1000003, t_m1000002, t_m1000001, t_m1000000, t_m65535, t_m1000, t_m3, t_m1, t_0, t_1, t_2, t_3, t_4, t_5, t_6, t_7, t_8, t_9, t_10, t_11, t_12, t_13, t_15, t_16, t_20, t_21, t_22, t_32, t_40, t_41, t_48, t_49, t_57, t_59, t_60, t_63, t_72, t_76, t_88, t_100, t_144, t_200, t_255, t_288, t_400, t_800, t_999, t_1000, t_1024, t_1200, t_1600, t_3200, t_100000, t_200000, t_252645135, t_858993459, t_1431655765, u_m1000002, u_m1000001, u_m1000, u_m3, u_m1, u_0, u_1, u_2, u_3, u_4, u_5, u_7, u_8, u_10, u_11, u_15, u_60, u_100, u_255, u_999, u_1000, u_100000, u_4294967295] at hc24); omega
    | succ r ih =>
      intro b hb he
      have hc := cB_le hG (nI b)
      refine g_iload_n (i := 3) dX1_isHeld_21 rfl rfl ?_
      refine g_bipush (v := 16) dX1_isHeld_22 (by decide) ?_
      refine g_icmp_ge (tgt := 44) dX1_isHeld_24 (by decide) (fun hc24 => ?_) (fun hc24 => ?_)
      · (try simp (disch := omega) only [nT, t_m1000100, t_m1000010, t_m1000003, t_m1000002, t_m1000001, t_m1000000, t_m65535, t_m1000, t_m3, t_m1, t_0, t_1, t_2, t_3, t_4, t_5, t_6, t_7, t_8, t_9, t_10, t_11, t_12, t_13, t_15, t_16, t_20, t_21, t_22, t_32, t_40, t_41, t_48, t_49, t_57, t_59, t_60, t_63, t_72, t_76, t_88, t_100, t_144, t_200, t_255, t_288, t_400, t_800, t_999, t_1000, t_1024, t_1200, t_1600, t_3200, t_100000, t_200000, t_252645135, t_858993459, t_1431655765, u_m1000002, u_m1000001, u_m1000, u_m3, u_m1, u_0, u_1, u_2, u_3, u_4, u_5, u_7, u_8, u_10, u_11, u_15, u_60, u_100, u_255, u_999, u_1000, u_100000, u_4294967295] at hc24); omega
      · (try simp (disch := omega) only [nT, t_m1000100, t_m1000010, t_m1000003, t_m1000002, t_m1000001, t_m1000000, t_m65535, t_m1000, t_m3, t_m1, t_0, t_1, t_2, t_3, t_4, t_5, t_6, t_7, t_8, t_9, t_10, t_11, t_12, t_13, t_15, t_16, t_20, t_21, t_22, t_32, t_40, t_41, t_48, t_49, t_57, t_59, t_60, t_63, t_72, t_76, t_88, t_100, t_144, t_200, t_255, t_288, t_400, t_800, t_999, t_1000, t_1024, t_1200, t_1600, t_3200, t_100000, t_200000, t_252645135, t_858993459, t_1431655765, u_m1000002, u_m1000001, u_m1000, u_m3, u_m1, u_0, u_1, u_2, u_3, u_4, u_5, u_7, u_8, u_10, u_11, u_15, u_60, u_100, u_255, u_999, u_1000, u_100000, u_4294967295] at hc24)
        refine g_aload_n (i := 0) dX1_isHeld_27 rfl rfl ?_
        refine g_iload_n (i := 3) dX1_isHeld_28 rfl rfl ?_
        refine g_callV (M' := mX1_countOfBin) dX1_isHeld_29 lc_X1_countOfBin ml_X1_26 (c_countOfBin hG hg (nI b)) rfl rfl (by repeat' (first | assumption | exact rF_eq | refine rF_ne (by decide) ?_ | refine rF_a ?_ | exact rA_eq | refine rA_ne (by decide) ?_ | refine rA_f ?_)) rfl ⟨Nat.le_of_ble_eq_true rfl, Nat.le_of_ble_eq_true rfl, Nat.le_of_ble_eq_true rfl, Nat.le_of_ble_eq_true rfl⟩ (Nat.le_of_ble_eq_true rfl) ?_
        intro r_ h_ q_; obtain ⟨q1_, q2_⟩ := q_; have q2_ := q2_.symm; subst q1_; subst q2_
        refine g_iload_n (i := 2) dX1_isHeld_32 rfl rfl ?_
        refine g_icmp_le (tgt := 38) dX1_isHeld_33 (by decide) (fun hc33 => ?_) (fun hc33 => ?_)
        · (try simp (disch := omega) only [nT, t_m1000100, t_m1000010, t_m1000003, t_m1000002, t_m1000001, t_m1000000, t_m65535, t_m1000, t_m3, t_m1, t_0, t_1, t_2, t_3, t_4, t_5, t_6, t_7, t_8, t_9, t_10, t_11, t_12, t_13, t_15, t_16, t_20, t_21, t_22, t_32, t_40, t_41, t_48, t_49, t_57, t_59, t_60, t_63, t_72, t_76, t_88, t_100, t_144, t_200, t_255, t_288, t_400, t_800, t_999, t_1000, t_1024, t_1200, t_1600, t_3200, t_100000, t_200000, t_252645135, t_858993459, t_1431655765, u_m1000002, u_m1000001, u_m1000, u_m3, u_m1, u_0, u_1, u_2, u_3, u_4, u_5, u_7, u_8, u_10, u_11, u_15, u_60, u_100, u_255, u_999, u_1000, u_100000, u_4294967295] at hc33)
          refine g_iinc dX1_isHeld_38 rfl (Nat.le_of_ble_eq_true rfl) rfl ?_
          refine g_goto (tgt := 21) dX1_isHeld_41 (by decide) ?_
          rw [ni_incO]
          exact ih (b + 1) (by omega) (by rw [← he, hldB, decide_eq_false (by omega)]; rfl)
        · (try simp (disch := omega) only [nT, t_m1000100, t_m1000010, t_m1000003, t_m1000002, t_m1000001, t_m1000000, t_m65535, t_m1000, t_m3, t_m1, t_0, t_1, t_2, t_3, t_4, t_5, t_6, t_7, t_8, t_9, t_10, t_11, t_12, t_13, t_15, t_16, t_20, t_21, t_22, t_32, t_40, t_41, t_48, t_49, t_57, t_59, t_60, t_63, t_72, t_76, t_88, t_100, t_144, t_200, t_255, t_288, t_400, t_800, t_999, t_1000, t_1024, t_1200, t_1600, t_3200, t_100000, t_200000, t_252645135, t_858993459, t_1431655765, u_m1000002, u_m1000001, u_m1000, u_m3, u_m1, u_0, u_1, u_2, u_3, u_4, u_5, u_7, u_8, u_10, u_11, u_15, u_60, u_100, u_255, u_999, u_1000, u_100000, u_4294967295] at hc33)
          refine g_iconst (v := 1) dX1_isHeld_36 (by decide) ?_
          obtain rfl : true = z := by rw [← he, hldB, decide_eq_true (by omega)]; rfl
          rw [bI_t (Or.inr rfl)] at hQ
          refine g_iret dX1_isHeld_37 rfl (rfl) (hQ _ _ ?_)
          exact ⟨rfl, rfl⟩
  refine g_bipush (v := 100) dX1_isHeld_0 (by decide) ?_
  refine g_aload_n (i := 0) dX1_isHeld_2 rfl rfl ?_
  refine g_iconst (v := 0) dX1_isHeld_3 (by decide) ?_
  refine g_callV (M' := mX1_countOfBin) dX1_isHeld_4 lc_X1_countOfBin ml_X1_26 (c_countOfBin hG hg 0) rfl rfl (by repeat' (first | assumption | exact rF_eq | refine rF_ne (by decide) ?_ | refine rF_a ?_ | exact rA_eq | refine rA_ne (by decide) ?_ | refine rA_f ?_)) rfl ⟨Nat.le_of_ble_eq_true rfl, Nat.le_of_ble_eq_true rfl, Nat.le_of_ble_eq_true rfl, Nat.le_of_ble_eq_true rfl⟩ (Nat.le_of_ble_eq_true rfl) ?_
  intro r_ h_ q_; obtain ⟨q1_, q2_⟩ := q_; have q2_ := q2_.symm; subst q1_; subst q2_
  refine g_imul dX1_isHeld_7 ?_
  refine g_iload_n (i := 1) dX1_isHeld_8 rfl rfl ?_
  refine g_aload_n (i := 0) dX1_isHeld_9 rfl rfl ?_
  refine g_callV (M' := mX1_lotSize) dX1_isHeld_10 lc_X1_lotSize ml_X1_30 (c_lotSize hG hg) rfl rfl (by repeat' (first | assumption | exact rF_eq | refine rF_ne (by decide) ?_ | refine rF_a ?_ | exact rA_eq | refine rA_ne (by decide) ?_ | refine rA_f ?_)) rfl ⟨Nat.le_of_ble_eq_true rfl, Nat.le_of_ble_eq_true rfl, Nat.le_of_ble_eq_true rfl, Nat.le_of_ble_eq_true rfl⟩ (Nat.le_of_ble_eq_true rfl) ?_
  intro r_ h_ q_; obtain ⟨q1_, q2_⟩ := q_; have q2_ := q2_.symm; subst q1_; subst q2_
  refine g_imul dX1_isHeld_13 ?_
  refine g_icmp_ge (tgt := 19) dX1_isHeld_14 (by decide) (fun hc14 => ?_) (fun hc14 => ?_)
  · (try simp (disch := omega) only [nT, t_m1000100, t_m1000010, t_m1000003, t_m1000002, t_m1000001, t_m1000000, t_m65535, t_m1000, t_m3, t_m1, t_0, t_1, t_2, t_3, t_4, t_5, t_6, t_7, t_8, t_9, t_10, t_11, t_12, t_13, t_15, t_16, t_20, t_21, t_22, t_32, t_40, t_41, t_48, t_49, t_57, t_59, t_60, t_63, t_72, t_76, t_88, t_100, t_144, t_200, t_255, t_288, t_400, t_800, t_999, t_1000, t_1024, t_1200, t_1600, t_3200, t_100000, t_200000, t_252645135, t_858993459, t_1431655765, u_m1000002, u_m1000001, u_m1000, u_m3, u_m1, u_0, u_1, u_2, u_3, u_4, u_5, u_7, u_8, u_10, u_11, u_15, u_60, u_100, u_255, u_999, u_1000, u_100000, u_4294967295] at hc14)
    refine g_iconst (v := 1) dX1_isHeld_19 (by decide) ?_
    refine g_istore_n (i := 3) dX1_isHeld_20 rfl (Nat.le_of_ble_eq_true rfl) rfl ?_
    exact key (Int.not_lt.mpr (by assumption)) 15 1 rfl hz
  · (try simp (disch := omega) only [nT, t_m1000100, t_m1000010, t_m1000003, t_m1000002, t_m1000001, t_m1000000, t_m65535, t_m1000, t_m3, t_m1, t_0, t_1, t_2, t_3, t_4, t_5, t_6, t_7, t_8, t_9, t_10, t_11, t_12, t_13, t_15, t_16, t_20, t_21, t_22, t_32, t_40, t_41, t_48, t_49, t_57, t_59, t_60, t_63, t_72, t_76, t_88, t_100, t_144, t_200, t_255, t_288, t_400, t_800, t_999, t_1000, t_1024, t_1200, t_1600, t_3200, t_100000, t_200000, t_252645135, t_858993459, t_1431655765, u_m1000002, u_m1000001, u_m1000, u_m3, u_m1, u_0, u_1, u_2, u_3, u_4, u_5, u_7, u_8, u_10, u_11, u_15, u_60, u_100, u_255, u_999, u_1000, u_100000, u_4294967295] at hc14)
    refine g_iconst (v := 1) dX1_isHeld_17 (by decide) ?_
    rw [bI_t (Or.inl (by assumption))] at hQ
    refine g_iret dX1_isHeld_18 rfl (rfl) (hQ _ _ ?_)
    exact ⟨rfl, rfl⟩
theorem x_held {G : GL2} (hG : WfG G) {h : HH} (go : GOX G h) (y m : Int32) : CT mX7_held 3 0 0 [.ref 0, .int y, .int m] h (fun r h' => r = some (.int (opHeld G y m)) ∧ h' = h) := by
  obtain ⟨fa, ⟨h0, h13⟩, hL, hfa⟩ := go
  have l1 := hL.1
  have hG1 := hG.1
  have hG2 := hG.2
  refine CT.go [.ref 0, .int y, .int m] (by decide +kernel) rfl rfl (fun Q' hQ => ?_)
  refine g_iload_n (i := 1) dX7_held_0 rfl rfl ?_
  refine g_if_lt (tgt := 14) dX7_held_1 (by decide) (fun hc1 => ?_) (fun hc1 => ?_)
  · (try simp (disch := omega) only [nT, t_m1000100, t_m1000010, t_m1000003, t_m1000002, t_m1000001, t_m1000000, t_m65535, t_m1000, t_m3, t_m1, t_0, t_1, t_2, t_3, t_4, t_5, t_6, t_7, t_8, t_9, t_10, t_11, t_12, t_13, t_15, t_16, t_20, t_21, t_22, t_32, t_40, t_41, t_48, t_49, t_57, t_59, t_60, t_63, t_72, t_76, t_88, t_100, t_144, t_200, t_255, t_288, t_400, t_800, t_999, t_1000, t_1024, t_1200, t_1600, t_3200, t_100000, t_200000, t_252645135, t_858993459, t_1431655765, u_m1000002, u_m1000001, u_m1000, u_m3, u_m1, u_0, u_1, u_2, u_3, u_4, u_5, u_7, u_8, u_10, u_11, u_15, u_60, u_100, u_255, u_999, u_1000, u_100000, u_4294967295] at hc1)
    have e : opHeld G y m = _ := if_pos (by omega)
    rw [e] at hQ
    refine g_ldc dX7_held_14 kc_X7_94 ?_
    refine g_iret dX7_held_16 rfl (rfl) (hQ _ _ ?_)
    exact ⟨rfl, rfl⟩
  · (try simp (disch := omega) only [nT, t_m1000100, t_m1000010, t_m1000003, t_m1000002, t_m1000001, t_m1000000, t_m65535, t_m1000, t_m3, t_m1, t_0, t_1, t_2, t_3, t_4, t_5, t_6, t_7, t_8, t_9, t_10, t_11, t_12, t_13, t_15, t_16, t_20, t_21, t_22, t_32, t_40, t_41, t_48, t_49, t_57, t_59, t_60, t_63, t_72, t_76, t_88, t_100, t_144, t_200, t_255, t_288, t_400, t_800, t_999, t_1000, t_1024, t_1200, t_1600, t_3200, t_100000, t_200000, t_252645135, t_858993459, t_1431655765, u_m1000002, u_m1000001, u_m1000, u_m3, u_m1, u_0, u_1, u_2, u_3, u_4, u_5, u_7, u_8, u_10, u_11, u_15, u_60, u_100, u_255, u_999, u_1000, u_100000, u_4294967295] at hc1)
    refine g_iload_n (i := 1) dX7_held_4 rfl rfl ?_
    refine g_bipush (v := 100) dX7_held_5 (by decide) ?_
    refine g_icmp_gt (tgt := 14) dX7_held_7 (by decide) (fun hc7 => ?_) (fun hc7 => ?_)
    · (try simp (disch := omega) only [nT, t_m1000100, t_m1000010, t_m1000003, t_m1000002, t_m1000001, t_m1000000, t_m65535, t_m1000, t_m3, t_m1, t_0, t_1, t_2, t_3, t_4, t_5, t_6, t_7, t_8, t_9, t_10, t_11, t_12, t_13, t_15, t_16, t_20, t_21, t_22, t_32, t_40, t_41, t_48, t_49, t_57, t_59, t_60, t_63, t_72, t_76, t_88, t_100, t_144, t_200, t_255, t_288, t_400, t_800, t_999, t_1000, t_1024, t_1200, t_1600, t_3200, t_100000, t_200000, t_252645135, t_858993459, t_1431655765, u_m1000002, u_m1000001, u_m1000, u_m3, u_m1, u_0, u_1, u_2, u_3, u_4, u_5, u_7, u_8, u_10, u_11, u_15, u_60, u_100, u_255, u_999, u_1000, u_100000, u_4294967295] at hc7)
      have e : opHeld G y m = _ := if_pos (by omega)
      rw [e] at hQ
      refine g_ldc dX7_held_14 kc_X7_94 ?_
      refine g_iret dX7_held_16 rfl (rfl) (hQ _ _ ?_)
      exact ⟨rfl, rfl⟩
    · (try simp (disch := omega) only [nT, t_m1000100, t_m1000010, t_m1000003, t_m1000002, t_m1000001, t_m1000000, t_m65535, t_m1000, t_m3, t_m1, t_0, t_1, t_2, t_3, t_4, t_5, t_6, t_7, t_8, t_9, t_10, t_11, t_12, t_13, t_15, t_16, t_20, t_21, t_22, t_32, t_40, t_41, t_48, t_49, t_57, t_59, t_60, t_63, t_72, t_76, t_88, t_100, t_144, t_200, t_255, t_288, t_400, t_800, t_999, t_1000, t_1024, t_1200, t_1600, t_3200, t_100000, t_200000, t_252645135, t_858993459, t_1431655765, u_m1000002, u_m1000001, u_m1000, u_m3, u_m1, u_0, u_1, u_2, u_3, u_4, u_5, u_7, u_8, u_10, u_11, u_15, u_60, u_100, u_255, u_999, u_1000, u_100000, u_4294967295] at hc7)
      refine g_iload_n (i := 2) dX7_held_10 rfl rfl ?_
      refine g_if_ge (tgt := 17) dX7_held_11 (by decide) (fun hc11 => ?_) (fun hc11 => ?_)
      · (try simp (disch := omega) only [nT, t_m1000100, t_m1000010, t_m1000003, t_m1000002, t_m1000001, t_m1000000, t_m65535, t_m1000, t_m3, t_m1, t_0, t_1, t_2, t_3, t_4, t_5, t_6, t_7, t_8, t_9, t_10, t_11, t_12, t_13, t_15, t_16, t_20, t_21, t_22, t_32, t_40, t_41, t_48, t_49, t_57, t_59, t_60, t_63, t_72, t_76, t_88, t_100, t_144, t_200, t_255, t_288, t_400, t_800, t_999, t_1000, t_1024, t_1200, t_1600, t_3200, t_100000, t_200000, t_252645135, t_858993459, t_1431655765, u_m1000002, u_m1000001, u_m1000, u_m3, u_m1, u_0, u_1, u_2, u_3, u_4, u_5, u_7, u_8, u_10, u_11, u_15, u_60, u_100, u_255, u_999, u_1000, u_100000, u_4294967295] at hc11)
        refine g_aload_n (i := 0) dX7_held_17 rfl rfl ?_
        refine g_get dX7_held_18 fl_X7_76 (by repeat' (first | assumption | exact rF_eq | refine rF_ne (by decide) ?_ | refine rF_a ?_ | exact rA_eq | refine rA_ne (by decide) ?_ | refine rA_f ?_)) (by repeat' (first | assumption | exact rF_eq | refine rF_ne (by decide) ?_ | refine rF_a ?_ | exact rA_eq | refine rA_ne (by decide) ?_ | refine rA_f ?_)) ?_
        refine g_callV (M' := mX1_lotSize) dX7_held_21 lc_X1_lotSize ml_X7_307 (c_lotSize hG ⟨hL, hfa⟩) rfl rfl (by repeat' (first | assumption | exact rF_eq | refine rF_ne (by decide) ?_ | refine rF_a ?_ | exact rA_eq | refine rA_ne (by decide) ?_ | refine rA_f ?_)) rfl ⟨Nat.le_of_ble_eq_true rfl, Nat.le_of_ble_eq_true rfl, Nat.le_of_ble_eq_true rfl, Nat.le_of_ble_eq_true rfl⟩ (Nat.le_of_ble_eq_true rfl) ?_
        intro r_ h_ q_; obtain ⟨q1_, q2_⟩ := q_; have q2_ := q2_.symm; subst q1_; subst q2_
        refine g_if_ne (tgt := 30) dX7_held_24 (by decide) (fun hc24 => ?_) (fun hc24 => ?_)
        · have hd24 := mt i_eq.mpr hc24; (try simp (disch := omega) only [nT, t_m1000100, t_m1000010, t_m1000003, t_m1000002, t_m1000001, t_m1000000, t_m65535, t_m1000, t_m3, t_m1, t_0, t_1, t_2, t_3, t_4, t_5, t_6, t_7, t_8, t_9, t_10, t_11, t_12, t_13, t_15, t_16, t_20, t_21, t_22, t_32, t_40, t_41, t_48, t_49, t_57, t_59, t_60, t_63, t_72, t_76, t_88, t_100, t_144, t_200, t_255, t_288, t_400, t_800, t_999, t_1000, t_1024, t_1200, t_1600, t_3200, t_100000, t_200000, t_252645135, t_858993459, t_1431655765, u_m1000002, u_m1000001, u_m1000, u_m3, u_m1, u_0, u_1, u_2, u_3, u_4, u_5, u_7, u_8, u_10, u_11, u_15, u_60, u_100, u_255, u_999, u_1000, u_100000, u_4294967295] at hd24)
          have e : opHeld G y m = _ := (if_neg (by omega)).trans (if_neg (by have := @nT (G.1 - G.2.1) (by omega); omega))
          rw [e] at hQ
          refine g_aload_n (i := 0) dX7_held_30 rfl rfl ?_
          refine g_get dX7_held_31 fl_X7_76 (by repeat' (first | assumption | exact rF_eq | refine rF_ne (by decide) ?_ | refine rF_a ?_ | exact rA_eq | refine rA_ne (by decide) ?_ | refine rA_f ?_)) (by repeat' (first | assumption | exact rF_eq | refine rF_ne (by decide) ?_ | refine rF_a ?_ | exact rA_eq | refine rA_ne (by decide) ?_ | refine rA_f ?_)) ?_
          refine g_iload_n (i := 1) dX7_held_34 rfl rfl ?_
          refine g_iload_n (i := 2) dX7_held_35 rfl rfl ?_
          refine g_callV (M' := mX1_isHeld) dX7_held_36 lc_X1_isHeld ml_X7_316 (c_isHeld hG ⟨hL, hfa⟩ y m) rfl rfl (by repeat' (first | assumption | exact rF_eq | refine rF_ne (by decide) ?_ | refine rF_a ?_ | exact rA_eq | refine rA_ne (by decide) ?_ | refine rA_f ?_)) rfl ⟨Nat.le_of_ble_eq_true rfl, Nat.le_of_ble_eq_true rfl, Nat.le_of_ble_eq_true rfl, Nat.le_of_ble_eq_true rfl⟩ (Nat.le_of_ble_eq_true rfl) ?_
          intro r_ h_ q_; obtain ⟨q1_, q2_⟩ := q_; have q2_ := q2_.symm; subst q1_; subst q2_
          refine g_if_eq (tgt := 46) dX7_held_39 (by decide) (fun hc39 => ?_) (fun hc39 => ?_)
          · replace hc39 := bI_0.mp hc39
            (try simp (disch := omega) only [nT, t_m1000100, t_m1000010, t_m1000003, t_m1000002, t_m1000001, t_m1000000, t_m65535, t_m1000, t_m3, t_m1, t_0, t_1, t_2, t_3, t_4, t_5, t_6, t_7, t_8, t_9, t_10, t_11, t_12, t_13, t_15, t_16, t_20, t_21, t_22, t_32, t_40, t_41, t_48, t_49, t_57, t_59, t_60, t_63, t_72, t_76, t_88, t_100, t_144, t_200, t_255, t_288, t_400, t_800, t_999, t_1000, t_1024, t_1200, t_1600, t_3200, t_100000, t_200000, t_252645135, t_858993459, t_1431655765, u_m1000002, u_m1000001, u_m1000, u_m3, u_m1, u_0, u_1, u_2, u_3, u_4, u_5, u_7, u_8, u_10, u_11, u_15, u_60, u_100, u_255, u_999, u_1000, u_100000, u_4294967295] at hc39)
            rw [bI_f (by assumption)] at hQ
            refine g_iconst (v := 0) dX7_held_46 (by decide) ?_
            refine g_iret dX7_held_47 rfl (rfl) (hQ _ _ ?_)
            exact ⟨rfl, rfl⟩
          · replace hc39 := bI_n0.mp hc39
            (try simp (disch := omega) only [nT, t_m1000100, t_m1000010, t_m1000003, t_m1000002, t_m1000001, t_m1000000, t_m65535, t_m1000, t_m3, t_m1, t_0, t_1, t_2, t_3, t_4, t_5, t_6, t_7, t_8, t_9, t_10, t_11, t_12, t_13, t_15, t_16, t_20, t_21, t_22, t_32, t_40, t_41, t_48, t_49, t_57, t_59, t_60, t_63, t_72, t_76, t_88, t_100, t_144, t_200, t_255, t_288, t_400, t_800, t_999, t_1000, t_1024, t_1200, t_1600, t_3200, t_100000, t_200000, t_252645135, t_858993459, t_1431655765, u_m1000002, u_m1000001, u_m1000, u_m3, u_m1, u_0, u_1, u_2, u_3, u_4, u_5, u_7, u_8, u_10, u_11, u_15, u_60, u_100, u_255, u_999, u_1000, u_100000, u_4294967295] at hc39)
            rw [bI_t (by assumption)] at hQ
            refine g_iconst (v := 1) dX7_held_42 (by decide) ?_
            refine g_goto (tgt := 47) dX7_held_43 (by decide) ?_
            refine g_iret dX7_held_47 rfl (rfl) (hQ _ _ ?_)
            exact ⟨rfl, rfl⟩
        · have hd24 := i_eq.mp hc24; (try simp (disch := omega) only [nT, t_m1000100, t_m1000010, t_m1000003, t_m1000002, t_m1000001, t_m1000000, t_m65535, t_m1000, t_m3, t_m1, t_0, t_1, t_2, t_3, t_4, t_5, t_6, t_7, t_8, t_9, t_10, t_11, t_12, t_13, t_15, t_16, t_20, t_21, t_22, t_32, t_40, t_41, t_48, t_49, t_57, t_59, t_60, t_63, t_72, t_76, t_88, t_100, t_144, t_200, t_255, t_288, t_400, t_800, t_999, t_1000, t_1024, t_1200, t_1600, t_3200, t_100000, t_200000, t_252645135, t_858993459, t_1431655765, u_m1000002, u_m1000001, u_m1000, u_m3, u_m1, u_0, u_1, u_2, u_3, u_4, u_5, u_7, u_8, u_10, u_11, u_15, u_60, u_100, u_255, u_999, u_1000, u_100000, u_4294967295] at hd24)
          have e : opHeld G y m = _ := (if_neg (by omega)).trans (if_pos (by have := @nT (G.1 - G.2.1) (by omega); omega))
          rw [e] at hQ
          refine g_ldc dX7_held_27 kc_X7_162 ?_
          refine g_iret dX7_held_29 rfl (rfl) (hQ _ _ ?_)
          exact ⟨rfl, rfl⟩
      · (try simp (disch := omega) only [nT, t_m1000100, t_m1000010, t_m1000003, t_m1000002, t_m1000001, t_m1000000, t_m65535, t_m1000, t_m3, t_m1, t_0, t_1, t_2, t_3, t_4, t_5, t_6, t_7, t_8, t_9, t_10, t_11, t_12, t_13, t_15, t_16, t_20, t_21, t_22, t_32, t_40, t_41, t_48, t_49, t_57, t_59, t_60, t_63, t_72, t_76, t_88, t_100, t_144, t_200, t_255, t_288, t_400, t_800, t_999, t_1000, t_1024, t_1200, t_1600, t_3200, t_100000, t_200000, t_252645135, t_858993459, t_1431655765, u_m1000002, u_m1000001, u_m1000, u_m3, u_m1, u_0, u_1, u_2, u_3, u_4, u_5, u_7, u_8, u_10, u_11, u_15, u_60, u_100, u_255, u_999, u_1000, u_100000, u_4294967295] at hc11)
        have e : opHeld G y m = _ := if_pos (by omega)
        rw [e] at hQ
        refine g_ldc dX7_held_14 kc_X7_94 ?_
        refine g_iret dX7_held_16 rfl (rfl) (hQ _ _ ?_)
        exact ⟨rfl, rfl⟩
theorem m_held {G : GL2} (hG : WfG G) {h : HH} (go : GOM G h) (y m : Int32) : CT mX8_held 1 0 0 [.ref 44, .int y, .int m] h (fun r h' => r = some (.int (opHeld G y m)) ∧ h' = sF h 44 0 (.int 0)) := by
  obtain ⟨e1, o2, o3, oo⟩ := id go
  have hG1 := hG.1
  have hG2 := hG.2
  refine CT.go [.ref 44, .int y, .int m, hU, hU, hU] (by decide +kernel) rfl rfl (fun Q' hQ => ?_)
  refine g_aload_n (i := 0) dX8_held_0 rfl rfl ?_
  refine g_iconst (v := 0) dX8_held_1 (by decide) ?_
  refine g_put dX8_held_2 pl_X8_107 (by repeat' (first | assumption | exact rF_eq | refine rF_ne (by decide) ?_ | refine rF_a ?_ | exact rA_eq | refine rA_ne (by decide) ?_ | refine rA_f ?_)) (fun _ => ⟨rfl, rfl⟩) ?_
  refine g_iload_n (i := 1) dX8_held_5 rfl rfl ?_
  refine g_i2l dX8_held_6 ?_
  refine g_lconst (v := 0) dX8_held_7 (by decide) ?_
  refine g_ldc2 dX8_held_8 kc_X8_290 ?_
  refine g_callS (M' := mX8_in) dX8_held_11 lc_X8_in ml_X8_116 (c_in _ y.toInt64 0 100 0 100 rfl rfl) rfl rfl ⟨Nat.le_of_ble_eq_true rfl, Nat.le_of_ble_eq_true rfl, Nat.le_of_ble_eq_true rfl, Nat.le_of_ble_eq_true rfl⟩ (Nat.le_of_ble_eq_true rfl) ?_
  intro r_ h_ q_; obtain ⟨q1_, q2_⟩ := q_; have q2_ := q2_.symm; subst q1_; subst q2_
  rw [l_i]
  refine g_if_eq (tgt := 21) dX8_held_14 (by decide) (fun hc14 => ?_) (fun hc14 => ?_)
  · replace hc14 := bI_0.mp hc14
    (try simp (disch := omega) only [nT, t_m1000100, t_m1000010, t_m1000003, t_m1000002, t_m1000001, t_m1000000, t_m65535, t_m1000, t_m3, t_m1, t_0, t_1, t_2, t_3, t_4, t_5, t_6, t_7, t_8, t_9, t_10, t_11, t_12, t_13, t_15, t_16, t_20, t_21, t_22, t_32, t_40, t_41, t_48, t_49, t_57, t_59, t_60, t_63, t_72, t_76, t_88, t_100, t_144, t_200, t_255, t_288, t_400, t_800, t_999, t_1000, t_1024, t_1200, t_1600, t_3200, t_100000, t_200000, t_252645135, t_858993459, t_1431655765, u_m1000002, u_m1000001, u_m1000, u_m3, u_m1, u_0, u_1, u_2, u_3, u_4, u_5, u_7, u_8, u_10, u_11, u_15, u_60, u_100, u_255, u_999, u_1000, u_100000, u_4294967295] at hc14)
    have e : opHeld G y m = _ := if_pos (by omega)
    rw [e] at hQ
    refine g_ldc dX8_held_21 kc_X8_126 ?_
    refine g_iret dX8_held_23 rfl (rfl) (hQ _ _ ?_)
    exact ⟨rfl, rfl⟩
  · replace hc14 := bI_n0.mp hc14
    (try simp (disch := omega) only [nT, t_m1000100, t_m1000010, t_m1000003, t_m1000002, t_m1000001, t_m1000000, t_m65535, t_m1000, t_m3, t_m1, t_0, t_1, t_2, t_3, t_4, t_5, t_6, t_7, t_8, t_9, t_10, t_11, t_12, t_13, t_15, t_16, t_20, t_21, t_22, t_32, t_40, t_41, t_48, t_49, t_57, t_59, t_60, t_63, t_72, t_76, t_88, t_100, t_144, t_200, t_255, t_288, t_400, t_800, t_999, t_1000, t_1024, t_1200, t_1600, t_3200, t_100000, t_200000, t_252645135, t_858993459, t_1431655765, u_m1000002, u_m1000001, u_m1000, u_m3, u_m1, u_0, u_1, u_2, u_3, u_4, u_5, u_7, u_8, u_10, u_11, u_15, u_60, u_100, u_255, u_999, u_1000, u_100000, u_4294967295] at hc14)
    refine g_iload_n (i := 2) dX8_held_17 rfl rfl ?_
    refine g_if_ge (tgt := 24) dX8_held_18 (by decide) (fun hc18 => ?_) (fun hc18 => ?_)
    · (try simp (disch := omega) only [nT, t_m1000100, t_m1000010, t_m1000003, t_m1000002, t_m1000001, t_m1000000, t_m65535, t_m1000, t_m3, t_m1, t_0, t_1, t_2, t_3, t_4, t_5, t_6, t_7, t_8, t_9, t_10, t_11, t_12, t_13, t_15, t_16, t_20, t_21, t_22, t_32, t_40, t_41, t_48, t_49, t_57, t_59, t_60, t_63, t_72, t_76, t_88, t_100, t_144, t_200, t_255, t_288, t_400, t_800, t_999, t_1000, t_1024, t_1200, t_1600, t_3200, t_100000, t_200000, t_252645135, t_858993459, t_1431655765, u_m1000002, u_m1000001, u_m1000, u_m3, u_m1, u_0, u_1, u_2, u_3, u_4, u_5, u_7, u_8, u_10, u_11, u_15, u_60, u_100, u_255, u_999, u_1000, u_100000, u_4294967295] at hc18)
      refine g_aload_n (i := 0) dX8_held_24 rfl rfl ?_
      refine g_get dX8_held_25 fl_X8_240 (by repeat' (first | assumption | exact rF_eq | refine rF_ne (by decide) ?_ | refine rF_a ?_ | exact rA_eq | refine rA_ne (by decide) ?_ | refine rA_f ?_)) (by repeat' (first | assumption | exact rF_eq | refine rF_ne (by decide) ?_ | refine rF_a ?_ | exact rA_eq | refine rA_ne (by decide) ?_ | refine rA_f ?_)) ?_
      refine g_aload_n (i := 0) dX8_held_28 rfl rfl ?_
      refine g_get dX8_held_29 fl_X8_284 (by repeat' (first | assumption | exact rF_eq | refine rF_ne (by decide) ?_ | refine rF_a ?_ | exact rA_eq | refine rA_ne (by decide) ?_ | refine rA_f ?_)) (by repeat' (first | assumption | exact rF_eq | refine rF_ne (by decide) ?_ | refine rF_a ?_ | exact rA_eq | refine rA_ne (by decide) ?_ | refine rA_f ?_)) ?_
      refine g_isub dX8_held_32 ?_
      rw [n_sub hG2]
      refine g_istore_n (i := 3) dX8_held_33 rfl (Nat.le_of_ble_eq_true rfl) rfl ?_
      refine g_iload_n (i := 3) dX8_held_34 rfl rfl ?_
      refine g_if_ne (tgt := 41) dX8_held_35 (by decide) (fun hc35 => ?_) (fun hc35 => ?_)
      · have hd35 := mt i_eq.mpr hc35; (try simp (disch := omega) only [nT, t_m1000100, t_m1000010, t_m1000003, t_m1000002, t_m1000001, t_m1000000, t_m65535, t_m1000, t_m3, t_m1, t_0, t_1, t_2, t_3, t_4, t_5, t_6, t_7, t_8, t_9, t_10, t_11, t_12, t_13, t_15, t_16, t_20, t_21, t_22, t_32, t_40, t_41, t_48, t_49, t_57, t_59, t_60, t_63, t_72, t_76, t_88, t_100, t_144, t_200, t_255, t_288, t_400, t_800, t_999, t_1000, t_1024, t_1200, t_1600, t_3200, t_100000, t_200000, t_252645135, t_858993459, t_1431655765, u_m1000002, u_m1000001, u_m1000, u_m3, u_m1, u_0, u_1, u_2, u_3, u_4, u_5, u_7, u_8, u_10, u_11, u_15, u_60, u_100, u_255, u_999, u_1000, u_100000, u_4294967295] at hd35)
        have e : opHeld G y m = _ := (if_neg (by omega)).trans (if_neg (by have := @nT (G.1 - G.2.1) (by omega); omega))
        rw [e] at hQ
        generalize hz : bI (((100 : Int32) * nI (cB G 0)).toInt < (y * nI (G.1 - G.2.1)).toInt ∨ hldB G m 15 1 = true) = z at hQ
        have key : ∀ r b : Nat, ∀ acc : Bool, b + r = 16 → bI (acc = true ∨ hldB G m r b = true) = z → GG (EM mX8_held 1 0 0 Q') 0 0 65 [.ref 44, .int y, .int m, .int (nI (G.1 - G.2.1)), .int (bI (acc = true)), .int (nI b)] [] (sF h 44 0 (.int 0)) := by
          intro r
          induction r with
          | zero =>
            intro b acc hb he
            refine g_iload dX8_held_65 rfl ?_
            refine g_bipush (v := 16) dX8_held_67 (by decide) ?_
            refine g_icmp_ge (tgt := 100) dX8_held_69 (by decide) (fun hc69 => ?_) (fun hc69 => ?_)
            · (try simp (disch := omega) only [nT, t_m1000100, t_m1000010, t_m1000003, t_m1000002, t_m1000001, t_m1000000, t_m65535, t_m1000, t_m3, t_m1, t_0, t_1, t_2, t_3, t_4, t_5, t_6, t_7, t_8, t_9, t_10, t_11, t_12, t_13, t_15, t_16, t_20, t_21, t_22, t_32, t_40, t_41, t_48, t_49, t_57, t_59, t_60, t_63, t_72, t_76, t_88, t_100, t_144, t_200, t_255, t_288, t_400, t_800, t_999, t_1000, t_1024, t_1200, t_1600, t_3200, t_100000, t_200000, t_252645135, t_858993459, t_1431655765, u_m1000002, u_m1000001, u_m1000, u_m3, u_m1, u_0, u_1, u_2, u_3, u_4, u_5, u_7, u_8, u_10, u_11, u_15, u_60, u_100, u_255, u_999, u_1000, u_100000, u_4294967295] at hc69)
              refine g_iload dX8_held_100 rfl ?_
              refine g_if_eq (tgt := 109) dX8_held_102 (by decide) (fun hc102 => ?_) (fun hc102 => ?_)
              · have hd102 := i_eq.mp hc102; (try simp (disch := omega) only [nT, t_m1000100, t_m1000010, t_m1000003, t_m1000002, t_m1000001, t_m1000000, t_m65535, t_m1000, t_m3, t_m1, t_0, t_1, t_2, t_3, t_4, t_5, t_6, t_7, t_8, t_9, t_10, t_11, t_12, t_13, t_15, t_16, t_20, t_21, t_22, t_32, t_40, t_41, t_48, t_49, t_57, t_59, t_60, t_63, t_72, t_76, t_88, t_100, t_144, t_200, t_255, t_288, t_400, t_800, t_999, t_1000, t_1024, t_1200, t_1600, t_3200, t_100000, t_200000, t_252645135, t_858993459, t_1431655765, u_m1000002, u_m1000001, u_m1000, u_m3, u_m1, u_0, u_1, u_2, u_3, u_4, u_5, u_7, u_8, u_10, u_11, u_15, u_60, u_100, u_255, u_999, u_1000, u_100000, u_4294967295] at hd102)
                rw [bI_f (fun q => q.elim (bI_0.mp (by assumption)) (fun z => Bool.noConfusion z))] at he
                subst he
                refine g_iconst (v := 0) dX8_held_109 (by decide) ?_
                refine g_iret dX8_held_110 rfl (rfl) (hQ _ _ ?_)
                exact ⟨rfl, rfl⟩
              · have hd102 := mt i_eq.mpr hc102; (try simp (disch := omega) only [nT, t_m1000100, t_m1000010, t_m1000003, t_m1000002, t_m1000001, t_m1000000, t_m65535, t_m1000, t_m3, t_m1, t_0, t_1, t_2, t_3, t_4, t_5, t_6, t_7, t_8, t_9, t_10, t_11, t_12, t_13, t_15, t_16, t_20, t_21, t_22, t_32, t_40, t_41, t_48, t_49, t_57, t_59, t_60, t_63, t_72, t_76, t_88, t_100, t_144, t_200, t_255, t_288, t_400, t_800, t_999, t_1000, t_1024, t_1200, t_1600, t_3200, t_100000, t_200000, t_252645135, t_858993459, t_1431655765, u_m1000002, u_m1000001, u_m1000, u_m3, u_m1, u_0, u_1, u_2, u_3, u_4, u_5, u_7, u_8, u_10, u_11, u_15, u_60, u_100, u_255, u_999, u_1000, u_100000, u_4294967295] at hd102)
                rw [bI_t (Or.inl (bI_n0.mp (by assumption)))] at he
                subst he
                refine g_iconst (v := 1) dX8_held_105 (by decide) ?_
                refine g_goto (tgt := 110) dX8_held_106 (by decide) ?_
                refine g_iret dX8_held_110 rfl (rfl) (hQ _ _ ?_)
                exact ⟨rfl, rfl⟩
            · (try simp (disch := omega) only [nT, t_m1000100, t_m1000010, t_m1000003, t_m1000002, t_m1000001, t_m1000000, t_m65535, t_m1000, t_m3, t_m1, t_0, t_1, t_2, t_3, t_4, t_5, t_6, t_7, t_8, t_9, t_10, t_11, t_12, t_13, t_15, t_16, t_20, t_21, t_22, t_32, t_40, t_41, t_48, t_49, t_57, t_59, t_60, t_63, t_72, t_76, t_88, t_100, t_144, t_200, t_255, t_288, t_400, t_800, t_999, t_1000, t_1024, t_1200, t_1600, t_3200, t_100000, t_200000, t_252645135, t_858993459, t_1431655765, u_m1000002, u_m1000001, u_m1000, u_m3, u_m1, u_0, u_1, u_2, u_3, u_4, u_5, u_7, u_8, u_10, u_11, u_15, u_60, u_100, u_255, u_999, u_1000, u_100000, u_4294967295] at hc69); omega
          | succ r ih =>
            intro b acc hb he
            have hc := cB_le hG (nI b)
            refine g_iload dX8_held_65 rfl ?_
            refine g_bipush (v := 16) dX8_held_67 (by decide) ?_
            refine g_icmp_ge (tgt := 100) dX8_held_69 (by decide) (fun hc69 => ?_) (fun hc69 => ?_)
            · (try simp (disch := omega) only [nT, t_m1000100, t_m1000010, t_m1000003, t_m1000002, t_m1000001, t_m1000000, t_m65535, t_m1000, t_m3, t_m1, t_0, t_1, t_2, t_3, t_4, t_5, t_6, t_7, t_8, t_9, t_10, t_11, t_12, t_13, t_15, t_16, t_20, t_21, t_22, t_32, t_40, t_41, t_48, t_49, t_57, t_59, t_60, t_63, t_72, t_76, t_88, t_100, t_144, t_200, t_255, t_288, t_400, t_800, t_999, t_1000, t_1024, t_1200, t_1600, t_3200, t_100000, t_200000, t_252645135, t_858993459, t_1431655765, u_m1000002, u_m1000001, u_m1000, u_m3, u_m1, u_0, u_1, u_2, u_3, u_4, u_5, u_7, u_8, u_10, u_11, u_15, u_60, u_100, u_255, u_999, u_1000, u_100000, u_4294967295] at hc69); omega
            · (try simp (disch := omega) only [nT, t_m1000100, t_m1000010, t_m1000003, t_m1000002, t_m1000001, t_m1000000, t_m65535, t_m1000, t_m3, t_m1, t_0, t_1, t_2, t_3, t_4, t_5, t_6, t_7, t_8, t_9, t_10, t_11, t_12, t_13, t_15, t_16, t_20, t_21, t_22, t_32, t_40, t_41, t_48, t_49, t_57, t_59, t_60, t_63, t_72, t_76, t_88, t_100, t_144, t_200, t_255, t_288, t_400, t_800, t_999, t_1000, t_1024, t_1200, t_1600, t_3200, t_100000, t_200000, t_252645135, t_858993459, t_1431655765, u_m1000002, u_m1000001, u_m1000, u_m3, u_m1, u_0, u_1, u_2, u_3, u_4, u_5, u_7, u_8, u_10, u_11, u_15, u_60, u_100, u_255, u_999, u_1000, u_100000, u_4294967295] at hc69)
              refine g_iload dX8_held_72 rfl ?_
              refine g_if_ne (tgt := 87) dX8_held_74 (by decide) (fun hc74 => ?_) (fun hc74 => ?_)
              · have hd74 := mt i_eq.mpr hc74; (try simp (disch := omega) only [nT, t_m1000100, t_m1000010, t_m1000003, t_m1000002, t_m1000001, t_m1000000, t_m65535, t_m1000, t_m3, t_m1, t_0, t_1, t_2, t_3, t_4, t_5, t_6, t_7, t_8, t_9, t_10, t_11, t_12, t_13, t_15, t_16, t_20, t_21, t_22, t_32, t_40, t_41, t_48, t_49, t_57, t_59, t_60, t_63, t_72, t_76, t_88, t_100, t_144, t_200, t_255, t_288, t_400, t_800, t_999, t_1000, t_1024, t_1200, t_1600, t_3200, t_100000, t_200000, t_252645135, t_858993459, t_1431655765, u_m1000002, u_m1000001, u_m1000, u_m3, u_m1, u_0, u_1, u_2, u_3, u_4, u_5, u_7, u_8, u_10, u_11, u_15, u_60, u_100, u_255, u_999, u_1000, u_100000, u_4294967295] at hd74)
                refine g_iconst (v := 1) dX8_held_87 (by decide) ?_
                refine g_goto (tgt := 92) dX8_held_88 (by decide) ?_
                refine g_istore dX8_held_92 (Nat.le_of_ble_eq_true rfl) rfl ?_
                refine g_iinc dX8_held_94 rfl (Nat.le_of_ble_eq_true rfl) rfl ?_
                refine g_goto (tgt := 65) dX8_held_97 (by decide) ?_
                rw [ni_incO]
                first
                | exact ih (b + 1) true (by omega) (by rw [← he]; exact (bI_t (Or.inl rfl)).trans (bI_t (Or.inl (bI_n0.mp (by assumption)))).symm)
                | exact ih (b + 1) true (by omega) (by rw [← he]; exact (bI_t (Or.inl rfl)).trans (bI_t (Or.inr (by rw [hldB, decide_eq_true (by omega)]; rfl))).symm)
                | exact ih (b + 1) false (by omega) (by rw [← he, hldB, decide_eq_false (by omega), Bool.false_or, show acc = false from Bool.eq_false_iff.mpr (bI_0.mp (by assumption))])
              · have hd74 := i_eq.mp hc74; (try simp (disch := omega) only [nT, t_m1000100, t_m1000010, t_m1000003, t_m1000002, t_m1000001, t_m1000000, t_m65535, t_m1000, t_m3, t_m1, t_0, t_1, t_2, t_3, t_4, t_5, t_6, t_7, t_8, t_9, t_10, t_11, t_12, t_13, t_15, t_16, t_20, t_21, t_22, t_32, t_40, t_41, t_48, t_49, t_57, t_59, t_60, t_63, t_72, t_76, t_88, t_100, t_144, t_200, t_255, t_288, t_400, t_800, t_999, t_1000, t_1024, t_1200, t_1600, t_3200, t_100000, t_200000, t_252645135, t_858993459, t_1431655765, u_m1000002, u_m1000001, u_m1000, u_m3, u_m1, u_0, u_1, u_2, u_3, u_4, u_5, u_7, u_8, u_10, u_11, u_15, u_60, u_100, u_255, u_999, u_1000, u_100000, u_4294967295] at hd74)
                refine g_aload_n (i := 0) dX8_held_77 rfl rfl ?_
                refine g_iload dX8_held_78 rfl ?_
                refine g_callV (M' := mX8_binned) dX8_held_80 lc_X8_binned ml_X8_287 (c_binned (h := sF h 44 0 (.int 0)) hG go (nI b)) rfl rfl (by repeat' (first | assumption | exact rF_eq | refine rF_ne (by decide) ?_ | refine rF_a ?_ | exact rA_eq | refine rA_ne (by decide) ?_ | refine rA_f ?_)) rfl ⟨Nat.le_of_ble_eq_true rfl, Nat.le_of_ble_eq_true rfl, Nat.le_of_ble_eq_true rfl, Nat.le_of_ble_eq_true rfl⟩ (Nat.le_of_ble_eq_true rfl) ?_
                intro r_ h_ q_; obtain ⟨q1_, q2_⟩ := q_; have q2_ := q2_.symm; subst q1_; subst q2_
                refine g_iload_n (i := 2) dX8_held_83 rfl rfl ?_
                refine g_icmp_le (tgt := 91) dX8_held_84 (by decide) (fun hc84 => ?_) (fun hc84 => ?_)
                · (try simp (disch := omega) only [nT, t_m1000100, t_m1000010, t_m1000003, t_m1000002, t_m1000001, t_m1000000, t_m65535, t_m1000, t_m3, t_m1, t_0, t_1, t_2, t_3, t_4, t_5, t_6, t_7, t_8, t_9, t_10, t_11, t_12, t_13, t_15, t_16, t_20, t_21, t_22, t_32, t_40, t_41, t_48, t_49, t_57, t_59, t_60, t_63, t_72, t_76, t_88, t_100, t_144, t_200, t_255, t_288, t_400, t_800, t_999, t_1000, t_1024, t_1200, t_1600, t_3200, t_100000, t_200000, t_252645135, t_858993459, t_1431655765, u_m1000002, u_m1000001, u_m1000, u_m3, u_m1, u_0, u_1, u_2, u_3, u_4, u_5, u_7, u_8, u_10, u_11, u_15, u_60, u_100, u_255, u_999, u_1000, u_100000, u_4294967295] at hc84)
                  refine g_iconst (v := 0) dX8_held_91 (by decide) ?_
                  refine g_istore dX8_held_92 (Nat.le_of_ble_eq_true rfl) rfl ?_
                  refine g_iinc dX8_held_94 rfl (Nat.le_of_ble_eq_true rfl) rfl ?_
                  refine g_goto (tgt := 65) dX8_held_97 (by decide) ?_
                  rw [ni_incO]
                  first
                  | exact ih (b + 1) true (by omega) (by rw [← he]; exact (bI_t (Or.inl rfl)).trans (bI_t (Or.inl (bI_n0.mp (by assumption)))).symm)
                  | exact ih (b + 1) true (by omega) (by rw [← he]; exact (bI_t (Or.inl rfl)).trans (bI_t (Or.inr (by rw [hldB, decide_eq_true (by omega)]; rfl))).symm)
                  | exact ih (b + 1) false (by omega) (by rw [← he, hldB, decide_eq_false (by omega), Bool.false_or, show acc = false from Bool.eq_false_iff.mpr (bI_0.mp (by assumption))])
                · (try simp (disch := omega) only [nT, t_m1000100, t_m1000010, t_m1000003, t_m1000002, t_m1000001, t_m1000000, t_m65535, t_m1000, t_m3, t_m1, t_0, t_1, t_2, t_3, t_4, t_5, t_6, t_7, t_8, t_9, t_10, t_11, t_12, t_13, t_15, t_16, t_20, t_21, t_22, t_32, t_40, t_41, t_48, t_49, t_57, t_59, t_60, t_63, t_72, t_76, t_88, t_100, t_144, t_200, t_255, t_288, t_400, t_800, t_999, t_1000, t_1024, t_1200, t_1600, t_3200, t_100000, t_200000, t_252645135, t_858993459, t_1431655765, u_m1000002, u_m1000001, u_m1000, u_m3, u_m1, u_0, u_1, u_2, u_3, u_4, u_5, u_7, u_8, u_10, u_11, u_15, u_60, u_100, u_255, u_999, u_1000, u_100000, u_4294967295] at hc84)
                  refine g_iconst (v := 1) dX8_held_87 (by decide) ?_
                  refine g_goto (tgt := 92) dX8_held_88 (by decide) ?_
                  refine g_istore dX8_held_92 (Nat.le_of_ble_eq_true rfl) rfl ?_
                  refine g_iinc dX8_held_94 rfl (Nat.le_of_ble_eq_true rfl) rfl ?_
                  refine g_goto (tgt := 65) dX8_held_97 (by decide) ?_
                  rw [ni_incO]
                  first
                  | exact ih (b + 1) true (by omega) (by rw [← he]; exact (bI_t (Or.inl rfl)).trans (bI_t (Or.inl (bI_n0.mp (by assumption)))).symm)
                  | exact ih (b + 1) true (by omega) (by rw [← he]; exact (bI_t (Or.inl rfl)).trans (bI_t (Or.inr (by rw [hldB, decide_eq_true (by omega)]; rfl))).symm)
                  | exact ih (b + 1) false (by omega) (by rw [← he, hldB, decide_eq_false (by omega), Bool.false_or, show acc = false from Bool.eq_false_iff.mpr (bI_0.mp (by assumption))])
        refine g_bipush (v := 100) dX8_held_41 (by decide) ?_
        refine g_aload_n (i := 0) dX8_held_43 rfl rfl ?_
        refine g_iconst (v := 0) dX8_held_44 (by decide) ?_
        refine g_callV (M' := mX8_binned) dX8_held_45 lc_X8_binned ml_X8_287 (c_binned (h := sF h 44 0 (.int 0)) hG go 0) rfl rfl (by repeat' (first | assumption | exact rF_eq | refine rF_ne (by decide) ?_ | refine rF_a ?_ | exact rA_eq | refine rA_ne (by decide) ?_ | refine rA_f ?_)) rfl ⟨Nat.le_of_ble_eq_true rfl, Nat.le_of_ble_eq_true rfl, Nat.le_of_ble_eq_true rfl, Nat.le_of_ble_eq_true rfl⟩ (Nat.le_of_ble_eq_true rfl) ?_
        intro r_ h_ q_; obtain ⟨q1_, q2_⟩ := q_; have q2_ := q2_.symm; subst q1_; subst q2_
        refine g_imul dX8_held_48 ?_
        refine g_iload_n (i := 1) dX8_held_49 rfl rfl ?_
        refine g_iload_n (i := 3) dX8_held_50 rfl rfl ?_
        refine g_imul dX8_held_51 ?_
        refine g_icmp_ge (tgt := 59) dX8_held_52 (by decide) (fun hc52 => ?_) (fun hc52 => ?_)
        · (try simp (disch := omega) only [nT, t_m1000100, t_m1000010, t_m1000003, t_m1000002, t_m1000001, t_m1000000, t_m65535, t_m1000, t_m3, t_m1, t_0, t_1, t_2, t_3, t_4, t_5, t_6, t_7, t_8, t_9, t_10, t_11, t_12, t_13, t_15, t_16, t_20, t_21, t_22, t_32, t_40, t_41, t_48, t_49, t_57, t_59, t_60, t_63, t_72, t_76, t_88, t_100, t_144, t_200, t_255, t_288, t_400, t_800, t_999, t_1000, t_1024, t_1200, t_1600, t_3200, t_100000, t_200000, t_252645135, t_858993459, t_1431655765, u_m1000002, u_m1000001, u_m1000, u_m3, u_m1, u_0, u_1, u_2, u_3, u_4, u_5, u_7, u_8, u_10, u_11, u_15, u_60, u_100, u_255, u_999, u_1000, u_100000, u_4294967295] at hc52)
          refine g_iconst (v := 0) dX8_held_59 (by decide) ?_
          refine g_istore dX8_held_60 (Nat.le_of_ble_eq_true rfl) rfl ?_
          refine g_iconst (v := 1) dX8_held_62 (by decide) ?_
          refine g_istore dX8_held_63 (Nat.le_of_ble_eq_true rfl) rfl ?_
          first
          | exact key 15 1 true rfl (by rw [← hz]; exact (bI_t (Or.inl rfl)).trans (bI_t (Or.inl (by assumption))).symm)
          | exact key 15 1 false rfl (by rw [← hz]; exact bI_c ⟨fun q => Or.inr (q.resolve_left (fun z => Bool.noConfusion z)), fun q => Or.inr (q.resolve_left (Int.not_lt.mpr (by assumption)))⟩)
        · (try simp (disch := omega) only [nT, t_m1000100, t_m1000010, t_m1000003, t_m1000002, t_m1000001, t_m1000000, t_m65535, t_m1000, t_m3, t_m1, t_0, t_1, t_2, t_3, t_4, t_5, t_6, t_7, t_8, t_9, t_10, t_11, t_12, t_13, t_15, t_16, t_20, t_21, t_22, t_32, t_40, t_41, t_48, t_49, t_57, t_59, t_60, t_63, t_72, t_76, t_88, t_100, t_144, t_200, t_255, t_288, t_400, t_800, t_999, t_1000, t_1024, t_1200, t_1600, t_3200, t_100000, t_200000, t_252645135, t_858993459, t_1431655765, u_m1000002, u_m1000001, u_m1000, u_m3, u_m1, u_0, u_1, u_2, u_3, u_4, u_5, u_7, u_8, u_10, u_11, u_15, u_60, u_100, u_255, u_999, u_1000, u_100000, u_4294967295] at hc52)
          refine g_iconst (v := 1) dX8_held_55 (by decide) ?_
          refine g_goto (tgt := 60) dX8_held_56 (by decide) ?_
          refine g_istore dX8_held_60 (Nat.le_of_ble_eq_true rfl) rfl ?_
          refine g_iconst (v := 1) dX8_held_62 (by decide) ?_
          refine g_istore dX8_held_63 (Nat.le_of_ble_eq_true rfl) rfl ?_
          first
          | exact key 15 1 true rfl (by rw [← hz]; exact (bI_t (Or.inl rfl)).trans (bI_t (Or.inl (by assumption))).symm)
          | exact key 15 1 false rfl (by rw [← hz]; exact bI_c ⟨fun q => Or.inr (q.resolve_left (fun z => Bool.noConfusion z)), fun q => Or.inr (q.resolve_left (Int.not_lt.mpr (by assumption)))⟩)
      · have hd35 := i_eq.mp hc35; (try simp (disch := omega) only [nT, t_m1000100, t_m1000010, t_m1000003, t_m1000002, t_m1000001, t_m1000000, t_m65535, t_m1000, t_m3, t_m1, t_0, t_1, t_2, t_3, t_4, t_5, t_6, t_7, t_8, t_9, t_10, t_11, t_12, t_13, t_15, t_16, t_20, t_21, t_22, t_32, t_40, t_41, t_48, t_49, t_57, t_59, t_60, t_63, t_72, t_76, t_88, t_100, t_144, t_200, t_255, t_288, t_400, t_800, t_999, t_1000, t_1024, t_1200, t_1600, t_3200, t_100000, t_200000, t_252645135, t_858993459, t_1431655765, u_m1000002, u_m1000001, u_m1000, u_m3, u_m1, u_0, u_1, u_2, u_3, u_4, u_5, u_7, u_8, u_10, u_11, u_15, u_60, u_100, u_255, u_999, u_1000, u_100000, u_4294967295] at hd35)
        have e : opHeld G y m = _ := (if_neg (by omega)).trans (if_pos (by have := @nT (G.1 - G.2.1) (by omega); omega))
        rw [e] at hQ
        refine g_ldc dX8_held_38 kc_X8_196 ?_
        refine g_iret dX8_held_40 rfl (rfl) (hQ _ _ ?_)
        exact ⟨rfl, rfl⟩
    · (try simp (disch := omega) only [nT, t_m1000100, t_m1000010, t_m1000003, t_m1000002, t_m1000001, t_m1000000, t_m65535, t_m1000, t_m3, t_m1, t_0, t_1, t_2, t_3, t_4, t_5, t_6, t_7, t_8, t_9, t_10, t_11, t_12, t_13, t_15, t_16, t_20, t_21, t_22, t_32, t_40, t_41, t_48, t_49, t_57, t_59, t_60, t_63, t_72, t_76, t_88, t_100, t_144, t_200, t_255, t_288, t_400, t_800, t_999, t_1000, t_1024, t_1200, t_1600, t_3200, t_100000, t_200000, t_252645135, t_858993459, t_1431655765, u_m1000002, u_m1000001, u_m1000, u_m3, u_m1, u_0, u_1, u_2, u_3, u_4, u_5, u_7, u_8, u_10, u_11, u_15, u_60, u_100, u_255, u_999, u_1000, u_100000, u_4294967295] at hc18)
      have e : opHeld G y m = _ := if_pos (by omega)
      rw [e] at hQ
      refine g_ldc dX8_held_21 kc_X8_126 ?_
      refine g_iret dX8_held_23 rfl (rfl) (hQ _ _ ?_)
      exact ⟨rfl, rfl⟩
/-! chance -/
def chG (n : Int32) : Nat → Nat → Int64 → Int64
  | 0, _, v => v
  | m + 1, i, v => chG n m (i + 1) (v * (n - nI i).toInt64 / (nI i + 1).toInt64)
def wyG (n : Int32) : Nat → Nat → Int64 → Int64
  | 0, _, v => v
  | m + 1, t, v => if 0 < v.toInt then wyG n m (t + 1) (v * (n - nI t + 1).toInt64 / (nI t).toInt64) else v
def chs (n k : Nat) : Int64 := if k ≤ n then chG (nI n) k 0 1 else 0
def wys (n k : Nat) : Int64 := wyG (nI n) k 1 (if k ≤ n then 1 else 0)
theorem wys_chs : ∀ n, n < 41 → ∀ k, k < 41 → wys n k = chs n k := by decide +kernel
theorem c_choose (h : HH) {n k : Nat} (hn : n < 41) (hk : k < 41) : CT mX7_choose 0 0 0 [.int (nI n), .int (nI k)] h (fun r h' => r = some (.long (chs n k)) ∧ h' = h) := by
  refine CT.go [.int (nI n), .int (nI k), hU, hU, hU] (by decide +kernel) rfl rfl (fun Q' hQ => ?_)
  have key : k ≤ n → ∀ m i v, i + m = k → chG (nI n) m i v = chs n k → GG (EM mX7_choose 0 0 0 Q') 0 0 16 [.int (nI n), .int (nI k), .long v, hU, .int (nI i)] [] h := by
    intro hkn m
    induction m with
    | zero =>
      intro i v hi he
      rw [← he] at hQ
      refine g_iload dX7_choose_16 rfl ?_
      refine g_iload_n (i := 1) dX7_choose_18 rfl rfl ?_
      refine g_icmp_ge (tgt := 42) dX7_choose_19 (by decide) (fun hc19 => ?_) (fun hc19 => ?_)
      · (try simp (disch := omega) only [nT, t_m1000100, t_m1000010, t_m1000003, t_m1000002, t_m1000001, t_m1000000, t_m65535, t_m1000, t_m3, t_m1, t_0, t_1, t_2, t_3, t_4, t_5, t_6, t_7, t_8, t_9, t_10, t_11, t_12, t_13, t_15, t_16, t_20, t_21, t_22, t_32, t_40, t_41, t_48, t_49, t_57, t_59, t_60, t_63, t_72, t_76, t_88, t_100, t_144, t_200, t_255, t_288, t_400, t_800, t_999, t_1000, t_1024, t_1200, t_1600, t_3200, t_100000, t_200000, t_252645135, t_858993459, t_1431655765, u_m1000002, u_m1000001, u_m1000, u_m3, u_m1, u_0, u_1, u_2, u_3, u_4, u_5, u_7, u_8, u_10, u_11, u_15, u_60, u_100, u_255, u_999, u_1000, u_100000, u_4294967295] at hc19)
        refine g_lload_n (i := 2) dX7_choose_42 rfl rfl ?_
        refine g_lret dX7_choose_43 rfl (hQ _ _ ?_)
        exact ⟨rfl, rfl⟩
      · (try simp (disch := omega) only [nT, t_m1000100, t_m1000010, t_m1000003, t_m1000002, t_m1000001, t_m1000000, t_m65535, t_m1000, t_m3, t_m1, t_0, t_1, t_2, t_3, t_4, t_5, t_6, t_7, t_8, t_9, t_10, t_11, t_12, t_13, t_15, t_16, t_20, t_21, t_22, t_32, t_40, t_41, t_48, t_49, t_57, t_59, t_60, t_63, t_72, t_76, t_88, t_100, t_144, t_200, t_255, t_288, t_400, t_800, t_999, t_1000, t_1024, t_1200, t_1600, t_3200, t_100000, t_200000, t_252645135, t_858993459, t_1431655765, u_m1000002, u_m1000001, u_m1000, u_m3, u_m1, u_0, u_1, u_2, u_3, u_4, u_5, u_7, u_8, u_10, u_11, u_15, u_60, u_100, u_255, u_999, u_1000, u_100000, u_4294967295] at hc19); omega
    | succ m ih =>
      intro i v hi he
      refine g_iload dX7_choose_16 rfl ?_
      refine g_iload_n (i := 1) dX7_choose_18 rfl rfl ?_
      refine g_icmp_ge (tgt := 42) dX7_choose_19 (by decide) (fun hc19 => ?_) (fun hc19 => ?_)
      · (try simp (disch := omega) only [nT, t_m1000100, t_m1000010, t_m1000003, t_m1000002, t_m1000001, t_m1000000, t_m65535, t_m1000, t_m3, t_m1, t_0, t_1, t_2, t_3, t_4, t_5, t_6, t_7, t_8, t_9, t_10, t_11, t_12, t_13, t_15, t_16, t_20, t_21, t_22, t_32, t_40, t_41, t_48, t_49, t_57, t_59, t_60, t_63, t_72, t_76, t_88, t_100, t_144, t_200, t_255, t_288, t_400, t_800, t_999, t_1000, t_1024, t_1200, t_1600, t_3200, t_100000, t_200000, t_252645135, t_858993459, t_1431655765, u_m1000002, u_m1000001, u_m1000, u_m3, u_m1, u_0, u_1, u_2, u_3, u_4, u_5, u_7, u_8, u_10, u_11, u_15, u_60, u_100, u_255, u_999, u_1000, u_100000, u_4294967295] at hc19); omega
      · (try simp (disch := omega) only [nT, t_m1000100, t_m1000010, t_m1000003, t_m1000002, t_m1000001, t_m1000000, t_m65535, t_m1000, t_m3, t_m1, t_0, t_1, t_2, t_3, t_4, t_5, t_6, t_7, t_8, t_9, t_10, t_11, t_12, t_13, t_15, t_16, t_20, t_21, t_22, t_32, t_40, t_41, t_48, t_49, t_57, t_59, t_60, t_63, t_72, t_76, t_88, t_100, t_144, t_200, t_255, t_288, t_400, t_800, t_999, t_1000, t_1024, t_1200, t_1600, t_3200, t_100000, t_200000, t_252645135, t_858993459, t_1431655765, u_m1000002, u_m1000001, u_m1000, u_m3, u_m1, u_0, u_1, u_2, u_3, u_4, u_5, u_7, u_8, u_10, u_11, u_15, u_60, u_100, u_255, u_999, u_1000, u_100000, u_4294967295] at hc19)
        refine g_lload_n (i := 2) dX7_choose_22 rfl rfl ?_
        refine g_iload_n (i := 0) dX7_choose_23 rfl rfl ?_
        refine g_iload dX7_choose_24 rfl ?_
        refine g_isub dX7_choose_26 ?_
        refine g_i2l dX7_choose_27 ?_
        refine g_lmul dX7_choose_28 ?_
        refine g_iload dX7_choose_29 rfl ?_
        refine g_iconst (v := 1) dX7_choose_31 (by decide) ?_
        refine g_iadd dX7_choose_32 ?_
        refine g_i2l dX7_choose_33 ?_
        refine g_ldiv dX7_choose_34 (fun q => by have := congrArg Int64.toInt q; rw [l_i, ni_inc, nT (by omega)] at this; have z : (0 : Int64).toInt = 0 := rfl; omega) ?_
        refine g_lstore_n (i := 2) dX7_choose_35 rfl (Nat.le_of_ble_eq_true rfl) rfl ?_
        refine g_iinc dX7_choose_36 rfl (Nat.le_of_ble_eq_true rfl) rfl ?_
        refine g_goto (tgt := 16) dX7_choose_39 (by decide) ?_
        rw [ni_incO]
        exact ih (i + 1) _ (by omega) he
  refine g_iload_n (i := 1) dX7_choose_0 rfl rfl ?_
  refine g_if_lt (tgt := 9) dX7_choose_1 (by decide) (fun hc1 => ?_) (fun hc1 => ?_)
  · (try simp (disch := omega) only [nT, t_m1000100, t_m1000010, t_m1000003, t_m1000002, t_m1000001, t_m1000000, t_m65535, t_m1000, t_m3, t_m1, t_0, t_1, t_2, t_3, t_4, t_5, t_6, t_7, t_8, t_9, t_10, t_11, t_12, t_13, t_15, t_16, t_20, t_21, t_22, t_32, t_40, t_41, t_48, t_49, t_57, t_59, t_60, t_63, t_72, t_76, t_88, t_100, t_144, t_200, t_255, t_288, t_400, t_800, t_999, t_1000, t_1024, t_1200, t_1600, t_3200, t_100000, t_200000, t_252645135, t_858993459, t_1431655765, u_m1000002, u_m1000001, u_m1000, u_m3, u_m1, u_0, u_1, u_2, u_3, u_4, u_5, u_7, u_8, u_10, u_11, u_15, u_60, u_100, u_255, u_999, u_1000, u_100000, u_4294967295] at hc1); omega
  · (try simp (disch := omega) only [nT, t_m1000100, t_m1000010, t_m1000003, t_m1000002, t_m1000001, t_m1000000, t_m65535, t_m1000, t_m3, t_m1, t_0, t_1, t_2, t_3, t_4, t_5, t_6, t_7, t_8, t_9, t_10, t_11, t_12, t_13, t_15, t_16, t_20, t_21, t_22, t_32, t_40, t_41, t_48, t_49, t_57, t_59, t_60, t_63, t_72, t_76, t_88, t_100, t_144, t_200, t_255, t_288, t_400, t_800, t_999, t_1000, t_1024, t_1200, t_1600, t_3200, t_100000, t_200000, t_252645135, t_858993459, t_1431655765, u_m1000002, u_m1000001, u_m1000, u_m3, u_m1, u_0, u_1, u_2, u_3, u_4, u_5, u_7, u_8, u_10, u_11, u_15, u_60, u_100, u_255, u_999, u_1000, u_100000, u_4294967295] at hc1)
    refine g_iload_n (i := 1) dX7_choose_4 rfl rfl ?_
    refine g_iload_n (i := 0) dX7_choose_5 rfl rfl ?_
    refine g_icmp_le (tgt := 11) dX7_choose_6 (by decide) (fun hc6 => ?_) (fun hc6 => ?_)
    · (try simp (disch := omega) only [nT, t_m1000100, t_m1000010, t_m1000003, t_m1000002, t_m1000001, t_m1000000, t_m65535, t_m1000, t_m3, t_m1, t_0, t_1, t_2, t_3, t_4, t_5, t_6, t_7, t_8, t_9, t_10, t_11, t_12, t_13, t_15, t_16, t_20, t_21, t_22, t_32, t_40, t_41, t_48, t_49, t_57, t_59, t_60, t_63, t_72, t_76, t_88, t_100, t_144, t_200, t_255, t_288, t_400, t_800, t_999, t_1000, t_1024, t_1200, t_1600, t_3200, t_100000, t_200000, t_252645135, t_858993459, t_1431655765, u_m1000002, u_m1000001, u_m1000, u_m3, u_m1, u_0, u_1, u_2, u_3, u_4, u_5, u_7, u_8, u_10, u_11, u_15, u_60, u_100, u_255, u_999, u_1000, u_100000, u_4294967295] at hc6)
      refine g_lconst (v := 1) dX7_choose_11 (by decide) ?_
      refine g_lstore_n (i := 2) dX7_choose_12 rfl (Nat.le_of_ble_eq_true rfl) rfl ?_
      refine g_iconst (v := 0) dX7_choose_13 (by decide) ?_
      refine g_istore dX7_choose_14 (Nat.le_of_ble_eq_true rfl) rfl ?_
      exact key (by omega) k 0 1 (by omega) (by rw [chs, if_pos (by omega)])
    · (try simp (disch := omega) only [nT, t_m1000100, t_m1000010, t_m1000003, t_m1000002, t_m1000001, t_m1000000, t_m65535, t_m1000, t_m3, t_m1, t_0, t_1, t_2, t_3, t_4, t_5, t_6, t_7, t_8, t_9, t_10, t_11, t_12, t_13, t_15, t_16, t_20, t_21, t_22, t_32, t_40, t_41, t_48, t_49, t_57, t_59, t_60, t_63, t_72, t_76, t_88, t_100, t_144, t_200, t_255, t_288, t_400, t_800, t_999, t_1000, t_1024, t_1200, t_1600, t_3200, t_100000, t_200000, t_252645135, t_858993459, t_1431655765, u_m1000002, u_m1000001, u_m1000, u_m3, u_m1, u_0, u_1, u_2, u_3, u_4, u_5, u_7, u_8, u_10, u_11, u_15, u_60, u_100, u_255, u_999, u_1000, u_100000, u_4294967295] at hc6)
      rw [show chs n k = 0 from if_neg (by omega)] at hQ
      refine g_lconst (v := 0) dX7_choose_9 (by decide) ?_
      refine g_lret dX7_choose_10 rfl (hQ _ _ ?_)
      exact ⟨rfl, rfl⟩
theorem c_ways (h : HH) {n k : Nat} (hn : n < 41) (hk : k < 41) : CT mX8_ways 0 0 0 [.int (nI n), .int (nI k)] h (fun r h' => r = some (.long (chs n k)) ∧ h' = h) := by
  rw [← wys_chs n hn k hk]
  refine CT.go [.int (nI n), .int (nI k), hU, hU, hU] (by decide +kernel) rfl rfl (fun Q' hQ => ?_)
  have key : ∀ m t v, t + m = k + 1 → wyG (nI n) m t v = wys n k → 1 ≤ t → GG (EM mX8_ways 0 0 0 Q') 0 0 18 [.int (nI n), .int (nI k), .long v, hU, .int (nI t)] [] h := by
    intro m
    induction m with
    | zero =>
      intro t v ht he h1
      rw [← he] at hQ
      refine g_iload dX8_ways_18 rfl ?_
      refine g_iload_n (i := 1) dX8_ways_20 rfl rfl ?_
      refine g_icmp_gt (tgt := 50) dX8_ways_21 (by decide) (fun hc21 => ?_) (fun hc21 => ?_)
      · (try simp (disch := omega) only [nT, t_m1000100, t_m1000010, t_m1000003, t_m1000002, t_m1000001, t_m1000000, t_m65535, t_m1000, t_m3, t_m1, t_0, t_1, t_2, t_3, t_4, t_5, t_6, t_7, t_8, t_9, t_10, t_11, t_12, t_13, t_15, t_16, t_20, t_21, t_22, t_32, t_40, t_41, t_48, t_49, t_57, t_59, t_60, t_63, t_72, t_76, t_88, t_100, t_144, t_200, t_255, t_288, t_400, t_800, t_999, t_1000, t_1024, t_1200, t_1600, t_3200, t_100000, t_200000, t_252645135, t_858993459, t_1431655765, u_m1000002, u_m1000001, u_m1000, u_m3, u_m1, u_0, u_1, u_2, u_3, u_4, u_5, u_7, u_8, u_10, u_11, u_15, u_60, u_100, u_255, u_999, u_1000, u_100000, u_4294967295] at hc21)
        refine g_lload_n (i := 2) dX8_ways_50 rfl rfl ?_
        refine g_lret dX8_ways_51 rfl (hQ _ _ ?_)
        exact ⟨rfl, rfl⟩
      · (try simp (disch := omega) only [nT, t_m1000100, t_m1000010, t_m1000003, t_m1000002, t_m1000001, t_m1000000, t_m65535, t_m1000, t_m3, t_m1, t_0, t_1, t_2, t_3, t_4, t_5, t_6, t_7, t_8, t_9, t_10, t_11, t_12, t_13, t_15, t_16, t_20, t_21, t_22, t_32, t_40, t_41, t_48, t_49, t_57, t_59, t_60, t_63, t_72, t_76, t_88, t_100, t_144, t_200, t_255, t_288, t_400, t_800, t_999, t_1000, t_1024, t_1200, t_1600, t_3200, t_100000, t_200000, t_252645135, t_858993459, t_1431655765, u_m1000002, u_m1000001, u_m1000, u_m3, u_m1, u_0, u_1, u_2, u_3, u_4, u_5, u_7, u_8, u_10, u_11, u_15, u_60, u_100, u_255, u_999, u_1000, u_100000, u_4294967295] at hc21); omega
    | succ m ih =>
      intro t v ht he h1
      unfold wyG at he
      refine g_iload dX8_ways_18 rfl ?_
      refine g_iload_n (i := 1) dX8_ways_20 rfl rfl ?_
      refine g_icmp_gt (tgt := 50) dX8_ways_21 (by decide) (fun hc21 => ?_) (fun hc21 => ?_)
      · (try simp (disch := omega) only [nT, t_m1000100, t_m1000010, t_m1000003, t_m1000002, t_m1000001, t_m1000000, t_m65535, t_m1000, t_m3, t_m1, t_0, t_1, t_2, t_3, t_4, t_5, t_6, t_7, t_8, t_9, t_10, t_11, t_12, t_13, t_15, t_16, t_20, t_21, t_22, t_32, t_40, t_41, t_48, t_49, t_57, t_59, t_60, t_63, t_72, t_76, t_88, t_100, t_144, t_200, t_255, t_288, t_400, t_800, t_999, t_1000, t_1024, t_1200, t_1600, t_3200, t_100000, t_200000, t_252645135, t_858993459, t_1431655765, u_m1000002, u_m1000001, u_m1000, u_m3, u_m1, u_0, u_1, u_2, u_3, u_4, u_5, u_7, u_8, u_10, u_11, u_15, u_60, u_100, u_255, u_999, u_1000, u_100000, u_4294967295] at hc21); omega
      · (try simp (disch := omega) only [nT, t_m1000100, t_m1000010, t_m1000003, t_m1000002, t_m1000001, t_m1000000, t_m65535, t_m1000, t_m3, t_m1, t_0, t_1, t_2, t_3, t_4, t_5, t_6, t_7, t_8, t_9, t_10, t_11, t_12, t_13, t_15, t_16, t_20, t_21, t_22, t_32, t_40, t_41, t_48, t_49, t_57, t_59, t_60, t_63, t_72, t_76, t_88, t_100, t_144, t_200, t_255, t_288, t_400, t_800, t_999, t_1000, t_1024, t_1200, t_1600, t_3200, t_100000, t_200000, t_252645135, t_858993459, t_1431655765, u_m1000002, u_m1000001, u_m1000, u_m3, u_m1, u_0, u_1, u_2, u_3, u_4, u_5, u_7, u_8, u_10, u_11, u_15, u_60, u_100, u_255, u_999, u_1000, u_100000, u_4294967295] at hc21)
        refine g_lload_n (i := 2) dX8_ways_24 rfl rfl ?_
        refine g_lconst (v := 0) dX8_ways_25 (by decide) ?_
        refine g_lcmp dX8_ways_26 ?_
        refine g_if_le (tgt := 50) dX8_ways_27 (by decide) (fun hc27 => ?_) (fun hc27 => ?_)
        · replace hc27 := lc_le.mp hc27; (try simp only [l_add32, l_i] at hc27)
          (try simp (disch := omega) only [nT, t_m1000100, t_m1000010, t_m1000003, t_m1000002, t_m1000001, t_m1000000, t_m65535, t_m1000, t_m3, t_m1, t_0, t_1, t_2, t_3, t_4, t_5, t_6, t_7, t_8, t_9, t_10, t_11, t_12, t_13, t_15, t_16, t_20, t_21, t_22, t_32, t_40, t_41, t_48, t_49, t_57, t_59, t_60, t_63, t_72, t_76, t_88, t_100, t_144, t_200, t_255, t_288, t_400, t_800, t_999, t_1000, t_1024, t_1200, t_1600, t_3200, t_100000, t_200000, t_252645135, t_858993459, t_1431655765, u_m1000002, u_m1000001, u_m1000, u_m3, u_m1, u_0, u_1, u_2, u_3, u_4, u_5, u_7, u_8, u_10, u_11, u_15, u_60, u_100, u_255, u_999, u_1000, u_100000, u_4294967295] at hc27)
          rw [if_neg (by omega)] at he
          rw [← he] at hQ
          refine g_lload_n (i := 2) dX8_ways_50 rfl rfl ?_
          refine g_lret dX8_ways_51 rfl (hQ _ _ ?_)
          exact ⟨rfl, rfl⟩
        · replace hc27 := lc_gt.mp hc27; (try simp only [l_add32, l_i] at hc27)
          (try simp (disch := omega) only [nT, t_m1000100, t_m1000010, t_m1000003, t_m1000002, t_m1000001, t_m1000000, t_m65535, t_m1000, t_m3, t_m1, t_0, t_1, t_2, t_3, t_4, t_5, t_6, t_7, t_8, t_9, t_10, t_11, t_12, t_13, t_15, t_16, t_20, t_21, t_22, t_32, t_40, t_41, t_48, t_49, t_57, t_59, t_60, t_63, t_72, t_76, t_88, t_100, t_144, t_200, t_255, t_288, t_400, t_800, t_999, t_1000, t_1024, t_1200, t_1600, t_3200, t_100000, t_200000, t_252645135, t_858993459, t_1431655765, u_m1000002, u_m1000001, u_m1000, u_m3, u_m1, u_0, u_1, u_2, u_3, u_4, u_5, u_7, u_8, u_10, u_11, u_15, u_60, u_100, u_255, u_999, u_1000, u_100000, u_4294967295] at hc27)
          rw [if_pos (by assumption)] at he
          refine g_lload_n (i := 2) dX8_ways_30 rfl rfl ?_
          refine g_iload_n (i := 0) dX8_ways_31 rfl rfl ?_
          refine g_iload dX8_ways_32 rfl ?_
          refine g_isub dX8_ways_34 ?_
          refine g_iconst (v := 1) dX8_ways_35 (by decide) ?_
          refine g_iadd dX8_ways_36 ?_
          refine g_i2l dX8_ways_37 ?_
          refine g_lmul dX8_ways_38 ?_
          refine g_iload dX8_ways_39 rfl ?_
          refine g_i2l dX8_ways_41 ?_
          refine g_ldiv dX8_ways_42 (fun q => by have := congrArg Int64.toInt q; rw [l_i, nT (by omega)] at this; have z : (0 : Int64).toInt = 0 := rfl; omega) ?_
          refine g_lstore_n (i := 2) dX8_ways_43 rfl (Nat.le_of_ble_eq_true rfl) rfl ?_
          refine g_iinc dX8_ways_44 rfl (Nat.le_of_ble_eq_true rfl) rfl ?_
          refine g_goto (tgt := 18) dX8_ways_47 (by decide) ?_
          rw [ni_incO]
          exact ih (t + 1) _ (by omega) he (by omega)
  refine g_iload_n (i := 1) dX8_ways_0 rfl rfl ?_
  refine g_if_lt (tgt := 9) dX8_ways_1 (by decide) (fun hc1 => ?_) (fun hc1 => ?_)
  · (try simp (disch := omega) only [nT, t_m1000100, t_m1000010, t_m1000003, t_m1000002, t_m1000001, t_m1000000, t_m65535, t_m1000, t_m3, t_m1, t_0, t_1, t_2, t_3, t_4, t_5, t_6, t_7, t_8, t_9, t_10, t_11, t_12, t_13, t_15, t_16, t_20, t_21, t_22, t_32, t_40, t_41, t_48, t_49, t_57, t_59, t_60, t_63, t_72, t_76, t_88, t_100, t_144, t_200, t_255, t_288, t_400, t_800, t_999, t_1000, t_1024, t_1200, t_1600, t_3200, t_100000, t_200000, t_252645135, t_858993459, t_1431655765, u_m1000002, u_m1000001, u_m1000, u_m3, u_m1, u_0, u_1, u_2, u_3, u_4, u_5, u_7, u_8, u_10, u_11, u_15, u_60, u_100, u_255, u_999, u_1000, u_100000, u_4294967295] at hc1); omega
  · (try simp (disch := omega) only [nT, t_m1000100, t_m1000010, t_m1000003, t_m1000002, t_m1000001, t_m1000000, t_m65535, t_m1000, t_m3, t_m1, t_0, t_1, t_2, t_3, t_4, t_5, t_6, t_7, t_8, t_9, t_10, t_11, t_12, t_13, t_15, t_16, t_20, t_21, t_22, t_32, t_40, t_41, t_48, t_49, t_57, t_59, t_60, t_63, t_72, t_76, t_88, t_100, t_144, t_200, t_255, t_288, t_400, t_800, t_999, t_1000, t_1024, t_1200, t_1600, t_3200, t_100000, t_200000, t_252645135, t_858993459, t_1431655765, u_m1000002, u_m1000001, u_m1000, u_m3, u_m1, u_0, u_1, u_2, u_3, u_4, u_5, u_7, u_8, u_10, u_11, u_15, u_60, u_100, u_255, u_999, u_1000, u_100000, u_4294967295] at hc1)
    refine g_iload_n (i := 1) dX8_ways_4 rfl rfl ?_
    refine g_iload_n (i := 0) dX8_ways_5 rfl rfl ?_
    refine g_icmp_le (tgt := 13) dX8_ways_6 (by decide) (fun hc6 => ?_) (fun hc6 => ?_)
    · (try simp (disch := omega) only [nT, t_m1000100, t_m1000010, t_m1000003, t_m1000002, t_m1000001, t_m1000000, t_m65535, t_m1000, t_m3, t_m1, t_0, t_1, t_2, t_3, t_4, t_5, t_6, t_7, t_8, t_9, t_10, t_11, t_12, t_13, t_15, t_16, t_20, t_21, t_22, t_32, t_40, t_41, t_48, t_49, t_57, t_59, t_60, t_63, t_72, t_76, t_88, t_100, t_144, t_200, t_255, t_288, t_400, t_800, t_999, t_1000, t_1024, t_1200, t_1600, t_3200, t_100000, t_200000, t_252645135, t_858993459, t_1431655765, u_m1000002, u_m1000001, u_m1000, u_m3, u_m1, u_0, u_1, u_2, u_3, u_4, u_5, u_7, u_8, u_10, u_11, u_15, u_60, u_100, u_255, u_999, u_1000, u_100000, u_4294967295] at hc6)
      refine g_lconst (v := 1) dX8_ways_13 (by decide) ?_
      refine g_lstore_n (i := 2) dX8_ways_14 rfl (Nat.le_of_ble_eq_true rfl) rfl ?_
      refine g_iconst (v := 1) dX8_ways_15 (by decide) ?_
      refine g_istore dX8_ways_16 (Nat.le_of_ble_eq_true rfl) rfl ?_
      first
      | exact key k 1 1 (by omega) (by rw [wys, if_pos (by omega)]) (by omega)
      | exact key k 1 0 (by omega) (by rw [wys, if_neg (by omega)]) (by omega)
    · (try simp (disch := omega) only [nT, t_m1000100, t_m1000010, t_m1000003, t_m1000002, t_m1000001, t_m1000000, t_m65535, t_m1000, t_m3, t_m1, t_0, t_1, t_2, t_3, t_4, t_5, t_6, t_7, t_8, t_9, t_10, t_11, t_12, t_13, t_15, t_16, t_20, t_21, t_22, t_32, t_40, t_41, t_48, t_49, t_57, t_59, t_60, t_63, t_72, t_76, t_88, t_100, t_144, t_200, t_255, t_288, t_400, t_800, t_999, t_1000, t_1024, t_1200, t_1600, t_3200, t_100000, t_200000, t_252645135, t_858993459, t_1431655765, u_m1000002, u_m1000001, u_m1000, u_m3, u_m1, u_0, u_1, u_2, u_3, u_4, u_5, u_7, u_8, u_10, u_11, u_15, u_60, u_100, u_255, u_999, u_1000, u_100000, u_4294967295] at hc6)
      refine g_lconst (v := 0) dX8_ways_9 (by decide) ?_
      refine g_goto (tgt := 14) dX8_ways_10 (by decide) ?_
      refine g_lstore_n (i := 2) dX8_ways_14 rfl (Nat.le_of_ble_eq_true rfl) rfl ?_
      refine g_iconst (v := 1) dX8_ways_15 (by decide) ?_
      refine g_istore dX8_ways_16 (Nat.le_of_ble_eq_true rfl) rfl ?_
      first
      | exact key k 1 1 (by omega) (by rw [wys, if_pos (by omega)]) (by omega)
      | exact key k 1 0 (by omega) (by rw [wys, if_neg (by omega)]) (by omega)
theorem cP_cS (G : GL2) (s : Int32) : cP G s ≤ cS G s := cnt_mono (fun i h => pS_t.mpr (pP_t.mp h).1) _ _
theorem cS_N (G : GL2) (s : Int32) : cS G s ≤ G.1 - G.2.1 := cnt_le _ _ _
theorem cP_cB (G : GL2) (s : Int32) : cP G s ≤ cB G 0 := cnt_mono (fun i h => pB_t.mpr (i_eq.mpr (pP_t.mp h).2)) _ _
theorem cB_N (G : GL2) (s : Int32) : cB G s ≤ G.1 - G.2.1 := cnt_le _ _ _
def wsum (p f o : Nat) : Nat → Nat → Int64 → Int64
  | 0, _, a => a
  | m + 1, k, a => wsum p f o m (k + 1) (a + chs p k * chs f (o - k))
def opChance (G : GL2) (s w : Int32) : Int64 :=
  if ¬ (0 ≤ s.toInt ∧ s.toInt < 8) ∨ ¬ (0 ≤ w.toInt ∧ w.toInt < 2) then -1000001
  else if cS G s = 0 ∨ 40 < G.1 - G.2.1 then -1000002
  else if w.toInt = 0 then wsum (cB G 0) (G.1 - G.2.1 - cB G 0) (cS G s) (cP G s + 1) 0 0 else chs (G.1 - G.2.1) (cS G s)
theorem c_waysSo {G : GL2} (hG : WfG G) {h : HH} {fa : Nat → Int32} (hg : LgG G h fa) (s : Int32) (hN : G.1 - G.2.1 ≤ 40) : CT mX1_waysSo 2 0 0 [.ref 38, .int s] h (fun r h' => r = some (.long (wsum (cB G 0) (G.1 - G.2.1 - cB G 0) (cS G s) (cP G s + 1) 0 0)) ∧ h' = h) := by
  have l1 := hg.1.1
  have q1 := cP_cS G s
  have q2 := cS_N G s
  have q3 := cB_N G 0
  have q4 := cP_cB G s
  refine CT.go [.ref 38, .int s, hU, hU, hU, hU, hU, hU, hU] (by decide +kernel) rfl rfl (fun Q' hQ => ?_)
  generalize hz : wsum (cB G 0) (G.1 - G.2.1 - cB G 0) (cS G s) (cP G s + 1) 0 0 = z at hQ
  have key : ∀ m k a, k + m = cP G s + 1 → wsum (cB G 0) (G.1 - G.2.1 - cB G 0) (cS G s) m k a = z → GG (EM mX1_waysSo 2 0 0 Q') 0 0 33 [.ref 38, .int s, .int (nI (cB G 0)), .int (nI (G.1 - G.2.1 - cB G 0)), .int (nI (cS G s)), .int (nI (cP G s)), .long a, hU, .int (nI k)] [] h := by
    intro m
    induction m with
    | zero =>
      intro k a hk he
      obtain rfl : a = z := he
      refine g_iload dX1_waysSo_33 rfl ?_
      refine g_iload dX1_waysSo_35 rfl ?_
      refine g_icmp_gt (tgt := 67) dX1_waysSo_37 (by decide) (fun hc37 => ?_) (fun hc37 => ?_)
      · (try simp (disch := omega) only [nT, t_m1000100, t_m1000010, t_m1000003, t_m1000002, t_m1000001, t_m1000000, t_m65535, t_m1000, t_m3, t_m1, t_0, t_1, t_2, t_3, t_4, t_5, t_6, t_7, t_8, t_9, t_10, t_11, t_12, t_13, t_15, t_16, t_20, t_21, t_22, t_32, t_40, t_41, t_48, t_49, t_57, t_59, t_60, t_63, t_72, t_76, t_88, t_100, t_144, t_200, t_255, t_288, t_400, t_800, t_999, t_1000, t_1024, t_1200, t_1600, t_3200, t_100000, t_200000, t_252645135, t_858993459, t_1431655765, u_m1000002, u_m1000001, u_m1000, u_m3, u_m1, u_0, u_1, u_2, u_3, u_4, u_5, u_7, u_8, u_10, u_11, u_15, u_60, u_100, u_255, u_999, u_1000, u_100000, u_4294967295] at hc37)
        refine g_lload dX1_waysSo_67 rfl ?_
        refine g_lret dX1_waysSo_69 rfl (hQ _ _ ?_)
        exact ⟨rfl, rfl⟩
      · (try simp (disch := omega) only [nT, t_m1000100, t_m1000010, t_m1000003, t_m1000002, t_m1000001, t_m1000000, t_m65535, t_m1000, t_m3, t_m1, t_0, t_1, t_2, t_3, t_4, t_5, t_6, t_7, t_8, t_9, t_10, t_11, t_12, t_13, t_15, t_16, t_20, t_21, t_22, t_32, t_40, t_41, t_48, t_49, t_57, t_59, t_60, t_63, t_72, t_76, t_88, t_100, t_144, t_200, t_255, t_288, t_400, t_800, t_999, t_1000, t_1024, t_1200, t_1600, t_3200, t_100000, t_200000, t_252645135, t_858993459, t_1431655765, u_m1000002, u_m1000001, u_m1000, u_m3, u_m1, u_0, u_1, u_2, u_3, u_4, u_5, u_7, u_8, u_10, u_11, u_15, u_60, u_100, u_255, u_999, u_1000, u_100000, u_4294967295] at hc37); omega
    | succ m ih =>
      intro k a hk he
      refine g_iload dX1_waysSo_33 rfl ?_
      refine g_iload dX1_waysSo_35 rfl ?_
      refine g_icmp_gt (tgt := 67) dX1_waysSo_37 (by decide) (fun hc37 => ?_) (fun hc37 => ?_)
      · (try simp (disch := omega) only [nT, t_m1000100, t_m1000010, t_m1000003, t_m1000002, t_m1000001, t_m1000000, t_m65535, t_m1000, t_m3, t_m1, t_0, t_1, t_2, t_3, t_4, t_5, t_6, t_7, t_8, t_9, t_10, t_11, t_12, t_13, t_15, t_16, t_20, t_21, t_22, t_32, t_40, t_41, t_48, t_49, t_57, t_59, t_60, t_63, t_72, t_76, t_88, t_100, t_144, t_200, t_255, t_288, t_400, t_800, t_999, t_1000, t_1024, t_1200, t_1600, t_3200, t_100000, t_200000, t_252645135, t_858993459, t_1431655765, u_m1000002, u_m1000001, u_m1000, u_m3, u_m1, u_0, u_1, u_2, u_3, u_4, u_5, u_7, u_8, u_10, u_11, u_15, u_60, u_100, u_255, u_999, u_1000, u_100000, u_4294967295] at hc37); omega
      · (try simp (disch := omega) only [nT, t_m1000100, t_m1000010, t_m1000003, t_m1000002, t_m1000001, t_m1000000, t_m65535, t_m1000, t_m3, t_m1, t_0, t_1, t_2, t_3, t_4, t_5, t_6, t_7, t_8, t_9, t_10, t_11, t_12, t_13, t_15, t_16, t_20, t_21, t_22, t_32, t_40, t_41, t_48, t_49, t_57, t_59, t_60, t_63, t_72, t_76, t_88, t_100, t_144, t_200, t_255, t_288, t_400, t_800, t_999, t_1000, t_1024, t_1200, t_1600, t_3200, t_100000, t_200000, t_252645135, t_858993459, t_1431655765, u_m1000002, u_m1000001, u_m1000, u_m3, u_m1, u_0, u_1, u_2, u_3, u_4, u_5, u_7, u_8, u_10, u_11, u_15, u_60, u_100, u_255, u_999, u_1000, u_100000, u_4294967295] at hc37)
        refine g_lload dX1_waysSo_40 rfl ?_
        refine g_iload_n (i := 2) dX1_waysSo_42 rfl rfl ?_
        refine g_iload dX1_waysSo_43 rfl ?_
        refine g_callSN (M' := mX7_choose) dX1_waysSo_45 lc_X7_choose nl_X1_40 (c_choose h (n := cB G 0) (k := k) (by omega) (by omega)) rfl rfl ⟨Nat.le_of_ble_eq_true rfl, Nat.le_of_ble_eq_true rfl, Nat.le_of_ble_eq_true rfl, Nat.le_of_ble_eq_true rfl⟩ (Nat.le_of_ble_eq_true rfl) ?_
        intro r_ h_ q_; obtain ⟨q1_, q2_⟩ := q_; have q2_ := q2_.symm; subst q1_; subst q2_
        refine g_iload_n (i := 3) dX1_waysSo_48 rfl rfl ?_
        refine g_iload dX1_waysSo_49 rfl ?_
        refine g_iload dX1_waysSo_51 rfl ?_
        refine g_isub dX1_waysSo_53 ?_
        rw [n_sub (by omega)]
        refine g_callSN (M' := mX7_choose) dX1_waysSo_54 lc_X7_choose nl_X1_40 (c_choose h (n := G.1 - G.2.1 - cB G 0) (k := cS G s - k) (by omega) (by omega)) rfl rfl ⟨Nat.le_of_ble_eq_true rfl, Nat.le_of_ble_eq_true rfl, Nat.le_of_ble_eq_true rfl, Nat.le_of_ble_eq_true rfl⟩ (Nat.le_of_ble_eq_true rfl) ?_
        intro r_ h_ q_; obtain ⟨q1_, q2_⟩ := q_; have q2_ := q2_.symm; subst q1_; subst q2_
        refine g_lmul dX1_waysSo_57 ?_
        refine g_ladd dX1_waysSo_58 ?_
        refine g_lstore dX1_waysSo_59 (Nat.le_of_ble_eq_true rfl) rfl ?_
        refine g_iinc dX1_waysSo_61 rfl (Nat.le_of_ble_eq_true rfl) rfl ?_
        refine g_goto (tgt := 33) dX1_waysSo_64 (by decide) ?_
        rw [ni_incO]
        exact ih (k + 1) _ (by omega) he
  refine g_aload_n (i := 0) dX1_waysSo_0 rfl rfl ?_
  refine g_iconst (v := 0) dX1_waysSo_1 (by decide) ?_
  refine g_callV (M' := mX1_countOfBin) dX1_waysSo_2 lc_X1_countOfBin ml_X1_26 (c_countOfBin hG hg 0) rfl rfl (by repeat' (first | assumption | exact rF_eq | refine rF_ne (by decide) ?_ | refine rF_a ?_ | exact rA_eq | refine rA_ne (by decide) ?_ | refine rA_f ?_)) rfl ⟨Nat.le_of_ble_eq_true rfl, Nat.le_of_ble_eq_true rfl, Nat.le_of_ble_eq_true rfl, Nat.le_of_ble_eq_true rfl⟩ (Nat.le_of_ble_eq_true rfl) ?_
  intro r_ h_ q_; obtain ⟨q1_, q2_⟩ := q_; have q2_ := q2_.symm; subst q1_; subst q2_
  refine g_istore_n (i := 2) dX1_waysSo_5 rfl (Nat.le_of_ble_eq_true rfl) rfl ?_
  refine g_aload_n (i := 0) dX1_waysSo_6 rfl rfl ?_
  refine g_callV (M' := mX1_lotSize) dX1_waysSo_7 lc_X1_lotSize ml_X1_30 (c_lotSize hG hg) rfl rfl (by repeat' (first | assumption | exact rF_eq | refine rF_ne (by decide) ?_ | refine rF_a ?_ | exact rA_eq | refine rA_ne (by decide) ?_ | refine rA_f ?_)) rfl ⟨Nat.le_of_ble_eq_true rfl, Nat.le_of_ble_eq_true rfl, Nat.le_of_ble_eq_true rfl, Nat.le_of_ble_eq_true rfl⟩ (Nat.le_of_ble_eq_true rfl) ?_
  intro r_ h_ q_; obtain ⟨q1_, q2_⟩ := q_; have q2_ := q2_.symm; subst q1_; subst q2_
  refine g_iload_n (i := 2) dX1_waysSo_10 rfl rfl ?_
  refine g_isub dX1_waysSo_11 ?_
  rw [n_sub q3]
  refine g_istore_n (i := 3) dX1_waysSo_12 rfl (Nat.le_of_ble_eq_true rfl) rfl ?_
  refine g_aload_n (i := 0) dX1_waysSo_13 rfl rfl ?_
  refine g_iload_n (i := 1) dX1_waysSo_14 rfl rfl ?_
  refine g_callV (M' := mX1_countOfSeat) dX1_waysSo_15 lc_X1_countOfSeat ml_X1_34 (c_countOfSeat hG hg s) rfl rfl (by repeat' (first | assumption | exact rF_eq | refine rF_ne (by decide) ?_ | refine rF_a ?_ | exact rA_eq | refine rA_ne (by decide) ?_ | refine rA_f ?_)) rfl ⟨Nat.le_of_ble_eq_true rfl, Nat.le_of_ble_eq_true rfl, Nat.le_of_ble_eq_true rfl, Nat.le_of_ble_eq_true rfl⟩ (Nat.le_of_ble_eq_true rfl) ?_
  intro r_ h_ q_; obtain ⟨q1_, q2_⟩ := q_; have q2_ := q2_.symm; subst q1_; subst q2_
  refine g_istore dX1_waysSo_18 (Nat.le_of_ble_eq_true rfl) rfl ?_
  refine g_aload_n (i := 0) dX1_waysSo_20 rfl rfl ?_
  refine g_iload_n (i := 1) dX1_waysSo_21 rfl rfl ?_
  refine g_callV (M' := mX1_passedOfSeat) dX1_waysSo_22 lc_X1_passedOfSeat ml_X1_37 (c_passedOfSeat hG hg s) rfl rfl (by repeat' (first | assumption | exact rF_eq | refine rF_ne (by decide) ?_ | refine rF_a ?_ | exact rA_eq | refine rA_ne (by decide) ?_ | refine rA_f ?_)) rfl ⟨Nat.le_of_ble_eq_true rfl, Nat.le_of_ble_eq_true rfl, Nat.le_of_ble_eq_true rfl, Nat.le_of_ble_eq_true rfl⟩ (Nat.le_of_ble_eq_true rfl) ?_
  intro r_ h_ q_; obtain ⟨q1_, q2_⟩ := q_; have q2_ := q2_.symm; subst q1_; subst q2_
  refine g_istore dX1_waysSo_25 (Nat.le_of_ble_eq_true rfl) rfl ?_
  refine g_lconst (v := 0) dX1_waysSo_27 (by decide) ?_
  refine g_lstore dX1_waysSo_28 (Nat.le_of_ble_eq_true rfl) rfl ?_
  refine g_iconst (v := 0) dX1_waysSo_30 (by decide) ?_
  refine g_istore dX1_waysSo_31 (Nat.le_of_ble_eq_true rfl) rfl ?_
  exact key (cP G s + 1) 0 0 (by omega) hz
theorem x_chance {G : GL2} (hG : WfG G) {h : HH} (go : GOX G h) (s w : Int32) : CT mX7_chance 3 0 0 [.ref 0, .int s, .int w] h (fun r h' => r = some (.long (opChance G s w)) ∧ h' = h) := by
  obtain ⟨fa, ⟨h0, h13⟩, hL, hfa⟩ := go
  have l1 := hL.1
  have hG1 := hG.1
  have hG2 := hG.2
  have q2 := cS_N G s
  have n1 := @nT (cS G s) (by omega)
  have n2 := @nT (G.1 - G.2.1) (by omega)
  refine CT.go [.ref 0, .int s, .int w] (by decide +kernel) rfl rfl (fun Q' hQ => ?_)
  refine g_iload_n (i := 1) dX7_chance_0 rfl rfl ?_
  refine g_bipush (v := 8) dX7_chance_1 (by decide) ?_
  refine g_callS (M' := mX7_isWithin) dX7_chance_3 lc_X7_isWithin ml_X7_90 (c_isWithin h s 8 8 rfl) rfl rfl ⟨Nat.le_of_ble_eq_true rfl, Nat.le_of_ble_eq_true rfl, Nat.le_of_ble_eq_true rfl, Nat.le_of_ble_eq_true rfl⟩ (Nat.le_of_ble_eq_true rfl) ?_
  intro r_ h_ q_; obtain ⟨q1_, q2_⟩ := q_; have q2_ := q2_.symm; subst q1_; subst q2_
  refine g_if_eq (tgt := 17) dX7_chance_6 (by decide) (fun hc6 => ?_) (fun hc6 => ?_)
  · replace hc6 := bI_0.mp hc6
    (try simp (disch := omega) only [nT, t_m1000100, t_m1000010, t_m1000003, t_m1000002, t_m1000001, t_m1000000, t_m65535, t_m1000, t_m3, t_m1, t_0, t_1, t_2, t_3, t_4, t_5, t_6, t_7, t_8, t_9, t_10, t_11, t_12, t_13, t_15, t_16, t_20, t_21, t_22, t_32, t_40, t_41, t_48, t_49, t_57, t_59, t_60, t_63, t_72, t_76, t_88, t_100, t_144, t_200, t_255, t_288, t_400, t_800, t_999, t_1000, t_1024, t_1200, t_1600, t_3200, t_100000, t_200000, t_252645135, t_858993459, t_1431655765, u_m1000002, u_m1000001, u_m1000, u_m3, u_m1, u_0, u_1, u_2, u_3, u_4, u_5, u_7, u_8, u_10, u_11, u_15, u_60, u_100, u_255, u_999, u_1000, u_100000, u_4294967295] at hc6)
    have e : opChance G s w = _ := if_pos (by omega)
    rw [e] at hQ
    refine g_ldc2 dX7_chance_17 kc_X7_319 ?_
    refine g_lret dX7_chance_20 rfl (hQ _ _ ?_)
    exact ⟨rfl, rfl⟩
  · replace hc6 := bI_n0.mp hc6
    (try simp (disch := omega) only [nT, t_m1000100, t_m1000010, t_m1000003, t_m1000002, t_m1000001, t_m1000000, t_m65535, t_m1000, t_m3, t_m1, t_0, t_1, t_2, t_3, t_4, t_5, t_6, t_7, t_8, t_9, t_10, t_11, t_12, t_13, t_15, t_16, t_20, t_21, t_22, t_32, t_40, t_41, t_48, t_49, t_57, t_59, t_60, t_63, t_72, t_76, t_88, t_100, t_144, t_200, t_255, t_288, t_400, t_800, t_999, t_1000, t_1024, t_1200, t_1600, t_3200, t_100000, t_200000, t_252645135, t_858993459, t_1431655765, u_m1000002, u_m1000001, u_m1000, u_m3, u_m1, u_0, u_1, u_2, u_3, u_4, u_5, u_7, u_8, u_10, u_11, u_15, u_60, u_100, u_255, u_999, u_1000, u_100000, u_4294967295] at hc6)
    refine g_iload_n (i := 2) dX7_chance_9 rfl rfl ?_
    refine g_iconst (v := 2) dX7_chance_10 (by decide) ?_
    refine g_callS (M' := mX7_isWithin) dX7_chance_11 lc_X7_isWithin ml_X7_90 (c_isWithin h w 2 2 rfl) rfl rfl ⟨Nat.le_of_ble_eq_true rfl, Nat.le_of_ble_eq_true rfl, Nat.le_of_ble_eq_true rfl, Nat.le_of_ble_eq_true rfl⟩ (Nat.le_of_ble_eq_true rfl) ?_
    intro r_ h_ q_; obtain ⟨q1_, q2_⟩ := q_; have q2_ := q2_.symm; subst q1_; subst q2_
    refine g_if_ne (tgt := 21) dX7_chance_14 (by decide) (fun hc14 => ?_) (fun hc14 => ?_)
    · replace hc14 := bI_n0.mp hc14
      (try simp (disch := omega) only [nT, t_m1000100, t_m1000010, t_m1000003, t_m1000002, t_m1000001, t_m1000000, t_m65535, t_m1000, t_m3, t_m1, t_0, t_1, t_2, t_3, t_4, t_5, t_6, t_7, t_8, t_9, t_10, t_11, t_12, t_13, t_15, t_16, t_20, t_21, t_22, t_32, t_40, t_41, t_48, t_49, t_57, t_59, t_60, t_63, t_72, t_76, t_88, t_100, t_144, t_200, t_255, t_288, t_400, t_800, t_999, t_1000, t_1024, t_1200, t_1600, t_3200, t_100000, t_200000, t_252645135, t_858993459, t_1431655765, u_m1000002, u_m1000001, u_m1000, u_m3, u_m1, u_0, u_1, u_2, u_3, u_4, u_5, u_7, u_8, u_10, u_11, u_15, u_60, u_100, u_255, u_999, u_1000, u_100000, u_4294967295] at hc14)
      refine g_aload_n (i := 0) dX7_chance_21 rfl rfl ?_
      refine g_get dX7_chance_22 fl_X7_76 (by repeat' (first | assumption | exact rF_eq | refine rF_ne (by decide) ?_ | refine rF_a ?_ | exact rA_eq | refine rA_ne (by decide) ?_ | refine rA_f ?_)) (by repeat' (first | assumption | exact rF_eq | refine rF_ne (by decide) ?_ | refine rF_a ?_ | exact rA_eq | refine rA_ne (by decide) ?_ | refine rA_f ?_)) ?_
      refine g_iload_n (i := 1) dX7_chance_25 rfl rfl ?_
      refine g_callV (M' := mX1_countOfSeat) dX7_chance_26 lc_X1_countOfSeat ml_X7_321 (c_countOfSeat hG ⟨hL, hfa⟩ s) rfl rfl (by repeat' (first | assumption | exact rF_eq | refine rF_ne (by decide) ?_ | refine rF_a ?_ | exact rA_eq | refine rA_ne (by decide) ?_ | refine rA_f ?_)) rfl ⟨Nat.le_of_ble_eq_true rfl, Nat.le_of_ble_eq_true rfl, Nat.le_of_ble_eq_true rfl, Nat.le_of_ble_eq_true rfl⟩ (Nat.le_of_ble_eq_true rfl) ?_
      intro r_ h_ q_; obtain ⟨q1_, q2_⟩ := q_; have q2_ := q2_.symm; subst q1_; subst q2_
      refine g_if_eq (tgt := 44) dX7_chance_29 (by decide) (fun hc29 => ?_) (fun hc29 => ?_)
      · have hd29 := i_eq.mp hc29; (try simp (disch := omega) only [nT, t_m1000100, t_m1000010, t_m1000003, t_m1000002, t_m1000001, t_m1000000, t_m65535, t_m1000, t_m3, t_m1, t_0, t_1, t_2, t_3, t_4, t_5, t_6, t_7, t_8, t_9, t_10, t_11, t_12, t_13, t_15, t_16, t_20, t_21, t_22, t_32, t_40, t_41, t_48, t_49, t_57, t_59, t_60, t_63, t_72, t_76, t_88, t_100, t_144, t_200, t_255, t_288, t_400, t_800, t_999, t_1000, t_1024, t_1200, t_1600, t_3200, t_100000, t_200000, t_252645135, t_858993459, t_1431655765, u_m1000002, u_m1000001, u_m1000, u_m3, u_m1, u_0, u_1, u_2, u_3, u_4, u_5, u_7, u_8, u_10, u_11, u_15, u_60, u_100, u_255, u_999, u_1000, u_100000, u_4294967295] at hd29)
        have e : opChance G s w = _ := (if_neg (by omega)).trans (if_pos (by omega))
        rw [e] at hQ
        refine g_ldc2 dX7_chance_44 kc_X7_324 ?_
        refine g_lret dX7_chance_47 rfl (hQ _ _ ?_)
        exact ⟨rfl, rfl⟩
      · have hd29 := mt i_eq.mpr hc29; (try simp (disch := omega) only [nT, t_m1000100, t_m1000010, t_m1000003, t_m1000002, t_m1000001, t_m1000000, t_m65535, t_m1000, t_m3, t_m1, t_0, t_1, t_2, t_3, t_4, t_5, t_6, t_7, t_8, t_9, t_10, t_11, t_12, t_13, t_15, t_16, t_20, t_21, t_22, t_32, t_40, t_41, t_48, t_49, t_57, t_59, t_60, t_63, t_72, t_76, t_88, t_100, t_144, t_200, t_255, t_288, t_400, t_800, t_999, t_1000, t_1024, t_1200, t_1600, t_3200, t_100000, t_200000, t_252645135, t_858993459, t_1431655765, u_m1000002, u_m1000001, u_m1000, u_m3, u_m1, u_0, u_1, u_2, u_3, u_4, u_5, u_7, u_8, u_10, u_11, u_15, u_60, u_100, u_255, u_999, u_1000, u_100000, u_4294967295] at hd29)
        refine g_aload_n (i := 0) dX7_chance_32 rfl rfl ?_
        refine g_get dX7_chance_33 fl_X7_76 (by repeat' (first | assumption | exact rF_eq | refine rF_ne (by decide) ?_ | refine rF_a ?_ | exact rA_eq | refine rA_ne (by decide) ?_ | refine rA_f ?_)) (by repeat' (first | assumption | exact rF_eq | refine rF_ne (by decide) ?_ | refine rF_a ?_ | exact rA_eq | refine rA_ne (by decide) ?_ | refine rA_f ?_)) ?_
        refine g_callV (M' := mX1_lotSize) dX7_chance_36 lc_X1_lotSize ml_X7_307 (c_lotSize hG ⟨hL, hfa⟩) rfl rfl (by repeat' (first | assumption | exact rF_eq | refine rF_ne (by decide) ?_ | refine rF_a ?_ | exact rA_eq | refine rA_ne (by decide) ?_ | refine rA_f ?_)) rfl ⟨Nat.le_of_ble_eq_true rfl, Nat.le_of_ble_eq_true rfl, Nat.le_of_ble_eq_true rfl, Nat.le_of_ble_eq_true rfl⟩ (Nat.le_of_ble_eq_true rfl) ?_
        intro r_ h_ q_; obtain ⟨q1_, q2_⟩ := q_; have q2_ := q2_.symm; subst q1_; subst q2_
        refine g_bipush (v := 40) dX7_chance_39 (by decide) ?_
        refine g_icmp_le (tgt := 48) dX7_chance_41 (by decide) (fun hc41 => ?_) (fun hc41 => ?_)
        · (try simp (disch := omega) only [nT, t_m1000100, t_m1000010, t_m1000003, t_m1000002, t_m1000001, t_m1000000, t_m65535, t_m1000, t_m3, t_m1, t_0, t_1, t_2, t_3, t_4, t_5, t_6, t_7, t_8, t_9, t_10, t_11, t_12, t_13, t_15, t_16, t_20, t_21, t_22, t_32, t_40, t_41, t_48, t_49, t_57, t_59, t_60, t_63, t_72, t_76, t_88, t_100, t_144, t_200, t_255, t_288, t_400, t_800, t_999, t_1000, t_1024, t_1200, t_1600, t_3200, t_100000, t_200000, t_252645135, t_858993459, t_1431655765, u_m1000002, u_m1000001, u_m1000, u_m3, u_m1, u_0, u_1, u_2, u_3, u_4, u_5, u_7, u_8, u_10, u_11, u_15, u_60, u_100, u_255, u_999, u_1000, u_100000, u_4294967295] at hc41)
          have e : opChance G s w = _ := (if_neg (by omega)).trans (if_neg (by omega))
          refine g_iload_n (i := 2) dX7_chance_48 rfl rfl ?_
          refine g_if_ne (tgt := 63) dX7_chance_49 (by decide) (fun hc49 => ?_) (fun hc49 => ?_)
          · have hd49 := mt i_eq.mpr hc49; (try simp (disch := omega) only [nT, t_m1000100, t_m1000010, t_m1000003, t_m1000002, t_m1000001, t_m1000000, t_m65535, t_m1000, t_m3, t_m1, t_0, t_1, t_2, t_3, t_4, t_5, t_6, t_7, t_8, t_9, t_10, t_11, t_12, t_13, t_15, t_16, t_20, t_21, t_22, t_32, t_40, t_41, t_48, t_49, t_57, t_59, t_60, t_63, t_72, t_76, t_88, t_100, t_144, t_200, t_255, t_288, t_400, t_800, t_999, t_1000, t_1024, t_1200, t_1600, t_3200, t_100000, t_200000, t_252645135, t_858993459, t_1431655765, u_m1000002, u_m1000001, u_m1000, u_m3, u_m1, u_0, u_1, u_2, u_3, u_4, u_5, u_7, u_8, u_10, u_11, u_15, u_60, u_100, u_255, u_999, u_1000, u_100000, u_4294967295] at hd49)
            refine g_aload_n (i := 0) dX7_chance_63 rfl rfl ?_
            refine g_get dX7_chance_64 fl_X7_76 (by repeat' (first | assumption | exact rF_eq | refine rF_ne (by decide) ?_ | refine rF_a ?_ | exact rA_eq | refine rA_ne (by decide) ?_ | refine rA_f ?_)) (by repeat' (first | assumption | exact rF_eq | refine rF_ne (by decide) ?_ | refine rF_a ?_ | exact rA_eq | refine rA_ne (by decide) ?_ | refine rA_f ?_)) ?_
            rw [if_neg (by omega)] at e
            rw [e] at hQ
            refine g_callV (M' := mX1_lotSize) dX7_chance_67 lc_X1_lotSize ml_X7_307 (c_lotSize hG ⟨hL, hfa⟩) rfl rfl (by repeat' (first | assumption | exact rF_eq | refine rF_ne (by decide) ?_ | refine rF_a ?_ | exact rA_eq | refine rA_ne (by decide) ?_ | refine rA_f ?_)) rfl ⟨Nat.le_of_ble_eq_true rfl, Nat.le_of_ble_eq_true rfl, Nat.le_of_ble_eq_true rfl, Nat.le_of_ble_eq_true rfl⟩ (Nat.le_of_ble_eq_true rfl) ?_
            intro r_ h_ q_; obtain ⟨q1_, q2_⟩ := q_; have q2_ := q2_.symm; subst q1_; subst q2_
            refine g_aload_n (i := 0) dX7_chance_70 rfl rfl ?_
            refine g_get dX7_chance_71 fl_X7_76 (by repeat' (first | assumption | exact rF_eq | refine rF_ne (by decide) ?_ | refine rF_a ?_ | exact rA_eq | refine rA_ne (by decide) ?_ | refine rA_f ?_)) (by repeat' (first | assumption | exact rF_eq | refine rF_ne (by decide) ?_ | refine rF_a ?_ | exact rA_eq | refine rA_ne (by decide) ?_ | refine rA_f ?_)) ?_
            refine g_iload_n (i := 1) dX7_chance_74 rfl rfl ?_
            refine g_callV (M' := mX1_countOfSeat) dX7_chance_75 lc_X1_countOfSeat ml_X7_321 (c_countOfSeat hG ⟨hL, hfa⟩ s) rfl rfl (by repeat' (first | assumption | exact rF_eq | refine rF_ne (by decide) ?_ | refine rF_a ?_ | exact rA_eq | refine rA_ne (by decide) ?_ | refine rA_f ?_)) rfl ⟨Nat.le_of_ble_eq_true rfl, Nat.le_of_ble_eq_true rfl, Nat.le_of_ble_eq_true rfl, Nat.le_of_ble_eq_true rfl⟩ (Nat.le_of_ble_eq_true rfl) ?_
            intro r_ h_ q_; obtain ⟨q1_, q2_⟩ := q_; have q2_ := q2_.symm; subst q1_; subst q2_
            refine g_callS (M' := mX7_choose) dX7_chance_78 lc_X7_choose ml_X7_330 (c_choose h (n := G.1 - G.2.1) (k := cS G s) (by omega) (by omega)) rfl rfl ⟨Nat.le_of_ble_eq_true rfl, Nat.le_of_ble_eq_true rfl, Nat.le_of_ble_eq_true rfl, Nat.le_of_ble_eq_true rfl⟩ (Nat.le_of_ble_eq_true rfl) ?_
            intro r_ h_ q_; obtain ⟨q1_, q2_⟩ := q_; have q2_ := q2_.symm; subst q1_; subst q2_
            refine g_lret dX7_chance_81 rfl (hQ _ _ ?_)
            exact ⟨rfl, rfl⟩
          · have hd49 := i_eq.mp hc49; (try simp (disch := omega) only [nT, t_m1000100, t_m1000010, t_m1000003, t_m1000002, t_m1000001, t_m1000000, t_m65535, t_m1000, t_m3, t_m1, t_0, t_1, t_2, t_3, t_4, t_5, t_6, t_7, t_8, t_9, t_10, t_11, t_12, t_13, t_15, t_16, t_20, t_21, t_22, t_32, t_40, t_41, t_48, t_49, t_57, t_59, t_60, t_63, t_72, t_76, t_88, t_100, t_144, t_200, t_255, t_288, t_400, t_800, t_999, t_1000, t_1024, t_1200, t_1600, t_3200, t_100000, t_200000, t_252645135, t_858993459, t_1431655765, u_m1000002, u_m1000001, u_m1000, u_m3, u_m1, u_0, u_1, u_2, u_3, u_4, u_5, u_7, u_8, u_10, u_11, u_15, u_60, u_100, u_255, u_999, u_1000, u_100000, u_4294967295] at hd49)
            refine g_aload_n (i := 0) dX7_chance_52 rfl rfl ?_
            refine g_get dX7_chance_53 fl_X7_76 (by repeat' (first | assumption | exact rF_eq | refine rF_ne (by decide) ?_ | refine rF_a ?_ | exact rA_eq | refine rA_ne (by decide) ?_ | refine rA_f ?_)) (by repeat' (first | assumption | exact rF_eq | refine rF_ne (by decide) ?_ | refine rF_a ?_ | exact rA_eq | refine rA_ne (by decide) ?_ | refine rA_f ?_)) ?_
            refine g_iload_n (i := 1) dX7_chance_56 rfl rfl ?_
            rw [if_pos (by omega)] at e
            rw [e] at hQ
            refine g_callV (M' := mX1_waysSo) dX7_chance_57 lc_X1_waysSo ml_X7_326 (c_waysSo hG ⟨hL, hfa⟩ s (by omega)) rfl rfl (by repeat' (first | assumption | exact rF_eq | refine rF_ne (by decide) ?_ | refine rF_a ?_ | exact rA_eq | refine rA_ne (by decide) ?_ | refine rA_f ?_)) rfl ⟨Nat.le_of_ble_eq_true rfl, Nat.le_of_ble_eq_true rfl, Nat.le_of_ble_eq_true rfl, Nat.le_of_ble_eq_true rfl⟩ (Nat.le_of_ble_eq_true rfl) ?_
            intro r_ h_ q_; obtain ⟨q1_, q2_⟩ := q_; have q2_ := q2_.symm; subst q1_; subst q2_
            refine g_goto (tgt := 81) dX7_chance_60 (by decide) ?_
            refine g_lret dX7_chance_81 rfl (hQ _ _ ?_)
            exact ⟨rfl, rfl⟩
        · (try simp (disch := omega) only [nT, t_m1000100, t_m1000010, t_m1000003, t_m1000002, t_m1000001, t_m1000000, t_m65535, t_m1000, t_m3, t_m1, t_0, t_1, t_2, t_3, t_4, t_5, t_6, t_7, t_8, t_9, t_10, t_11, t_12, t_13, t_15, t_16, t_20, t_21, t_22, t_32, t_40, t_41, t_48, t_49, t_57, t_59, t_60, t_63, t_72, t_76, t_88, t_100, t_144, t_200, t_255, t_288, t_400, t_800, t_999, t_1000, t_1024, t_1200, t_1600, t_3200, t_100000, t_200000, t_252645135, t_858993459, t_1431655765, u_m1000002, u_m1000001, u_m1000, u_m3, u_m1, u_0, u_1, u_2, u_3, u_4, u_5, u_7, u_8, u_10, u_11, u_15, u_60, u_100, u_255, u_999, u_1000, u_100000, u_4294967295] at hc41)
          have e : opChance G s w = _ := (if_neg (by omega)).trans (if_pos (by omega))
          rw [e] at hQ
          refine g_ldc2 dX7_chance_44 kc_X7_324 ?_
          refine g_lret dX7_chance_47 rfl (hQ _ _ ?_)
          exact ⟨rfl, rfl⟩
    · replace hc14 := bI_0.mp hc14
      (try simp (disch := omega) only [nT, t_m1000100, t_m1000010, t_m1000003, t_m1000002, t_m1000001, t_m1000000, t_m65535, t_m1000, t_m3, t_m1, t_0, t_1, t_2, t_3, t_4, t_5, t_6, t_7, t_8, t_9, t_10, t_11, t_12, t_13, t_15, t_16, t_20, t_21, t_22, t_32, t_40, t_41, t_48, t_49, t_57, t_59, t_60, t_63, t_72, t_76, t_88, t_100, t_144, t_200, t_255, t_288, t_400, t_800, t_999, t_1000, t_1024, t_1200, t_1600, t_3200, t_100000, t_200000, t_252645135, t_858993459, t_1431655765, u_m1000002, u_m1000001, u_m1000, u_m3, u_m1, u_0, u_1, u_2, u_3, u_4, u_5, u_7, u_8, u_10, u_11, u_15, u_60, u_100, u_255, u_999, u_1000, u_100000, u_4294967295] at hc14)
      have e : opChance G s w = _ := if_pos (by omega)
      rw [e] at hQ
      refine g_ldc2 dX7_chance_17 kc_X7_319 ?_
      refine g_lret dX7_chance_20 rfl (hQ _ _ ?_)
      exact ⟨rfl, rfl⟩
theorem m_chance {G : GL2} (hG : WfG G) {h : HH} (go : GOM G h) (s w : Int32) : CT mX8_chance 2 0 0 [.ref 44, .int s, .int w] h (fun r h' => r = some (.long (opChance G s w)) ∧ h' = sF h 44 0 (.int 0)) := by
  obtain ⟨e1, o2, o3, ⟨o4, o5, o6, o7, o8, o9⟩, o10, o11, o12, o13, o14, o15⟩ := id go
  have hG1 := hG.1
  have hG2 := hG.2
  have q1 := cP_cS G s
  have q2 := cS_N G s
  have q3 := cB_N G 0
  have q4 := cP_cB G s
  have n1 := @nT (cS G s) (by omega)
  have n2 := @nT (G.1 - G.2.1) (by omega)
  have gf : GOM G (sF h 44 0 (.int 0)) := go
  generalize hoS : cS G s = oS
  generalize hoP : cP G s = oP
  refine CT.go [.ref 44, .int s, .int w, hU, hU, hU, hU, hU, hU, hU] (by decide +kernel) rfl rfl (fun Q' hQ => ?_)
  rw [hoS] at q1 q2 n1
  rw [hoP] at q1 q4
  refine g_aload_n (i := 0) dX8_chance_0 rfl rfl ?_
  refine g_iconst (v := 0) dX8_chance_1 (by decide) ?_
  refine g_put dX8_chance_2 pl_X8_107 (by repeat' (first | assumption | exact rF_eq | refine rF_ne (by decide) ?_ | refine rF_a ?_ | exact rA_eq | refine rA_ne (by decide) ?_ | refine rA_f ?_)) (fun _ => ⟨rfl, rfl⟩) ?_
  refine g_iload_n (i := 1) dX8_chance_5 rfl rfl ?_
  refine g_callS (M' := mX8_isSeat) dX8_chance_6 lc_X8_isSeat ml_X8_224 (c_isSeat _ s) rfl rfl ⟨Nat.le_of_ble_eq_true rfl, Nat.le_of_ble_eq_true rfl, Nat.le_of_ble_eq_true rfl, Nat.le_of_ble_eq_true rfl⟩ (Nat.le_of_ble_eq_true rfl) ?_
  intro r_ h_ q_; obtain ⟨q1_, q2_⟩ := q_; have q2_ := q2_.symm; subst q1_; subst q2_
  refine g_if_eq (tgt := 22) dX8_chance_9 (by decide) (fun hc9 => ?_) (fun hc9 => ?_)
  · replace hc9 := bI_0.mp hc9
    (try simp (disch := omega) only [nT, t_m1000100, t_m1000010, t_m1000003, t_m1000002, t_m1000001, t_m1000000, t_m65535, t_m1000, t_m3, t_m1, t_0, t_1, t_2, t_3, t_4, t_5, t_6, t_7, t_8, t_9, t_10, t_11, t_12, t_13, t_15, t_16, t_20, t_21, t_22, t_32, t_40, t_41, t_48, t_49, t_57, t_59, t_60, t_63, t_72, t_76, t_88, t_100, t_144, t_200, t_255, t_288, t_400, t_800, t_999, t_1000, t_1024, t_1200, t_1600, t_3200, t_100000, t_200000, t_252645135, t_858993459, t_1431655765, u_m1000002, u_m1000001, u_m1000, u_m3, u_m1, u_0, u_1, u_2, u_3, u_4, u_5, u_7, u_8, u_10, u_11, u_15, u_60, u_100, u_255, u_999, u_1000, u_100000, u_4294967295] at hc9)
    have e : opChance G s w = _ := if_pos (by omega)
    rw [e] at hQ
    refine g_ldc2 dX8_chance_22 kc_X8_292 ?_
    refine g_lret dX8_chance_25 rfl (hQ _ _ ?_)
    exact ⟨rfl, rfl⟩
  · replace hc9 := bI_n0.mp hc9
    (try simp (disch := omega) only [nT, t_m1000100, t_m1000010, t_m1000003, t_m1000002, t_m1000001, t_m1000000, t_m65535, t_m1000, t_m3, t_m1, t_0, t_1, t_2, t_3, t_4, t_5, t_6, t_7, t_8, t_9, t_10, t_11, t_12, t_13, t_15, t_16, t_20, t_21, t_22, t_32, t_40, t_41, t_48, t_49, t_57, t_59, t_60, t_63, t_72, t_76, t_88, t_100, t_144, t_200, t_255, t_288, t_400, t_800, t_999, t_1000, t_1024, t_1200, t_1600, t_3200, t_100000, t_200000, t_252645135, t_858993459, t_1431655765, u_m1000002, u_m1000001, u_m1000, u_m3, u_m1, u_0, u_1, u_2, u_3, u_4, u_5, u_7, u_8, u_10, u_11, u_15, u_60, u_100, u_255, u_999, u_1000, u_100000, u_4294967295] at hc9)
    refine g_iload_n (i := 2) dX8_chance_12 rfl rfl ?_
    refine g_i2l dX8_chance_13 ?_
    refine g_lconst (v := 0) dX8_chance_14 (by decide) ?_
    refine g_lconst (v := 1) dX8_chance_15 (by decide) ?_
    refine g_callS (M' := mX8_in) dX8_chance_16 lc_X8_in ml_X8_116 (c_in _ w.toInt64 0 1 0 1 rfl rfl) rfl rfl ⟨Nat.le_of_ble_eq_true rfl, Nat.le_of_ble_eq_true rfl, Nat.le_of_ble_eq_true rfl, Nat.le_of_ble_eq_true rfl⟩ (Nat.le_of_ble_eq_true rfl) ?_
    intro r_ h_ q_; obtain ⟨q1_, q2_⟩ := q_; have q2_ := q2_.symm; subst q1_; subst q2_
    rw [l_i]
    refine g_if_ne (tgt := 26) dX8_chance_19 (by decide) (fun hc19 => ?_) (fun hc19 => ?_)
    · replace hc19 := bI_n0.mp hc19
      (try simp (disch := omega) only [nT, t_m1000100, t_m1000010, t_m1000003, t_m1000002, t_m1000001, t_m1000000, t_m65535, t_m1000, t_m3, t_m1, t_0, t_1, t_2, t_3, t_4, t_5, t_6, t_7, t_8, t_9, t_10, t_11, t_12, t_13, t_15, t_16, t_20, t_21, t_22, t_32, t_40, t_41, t_48, t_49, t_57, t_59, t_60, t_63, t_72, t_76, t_88, t_100, t_144, t_200, t_255, t_288, t_400, t_800, t_999, t_1000, t_1024, t_1200, t_1600, t_3200, t_100000, t_200000, t_252645135, t_858993459, t_1431655765, u_m1000002, u_m1000001, u_m1000, u_m3, u_m1, u_0, u_1, u_2, u_3, u_4, u_5, u_7, u_8, u_10, u_11, u_15, u_60, u_100, u_255, u_999, u_1000, u_100000, u_4294967295] at hc19)
      refine g_aload_n (i := 0) dX8_chance_26 rfl rfl ?_
      refine g_get dX8_chance_27 fl_X8_240 (by repeat' (first | assumption | exact rF_eq | refine rF_ne (by decide) ?_ | refine rF_a ?_ | exact rA_eq | refine rA_ne (by decide) ?_ | refine rA_f ?_)) (by repeat' (first | assumption | exact rF_eq | refine rF_ne (by decide) ?_ | refine rF_a ?_ | exact rA_eq | refine rA_ne (by decide) ?_ | refine rA_f ?_)) ?_
      refine g_aload_n (i := 0) dX8_chance_30 rfl rfl ?_
      refine g_get dX8_chance_31 fl_X8_284 (by repeat' (first | assumption | exact rF_eq | refine rF_ne (by decide) ?_ | refine rF_a ?_ | exact rA_eq | refine rA_ne (by decide) ?_ | refine rA_f ?_)) (by repeat' (first | assumption | exact rF_eq | refine rF_ne (by decide) ?_ | refine rF_a ?_ | exact rA_eq | refine rA_ne (by decide) ?_ | refine rA_f ?_)) ?_
      refine g_isub dX8_chance_34 ?_
      rw [n_sub hG2]
      refine g_istore_n (i := 3) dX8_chance_35 rfl (Nat.le_of_ble_eq_true rfl) rfl ?_
      refine g_iconst (v := 0) dX8_chance_36 (by decide) ?_
      refine g_istore dX8_chance_37 (Nat.le_of_ble_eq_true rfl) rfl ?_
      refine g_iconst (v := 0) dX8_chance_39 (by decide) ?_
      refine g_istore dX8_chance_40 (Nat.le_of_ble_eq_true rfl) rfl ?_
      refine g_aload_n (i := 0) dX8_chance_42 rfl rfl ?_
      refine g_get dX8_chance_43 fl_X8_284 (by repeat' (first | assumption | exact rF_eq | refine rF_ne (by decide) ?_ | refine rF_a ?_ | exact rA_eq | refine rA_ne (by decide) ?_ | refine rA_f ?_)) (by repeat' (first | assumption | exact rF_eq | refine rF_ne (by decide) ?_ | refine rF_a ?_ | exact rA_eq | refine rA_ne (by decide) ?_ | refine rA_f ?_)) ?_
      refine g_istore dX8_chance_46 (Nat.le_of_ble_eq_true rfl) rfl ?_
      have e : opChance G s w = _ := if_neg (by omega)
      have key2 : 0 < oS → G.1 - G.2.1 ≤ 40 → GG (EM mX8_chance 2 0 0 Q') 0 0 130 [.ref 44, .int s, .int w, .int (nI (G.1 - G.2.1)), .int (nI oS), .int (nI oP), .int (nI G.1), hU, hU, hU] [] (sF h 44 0 (.int 0)) := by
        intro h1 h2
        rw [if_neg (by omega)] at e
        have key3 : ∀ m k a, k + m = oP + 1 → wsum (cB G 0) (G.1 - G.2.1 - cB G 0) oS m k a = wsum (cB G 0) (G.1 - G.2.1 - cB G 0) oS (oP + 1) 0 0 → GG (EM mX8_chance 2 0 0 Q') 0 0 143 [.ref 44, .int s, .int w, .int (nI (G.1 - G.2.1)), .int (nI oS), .int (nI oP), .int (nI (cB G 0)), .long a, hU, .int (nI k)] [] (sF h 44 0 (.int 0)) := by
          intro m
          induction m with
          | zero =>
            intro k a hk he
            obtain rfl : a = _ := he
            refine g_iload dX8_chance_143 rfl ?_
            refine g_iload dX8_chance_145 rfl ?_
            refine g_icmp_gt (tgt := 181) dX8_chance_147 (by decide) (fun hc147 => ?_) (fun hc147 => ?_)
            · (try simp (disch := omega) only [nT, t_m1000100, t_m1000010, t_m1000003, t_m1000002, t_m1000001, t_m1000000, t_m65535, t_m1000, t_m3, t_m1, t_0, t_1, t_2, t_3, t_4, t_5, t_6, t_7, t_8, t_9, t_10, t_11, t_12, t_13, t_15, t_16, t_20, t_21, t_22, t_32, t_40, t_41, t_48, t_49, t_57, t_59, t_60, t_63, t_72, t_76, t_88, t_100, t_144, t_200, t_255, t_288, t_400, t_800, t_999, t_1000, t_1024, t_1200, t_1600, t_3200, t_100000, t_200000, t_252645135, t_858993459, t_1431655765, u_m1000002, u_m1000001, u_m1000, u_m3, u_m1, u_0, u_1, u_2, u_3, u_4, u_5, u_7, u_8, u_10, u_11, u_15, u_60, u_100, u_255, u_999, u_1000, u_100000, u_4294967295] at hc147)
              refine g_iload_n (i := 2) dX8_chance_181 rfl rfl ?_
              refine g_if_ne (tgt := 190) dX8_chance_182 (by decide) (fun hc182 => ?_) (fun hc182 => ?_)
              · have hd182 := mt i_eq.mpr hc182; (try simp (disch := omega) only [nT, t_m1000100, t_m1000010, t_m1000003, t_m1000002, t_m1000001, t_m1000000, t_m65535, t_m1000, t_m3, t_m1, t_0, t_1, t_2, t_3, t_4, t_5, t_6, t_7, t_8, t_9, t_10, t_11, t_12, t_13, t_15, t_16, t_20, t_21, t_22, t_32, t_40, t_41, t_48, t_49, t_57, t_59, t_60, t_63, t_72, t_76, t_88, t_100, t_144, t_200, t_255, t_288, t_400, t_800, t_999, t_1000, t_1024, t_1200, t_1600, t_3200, t_100000, t_200000, t_252645135, t_858993459, t_1431655765, u_m1000002, u_m1000001, u_m1000, u_m3, u_m1, u_0, u_1, u_2, u_3, u_4, u_5, u_7, u_8, u_10, u_11, u_15, u_60, u_100, u_255, u_999, u_1000, u_100000, u_4294967295] at hd182)
                rw [if_neg (by omega), hoS] at e
                rw [e] at hQ
                refine g_iload_n (i := 3) dX8_chance_190 rfl rfl ?_
                refine g_iload dX8_chance_191 rfl ?_
                refine g_callS (M' := mX8_ways) dX8_chance_193 lc_X8_ways ml_X8_296 (c_ways (sF h 44 0 (.int 0)) (n := G.1 - G.2.1) (k := oS) (by omega) (by omega)) rfl rfl ⟨Nat.le_of_ble_eq_true rfl, Nat.le_of_ble_eq_true rfl, Nat.le_of_ble_eq_true rfl, Nat.le_of_ble_eq_true rfl⟩ (Nat.le_of_ble_eq_true rfl) ?_
                intro r_ h_ q_; obtain ⟨q1_, q2_⟩ := q_; have q2_ := q2_.symm; subst q1_; subst q2_
                refine g_lret dX8_chance_196 rfl (hQ _ _ ?_)
                exact ⟨rfl, rfl⟩
              · have hd182 := i_eq.mp hc182; (try simp (disch := omega) only [nT, t_m1000100, t_m1000010, t_m1000003, t_m1000002, t_m1000001, t_m1000000, t_m65535, t_m1000, t_m3, t_m1, t_0, t_1, t_2, t_3, t_4, t_5, t_6, t_7, t_8, t_9, t_10, t_11, t_12, t_13, t_15, t_16, t_20, t_21, t_22, t_32, t_40, t_41, t_48, t_49, t_57, t_59, t_60, t_63, t_72, t_76, t_88, t_100, t_144, t_200, t_255, t_288, t_400, t_800, t_999, t_1000, t_1024, t_1200, t_1600, t_3200, t_100000, t_200000, t_252645135, t_858993459, t_1431655765, u_m1000002, u_m1000001, u_m1000, u_m3, u_m1, u_0, u_1, u_2, u_3, u_4, u_5, u_7, u_8, u_10, u_11, u_15, u_60, u_100, u_255, u_999, u_1000, u_100000, u_4294967295] at hd182)
                rw [if_pos (by omega), hoS, hoP] at e
                rw [e] at hQ
                refine g_lload dX8_chance_185 rfl ?_
                refine g_goto (tgt := 196) dX8_chance_187 (by decide) ?_
                refine g_lret dX8_chance_196 rfl (hQ _ _ ?_)
                exact ⟨rfl, rfl⟩
            · (try simp (disch := omega) only [nT, t_m1000100, t_m1000010, t_m1000003, t_m1000002, t_m1000001, t_m1000000, t_m65535, t_m1000, t_m3, t_m1, t_0, t_1, t_2, t_3, t_4, t_5, t_6, t_7, t_8, t_9, t_10, t_11, t_12, t_13, t_15, t_16, t_20, t_21, t_22, t_32, t_40, t_41, t_48, t_49, t_57, t_59, t_60, t_63, t_72, t_76, t_88, t_100, t_144, t_200, t_255, t_288, t_400, t_800, t_999, t_1000, t_1024, t_1200, t_1600, t_3200, t_100000, t_200000, t_252645135, t_858993459, t_1431655765, u_m1000002, u_m1000001, u_m1000, u_m3, u_m1, u_0, u_1, u_2, u_3, u_4, u_5, u_7, u_8, u_10, u_11, u_15, u_60, u_100, u_255, u_999, u_1000, u_100000, u_4294967295] at hc147); omega
          | succ m ih =>
            intro k a hk he
            refine g_iload dX8_chance_143 rfl ?_
            refine g_iload dX8_chance_145 rfl ?_
            refine g_icmp_gt (tgt := 181) dX8_chance_147 (by decide) (fun hc147 => ?_) (fun hc147 => ?_)
            · (try simp (disch := omega) only [nT, t_m1000100, t_m1000010, t_m1000003, t_m1000002, t_m1000001, t_m1000000, t_m65535, t_m1000, t_m3, t_m1, t_0, t_1, t_2, t_3, t_4, t_5, t_6, t_7, t_8, t_9, t_10, t_11, t_12, t_13, t_15, t_16, t_20, t_21, t_22, t_32, t_40, t_41, t_48, t_49, t_57, t_59, t_60, t_63, t_72, t_76, t_88, t_100, t_144, t_200, t_255, t_288, t_400, t_800, t_999, t_1000, t_1024, t_1200, t_1600, t_3200, t_100000, t_200000, t_252645135, t_858993459, t_1431655765, u_m1000002, u_m1000001, u_m1000, u_m3, u_m1, u_0, u_1, u_2, u_3, u_4, u_5, u_7, u_8, u_10, u_11, u_15, u_60, u_100, u_255, u_999, u_1000, u_100000, u_4294967295] at hc147); omega
            · (try simp (disch := omega) only [nT, t_m1000100, t_m1000010, t_m1000003, t_m1000002, t_m1000001, t_m1000000, t_m65535, t_m1000, t_m3, t_m1, t_0, t_1, t_2, t_3, t_4, t_5, t_6, t_7, t_8, t_9, t_10, t_11, t_12, t_13, t_15, t_16, t_20, t_21, t_22, t_32, t_40, t_41, t_48, t_49, t_57, t_59, t_60, t_63, t_72, t_76, t_88, t_100, t_144, t_200, t_255, t_288, t_400, t_800, t_999, t_1000, t_1024, t_1200, t_1600, t_3200, t_100000, t_200000, t_252645135, t_858993459, t_1431655765, u_m1000002, u_m1000001, u_m1000, u_m3, u_m1, u_0, u_1, u_2, u_3, u_4, u_5, u_7, u_8, u_10, u_11, u_15, u_60, u_100, u_255, u_999, u_1000, u_100000, u_4294967295] at hc147)
              refine g_lload dX8_chance_150 rfl ?_
              refine g_iload dX8_chance_152 rfl ?_
              refine g_iload dX8_chance_154 rfl ?_
              refine g_callS (M' := mX8_ways) dX8_chance_156 lc_X8_ways ml_X8_296 (c_ways (sF h 44 0 (.int 0)) (n := cB G 0) (k := k) (by omega) (by omega)) rfl rfl ⟨Nat.le_of_ble_eq_true rfl, Nat.le_of_ble_eq_true rfl, Nat.le_of_ble_eq_true rfl, Nat.le_of_ble_eq_true rfl⟩ (Nat.le_of_ble_eq_true rfl) ?_
              intro r_ h_ q_; obtain ⟨q1_, q2_⟩ := q_; have q2_ := q2_.symm; subst q1_; subst q2_
              refine g_iload_n (i := 3) dX8_chance_159 rfl rfl ?_
              refine g_iload dX8_chance_160 rfl ?_
              refine g_isub dX8_chance_162 ?_
              refine g_iload dX8_chance_163 rfl ?_
              refine g_iload dX8_chance_165 rfl ?_
              refine g_isub dX8_chance_167 ?_
              rw [n_sub q3, n_sub (by omega)]
              refine g_callS (M' := mX8_ways) dX8_chance_168 lc_X8_ways ml_X8_296 (c_ways (sF h 44 0 (.int 0)) (n := G.1 - G.2.1 - cB G 0) (k := oS - k) (by omega) (by omega)) rfl rfl ⟨Nat.le_of_ble_eq_true rfl, Nat.le_of_ble_eq_true rfl, Nat.le_of_ble_eq_true rfl, Nat.le_of_ble_eq_true rfl⟩ (Nat.le_of_ble_eq_true rfl) ?_
              intro r_ h_ q_; obtain ⟨q1_, q2_⟩ := q_; have q2_ := q2_.symm; subst q1_; subst q2_
              refine g_lmul dX8_chance_171 ?_
              refine g_ladd dX8_chance_172 ?_
              refine g_lstore dX8_chance_173 (Nat.le_of_ble_eq_true rfl) rfl ?_
              refine g_iinc dX8_chance_175 rfl (Nat.le_of_ble_eq_true rfl) rfl ?_
              refine g_goto (tgt := 143) dX8_chance_178 (by decide) ?_
              rw [ni_incO]
              exact ih (k + 1) _ (by omega) he
        refine g_aload_n (i := 0) dX8_chance_130 rfl rfl ?_
        refine g_iconst (v := 0) dX8_chance_131 (by decide) ?_
        refine g_callV (M' := mX8_binned) dX8_chance_132 lc_X8_binned ml_X8_287 (c_binned hG gf 0) rfl rfl (by repeat' (first | assumption | exact rF_eq | refine rF_ne (by decide) ?_ | refine rF_a ?_ | exact rA_eq | refine rA_ne (by decide) ?_ | refine rA_f ?_)) rfl ⟨Nat.le_of_ble_eq_true rfl, Nat.le_of_ble_eq_true rfl, Nat.le_of_ble_eq_true rfl, Nat.le_of_ble_eq_true rfl⟩ (Nat.le_of_ble_eq_true rfl) ?_
        intro r_ h_ q_; obtain ⟨q1_, q2_⟩ := q_; have q2_ := q2_.symm; subst q1_; subst q2_
        refine g_istore dX8_chance_135 (Nat.le_of_ble_eq_true rfl) rfl ?_
        refine g_lconst (v := 0) dX8_chance_137 (by decide) ?_
        refine g_lstore dX8_chance_138 (Nat.le_of_ble_eq_true rfl) rfl ?_
        refine g_iconst (v := 0) dX8_chance_140 (by decide) ?_
        refine g_istore dX8_chance_141 (Nat.le_of_ble_eq_true rfl) rfl ?_
        exact key3 (oP + 1) 0 0 (by omega) rfl
      have key : ∀ m k o g, k + m = G.1 → o ≤ k → g ≤ k → o + cnt (pS G.2.2 s) m k = oS → g + cnt (pP G.2.2 s) m k = oP → GG (EM mX8_chance 2 0 0 Q') 0 0 48 [.ref 44, .int s, .int w, .int (nI (G.1 - G.2.1)), .int (nI o), .int (nI g), .int (nI k), hU, hU, hU] [] (sF h 44 0 (.int 0)) := by
        intro m
        induction m with
        | zero =>
          intro k o g hk ho hg hs hp
          obtain rfl : o = oS := hs
          obtain rfl : g = oP := hp
          obtain rfl : k = G.1 := hk
          refine g_iload dX8_chance_48 rfl ?_
          refine g_aload_n (i := 0) dX8_chance_50 rfl rfl ?_
          refine g_get dX8_chance_51 fl_X8_240 (by repeat' (first | assumption | exact rF_eq | refine rF_ne (by decide) ?_ | refine rF_a ?_ | exact rA_eq | refine rA_ne (by decide) ?_ | refine rA_f ?_)) (by repeat' (first | assumption | exact rF_eq | refine rF_ne (by decide) ?_ | refine rF_a ?_ | exact rA_eq | refine rA_ne (by decide) ?_ | refine rA_f ?_)) ?_
          refine g_icmp_ge (tgt := 115) dX8_chance_54 (by decide) (fun hc54 => ?_) (fun hc54 => ?_)
          · (try simp (disch := omega) only [nT, t_m1000100, t_m1000010, t_m1000003, t_m1000002, t_m1000001, t_m1000000, t_m65535, t_m1000, t_m3, t_m1, t_0, t_1, t_2, t_3, t_4, t_5, t_6, t_7, t_8, t_9, t_10, t_11, t_12, t_13, t_15, t_16, t_20, t_21, t_22, t_32, t_40, t_41, t_48, t_49, t_57, t_59, t_60, t_63, t_72, t_76, t_88, t_100, t_144, t_200, t_255, t_288, t_400, t_800, t_999, t_1000, t_1024, t_1200, t_1600, t_3200, t_100000, t_200000, t_252645135, t_858993459, t_1431655765, u_m1000002, u_m1000001, u_m1000, u_m3, u_m1, u_0, u_1, u_2, u_3, u_4, u_5, u_7, u_8, u_10, u_11, u_15, u_60, u_100, u_255, u_999, u_1000, u_100000, u_4294967295] at hc54)
            refine g_iload dX8_chance_115 rfl ?_
            refine g_if_eq (tgt := 126) dX8_chance_117 (by decide) (fun hc117 => ?_) (fun hc117 => ?_)
            · have hd117 := i_eq.mp hc117; (try simp (disch := omega) only [nT, t_m1000100, t_m1000010, t_m1000003, t_m1000002, t_m1000001, t_m1000000, t_m65535, t_m1000, t_m3, t_m1, t_0, t_1, t_2, t_3, t_4, t_5, t_6, t_7, t_8, t_9, t_10, t_11, t_12, t_13, t_15, t_16, t_20, t_21, t_22, t_32, t_40, t_41, t_48, t_49, t_57, t_59, t_60, t_63, t_72, t_76, t_88, t_100, t_144, t_200, t_255, t_288, t_400, t_800, t_999, t_1000, t_1024, t_1200, t_1600, t_3200, t_100000, t_200000, t_252645135, t_858993459, t_1431655765, u_m1000002, u_m1000001, u_m1000, u_m3, u_m1, u_0, u_1, u_2, u_3, u_4, u_5, u_7, u_8, u_10, u_11, u_15, u_60, u_100, u_255, u_999, u_1000, u_100000, u_4294967295] at hd117)
              rw [if_pos (by omega)] at e
              rw [e] at hQ
              refine g_ldc2 dX8_chance_126 kc_X8_294 ?_
              refine g_lret dX8_chance_129 rfl (hQ _ _ ?_)
              exact ⟨rfl, rfl⟩
            · have hd117 := mt i_eq.mpr hc117; (try simp (disch := omega) only [nT, t_m1000100, t_m1000010, t_m1000003, t_m1000002, t_m1000001, t_m1000000, t_m65535, t_m1000, t_m3, t_m1, t_0, t_1, t_2, t_3, t_4, t_5, t_6, t_7, t_8, t_9, t_10, t_11, t_12, t_13, t_15, t_16, t_20, t_21, t_22, t_32, t_40, t_41, t_48, t_49, t_57, t_59, t_60, t_63, t_72, t_76, t_88, t_100, t_144, t_200, t_255, t_288, t_400, t_800, t_999, t_1000, t_1024, t_1200, t_1600, t_3200, t_100000, t_200000, t_252645135, t_858993459, t_1431655765, u_m1000002, u_m1000001, u_m1000, u_m3, u_m1, u_0, u_1, u_2, u_3, u_4, u_5, u_7, u_8, u_10, u_11, u_15, u_60, u_100, u_255, u_999, u_1000, u_100000, u_4294967295] at hd117)
              refine g_iload_n (i := 3) dX8_chance_120 rfl rfl ?_
              refine g_bipush (v := 40) dX8_chance_121 (by decide) ?_
              refine g_icmp_le (tgt := 130) dX8_chance_123 (by decide) (fun hc123 => ?_) (fun hc123 => ?_)
              · (try simp (disch := omega) only [nT, t_m1000100, t_m1000010, t_m1000003, t_m1000002, t_m1000001, t_m1000000, t_m65535, t_m1000, t_m3, t_m1, t_0, t_1, t_2, t_3, t_4, t_5, t_6, t_7, t_8, t_9, t_10, t_11, t_12, t_13, t_15, t_16, t_20, t_21, t_22, t_32, t_40, t_41, t_48, t_49, t_57, t_59, t_60, t_63, t_72, t_76, t_88, t_100, t_144, t_200, t_255, t_288, t_400, t_800, t_999, t_1000, t_1024, t_1200, t_1600, t_3200, t_100000, t_200000, t_252645135, t_858993459, t_1431655765, u_m1000002, u_m1000001, u_m1000, u_m3, u_m1, u_0, u_1, u_2, u_3, u_4, u_5, u_7, u_8, u_10, u_11, u_15, u_60, u_100, u_255, u_999, u_1000, u_100000, u_4294967295] at hc123)
                exact key2 (by omega) (by omega)
              · (try simp (disch := omega) only [nT, t_m1000100, t_m1000010, t_m1000003, t_m1000002, t_m1000001, t_m1000000, t_m65535, t_m1000, t_m3, t_m1, t_0, t_1, t_2, t_3, t_4, t_5, t_6, t_7, t_8, t_9, t_10, t_11, t_12, t_13, t_15, t_16, t_20, t_21, t_22, t_32, t_40, t_41, t_48, t_49, t_57, t_59, t_60, t_63, t_72, t_76, t_88, t_100, t_144, t_200, t_255, t_288, t_400, t_800, t_999, t_1000, t_1024, t_1200, t_1600, t_3200, t_100000, t_200000, t_252645135, t_858993459, t_1431655765, u_m1000002, u_m1000001, u_m1000, u_m3, u_m1, u_0, u_1, u_2, u_3, u_4, u_5, u_7, u_8, u_10, u_11, u_15, u_60, u_100, u_255, u_999, u_1000, u_100000, u_4294967295] at hc123)
                rw [if_pos (by omega)] at e
                rw [e] at hQ
                refine g_ldc2 dX8_chance_126 kc_X8_294 ?_
                refine g_lret dX8_chance_129 rfl (hQ _ _ ?_)
                exact ⟨rfl, rfl⟩
          · (try simp (disch := omega) only [nT, t_m1000100, t_m1000010, t_m1000003, t_m1000002, t_m1000001, t_m1000000, t_m65535, t_m1000, t_m3, t_m1, t_0, t_1, t_2, t_3, t_4, t_5, t_6, t_7, t_8, t_9, t_10, t_11, t_12, t_13, t_15, t_16, t_20, t_21, t_22, t_32, t_40, t_41, t_48, t_49, t_57, t_59, t_60, t_63, t_72, t_76, t_88, t_100, t_144, t_200, t_255, t_288, t_400, t_800, t_999, t_1000, t_1024, t_1200, t_1600, t_3200, t_100000, t_200000, t_252645135, t_858993459, t_1431655765, u_m1000002, u_m1000001, u_m1000, u_m3, u_m1, u_0, u_1, u_2, u_3, u_4, u_5, u_7, u_8, u_10, u_11, u_15, u_60, u_100, u_255, u_999, u_1000, u_100000, u_4294967295] at hc54); omega
        | succ m ih =>
          intro k o g hk ho hg hs hp
          refine g_iload dX8_chance_48 rfl ?_
          refine g_aload_n (i := 0) dX8_chance_50 rfl rfl ?_
          refine g_get dX8_chance_51 fl_X8_240 (by repeat' (first | assumption | exact rF_eq | refine rF_ne (by decide) ?_ | refine rF_a ?_ | exact rA_eq | refine rA_ne (by decide) ?_ | refine rA_f ?_)) (by repeat' (first | assumption | exact rF_eq | refine rF_ne (by decide) ?_ | refine rF_a ?_ | exact rA_eq | refine rA_ne (by decide) ?_ | refine rA_f ?_)) ?_
          refine g_icmp_ge (tgt := 115) dX8_chance_54 (by decide) (fun hc54 => ?_) (fun hc54 => ?_)
          · (try simp (disch := omega) only [nT, t_m1000100, t_m1000010, t_m1000003, t_m1000002, t_m1000001, t_m1000000, t_m65535, t_m1000, t_m3, t_m1, t_0, t_1, t_2, t_3, t_4, t_5, t_6, t_7, t_8, t_9, t_10, t_11, t_12, t_13, t_15, t_16, t_20, t_21, t_22, t_32, t_40, t_41, t_48, t_49, t_57, t_59, t_60, t_63, t_72, t_76, t_88, t_100, t_144, t_200, t_255, t_288, t_400, t_800, t_999, t_1000, t_1024, t_1200, t_1600, t_3200, t_100000, t_200000, t_252645135, t_858993459, t_1431655765, u_m1000002, u_m1000001, u_m1000, u_m3, u_m1, u_0, u_1, u_2, u_3, u_4, u_5, u_7, u_8, u_10, u_11, u_15, u_60, u_100, u_255, u_999, u_1000, u_100000, u_4294967295] at hc54); omega
          · (try simp (disch := omega) only [nT, t_m1000100, t_m1000010, t_m1000003, t_m1000002, t_m1000001, t_m1000000, t_m65535, t_m1000, t_m3, t_m1, t_0, t_1, t_2, t_3, t_4, t_5, t_6, t_7, t_8, t_9, t_10, t_11, t_12, t_13, t_15, t_16, t_20, t_21, t_22, t_32, t_40, t_41, t_48, t_49, t_57, t_59, t_60, t_63, t_72, t_76, t_88, t_100, t_144, t_200, t_255, t_288, t_400, t_800, t_999, t_1000, t_1024, t_1200, t_1600, t_3200, t_100000, t_200000, t_252645135, t_858993459, t_1431655765, u_m1000002, u_m1000001, u_m1000, u_m3, u_m1, u_0, u_1, u_2, u_3, u_4, u_5, u_7, u_8, u_10, u_11, u_15, u_60, u_100, u_255, u_999, u_1000, u_100000, u_4294967295] at hc54)
            refine g_iload dX8_chance_57 rfl ?_
            refine g_aload_n (i := 0) dX8_chance_59 rfl rfl ?_
            refine g_get dX8_chance_60 fl_X8_91 (by repeat' (first | assumption | exact rF_eq | refine rF_ne (by decide) ?_ | refine rF_a ?_ | exact rA_eq | refine rA_ne (by decide) ?_ | refine rA_f ?_)) (by repeat' (first | assumption | exact rF_eq | refine rF_ne (by decide) ?_ | refine rF_a ?_ | exact rA_eq | refine rA_ne (by decide) ?_ | refine rA_f ?_)) ?_
            refine g_iload dX8_chance_63 rfl ?_
            refine g_iald dX8_chance_65 (by repeat' (first | assumption | exact rF_eq | refine rF_ne (by decide) ?_ | refine rF_a ?_ | exact rA_eq | refine rA_ne (by decide) ?_ | refine rA_f ?_)) (nT (by omega)) (by omega) ?_
            refine g_iload_n (i := 1) dX8_chance_66 rfl rfl ?_
            refine g_icmp_ne (tgt := 74) dX8_chance_67 (by decide) (fun hc67 => ?_) (fun hc67 => ?_)
            · have hd67 := mt i_eq.mpr hc67; (try simp (disch := omega) only [nT, t_m1000100, t_m1000010, t_m1000003, t_m1000002, t_m1000001, t_m1000000, t_m65535, t_m1000, t_m3, t_m1, t_0, t_1, t_2, t_3, t_4, t_5, t_6, t_7, t_8, t_9, t_10, t_11, t_12, t_13, t_15, t_16, t_20, t_21, t_22, t_32, t_40, t_41, t_48, t_49, t_57, t_59, t_60, t_63, t_72, t_76, t_88, t_100, t_144, t_200, t_255, t_288, t_400, t_800, t_999, t_1000, t_1024, t_1200, t_1600, t_3200, t_100000, t_200000, t_252645135, t_858993459, t_1431655765, u_m1000002, u_m1000001, u_m1000, u_m3, u_m1, u_0, u_1, u_2, u_3, u_4, u_5, u_7, u_8, u_10, u_11, u_15, u_60, u_100, u_255, u_999, u_1000, u_100000, u_4294967295] at hd67)
              refine g_iconst (v := 0) dX8_chance_74 (by decide) ?_
              refine g_iadd dX8_chance_75 ?_
              refine g_istore dX8_chance_76 (Nat.le_of_ble_eq_true rfl) rfl ?_
              refine g_iload dX8_chance_78 rfl ?_
              refine g_aload_n (i := 0) dX8_chance_80 rfl rfl ?_
              refine g_get dX8_chance_81 fl_X8_91 (by repeat' (first | assumption | exact rF_eq | refine rF_ne (by decide) ?_ | refine rF_a ?_ | exact rA_eq | refine rA_ne (by decide) ?_ | refine rA_f ?_)) (by repeat' (first | assumption | exact rF_eq | refine rF_ne (by decide) ?_ | refine rF_a ?_ | exact rA_eq | refine rA_ne (by decide) ?_ | refine rA_f ?_)) ?_
              refine g_iload dX8_chance_84 rfl ?_
              refine g_iald dX8_chance_86 (by repeat' (first | assumption | exact rF_eq | refine rF_ne (by decide) ?_ | refine rF_a ?_ | exact rA_eq | refine rA_ne (by decide) ?_ | refine rA_f ?_)) (nT (by omega)) (by omega) ?_
              refine g_iload_n (i := 1) dX8_chance_87 rfl rfl ?_
              refine g_icmp_ne (tgt := 105) dX8_chance_88 (by decide) (fun hc88 => ?_) (fun hc88 => ?_)
              · have hd88 := mt i_eq.mpr hc88; (try simp (disch := omega) only [nT, t_m1000100, t_m1000010, t_m1000003, t_m1000002, t_m1000001, t_m1000000, t_m65535, t_m1000, t_m3, t_m1, t_0, t_1, t_2, t_3, t_4, t_5, t_6, t_7, t_8, t_9, t_10, t_11, t_12, t_13, t_15, t_16, t_20, t_21, t_22, t_32, t_40, t_41, t_48, t_49, t_57, t_59, t_60, t_63, t_72, t_76, t_88, t_100, t_144, t_200, t_255, t_288, t_400, t_800, t_999, t_1000, t_1024, t_1200, t_1600, t_3200, t_100000, t_200000, t_252645135, t_858993459, t_1431655765, u_m1000002, u_m1000001, u_m1000, u_m3, u_m1, u_0, u_1, u_2, u_3, u_4, u_5, u_7, u_8, u_10, u_11, u_15, u_60, u_100, u_255, u_999, u_1000, u_100000, u_4294967295] at hd88)
                refine g_iconst (v := 0) dX8_chance_105 (by decide) ?_
                refine g_iadd dX8_chance_106 ?_
                refine g_istore dX8_chance_107 (Nat.le_of_ble_eq_true rfl) rfl ?_
                refine g_iinc dX8_chance_109 rfl (Nat.le_of_ble_eq_true rfl) rfl ?_
                refine g_goto (tgt := 48) dX8_chance_112 (by decide) ?_
                rw [ni_incO]
                first
                | (rw [cnt_f (fun q => absurd (pS_t.mp q) (by assumption))] at hs
                   rw [cnt_f (fun q => absurd (pP_t.mp q).1 (by assumption))] at hp
                   rw [Int32.add_zero, Int32.add_zero]
                   exact ih (k + 1) o g (by omega) (by omega) (by omega) hs hp)
                | (rw [cnt_t (pS_t.mpr (by assumption))] at hs
                   rw [cnt_t (pP_t.mpr ⟨by assumption, by omega⟩)] at hp
                   rw [ni_inc, ni_inc]
                   exact ih (k + 1) (o + 1) (g + 1) (by omega) (by omega) (by omega) (by omega) (by omega))
                | (rw [cnt_t (pS_t.mpr (by assumption))] at hs
                   rw [cnt_f (fun q => by have := (pP_t.mp q).2; omega)] at hp
                   rw [ni_inc, Int32.add_zero]
                   exact ih (k + 1) (o + 1) g (by omega) (by omega) (by omega) (by omega) hp)
                | (exfalso; contradiction)
              · have hd88 := i_eq.mp hc88; (try simp (disch := omega) only [nT, t_m1000100, t_m1000010, t_m1000003, t_m1000002, t_m1000001, t_m1000000, t_m65535, t_m1000, t_m3, t_m1, t_0, t_1, t_2, t_3, t_4, t_5, t_6, t_7, t_8, t_9, t_10, t_11, t_12, t_13, t_15, t_16, t_20, t_21, t_22, t_32, t_40, t_41, t_48, t_49, t_57, t_59, t_60, t_63, t_72, t_76, t_88, t_100, t_144, t_200, t_255, t_288, t_400, t_800, t_999, t_1000, t_1024, t_1200, t_1600, t_3200, t_100000, t_200000, t_252645135, t_858993459, t_1431655765, u_m1000002, u_m1000001, u_m1000, u_m3, u_m1, u_0, u_1, u_2, u_3, u_4, u_5, u_7, u_8, u_10, u_11, u_15, u_60, u_100, u_255, u_999, u_1000, u_100000, u_4294967295] at hd88)
                refine g_aload_n (i := 0) dX8_chance_91 rfl rfl ?_
                refine g_get dX8_chance_92 fl_X8_79 (by repeat' (first | assumption | exact rF_eq | refine rF_ne (by decide) ?_ | refine rF_a ?_ | exact rA_eq | refine rA_ne (by decide) ?_ | refine rA_f ?_)) (by repeat' (first | assumption | exact rF_eq | refine rF_ne (by decide) ?_ | refine rF_a ?_ | exact rA_eq | refine rA_ne (by decide) ?_ | refine rA_f ?_)) ?_
                refine g_iload dX8_chance_95 rfl ?_
                refine g_iald dX8_chance_97 (by repeat' (first | assumption | exact rF_eq | refine rF_ne (by decide) ?_ | refine rF_a ?_ | exact rA_eq | refine rA_ne (by decide) ?_ | refine rA_f ?_)) (nT (by omega)) (by omega) ?_
                refine g_if_ne (tgt := 105) dX8_chance_98 (by decide) (fun hc98 => ?_) (fun hc98 => ?_)
                · have hd98 := mt i_eq.mpr hc98; (try simp (disch := omega) only [nT, t_m1000100, t_m1000010, t_m1000003, t_m1000002, t_m1000001, t_m1000000, t_m65535, t_m1000, t_m3, t_m1, t_0, t_1, t_2, t_3, t_4, t_5, t_6, t_7, t_8, t_9, t_10, t_11, t_12, t_13, t_15, t_16, t_20, t_21, t_22, t_32, t_40, t_41, t_48, t_49, t_57, t_59, t_60, t_63, t_72, t_76, t_88, t_100, t_144, t_200, t_255, t_288, t_400, t_800, t_999, t_1000, t_1024, t_1200, t_1600, t_3200, t_100000, t_200000, t_252645135, t_858993459, t_1431655765, u_m1000002, u_m1000001, u_m1000, u_m3, u_m1, u_0, u_1, u_2, u_3, u_4, u_5, u_7, u_8, u_10, u_11, u_15, u_60, u_100, u_255, u_999, u_1000, u_100000, u_4294967295] at hd98)
                  refine g_iconst (v := 0) dX8_chance_105 (by decide) ?_
                  refine g_iadd dX8_chance_106 ?_
                  refine g_istore dX8_chance_107 (Nat.le_of_ble_eq_true rfl) rfl ?_
                  refine g_iinc dX8_chance_109 rfl (Nat.le_of_ble_eq_true rfl) rfl ?_
                  refine g_goto (tgt := 48) dX8_chance_112 (by decide) ?_
                  rw [ni_incO]
                  first
                  | (rw [cnt_f (fun q => absurd (pS_t.mp q) (by assumption))] at hs
                     rw [cnt_f (fun q => absurd (pP_t.mp q).1 (by assumption))] at hp
                     rw [Int32.add_zero, Int32.add_zero]
                     exact ih (k + 1) o g (by omega) (by omega) (by omega) hs hp)
                  | (rw [cnt_t (pS_t.mpr (by assumption))] at hs
                     rw [cnt_t (pP_t.mpr ⟨by assumption, by omega⟩)] at hp
                     rw [ni_inc, ni_inc]
                     exact ih (k + 1) (o + 1) (g + 1) (by omega) (by omega) (by omega) (by omega) (by omega))
                  | (rw [cnt_t (pS_t.mpr (by assumption))] at hs
                     rw [cnt_f (fun q => by have := (pP_t.mp q).2; omega)] at hp
                     rw [ni_inc, Int32.add_zero]
                     exact ih (k + 1) (o + 1) g (by omega) (by omega) (by omega) (by omega) hp)
                  | (exfalso; contradiction)
                · have hd98 := i_eq.mp hc98; (try simp (disch := omega) only [nT, t_m1000100, t_m1000010, t_m1000003, t_m1000002, t_m1000001, t_m1000000, t_m65535, t_m1000, t_m3, t_m1, t_0, t_1, t_2, t_3, t_4, t_5, t_6, t_7, t_8, t_9, t_10, t_11, t_12, t_13, t_15, t_16, t_20, t_21, t_22, t_32, t_40, t_41, t_48, t_49, t_57, t_59, t_60, t_63, t_72, t_76, t_88, t_100, t_144, t_200, t_255, t_288, t_400, t_800, t_999, t_1000, t_1024, t_1200, t_1600, t_3200, t_100000, t_200000, t_252645135, t_858993459, t_1431655765, u_m1000002, u_m1000001, u_m1000, u_m3, u_m1, u_0, u_1, u_2, u_3, u_4, u_5, u_7, u_8, u_10, u_11, u_15, u_60, u_100, u_255, u_999, u_1000, u_100000, u_4294967295] at hd98)
                  refine g_iconst (v := 1) dX8_chance_101 (by decide) ?_
                  refine g_goto (tgt := 106) dX8_chance_102 (by decide) ?_
                  refine g_iadd dX8_chance_106 ?_
                  refine g_istore dX8_chance_107 (Nat.le_of_ble_eq_true rfl) rfl ?_
                  refine g_iinc dX8_chance_109 rfl (Nat.le_of_ble_eq_true rfl) rfl ?_
                  refine g_goto (tgt := 48) dX8_chance_112 (by decide) ?_
                  rw [ni_incO]
                  first
                  | (rw [cnt_f (fun q => absurd (pS_t.mp q) (by assumption))] at hs
                     rw [cnt_f (fun q => absurd (pP_t.mp q).1 (by assumption))] at hp
                     rw [Int32.add_zero, Int32.add_zero]
                     exact ih (k + 1) o g (by omega) (by omega) (by omega) hs hp)
                  | (rw [cnt_t (pS_t.mpr (by assumption))] at hs
                     rw [cnt_t (pP_t.mpr ⟨by assumption, by omega⟩)] at hp
                     rw [ni_inc, ni_inc]
                     exact ih (k + 1) (o + 1) (g + 1) (by omega) (by omega) (by omega) (by omega) (by omega))
                  | (rw [cnt_t (pS_t.mpr (by assumption))] at hs
                     rw [cnt_f (fun q => by have := (pP_t.mp q).2; omega)] at hp
                     rw [ni_inc, Int32.add_zero]
                     exact ih (k + 1) (o + 1) g (by omega) (by omega) (by omega) (by omega) hp)
                  | (exfalso; contradiction)
            · have hd67 := i_eq.mp hc67; (try simp (disch := omega) only [nT, t_m1000100, t_m1000010, t_m1000003, t_m1000002, t_m1000001, t_m1000000, t_m65535, t_m1000, t_m3, t_m1, t_0, t_1, t_2, t_3, t_4, t_5, t_6, t_7, t_8, t_9, t_10, t_11, t_12, t_13, t_15, t_16, t_20, t_21, t_22, t_32, t_40, t_41, t_48, t_49, t_57, t_59, t_60, t_63, t_72, t_76, t_88, t_100, t_144, t_200, t_255, t_288, t_400, t_800, t_999, t_1000, t_1024, t_1200, t_1600, t_3200, t_100000, t_200000, t_252645135, t_858993459, t_1431655765, u_m1000002, u_m1000001, u_m1000, u_m3, u_m1, u_0, u_1, u_2, u_3, u_4, u_5, u_7, u_8, u_10, u_11, u_15, u_60, u_100, u_255, u_999, u_1000, u_100000, u_4294967295] at hd67)
              refine g_iconst (v := 1) dX8_chance_70 (by decide) ?_
              refine g_goto (tgt := 75) dX8_chance_71 (by decide) ?_
              refine g_iadd dX8_chance_75 ?_
              refine g_istore dX8_chance_76 (Nat.le_of_ble_eq_true rfl) rfl ?_
              refine g_iload dX8_chance_78 rfl ?_
              refine g_aload_n (i := 0) dX8_chance_80 rfl rfl ?_
              refine g_get dX8_chance_81 fl_X8_91 (by repeat' (first | assumption | exact rF_eq | refine rF_ne (by decide) ?_ | refine rF_a ?_ | exact rA_eq | refine rA_ne (by decide) ?_ | refine rA_f ?_)) (by repeat' (first | assumption | exact rF_eq | refine rF_ne (by decide) ?_ | refine rF_a ?_ | exact rA_eq | refine rA_ne (by decide) ?_ | refine rA_f ?_)) ?_
              refine g_iload dX8_chance_84 rfl ?_
              refine g_iald dX8_chance_86 (by repeat' (first | assumption | exact rF_eq | refine rF_ne (by decide) ?_ | refine rF_a ?_ | exact rA_eq | refine rA_ne (by decide) ?_ | refine rA_f ?_)) (nT (by omega)) (by omega) ?_
              refine g_iload_n (i := 1) dX8_chance_87 rfl rfl ?_
              refine g_icmp_ne (tgt := 105) dX8_chance_88 (by decide) (fun hc88 => ?_) (fun hc88 => ?_)
              · have hd88 := mt i_eq.mpr hc88; (try simp (disch := omega) only [nT, t_m1000100, t_m1000010, t_m1000003, t_m1000002, t_m1000001, t_m1000000, t_m65535, t_m1000, t_m3, t_m1, t_0, t_1, t_2, t_3, t_4, t_5, t_6, t_7, t_8, t_9, t_10, t_11, t_12, t_13, t_15, t_16, t_20, t_21, t_22, t_32, t_40, t_41, t_48, t_49, t_57, t_59, t_60, t_63, t_72, t_76, t_88, t_100, t_144, t_200, t_255, t_288, t_400, t_800, t_999, t_1000, t_1024, t_1200, t_1600, t_3200, t_100000, t_200000, t_252645135, t_858993459, t_1431655765, u_m1000002, u_m1000001, u_m1000, u_m3, u_m1, u_0, u_1, u_2, u_3, u_4, u_5, u_7, u_8, u_10, u_11, u_15, u_60, u_100, u_255, u_999, u_1000, u_100000, u_4294967295] at hd88)
                refine g_iconst (v := 0) dX8_chance_105 (by decide) ?_
                refine g_iadd dX8_chance_106 ?_
                refine g_istore dX8_chance_107 (Nat.le_of_ble_eq_true rfl) rfl ?_
                refine g_iinc dX8_chance_109 rfl (Nat.le_of_ble_eq_true rfl) rfl ?_
                refine g_goto (tgt := 48) dX8_chance_112 (by decide) ?_
                rw [ni_incO]
                first
                | (rw [cnt_f (fun q => absurd (pS_t.mp q) (by assumption))] at hs
                   rw [cnt_f (fun q => absurd (pP_t.mp q).1 (by assumption))] at hp
                   rw [Int32.add_zero, Int32.add_zero]
                   exact ih (k + 1) o g (by omega) (by omega) (by omega) hs hp)
                | (rw [cnt_t (pS_t.mpr (by assumption))] at hs
                   rw [cnt_t (pP_t.mpr ⟨by assumption, by omega⟩)] at hp
                   rw [ni_inc, ni_inc]
                   exact ih (k + 1) (o + 1) (g + 1) (by omega) (by omega) (by omega) (by omega) (by omega))
                | (rw [cnt_t (pS_t.mpr (by assumption))] at hs
                   rw [cnt_f (fun q => by have := (pP_t.mp q).2; omega)] at hp
                   rw [ni_inc, Int32.add_zero]
                   exact ih (k + 1) (o + 1) g (by omega) (by omega) (by omega) (by omega) hp)
                | (exfalso; contradiction)
              · have hd88 := i_eq.mp hc88; (try simp (disch := omega) only [nT, t_m1000100, t_m1000010, t_m1000003, t_m1000002, t_m1000001, t_m1000000, t_m65535, t_m1000, t_m3, t_m1, t_0, t_1, t_2, t_3, t_4, t_5, t_6, t_7, t_8, t_9, t_10, t_11, t_12, t_13, t_15, t_16, t_20, t_21, t_22, t_32, t_40, t_41, t_48, t_49, t_57, t_59, t_60, t_63, t_72, t_76, t_88, t_100, t_144, t_200, t_255, t_288, t_400, t_800, t_999, t_1000, t_1024, t_1200, t_1600, t_3200, t_100000, t_200000, t_252645135, t_858993459, t_1431655765, u_m1000002, u_m1000001, u_m1000, u_m3, u_m1, u_0, u_1, u_2, u_3, u_4, u_5, u_7, u_8, u_10, u_11, u_15, u_60, u_100, u_255, u_999, u_1000, u_100000, u_4294967295] at hd88)
                refine g_aload_n (i := 0) dX8_chance_91 rfl rfl ?_
                refine g_get dX8_chance_92 fl_X8_79 (by repeat' (first | assumption | exact rF_eq | refine rF_ne (by decide) ?_ | refine rF_a ?_ | exact rA_eq | refine rA_ne (by decide) ?_ | refine rA_f ?_)) (by repeat' (first | assumption | exact rF_eq | refine rF_ne (by decide) ?_ | refine rF_a ?_ | exact rA_eq | refine rA_ne (by decide) ?_ | refine rA_f ?_)) ?_
                refine g_iload dX8_chance_95 rfl ?_
                refine g_iald dX8_chance_97 (by repeat' (first | assumption | exact rF_eq | refine rF_ne (by decide) ?_ | refine rF_a ?_ | exact rA_eq | refine rA_ne (by decide) ?_ | refine rA_f ?_)) (nT (by omega)) (by omega) ?_
                refine g_if_ne (tgt := 105) dX8_chance_98 (by decide) (fun hc98 => ?_) (fun hc98 => ?_)
                · have hd98 := mt i_eq.mpr hc98; (try simp (disch := omega) only [nT, t_m1000100, t_m1000010, t_m1000003, t_m1000002, t_m1000001, t_m1000000, t_m65535, t_m1000, t_m3, t_m1, t_0, t_1, t_2, t_3, t_4, t_5, t_6, t_7, t_8, t_9, t_10, t_11, t_12, t_13, t_15, t_16, t_20, t_21, t_22, t_32, t_40, t_41, t_48, t_49, t_57, t_59, t_60, t_63, t_72, t_76, t_88, t_100, t_144, t_200, t_255, t_288, t_400, t_800, t_999, t_1000, t_1024, t_1200, t_1600, t_3200, t_100000, t_200000, t_252645135, t_858993459, t_1431655765, u_m1000002, u_m1000001, u_m1000, u_m3, u_m1, u_0, u_1, u_2, u_3, u_4, u_5, u_7, u_8, u_10, u_11, u_15, u_60, u_100, u_255, u_999, u_1000, u_100000, u_4294967295] at hd98)
                  refine g_iconst (v := 0) dX8_chance_105 (by decide) ?_
                  refine g_iadd dX8_chance_106 ?_
                  refine g_istore dX8_chance_107 (Nat.le_of_ble_eq_true rfl) rfl ?_
                  refine g_iinc dX8_chance_109 rfl (Nat.le_of_ble_eq_true rfl) rfl ?_
                  refine g_goto (tgt := 48) dX8_chance_112 (by decide) ?_
                  rw [ni_incO]
                  first
                  | (rw [cnt_f (fun q => absurd (pS_t.mp q) (by assumption))] at hs
                     rw [cnt_f (fun q => absurd (pP_t.mp q).1 (by assumption))] at hp
                     rw [Int32.add_zero, Int32.add_zero]
                     exact ih (k + 1) o g (by omega) (by omega) (by omega) hs hp)
                  | (rw [cnt_t (pS_t.mpr (by assumption))] at hs
                     rw [cnt_t (pP_t.mpr ⟨by assumption, by omega⟩)] at hp
                     rw [ni_inc, ni_inc]
                     exact ih (k + 1) (o + 1) (g + 1) (by omega) (by omega) (by omega) (by omega) (by omega))
                  | (rw [cnt_t (pS_t.mpr (by assumption))] at hs
                     rw [cnt_f (fun q => by have := (pP_t.mp q).2; omega)] at hp
                     rw [ni_inc, Int32.add_zero]
                     exact ih (k + 1) (o + 1) g (by omega) (by omega) (by omega) (by omega) hp)
                  | (exfalso; contradiction)
                · have hd98 := i_eq.mp hc98; (try simp (disch := omega) only [nT, t_m1000100, t_m1000010, t_m1000003, t_m1000002, t_m1000001, t_m1000000, t_m65535, t_m1000, t_m3, t_m1, t_0, t_1, t_2, t_3, t_4, t_5, t_6, t_7, t_8, t_9, t_10, t_11, t_12, t_13, t_15, t_16, t_20, t_21, t_22, t_32, t_40, t_41, t_48, t_49, t_57, t_59, t_60, t_63, t_72, t_76, t_88, t_100, t_144, t_200, t_255, t_288, t_400, t_800, t_999, t_1000, t_1024, t_1200, t_1600, t_3200, t_100000, t_200000, t_252645135, t_858993459, t_1431655765, u_m1000002, u_m1000001, u_m1000, u_m3, u_m1, u_0, u_1, u_2, u_3, u_4, u_5, u_7, u_8, u_10, u_11, u_15, u_60, u_100, u_255, u_999, u_1000, u_100000, u_4294967295] at hd98)
                  refine g_iconst (v := 1) dX8_chance_101 (by decide) ?_
                  refine g_goto (tgt := 106) dX8_chance_102 (by decide) ?_
                  refine g_iadd dX8_chance_106 ?_
                  refine g_istore dX8_chance_107 (Nat.le_of_ble_eq_true rfl) rfl ?_
                  refine g_iinc dX8_chance_109 rfl (Nat.le_of_ble_eq_true rfl) rfl ?_
                  refine g_goto (tgt := 48) dX8_chance_112 (by decide) ?_
                  rw [ni_incO]
                  first
                  | (rw [cnt_f (fun q => absurd (pS_t.mp q) (by assumption))] at hs
                     rw [cnt_f (fun q => absurd (pP_t.mp q).1 (by assumption))] at hp
                     rw [Int32.add_zero, Int32.add_zero]
                     exact ih (k + 1) o g (by omega) (by omega) (by omega) hs hp)
                  | (rw [cnt_t (pS_t.mpr (by assumption))] at hs
                     rw [cnt_t (pP_t.mpr ⟨by assumption, by omega⟩)] at hp
                     rw [ni_inc, ni_inc]
                     exact ih (k + 1) (o + 1) (g + 1) (by omega) (by omega) (by omega) (by omega) (by omega))
                  | (rw [cnt_t (pS_t.mpr (by assumption))] at hs
                     rw [cnt_f (fun q => by have := (pP_t.mp q).2; omega)] at hp
                     rw [ni_inc, Int32.add_zero]
                     exact ih (k + 1) (o + 1) g (by omega) (by omega) (by omega) (by omega) hp)
                  | (exfalso; contradiction)
      exact key (G.1 - G.2.1) G.2.1 0 0 (by omega) (by omega) (by omega) (by rw [Nat.zero_add]; exact hoS) (by rw [Nat.zero_add]; exact hoP)
    · replace hc19 := bI_0.mp hc19
      (try simp (disch := omega) only [nT, t_m1000100, t_m1000010, t_m1000003, t_m1000002, t_m1000001, t_m1000000, t_m65535, t_m1000, t_m3, t_m1, t_0, t_1, t_2, t_3, t_4, t_5, t_6, t_7, t_8, t_9, t_10, t_11, t_12, t_13, t_15, t_16, t_20, t_21, t_22, t_32, t_40, t_41, t_48, t_49, t_57, t_59, t_60, t_63, t_72, t_76, t_88, t_100, t_144, t_200, t_255, t_288, t_400, t_800, t_999, t_1000, t_1024, t_1200, t_1600, t_3200, t_100000, t_200000, t_252645135, t_858993459, t_1431655765, u_m1000002, u_m1000001, u_m1000, u_m3, u_m1, u_0, u_1, u_2, u_3, u_4, u_5, u_7, u_8, u_10, u_11, u_15, u_60, u_100, u_255, u_999, u_1000, u_100000, u_4294967295] at hc19)
      have e : opChance G s w = _ := if_pos (by omega)
      rw [e] at hQ
      refine g_ldc2 dX8_chance_22 kc_X8_292 ?_
      refine g_lret dX8_chance_25 rfl (hQ _ _ ?_)
      exact ⟨rfl, rfl⟩
