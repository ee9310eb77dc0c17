/-! PATTERN: the reference: small methods, a LINE -/
abbrev AR : Type := (Nat → Int32) × (Nat → Int32) × (Nat → Int32) × (Nat → Int32) × (Nat → Int32)
/-- the reference as it reads: length L, place p, fault fl, depth d, its rows A (lines, pins, cycles, signs, lineOf), op ot ins -/
def RmX (h : HH) (L : Nat) (tp : Nat → Int32) (p : Nat) (fl : Int32) (d : Nat) (A : AR) (op ot ins : Nat → Int32) : Prop := gA h 44 = aO 8 ∧ gF h 44 5 = .ref 48 ∧ gF h 44 8 = .int (nI L) ∧ gF h 44 9 = .int (nI p) ∧ gF h 44 10 = .int fl ∧ gF h 44 14 = .ref 49 ∧ gF h 44 15 = .ref 50 ∧ gF h 44 16 = .ref 51 ∧ gF h 44 17 = .ref 52 ∧ gF h 44 18 = .ref 53 ∧ gF h 44 19 = .ref 54 ∧ gF h 44 20 = .ref 55 ∧ gF h 44 21 = .ref 56 ∧ gF h 44 22 = .int (nI d)
  ∧ gA h 48 = aI 400 tp ∧ gA h 49 = aI 2 A.1 ∧ gA h 50 = aI 2 A.2.1 ∧ gA h 51 = aI 2 A.2.2.1 ∧ gA h 52 = aI 3200 A.2.2.2.1 ∧ gA h 53 = aI 200000 A.2.2.2.2 ∧ gA h 54 = aI 7 op ∧ gA h 55 = aI 7 ot ∧ gA h 56 = aI 7 ins
/-- the other side stays -/
def OtM (t : Nat) (A B : AR) : Prop := B.1 (1 - t) = A.1 (1 - t) ∧ B.2.1 (1 - t) = A.2.1 (1 - t) ∧ B.2.2.1 (1 - t) = A.2.2.1 (1 - t) ∧ (∀ i, i < 1600 → B.2.2.2.1 (1600 * (1 - t) + i) = A.2.2.2.1 (1600 * (1 - t) + i)) ∧ ∀ i, i < 100000 → B.2.2.2.2 (100000 * (1 - t) + i) = A.2.2.2.2 (100000 * (1 - t) + i)
theorem ot_rf {t : Nat} {A : AR} : OtM t A A := ⟨rfl, rfl, rfl, fun _ _ => rfl, fun _ _ => rfl⟩
theorem ot_tr {t : Nat} {A B C : AR} (f : OtM t A B) (g : OtM t B C) : OtM t A C := ⟨g.1.trans f.1, g.2.1.trans f.2.1, g.2.2.1.trans f.2.2.1, fun i hi => (g.2.2.2.1 i hi).trans (f.2.2.2.1 i hi), fun i hi => (g.2.2.2.2 i hi).trans (f.2.2.2.2 i hi)⟩
def catM (M : Nat → List Nat) : Nat → List Nat
  | 0 => []
  | n + 1 => catM M n ++ M n
theorem cat_up {M : Nat → List Nat} {X : List Nat} {k : Nat} : ∀ n, n ≤ k → catM (up M k X) n = catM M n
  | 0, _ => rfl
  | n + 1, h => by unfold catM; rw [cat_up n (by omega), up_n (by omega)]
theorem cat_le {M : Nat → List Nat} : ∀ n, (∀ j, j < n → (M j).length ≤ 100000) → (catM M n).length ≤ 100000 * n
  | 0, _ => by unfold catM; simp
  | n + 1, h => by
    have h1 := cat_le (M := M) n (fun j hj => h j (by omega))
    have h2 := h n (by omega)
    unfold catM
    rw [List.length_append]
    omega
def InvM (L : Nat) (tp : Nat → Int32) (t : Nat) (A : AR) (op ot ins : Nat → Int32) (d : Nat) (M : Nat → List Nat) (T : Nat → Nat) (nl pn p : Nat) : Prop :=
  (p ≤ L ∧ L ≤ 400 ∧ 2 * nl ≤ p ∧ d ≤ 6 ∧ pn ≤ 8 ∧ t < 2) ∧ (A.1 t = nI nl ∧ A.2.1 t = nI pn ∧ A.2.2.1 t = nI (catM M (d + 1)).length)
  ∧ (∀ j, j ≤ d → ins j = nI (M j).length ∧ (M j).length ≤ 100000) ∧ (∀ j, 1 ≤ j → j ≤ d → op j = nI (catM M j).length ∧ ot j = nI (T j) ∧ 1 ≤ T j ∧ T j ≤ 999)
  ∧ ∃ fr : Nat → Nat, (∀ l q, l < nl → q < pn → A.2.2.2.1 (1600 * t + 8 * l + q) = tp (fr l + q)) ∧ ∀ c q, (catM M (d + 1))[c]? = some q → c < 100000 → ∃ l, l < nl ∧ A.2.2.2.2 (100000 * t + c) = nI l ∧ fr l = q
def PrM (t L : Nat) (tp : Nat → Int32) (A0 : AR) (s : PS) (p : Nat) (h : HH) : Prop := ∃ (A : AR) (op ot ins : Nat → Int32), RmX h L tp p 0 s.1 A op ot ins ∧ InvM L tp t A op ot ins s.1 s.2.1 s.2.2.1 s.2.2.2.1 s.2.2.2.2 p ∧ OtM t A0 A
def PrN (t L : Nat) (tp : Nat → Int32) (A0 : AR) (f q : Nat) (h : HH) : Prop := (1 ≤ f ∧ f ≤ 4 ∧ q ≤ L ∧ L ≤ 400) ∧ ∃ (A : AR) (op ot ins : Nat → Int32) (d p : Nat), RmX h L tp p (nI f) d A op ot ins ∧ gF h 44 11 = .int (nI q) ∧ OtM t A0 A
def OutM (t L : Nat) (tp : Nat → Int32) (A0 : AR) (h : HH) : (Nat × Nat) ⊕ (PS × Nat) → Prop
  | .inl f => PrN t L tp A0 f.1 f.2 h
  | .inr q => PrM t L tp A0 q.1 q.2 h
abbrev saM : List Nat := [49, 50, 51, 52, 53, 54, 55, 56]
abbrev sfM : List (Nat × Nat) := [(44, 9), (44, 10), (44, 11), (44, 22)]
theorem c_x8fig (h : HH) (c : Int32) : CT mX8_isFigure 0 0 0 [.int c] h (fun r h' => r = some (.int (bI (isFg c = true))) ∧ h' = h) := by
  refine CT.go [.int c] (by decide +kernel) rfl rfl (fun Q' hQ => ?_)
  refine g_iload_n (i := 0) dX8_isFigure_0 rfl rfl ?_
  refine g_bipush (v := 48) dX8_isFigure_1 (by decide) ?_
  refine g_icmp_lt (tgt := 16) dX8_isFigure_3 (by decide) (fun hc3 => ?_) (fun hc3 => ?_)
  · (try simp (disch := omega) only [nT, t_m1000100, t_m1000010, t_m1000003, t_m1000002, t_m1000001, t_m1000000, t_m65535, t_m1000, t_m3, t_m1, t_0, t_1, t_2, t_3, t_4, t_5, t_6, t_7, t_8, t_9, t_10, t_11, t_12, t_13, t_15, t_16, t_20, t_21, t_22, t_32, t_40, t_41, t_48, t_49, t_57, t_59, t_60, t_63, t_72, t_76, t_88, t_100, t_144, t_200, t_255, t_288, t_400, t_800, t_999, t_1000, t_1024, t_1200, t_1600, t_3200, t_100000, t_200000, t_252645135, t_858993459, t_1431655765, u_m1000002, u_m1000001, u_m1000, u_m3, u_m1, u_0, u_1, u_2, u_3, u_4, u_5, u_7, u_8, u_10, u_11, u_15, u_60, u_100, u_255, u_999, u_1000, u_100000, u_4294967295] at hc3)
    rw [bI_f (fun q => by have := isFg_t.mp q; omega)] at hQ
    refine g_iconst (v := 0) dX8_isFigure_16 (by decide) ?_
    refine g_iret dX8_isFigure_17 rfl (rfl) (hQ _ _ ?_)
    exact ⟨rfl, rfl⟩
  · (try simp (disch := omega) only [nT, t_m1000100, t_m1000010, t_m1000003, t_m1000002, t_m1000001, t_m1000000, t_m65535, t_m1000, t_m3, t_m1, t_0, t_1, t_2, t_3, t_4, t_5, t_6, t_7, t_8, t_9, t_10, t_11, t_12, t_13, t_15, t_16, t_20, t_21, t_22, t_32, t_40, t_41, t_48, t_49, t_57, t_59, t_60, t_63, t_72, t_76, t_88, t_100, t_144, t_200, t_255, t_288, t_400, t_800, t_999, t_1000, t_1024, t_1200, t_1600, t_3200, t_100000, t_200000, t_252645135, t_858993459, t_1431655765, u_m1000002, u_m1000001, u_m1000, u_m3, u_m1, u_0, u_1, u_2, u_3, u_4, u_5, u_7, u_8, u_10, u_11, u_15, u_60, u_100, u_255, u_999, u_1000, u_100000, u_4294967295] at hc3)
    refine g_iload_n (i := 0) dX8_isFigure_6 rfl rfl ?_
    refine g_bipush (v := 57) dX8_isFigure_7 (by decide) ?_
    refine g_icmp_gt (tgt := 16) dX8_isFigure_9 (by decide) (fun hc9 => ?_) (fun hc9 => ?_)
    · (try simp (disch := omega) only [nT, t_m1000100, t_m1000010, t_m1000003, t_m1000002, t_m1000001, t_m1000000, t_m65535, t_m1000, t_m3, t_m1, t_0, t_1, t_2, t_3, t_4, t_5, t_6, t_7, t_8, t_9, t_10, t_11, t_12, t_13, t_15, t_16, t_20, t_21, t_22, t_32, t_40, t_41, t_48, t_49, t_57, t_59, t_60, t_63, t_72, t_76, t_88, t_100, t_144, t_200, t_255, t_288, t_400, t_800, t_999, t_1000, t_1024, t_1200, t_1600, t_3200, t_100000, t_200000, t_252645135, t_858993459, t_1431655765, u_m1000002, u_m1000001, u_m1000, u_m3, u_m1, u_0, u_1, u_2, u_3, u_4, u_5, u_7, u_8, u_10, u_11, u_15, u_60, u_100, u_255, u_999, u_1000, u_100000, u_4294967295] at hc9)
      rw [bI_f (fun q => by have := isFg_t.mp q; omega)] at hQ
      refine g_iconst (v := 0) dX8_isFigure_16 (by decide) ?_
      refine g_iret dX8_isFigure_17 rfl (rfl) (hQ _ _ ?_)
      exact ⟨rfl, rfl⟩
    · (try simp (disch := omega) only [nT, t_m1000100, t_m1000010, t_m1000003, t_m1000002, t_m1000001, t_m1000000, t_m65535, t_m1000, t_m3, t_m1, t_0, t_1, t_2, t_3, t_4, t_5, t_6, t_7, t_8, t_9, t_10, t_11, t_12, t_13, t_15, t_16, t_20, t_21, t_22, t_32, t_40, t_41, t_48, t_49, t_57, t_59, t_60, t_63, t_72, t_76, t_88, t_100, t_144, t_200, t_255, t_288, t_400, t_800, t_999, t_1000, t_1024, t_1200, t_1600, t_3200, t_100000, t_200000, t_252645135, t_858993459, t_1431655765, u_m1000002, u_m1000001, u_m1000, u_m3, u_m1, u_0, u_1, u_2, u_3, u_4, u_5, u_7, u_8, u_10, u_11, u_15, u_60, u_100, u_255, u_999, u_1000, u_100000, u_4294967295] at hc9)
      rw [bI_t (isFg_t.mpr (by omega))] at hQ
      refine g_iconst (v := 1) dX8_isFigure_12 (by decide) ?_
      refine g_goto (tgt := 17) dX8_isFigure_13 (by decide) ?_
      refine g_iret dX8_isFigure_17 rfl (rfl) (hQ _ _ ?_)
      exact ⟨rfl, rfl⟩
theorem c_x8sig (h : HH) (c : Int32) : CT mX8_isSign 0 0 0 [.int c] h (fun r h' => r = some (.int (bI (isSg c = true))) ∧ h' = h) := by
  refine CT.go [.int c] (by decide +kernel) rfl rfl (fun Q' hQ => ?_)
  refine g_iload_n (i := 0) dX8_isSign_0 rfl rfl ?_
  refine g_bipush (v := 48) dX8_isSign_1 (by decide) ?_
  refine g_icmp_eq (tgt := 30) dX8_isSign_3 (by decide) (fun hc3 => ?_) (fun hc3 => ?_)
  · have hd3 := i_eq.mp hc3; (try simp (disch := omega) only [nT, t_m1000100, t_m1000010, t_m1000003, t_m1000002, t_m1000001, t_m1000000, t_m65535, t_m1000, t_m3, t_m1, t_0, t_1, t_2, t_3, t_4, t_5, t_6, t_7, t_8, t_9, t_10, t_11, t_12, t_13, t_15, t_16, t_20, t_21, t_22, t_32, t_40, t_41, t_48, t_49, t_57, t_59, t_60, t_63, t_72, t_76, t_88, t_100, t_144, t_200, t_255, t_288, t_400, t_800, t_999, t_1000, t_1024, t_1200, t_1600, t_3200, t_100000, t_200000, t_252645135, t_858993459, t_1431655765, u_m1000002, u_m1000001, u_m1000, u_m3, u_m1, u_0, u_1, u_2, u_3, u_4, u_5, u_7, u_8, u_10, u_11, u_15, u_60, u_100, u_255, u_999, u_1000, u_100000, u_4294967295] at hd3)
    rw [bI_t (isSg_t.mpr (by omega))] at hQ
    refine g_iconst (v := 1) dX8_isSign_30 (by decide) ?_
    refine g_goto (tgt := 35) dX8_isSign_31 (by decide) ?_
    refine g_iret dX8_isSign_35 rfl (rfl) (hQ _ _ ?_)
    exact ⟨rfl, rfl⟩
  · have hd3 := mt i_eq.mpr hc3; (try simp (disch := omega) only [nT, t_m1000100, t_m1000010, t_m1000003, t_m1000002, t_m1000001, t_m1000000, t_m65535, t_m1000, t_m3, t_m1, t_0, t_1, t_2, t_3, t_4, t_5, t_6, t_7, t_8, t_9, t_10, t_11, t_12, t_13, t_15, t_16, t_20, t_21, t_22, t_32, t_40, t_41, t_48, t_49, t_57, t_59, t_60, t_63, t_72, t_76, t_88, t_100, t_144, t_200, t_255, t_288, t_400, t_800, t_999, t_1000, t_1024, t_1200, t_1600, t_3200, t_100000, t_200000, t_252645135, t_858993459, t_1431655765, u_m1000002, u_m1000001, u_m1000, u_m3, u_m1, u_0, u_1, u_2, u_3, u_4, u_5, u_7, u_8, u_10, u_11, u_15, u_60, u_100, u_255, u_999, u_1000, u_100000, u_4294967295] at hd3)
    refine g_iload_n (i := 0) dX8_isSign_6 rfl rfl ?_
    refine g_bipush (v := 49) dX8_isSign_7 (by decide) ?_
    refine g_icmp_eq (tgt := 30) dX8_isSign_9 (by decide) (fun hc9 => ?_) (fun hc9 => ?_)
    · have hd9 := i_eq.mp hc9; (try simp (disch := omega) only [nT, t_m1000100, t_m1000010, t_m1000003, t_m1000002, t_m1000001, t_m1000000, t_m65535, t_m1000, t_m3, t_m1, t_0, t_1, t_2, t_3, t_4, t_5, t_6, t_7, t_8, t_9, t_10, t_11, t_12, t_13, t_15, t_16, t_20, t_21, t_22, t_32, t_40, t_41, t_48, t_49, t_57, t_59, t_60, t_63, t_72, t_76, t_88, t_100, t_144, t_200, t_255, t_288, t_400, t_800, t_999, t_1000, t_1024, t_1200, t_1600, t_3200, t_100000, t_200000, t_252645135, t_858993459, t_1431655765, u_m1000002, u_m1000001, u_m1000, u_m3, u_m1, u_0, u_1, u_2, u_3, u_4, u_5, u_7, u_8, u_10, u_11, u_15, u_60, u_100, u_255, u_999, u_1000, u_100000, u_4294967295] at hd9)
      rw [bI_t (isSg_t.mpr (by omega))] at hQ
      refine g_iconst (v := 1) dX8_isSign_30 (by decide) ?_
      refine g_goto (tgt := 35) dX8_isSign_31 (by decide) ?_
      refine g_iret dX8_isSign_35 rfl (rfl) (hQ _ _ ?_)
      exact ⟨rfl, rfl⟩
    · have hd9 := mt i_eq.mpr hc9; (try simp (disch := omega) only [nT, t_m1000100, t_m1000010, t_m1000003, t_m1000002, t_m1000001, t_m1000000, t_m65535, t_m1000, t_m3, t_m1, t_0, t_1, t_2, t_3, t_4, t_5, t_6, t_7, t_8, t_9, t_10, t_11, t_12, t_13, t_15, t_16, t_20, t_21, t_22, t_32, t_40, t_41, t_48, t_49, t_57, t_59, t_60, t_63, t_72, t_76, t_88, t_100, t_144, t_200, t_255, t_288, t_400, t_800, t_999, t_1000, t_1024, t_1200, t_1600, t_3200, t_100000, t_200000, t_252645135, t_858993459, t_1431655765, u_m1000002, u_m1000001, u_m1000, u_m3, u_m1, u_0, u_1, u_2, u_3, u_4, u_5, u_7, u_8, u_10, u_11, u_15, u_60, u_100, u_255, u_999, u_1000, u_100000, u_4294967295] at hd9)
      refine g_iload_n (i := 0) dX8_isSign_12 rfl rfl ?_
      refine g_bipush (v := 76) dX8_isSign_13 (by decide) ?_
      refine g_icmp_eq (tgt := 30) dX8_isSign_15 (by decide) (fun hc15 => ?_) (fun hc15 => ?_)
      · have hd15 := i_eq.mp hc15; (try simp (disch := omega) only [nT, t_m1000100, t_m1000010, t_m1000003, t_m1000002, t_m1000001, t_m1000000, t_m65535, t_m1000, t_m3, t_m1, t_0, t_1, t_2, t_3, t_4, t_5, t_6, t_7, t_8, t_9, t_10, t_11, t_12, t_13, t_15, t_16, t_20, t_21, t_22, t_32, t_40, t_41, t_48, t_49, t_57, t_59, t_60, t_63, t_72, t_76, t_88, t_100, t_144, t_200, t_255, t_288, t_400, t_800, t_999, t_1000, t_1024, t_1200, t_1600, t_3200, t_100000, t_200000, t_252645135, t_858993459, t_1431655765, u_m1000002, u_m1000001, u_m1000, u_m3, u_m1, u_0, u_1, u_2, u_3, u_4, u_5, u_7, u_8, u_10, u_11, u_15, u_60, u_100, u_255, u_999, u_1000, u_100000, u_4294967295] at hd15)
        rw [bI_t (isSg_t.mpr (by omega))] at hQ
        refine g_iconst (v := 1) dX8_isSign_30 (by decide) ?_
        refine g_goto (tgt := 35) dX8_isSign_31 (by decide) ?_
        refine g_iret dX8_isSign_35 rfl (rfl) (hQ _ _ ?_)
        exact ⟨rfl, rfl⟩
      · have hd15 := mt i_eq.mpr hc15; (try simp (disch := omega) only [nT, t_m1000100, t_m1000010, t_m1000003, t_m1000002, t_m1000001, t_m1000000, t_m65535, t_m1000, t_m3, t_m1, t_0, t_1, t_2, t_3, t_4, t_5, t_6, t_7, t_8, t_9, t_10, t_11, t_12, t_13, t_15, t_16, t_20, t_21, t_22, t_32, t_40, t_41, t_48, t_49, t_57, t_59, t_60, t_63, t_72, t_76, t_88, t_100, t_144, t_200, t_255, t_288, t_400, t_800, t_999, t_1000, t_1024, t_1200, t_1600, t_3200, t_100000, t_200000, t_252645135, t_858993459, t_1431655765, u_m1000002, u_m1000001, u_m1000, u_m3, u_m1, u_0, u_1, u_2, u_3, u_4, u_5, u_7, u_8, u_10, u_11, u_15, u_60, u_100, u_255, u_999, u_1000, u_100000, u_4294967295] at hd15)
        refine g_iload_n (i := 0) dX8_isSign_18 rfl rfl ?_
        refine g_bipush (v := 72) dX8_isSign_19 (by decide) ?_
        refine g_icmp_eq (tgt := 30) dX8_isSign_21 (by decide) (fun hc21 => ?_) (fun hc21 => ?_)
        · have hd21 := i_eq.mp hc21; (try simp (disch := omega) only [nT, t_m1000100, t_m1000010, t_m1000003, t_m1000002, t_m1000001, t_m1000000, t_m65535, t_m1000, t_m3, t_m1, t_0, t_1, t_2, t_3, t_4, t_5, t_6, t_7, t_8, t_9, t_10, t_11, t_12, t_13, t_15, t_16, t_20, t_21, t_22, t_32, t_40, t_41, t_48, t_49, t_57, t_59, t_60, t_63, t_72, t_76, t_88, t_100, t_144, t_200, t_255, t_288, t_400, t_800, t_999, t_1000, t_1024, t_1200, t_1600, t_3200, t_100000, t_200000, t_252645135, t_858993459, t_1431655765, u_m1000002, u_m1000001, u_m1000, u_m3, u_m1, u_0, u_1, u_2, u_3, u_4, u_5, u_7, u_8, u_10, u_11, u_15, u_60, u_100, u_255, u_999, u_1000, u_100000, u_4294967295] at hd21)
          rw [bI_t (isSg_t.mpr (by omega))] at hQ
          refine g_iconst (v := 1) dX8_isSign_30 (by decide) ?_
          refine g_goto (tgt := 35) dX8_isSign_31 (by decide) ?_
          refine g_iret dX8_isSign_35 rfl (rfl) (hQ _ _ ?_)
          exact ⟨rfl, rfl⟩
        · have hd21 := mt i_eq.mpr hc21; (try simp (disch := omega) only [nT, t_m1000100, t_m1000010, t_m1000003, t_m1000002, t_m1000001, t_m1000000, t_m65535, t_m1000, t_m3, t_m1, t_0, t_1, t_2, t_3, t_4, t_5, t_6, t_7, t_8, t_9, t_10, t_11, t_12, t_13, t_15, t_16, t_20, t_21, t_22, t_32, t_40, t_41, t_48, t_49, t_57, t_59, t_60, t_63, t_72, t_76, t_88, t_100, t_144, t_200, t_255, t_288, t_400, t_800, t_999, t_1000, t_1024, t_1200, t_1600, t_3200, t_100000, t_200000, t_252645135, t_858993459, t_1431655765, u_m1000002, u_m1000001, u_m1000, u_m3, u_m1, u_0, u_1, u_2, u_3, u_4, u_5, u_7, u_8, u_10, u_11, u_15, u_60, u_100, u_255, u_999, u_1000, u_100000, u_4294967295] at hd21)
          refine g_iload_n (i := 0) dX8_isSign_24 rfl rfl ?_
          refine g_bipush (v := 88) dX8_isSign_25 (by decide) ?_
          refine g_icmp_ne (tgt := 34) dX8_isSign_27 (by decide) (fun hc27 => ?_) (fun hc27 => ?_)
          · have hd27 := mt i_eq.mpr hc27; (try simp (disch := omega) only [nT, t_m1000100, t_m1000010, t_m1000003, t_m1000002, t_m1000001, t_m1000000, t_m65535, t_m1000, t_m3, t_m1, t_0, t_1, t_2, t_3, t_4, t_5, t_6, t_7, t_8, t_9, t_10, t_11, t_12, t_13, t_15, t_16, t_20, t_21, t_22, t_32, t_40, t_41, t_48, t_49, t_57, t_59, t_60, t_63, t_72, t_76, t_88, t_100, t_144, t_200, t_255, t_288, t_400, t_800, t_999, t_1000, t_1024, t_1200, t_1600, t_3200, t_100000, t_200000, t_252645135, t_858993459, t_1431655765, u_m1000002, u_m1000001, u_m1000, u_m3, u_m1, u_0, u_1, u_2, u_3, u_4, u_5, u_7, u_8, u_10, u_11, u_15, u_60, u_100, u_255, u_999, u_1000, u_100000, u_4294967295] at hd27)
            rw [bI_f (fun q => by have := isSg_t.mp q; omega)] at hQ
            refine g_iconst (v := 0) dX8_isSign_34 (by decide) ?_
            refine g_iret dX8_isSign_35 rfl (rfl) (hQ _ _ ?_)
            exact ⟨rfl, rfl⟩
          · have hd27 := i_eq.mp hc27; (try simp (disch := omega) only [nT, t_m1000100, t_m1000010, t_m1000003, t_m1000002, t_m1000001, t_m1000000, t_m65535, t_m1000, t_m3, t_m1, t_0, t_1, t_2, t_3, t_4, t_5, t_6, t_7, t_8, t_9, t_10, t_11, t_12, t_13, t_15, t_16, t_20, t_21, t_22, t_32, t_40, t_41, t_48, t_49, t_57, t_59, t_60, t_63, t_72, t_76, t_88, t_100, t_144, t_200, t_255, t_288, t_400, t_800, t_999, t_1000, t_1024, t_1200, t_1600, t_3200, t_100000, t_200000, t_252645135, t_858993459, t_1431655765, u_m1000002, u_m1000001, u_m1000, u_m3, u_m1, u_0, u_1, u_2, u_3, u_4, u_5, u_7, u_8, u_10, u_11, u_15, u_60, u_100, u_255, u_999, u_1000, u_100000, u_4294967295] at hd27)
            rw [bI_t (isSg_t.mpr (by omega))] at hQ
            refine g_iconst (v := 1) dX8_isSign_30 (by decide) ?_
            refine g_goto (tgt := 35) dX8_isSign_31 (by decide) ?_
            refine g_iret dX8_isSign_35 rfl (rfl) (hQ _ _ ?_)
            exact ⟨rfl, rfl⟩
def byB (L : Nat) (tp : Nat → Int32) (p : Nat) : Int32 := if p < L then tp p else -1000000
theorem byB_t {L : Nat} {tp : Nat → Int32} {p : Nat} (h : p < L) : byB L tp p = tp p := if_pos h
theorem byB_f {L : Nat} {tp : Nat → Int32} {p : Nat} (h : ¬ p < L) : byB L tp p = -1000000 := if_neg h
theorem byB_eq {L : Nat} {tp : Nat → Int32} {p : Nat} {k : Int} (hk : 0 < k) : (byB L tp p).toInt = k ↔ p < L ∧ (tp p).toInt = k := by
  unfold byB
  split
  · rename_i q; exact ⟨fun z => ⟨q, z⟩, fun z => z.2⟩
  · rename_i q; exact ⟨fun z => by rw [t_m1000000] at z; omega, fun z => absurd z.1 q⟩
section MRead
variable {h : HH} {L p d : Nat} {fl : Int32} {tp : Nat → Int32} {A A0 : AR} {op ot ins : Nat → Int32}
theorem c_byteAt (hr : RmX h L tp p fl d A op ot ins) (hL : L ≤ 400) {k : Nat} (hk : k ≤ L) : CT mX8_byteAt 0 0 0 [.ref 44, .int (nI k)] h (fun r h' => r = some (.int (byB L tp k)) ∧ h' = h) := by
  obtain ⟨r1, r2, r3, r4, r5, r6, r7, r8, r9, r10, r11, r12, r13, r14, b0, b1, b2, b3, b4, b5, b6, b7, b8⟩ := hr
  refine CT.go [.ref 44, .int (nI k)] (by decide +kernel) rfl rfl (fun Q' hQ => ?_)
  refine g_iload_n (i := 1) dX8_byteAt_0 rfl rfl ?_
  refine g_aload_n (i := 0) dX8_byteAt_1 rfl rfl ?_
  refine g_get dX8_byteAt_2 fl_X8_139 (by repeat' (first | assumption | exact rF_eq | refine rF_ne (by decide) ?_ | refine rF_a ?_ | exact rA_eq | refine rA_ne (by decide) ?_ | refine rA_f ?_)) (by repeat' (first | assumption | exact rF_eq | refine rF_ne (by decide) ?_ | refine rF_a ?_ | exact rA_eq | refine rA_ne (by decide) ?_ | refine rA_f ?_)) ?_
  refine g_icmp_ge (tgt := 17) dX8_byteAt_5 (by decide) (fun hc5 => ?_) (fun hc5 => ?_)
  · (try simp (disch := omega) only [nT, t_m1000100, t_m1000010, t_m1000003, t_m1000002, t_m1000001, t_m1000000, t_m65535, t_m1000, t_m3, t_m1, t_0, t_1, t_2, t_3, t_4, t_5, t_6, t_7, t_8, t_9, t_10, t_11, t_12, t_13, t_15, t_16, t_20, t_21, t_22, t_32, t_40, t_41, t_48, t_49, t_57, t_59, t_60, t_63, t_72, t_76, t_88, t_100, t_144, t_200, t_255, t_288, t_400, t_800, t_999, t_1000, t_1024, t_1200, t_1600, t_3200, t_100000, t_200000, t_252645135, t_858993459, t_1431655765, u_m1000002, u_m1000001, u_m1000, u_m3, u_m1, u_0, u_1, u_2, u_3, u_4, u_5, u_7, u_8, u_10, u_11, u_15, u_60, u_100, u_255, u_999, u_1000, u_100000, u_4294967295] at hc5)
    rw [byB_f (by omega)] at hQ
    refine g_ldc dX8_byteAt_17 kc_X8_142 ?_
    refine g_iret dX8_byteAt_19 rfl (rfl) (hQ _ _ ?_)
    exact ⟨rfl, rfl⟩
  · (try simp (disch := omega) only [nT, t_m1000100, t_m1000010, t_m1000003, t_m1000002, t_m1000001, t_m1000000, t_m65535, t_m1000, t_m3, t_m1, t_0, t_1, t_2, t_3, t_4, t_5, t_6, t_7, t_8, t_9, t_10, t_11, t_12, t_13, t_15, t_16, t_20, t_21, t_22, t_32, t_40, t_41, t_48, t_49, t_57, t_59, t_60, t_63, t_72, t_76, t_88, t_100, t_144, t_200, t_255, t_288, t_400, t_800, t_999, t_1000, t_1024, t_1200, t_1600, t_3200, t_100000, t_200000, t_252645135, t_858993459, t_1431655765, u_m1000002, u_m1000001, u_m1000, u_m3, u_m1, u_0, u_1, u_2, u_3, u_4, u_5, u_7, u_8, u_10, u_11, u_15, u_60, u_100, u_255, u_999, u_1000, u_100000, u_4294967295] at hc5)
    refine g_aload_n (i := 0) dX8_byteAt_8 rfl rfl ?_
    refine g_get dX8_byteAt_9 fl_X8_19 (by repeat' (first | assumption | exact rF_eq | refine rF_ne (by decide) ?_ | refine rF_a ?_ | exact rA_eq | refine rA_ne (by decide) ?_ | refine rA_f ?_)) (by repeat' (first | assumption | exact rF_eq | refine rF_ne (by decide) ?_ | refine rF_a ?_ | exact rA_eq | refine rA_ne (by decide) ?_ | refine rA_f ?_)) ?_
    refine g_iload_n (i := 1) dX8_byteAt_12 rfl rfl ?_
    refine g_iald dX8_byteAt_13 (by repeat' (first | assumption | exact rF_eq | refine rF_ne (by decide) ?_ | refine rF_a ?_ | exact rA_eq | refine rA_ne (by decide) ?_ | refine rA_f ?_)) (nT (by omega)) (by omega) ?_
    rw [byB_t (by omega)] at hQ
    refine g_goto (tgt := 19) dX8_byteAt_14 (by decide) ?_
    refine g_iret dX8_byteAt_19 rfl (rfl) (hQ _ _ ?_)
    exact ⟨rfl, rfl⟩
theorem rm_at (hr : RmX h L tp p fl d A op ot ins) (p2 : Nat) : RmX (sF h 44 9 (.int (nI p2))) L tp p2 fl d A op ot ins := by
  obtain ⟨r1, r2, r3, r4, r5, r6, r7, r8, r9, r10, r11, r12, r13, r14, b⟩ := hr
  exact ⟨r1, r2, r3, rfl, r5, r6, r7, r8, r9, r10, r11, r12, r13, r14, b⟩
theorem c_skip (hr : RmX h L tp p fl d A op ot ins) (hL : L ≤ 400) (hp : p ≤ L) : CT mX8_skip 1 0 0 [.ref 44] h (fun r h' => r = none ∧ h' = sF h 44 9 (.int (nI (fwd isBl L tp p)))) := by
  refine CT.go [.ref 44] (by decide +kernel) rfl rfl (fun Q' hQ => ?_)
  generalize hz : fwd isBl L tp p = z at hQ
  have key : ∀ m k : Nat, k + m = L → fwd isBl L tp k = z → GG (EM mX8_skip 1 0 0 Q') 0 0 0 [.ref 44] [] (sF h 44 9 (.int (nI k))) := by
    intro m
    induction m with
    | zero =>
      intro k hk he
      rw [fwd_e (by omega)] at he
      subst he
      have hr2 := rm_at hr k
      obtain ⟨r1, r2, r3, r4, r5, -⟩ := id hr2
      refine g_aload_n (i := 0) dX8_skip_0 rfl rfl ?_
      refine g_aload_n (i := 0) dX8_skip_1 rfl rfl ?_
      refine g_get dX8_skip_2 fl_X8_149 (by repeat' (first | assumption | exact rF_eq | refine rF_ne (by decide) ?_ | refine rF_a ?_ | exact rA_eq | refine rA_ne (by decide) ?_ | refine rA_f ?_)) (by repeat' (first | assumption | exact rF_eq | refine rF_ne (by decide) ?_ | refine rF_a ?_ | exact rA_eq | refine rA_ne (by decide) ?_ | refine rA_f ?_)) ?_
      refine g_callV (M' := mX8_byteAt) dX8_skip_5 lc_X8_byteAt ml_X8_152 (c_byteAt hr2 hL (by omega)) rfl rfl (by repeat' (first | assumption | exact rF_eq | refine rF_ne (by decide) ?_ | refine rF_a ?_ | exact rA_eq | refine rA_ne (by decide) ?_ | refine rA_f ?_)) rfl ⟨Nat.le_of_ble_eq_true rfl, Nat.le_of_ble_eq_true rfl, Nat.le_of_ble_eq_true rfl, Nat.le_of_ble_eq_true rfl⟩ (Nat.le_of_ble_eq_true rfl) ?_
      intro r_ h_ q_; obtain ⟨q1_, q2_⟩ := q_; have q2_ := q2_.symm; subst q1_; subst q2_
      rw [byB_f (by omega)]
      refine g_bipush (v := 32) dX8_skip_8 (by decide) ?_
      refine g_icmp_eq (tgt := 26) dX8_skip_10 (by decide) (fun hc10 => ?_) (fun hc10 => ?_)
      · have hd10 := i_eq.mp hc10; (try simp (disch := omega) only [nT, t_m1000100, t_m1000010, t_m1000003, t_m1000002, t_m1000001, t_m1000000, t_m65535, t_m1000, t_m3, t_m1, t_0, t_1, t_2, t_3, t_4, t_5, t_6, t_7, t_8, t_9, t_10, t_11, t_12, t_13, t_15, t_16, t_20, t_21, t_22, t_32, t_40, t_41, t_48, t_49, t_57, t_59, t_60, t_63, t_72, t_76, t_88, t_100, t_144, t_200, t_255, t_288, t_400, t_800, t_999, t_1000, t_1024, t_1200, t_1600, t_3200, t_100000, t_200000, t_252645135, t_858993459, t_1431655765, u_m1000002, u_m1000001, u_m1000, u_m3, u_m1, u_0, u_1, u_2, u_3, u_4, u_5, u_7, u_8, u_10, u_11, u_15, u_60, u_100, u_255, u_999, u_1000, u_100000, u_4294967295] at hd10); exact absurd hc10 (by decide)
      · have hd10 := mt i_eq.mpr hc10; (try simp (disch := omega) only [nT, t_m1000100, t_m1000010, t_m1000003, t_m1000002, t_m1000001, t_m1000000, t_m65535, t_m1000, t_m3, t_m1, t_0, t_1, t_2, t_3, t_4, t_5, t_6, t_7, t_8, t_9, t_10, t_11, t_12, t_13, t_15, t_16, t_20, t_21, t_22, t_32, t_40, t_41, t_48, t_49, t_57, t_59, t_60, t_63, t_72, t_76, t_88, t_100, t_144, t_200, t_255, t_288, t_400, t_800, t_999, t_1000, t_1024, t_1200, t_1600, t_3200, t_100000, t_200000, t_252645135, t_858993459, t_1431655765, u_m1000002, u_m1000001, u_m1000, u_m3, u_m1, u_0, u_1, u_2, u_3, u_4, u_5, u_7, u_8, u_10, u_11, u_15, u_60, u_100, u_255, u_999, u_1000, u_100000, u_4294967295] at hd10)
        refine g_aload_n (i := 0) dX8_skip_13 rfl rfl ?_
        refine g_aload_n (i := 0) dX8_skip_14 rfl rfl ?_
        refine g_get dX8_skip_15 fl_X8_149 (by repeat' (first | assumption | exact rF_eq | refine rF_ne (by decide) ?_ | refine rF_a ?_ | exact rA_eq | refine rA_ne (by decide) ?_ | refine rA_f ?_)) (by repeat' (first | assumption | exact rF_eq | refine rF_ne (by decide) ?_ | refine rF_a ?_ | exact rA_eq | refine rA_ne (by decide) ?_ | refine rA_f ?_)) ?_
        refine g_callV (M' := mX8_byteAt) dX8_skip_18 lc_X8_byteAt ml_X8_152 (c_byteAt hr2 hL (by omega)) rfl rfl (by repeat' (first | assumption | exact rF_eq | refine rF_ne (by decide) ?_ | refine rF_a ?_ | exact rA_eq | refine rA_ne (by decide) ?_ | refine rA_f ?_)) rfl ⟨Nat.le_of_ble_eq_true rfl, Nat.le_of_ble_eq_true rfl, Nat.le_of_ble_eq_true rfl, Nat.le_of_ble_eq_true rfl⟩ (Nat.le_of_ble_eq_true rfl) ?_
        intro r_ h_ q_; obtain ⟨q1_, q2_⟩ := q_; have q2_ := q2_.symm; subst q1_; subst q2_
        rw [byB_f (by omega)]
        refine g_bipush (v := 10) dX8_skip_21 (by decide) ?_
        refine g_icmp_ne (tgt := 39) dX8_skip_23 (by decide) (fun hc23 => ?_) (fun hc23 => ?_)
        · have hd23 := mt i_eq.mpr hc23; (try simp (disch := omega) only [nT, t_m1000100, t_m1000010, t_m1000003, t_m1000002, t_m1000001, t_m1000000, t_m65535, t_m1000, t_m3, t_m1, t_0, t_1, t_2, t_3, t_4, t_5, t_6, t_7, t_8, t_9, t_10, t_11, t_12, t_13, t_15, t_16, t_20, t_21, t_22, t_32, t_40, t_41, t_48, t_49, t_57, t_59, t_60, t_63, t_72, t_76, t_88, t_100, t_144, t_200, t_255, t_288, t_400, t_800, t_999, t_1000, t_1024, t_1200, t_1600, t_3200, t_100000, t_200000, t_252645135, t_858993459, t_1431655765, u_m1000002, u_m1000001, u_m1000, u_m3, u_m1, u_0, u_1, u_2, u_3, u_4, u_5, u_7, u_8, u_10, u_11, u_15, u_60, u_100, u_255, u_999, u_1000, u_100000, u_4294967295] at hd23)
          refine g_vret dX8_skip_39 rfl (hQ _ _ ?_)
          exact ⟨rfl, rfl⟩
        · have hd23 := i_eq.mp hc23; (try simp (disch := omega) only [nT, t_m1000100, t_m1000010, t_m1000003, t_m1000002, t_m1000001, t_m1000000, t_m65535, t_m1000, t_m3, t_m1, t_0, t_1, t_2, t_3, t_4, t_5, t_6, t_7, t_8, t_9, t_10, t_11, t_12, t_13, t_15, t_16, t_20, t_21, t_22, t_32, t_40, t_41, t_48, t_49, t_57, t_59, t_60, t_63, t_72, t_76, t_88, t_100, t_144, t_200, t_255, t_288, t_400, t_800, t_999, t_1000, t_1024, t_1200, t_1600, t_3200, t_100000, t_200000, t_252645135, t_858993459, t_1431655765, u_m1000002, u_m1000001, u_m1000, u_m3, u_m1, u_0, u_1, u_2, u_3, u_4, u_5, u_7, u_8, u_10, u_11, u_15, u_60, u_100, u_255, u_999, u_1000, u_100000, u_4294967295] at hd23); exact absurd hc23 (by decide)
    | succ m ih =>
      intro k hk he
      have hr2 := rm_at hr k
      obtain ⟨r1, r2, r3, r4, r5, -⟩ := id hr2
      refine g_aload_n (i := 0) dX8_skip_0 rfl rfl ?_
      refine g_aload_n (i := 0) dX8_skip_1 rfl rfl ?_
      refine g_get dX8_skip_2 fl_X8_149 (by repeat' (first | assumption | exact rF_eq | refine rF_ne (by decide) ?_ | refine rF_a ?_ | exact rA_eq | refine rA_ne (by decide) ?_ | refine rA_f ?_)) (by repeat' (first | assumption | exact rF_eq | refine rF_ne (by decide) ?_ | refine rF_a ?_ | exact rA_eq | refine rA_ne (by decide) ?_ | refine rA_f ?_)) ?_
      refine g_callV (M' := mX8_byteAt) dX8_skip_5 lc_X8_byteAt ml_X8_152 (c_byteAt hr2 hL (by omega)) rfl rfl (by repeat' (first | assumption | exact rF_eq | refine rF_ne (by decide) ?_ | refine rF_a ?_ | exact rA_eq | refine rA_ne (by decide) ?_ | refine rA_f ?_)) rfl ⟨Nat.le_of_ble_eq_true rfl, Nat.le_of_ble_eq_true rfl, Nat.le_of_ble_eq_true rfl, Nat.le_of_ble_eq_true rfl⟩ (Nat.le_of_ble_eq_true rfl) ?_
      intro r_ h_ q_; obtain ⟨q1_, q2_⟩ := q_; have q2_ := q2_.symm; subst q1_; subst q2_
      rw [byB_t (by omega)]
      refine g_bipush (v := 32) dX8_skip_8 (by decide) ?_
      refine g_icmp_eq (tgt := 26) dX8_skip_10 (by decide) (fun hc10 => ?_) (fun hc10 => ?_)
      · have hd10 := i_eq.mp hc10; (try simp (disch := omega) only [nT, t_m1000100, t_m1000010, t_m1000003, t_m1000002, t_m1000001, t_m1000000, t_m65535, t_m1000, t_m3, t_m1, t_0, t_1, t_2, t_3, t_4, t_5, t_6, t_7, t_8, t_9, t_10, t_11, t_12, t_13, t_15, t_16, t_20, t_21, t_22, t_32, t_40, t_41, t_48, t_49, t_57, t_59, t_60, t_63, t_72, t_76, t_88, t_100, t_144, t_200, t_255, t_288, t_400, t_800, t_999, t_1000, t_1024, t_1200, t_1600, t_3200, t_100000, t_200000, t_252645135, t_858993459, t_1431655765, u_m1000002, u_m1000001, u_m1000, u_m3, u_m1, u_0, u_1, u_2, u_3, u_4, u_5, u_7, u_8, u_10, u_11, u_15, u_60, u_100, u_255, u_999, u_1000, u_100000, u_4294967295] at hd10)
        refine g_aload_n (i := 0) dX8_skip_26 rfl rfl ?_
        refine g_dup dX8_skip_27 rfl ?_
        refine g_get dX8_skip_28 fl_X8_149 (by repeat' (first | assumption | exact rF_eq | refine rF_ne (by decide) ?_ | refine rF_a ?_ | exact rA_eq | refine rA_ne (by decide) ?_ | refine rA_f ?_)) (by repeat' (first | assumption | exact rF_eq | refine rF_ne (by decide) ?_ | refine rF_a ?_ | exact rA_eq | refine rA_ne (by decide) ?_ | refine rA_f ?_)) ?_
        refine g_iconst (v := 1) dX8_skip_31 (by decide) ?_
        refine g_iadd dX8_skip_32 ?_
        rw [ni_inc]
        refine g_put dX8_skip_33 pl_X8_149 (by repeat' (first | assumption | exact rF_eq | refine rF_ne (by decide) ?_ | refine rF_a ?_ | exact rA_eq | refine rA_ne (by decide) ?_ | refine rA_f ?_)) (fun _ => ⟨rfl, rfl⟩) ?_
        refine g_goto (tgt := 0) dX8_skip_36 (by decide) ?_
        rw [sF_sF]
        rw [fwd_t (by omega) (isBl_t.mpr (by omega))] at he
        exact ih (k + 1) (by omega) he
      · have hd10 := mt i_eq.mpr hc10; (try simp (disch := omega) only [nT, t_m1000100, t_m1000010, t_m1000003, t_m1000002, t_m1000001, t_m1000000, t_m65535, t_m1000, t_m3, t_m1, t_0, t_1, t_2, t_3, t_4, t_5, t_6, t_7, t_8, t_9, t_10, t_11, t_12, t_13, t_15, t_16, t_20, t_21, t_22, t_32, t_40, t_41, t_48, t_49, t_57, t_59, t_60, t_63, t_72, t_76, t_88, t_100, t_144, t_200, t_255, t_288, t_400, t_800, t_999, t_1000, t_1024, t_1200, t_1600, t_3200, t_100000, t_200000, t_252645135, t_858993459, t_1431655765, u_m1000002, u_m1000001, u_m1000, u_m3, u_m1, u_0, u_1, u_2, u_3, u_4, u_5, u_7, u_8, u_10, u_11, u_15, u_60, u_100, u_255, u_999, u_1000, u_100000, u_4294967295] at hd10)
        refine g_aload_n (i := 0) dX8_skip_13 rfl rfl ?_
        refine g_aload_n (i := 0) dX8_skip_14 rfl rfl ?_
        refine g_get dX8_skip_15 fl_X8_149 (by repeat' (first | assumption | exact rF_eq | refine rF_ne (by decide) ?_ | refine rF_a ?_ | exact rA_eq | refine rA_ne (by decide) ?_ | refine rA_f ?_)) (by repeat' (first | assumption | exact rF_eq | refine rF_ne (by decide) ?_ | refine rF_a ?_ | exact rA_eq | refine rA_ne (by decide) ?_ | refine rA_f ?_)) ?_
        refine g_callV (M' := mX8_byteAt) dX8_skip_18 lc_X8_byteAt ml_X8_152 (c_byteAt hr2 hL (by omega)) rfl rfl (by repeat' (first | assumption | exact rF_eq | refine rF_ne (by decide) ?_ | refine rF_a ?_ | exact rA_eq | refine rA_ne (by decide) ?_ | refine rA_f ?_)) rfl ⟨Nat.le_of_ble_eq_true rfl, Nat.le_of_ble_eq_true rfl, Nat.le_of_ble_eq_true rfl, Nat.le_of_ble_eq_true rfl⟩ (Nat.le_of_ble_eq_true rfl) ?_
        intro r_ h_ q_; obtain ⟨q1_, q2_⟩ := q_; have q2_ := q2_.symm; subst q1_; subst q2_
        rw [byB_t (by omega)]
        refine g_bipush (v := 10) dX8_skip_21 (by decide) ?_
        refine g_icmp_ne (tgt := 39) dX8_skip_23 (by decide) (fun hc23 => ?_) (fun hc23 => ?_)
        · have hd23 := mt i_eq.mpr hc23; (try simp (disch := omega) only [nT, t_m1000100, t_m1000010, t_m1000003, t_m1000002, t_m1000001, t_m1000000, t_m65535, t_m1000, t_m3, t_m1, t_0, t_1, t_2, t_3, t_4, t_5, t_6, t_7, t_8, t_9, t_10, t_11, t_12, t_13, t_15, t_16, t_20, t_21, t_22, t_32, t_40, t_41, t_48, t_49, t_57, t_59, t_60, t_63, t_72, t_76, t_88, t_100, t_144, t_200, t_255, t_288, t_400, t_800, t_999, t_1000, t_1024, t_1200, t_1600, t_3200, t_100000, t_200000, t_252645135, t_858993459, t_1431655765, u_m1000002, u_m1000001, u_m1000, u_m3, u_m1, u_0, u_1, u_2, u_3, u_4, u_5, u_7, u_8, u_10, u_11, u_15, u_60, u_100, u_255, u_999, u_1000, u_100000, u_4294967295] at hd23)
          rw [fwd_f (fun q => by have := isBl_t.mp q; omega)] at he
          subst he
          refine g_vret dX8_skip_39 rfl (hQ _ _ ?_)
          exact ⟨rfl, rfl⟩
        · have hd23 := i_eq.mp hc23; (try simp (disch := omega) only [nT, t_m1000100, t_m1000010, t_m1000003, t_m1000002, t_m1000001, t_m1000000, t_m65535, t_m1000, t_m3, t_m1, t_0, t_1, t_2, t_3, t_4, t_5, t_6, t_7, t_8, t_9, t_10, t_11, t_12, t_13, t_15, t_16, t_20, t_21, t_22, t_32, t_40, t_41, t_48, t_49, t_57, t_59, t_60, t_63, t_72, t_76, t_88, t_100, t_144, t_200, t_255, t_288, t_400, t_800, t_999, t_1000, t_1024, t_1200, t_1600, t_3200, t_100000, t_200000, t_252645135, t_858993459, t_1431655765, u_m1000002, u_m1000001, u_m1000, u_m3, u_m1, u_0, u_1, u_2, u_3, u_4, u_5, u_7, u_8, u_10, u_11, u_15, u_60, u_100, u_255, u_999, u_1000, u_100000, u_4294967295] at hd23)
          refine g_aload_n (i := 0) dX8_skip_26 rfl rfl ?_
          refine g_dup dX8_skip_27 rfl ?_
          refine g_get dX8_skip_28 fl_X8_149 (by repeat' (first | assumption | exact rF_eq | refine rF_ne (by decide) ?_ | refine rF_a ?_ | exact rA_eq | refine rA_ne (by decide) ?_ | refine rA_f ?_)) (by repeat' (first | assumption | exact rF_eq | refine rF_ne (by decide) ?_ | refine rF_a ?_ | exact rA_eq | refine rA_ne (by decide) ?_ | refine rA_f ?_)) ?_
          refine g_iconst (v := 1) dX8_skip_31 (by decide) ?_
          refine g_iadd dX8_skip_32 ?_
          rw [ni_inc]
          refine g_put dX8_skip_33 pl_X8_149 (by repeat' (first | assumption | exact rF_eq | refine rF_ne (by decide) ?_ | refine rF_a ?_ | exact rA_eq | refine rA_ne (by decide) ?_ | refine rA_f ?_)) (fun _ => ⟨rfl, rfl⟩) ?_
          refine g_goto (tgt := 0) dX8_skip_36 (by decide) ?_
          rw [sF_sF]
          rw [fwd_t (by omega) (isBl_t.mpr (by omega))] at he
          exact ih (k + 1) (by omega) he
  have h9 := hr.2.2.2.1
  rw [← sF_self h9]
  exact key (L - p) p (by omega) hz
theorem c_bad (h0 : gA h 44 = aO 8) (h10 : gF h 44 10 = .int 0) (f q : Int32) : CT mX8_bad 0 0 0 [.ref 44, .int f, .int q] h (fun r h' => r = none ∧ h' = sF (sF h 44 10 (.int f)) 44 11 (.int q)) := by
  refine CT.go [.ref 44, .int f, .int q] (by decide +kernel) rfl rfl (fun Q' hQ => ?_)
  refine g_aload_n (i := 0) dX8_bad_0 rfl rfl ?_
  refine g_get dX8_bad_1 fl_X8_143 (by repeat' (first | assumption | exact rF_eq | refine rF_ne (by decide) ?_ | refine rF_a ?_ | exact rA_eq | refine rA_ne (by decide) ?_ | refine rA_f ?_)) (by repeat' (first | assumption | exact rF_eq | refine rF_ne (by decide) ?_ | refine rF_a ?_ | exact rA_eq | refine rA_ne (by decide) ?_ | refine rA_f ?_)) ?_
  refine g_if_ne (tgt := 17) dX8_bad_4 (by decide) (fun hc4 => ?_) (fun hc4 => ?_)
  · have hd4 := mt i_eq.mpr hc4; (try simp (disch := omega) only [nT, t_m1000100, t_m1000010, t_m1000003, t_m1000002, t_m1000001, t_m1000000, t_m65535, t_m1000, t_m3, t_m1, t_0, t_1, t_2, t_3, t_4, t_5, t_6, t_7, t_8, t_9, t_10, t_11, t_12, t_13, t_15, t_16, t_20, t_21, t_22, t_32, t_40, t_41, t_48, t_49, t_57, t_59, t_60, t_63, t_72, t_76, t_88, t_100, t_144, t_200, t_255, t_288, t_400, t_800, t_999, t_1000, t_1024, t_1200, t_1600, t_3200, t_100000, t_200000, t_252645135, t_858993459, t_1431655765, u_m1000002, u_m1000001, u_m1000, u_m3, u_m1, u_0, u_1, u_2, u_3, u_4, u_5, u_7, u_8, u_10, u_11, u_15, u_60, u_100, u_255, u_999, u_1000, u_100000, u_4294967295] at hd4); exact absurd rfl hc4
  · have hd4 := i_eq.mp hc4; (try simp (disch := omega) only [nT, t_m1000100, t_m1000010, t_m1000003, t_m1000002, t_m1000001, t_m1000000, t_m65535, t_m1000, t_m3, t_m1, t_0, t_1, t_2, t_3, t_4, t_5, t_6, t_7, t_8, t_9, t_10, t_11, t_12, t_13, t_15, t_16, t_20, t_21, t_22, t_32, t_40, t_41, t_48, t_49, t_57, t_59, t_60, t_63, t_72, t_76, t_88, t_100, t_144, t_200, t_255, t_288, t_400, t_800, t_999, t_1000, t_1024, t_1200, t_1600, t_3200, t_100000, t_200000, t_252645135, t_858993459, t_1431655765, u_m1000002, u_m1000001, u_m1000, u_m3, u_m1, u_0, u_1, u_2, u_3, u_4, u_5, u_7, u_8, u_10, u_11, u_15, u_60, u_100, u_255, u_999, u_1000, u_100000, u_4294967295] at hd4)
    refine g_aload_n (i := 0) dX8_bad_7 rfl rfl ?_
    refine g_iload_n (i := 1) dX8_bad_8 rfl rfl ?_
    refine g_put dX8_bad_9 pl_X8_143 (by repeat' (first | assumption | exact rF_eq | refine rF_ne (by decide) ?_ | refine rF_a ?_ | exact rA_eq | refine rA_ne (by decide) ?_ | refine rA_f ?_)) (fun _ => ⟨rfl, rfl⟩) ?_
    refine g_aload_n (i := 0) dX8_bad_12 rfl rfl ?_
    refine g_iload_n (i := 2) dX8_bad_13 rfl rfl ?_
    refine g_put dX8_bad_14 pl_X8_146 (by repeat' (first | assumption | exact rF_eq | refine rF_ne (by decide) ?_ | refine rF_a ?_ | exact rA_eq | refine rA_ne (by decide) ?_ | refine rA_f ?_)) (fun _ => ⟨rfl, rfl⟩) ?_
    refine g_vret dX8_bad_17 rfl (hQ _ _ ?_)
    exact ⟨rfl, rfl⟩
theorem pn_bad {t : Nat} (hr : RmX h L tp p fl d A op ot ins) (hL : L ≤ 400) (ho : OtM t A0 A) (f q : Nat) (h1 : 1 ≤ f) (h2 : f ≤ 4) (h3 : q ≤ L) : PrN t L tp A0 f q (sF (sF h 44 10 (.int (nI f))) 44 11 (.int (nI q))) := by
  obtain ⟨r1, r2, r3, r4, r5, r6, r7, r8, r9, r10, r11, r12, r13, r14, b⟩ := hr
  exact ⟨⟨h1, h2, h3, hL⟩, A, op, ot, ins, d, p, ⟨r1, r2, r3, r4, rfl, r6, r7, r8, r9, r10, r11, r12, r13, r14, b⟩, rfl, ho⟩
theorem rm_50 (hr : RmX h L tp p fl d A op ot ins) (x : Nat → Int32) : RmX (sA h 50 (aI 2 x)) L tp p fl d (A.1, x, A.2.2) op ot ins := by
  obtain ⟨r1, r2, r3, r4, r5, r6, r7, r8, r9, r10, r11, r12, r13, r14, b0, b1, b2, b3, b4, b5, b6, b7, b8⟩ := hr
  exact ⟨r1, r2, r3, r4, r5, r6, r7, r8, r9, r10, r11, r12, r13, r14, b0, b1, rfl, b3, b4, b5, b6, b7, b8⟩
end MRead
theorem ot_pins {t : Nat} {A0 A : AR} (ht : t < 2) (ho : OtM t A0 A) (x : Int32) : OtM t A0 (A.1, upd A.2.1 t x, A.2.2) := ot_tr ho ⟨rfl, upd_n (by omega), rfl, fun _ _ => rfl, fun _ _ => rfl⟩
/-- the signs of a new LINE -/
def sgL (tp sg : Nat → Int32) (b p n : Nat) : Nat → Int32 := fun i => if b ≤ i ∧ i < b + n then tp (p + (i - b)) else sg i
theorem sgL_0 (tp sg : Nat → Int32) (b p : Nat) : sgL tp sg b p 0 = sg := funext fun i => if_neg (by omega)
theorem sgL_s (tp sg : Nat → Int32) (b p n : Nat) : upd (sgL tp sg b p n) (b + n) (tp (p + n)) = sgL tp sg b p (n + 1) := by
  funext i
  unfold upd sgL
  by_cases h1 : i = b + n
  · subst h1
    rw [if_pos rfl, if_pos (by omega)]
    congr 1; omega
  · rw [if_neg h1]
    by_cases h2 : b ≤ i ∧ i < b + n
    · rw [if_pos h2, if_pos (by omega)]
    · rw [if_neg h2, if_neg (by omega)]
def loL (lo : Nat → Int32) (t c nl : Nat) : Nat → Int32 := if c < 100000 then upd lo (100000 * t + c) (nI nl) else lo
section InvMS
variable {L : Nat} {tp : Nat → Int32} {t : Nat} {A A0 : AR} {op ot ins : Nat → Int32} {d : Nat} {M : Nat → List Nat} {T : Nat → Nat} {nl pn p : Nat}
theorem invM_mono {p' : Nat} (h : InvM L tp t A op ot ins d M T nl pn p) (h1 : p ≤ p') (h2 : p' ≤ L) : InvM L tp t A op ot ins d M T nl pn p' := by
  obtain ⟨⟨a1, a2, a3, a4, a5, a6⟩, b⟩ := h
  exact ⟨⟨h2, a2, by omega, a4, a5, a6⟩, b⟩
theorem invM_line {e n : Nat} (h : InvM L tp t A op ot ins d M T nl pn p) (he : p < e) (hn : n = e - p) (hn8 : n ≤ 8) (heL : e < L) (hp : ¬ (0 < nl ∧ n ≠ pn)) (hc : ¬ 100000 < (M d).length + 1) :
    InvM L tp t (upd A.1 t (nI (nl + 1)), upd A.2.1 t (nI n), upd A.2.2.1 t (nI ((catM M (d + 1)).length + 1)), sgL tp A.2.2.2.1 (1600 * t + 8 * nl) p n, loL A.2.2.2.2 t (catM M (d + 1)).length nl) op ot (upd ins d (nI ((M d).length + 1))) d (up M d (M d ++ [p])) T (nl + 1) n (e + 1) := by
  obtain ⟨⟨a1, a2, a3, a4, a5, a6⟩, ⟨b1, b2, b3⟩, c1, c2, fr, f1, f2⟩ := h
  have hcat : catM (up M d (M d ++ [p])) (d + 1) = catM M (d + 1) ++ [p] := by
    show catM (up M d (M d ++ [p])) d ++ up M d (M d ++ [p]) d = (catM M d ++ M d) ++ [p]
    rw [cat_up d (Nat.le_refl d), up_s, List.append_assoc]
  refine ⟨⟨by omega, a2, by omega, a4, hn8, a6⟩, ⟨upd_s, upd_s, by rw [hcat, List.length_append]; exact upd_s⟩, ?_, ?_, up fr nl p, ?_, ?_⟩
  · intro j hj
    by_cases hjd : j = d
    · subst hjd
      rw [up_s, upd_s, List.length_append]
      exact ⟨rfl, by simp only [List.length_cons, List.length_nil]; omega⟩
    · rw [up_n hjd, upd_n hjd]; exact c1 j hj
  · intro j h1 h2
    rw [cat_up j h2]; exact c2 j h1 h2
  · intro l q hl hq
    show sgL tp A.2.2.2.1 (1600 * t + 8 * nl) p n (1600 * t + 8 * l + q) = _
    unfold sgL
    by_cases hl2 : l = nl
    · subst hl2
      rw [up_s, if_pos (by omega)]
      congr 1; omega
    · have hnp : n = pn := by
        by_cases z : n = pn
        · exact z
        · exact absurd ⟨by omega, z⟩ hp
      rw [up_n hl2, if_neg (by omega)]
      exact f1 l q (by omega) (by omega)
  · intro c q hcq hc1
    rw [hcat] at hcq
    show ∃ l, l < nl + 1 ∧ loL A.2.2.2.2 t (catM M (d + 1)).length nl (100000 * t + c) = nI l ∧ up fr nl p l = q
    by_cases hcl : c < (catM M (d + 1)).length
    · rw [List.getElem?_append_left hcl] at hcq
      obtain ⟨l, l1, l2, l3⟩ := f2 c q hcq hc1
      refine ⟨l, by omega, ?_, by rw [up_n (by omega)]; exact l3⟩
      unfold loL
      split
      · rw [upd_n (by omega)]; exact l2
      · exact l2
    · rw [List.getElem?_append_right (by omega)] at hcq
      have hlt := (List.getElem?_eq_some_iff.mp hcq).1
      rw [List.length_singleton] at hlt
      have hce : c = (catM M (d + 1)).length := by omega
      rw [hce, Nat.sub_self] at hcq
      refine ⟨nl, by omega, ?_, by rw [up_s]; simpa using hcq⟩
      unfold loL
      rw [if_pos (by omega), hce, upd_s]
theorem ot_line {n : Nat} (ho : OtM t A0 A) (ht : t < 2) (hn8 : n ≤ 8) (hnl : nl < 200) (c : Nat) (x y z : Int32) : OtM t A0 (upd A.1 t x, upd A.2.1 t y, upd A.2.2.1 t z, sgL tp A.2.2.2.1 (1600 * t + 8 * nl) p n, loL A.2.2.2.2 t c nl) := by
  refine ot_tr ho ⟨upd_n (by omega), upd_n (by omega), upd_n (by omega), fun i hi => ?_, fun i hi => ?_⟩
  · show sgL tp A.2.2.2.1 (1600 * t + 8 * nl) p n _ = _
    unfold sgL
    rw [if_neg (by omega)]
  · show loL A.2.2.2.2 t c nl _ = _
    unfold loL
    split
    · rw [upd_n (by omega)]
    · rfl
theorem invM_open {e k : Nat} (h : InvM L tp t A op ot ins d M T nl pn p) (he : p < e) (heL : e ≤ L) (hd : d < 6) (hk : 1 ≤ k) (hk2 : k ≤ 999) :
    InvM L tp t A (upd op (d + 1) (nI (catM M (d + 1)).length)) (upd ot (d + 1) (nI k)) (upd ins (d + 1) 0) (d + 1) (up M (d + 1) []) (up T (d + 1) k) nl pn e := by
  obtain ⟨⟨a1, a2, a3, a4, a5, a6⟩, ⟨b1, b2, b3⟩, c1, c2, fr, f1, f2⟩ := h
  have hcat : catM (up M (d + 1) []) (d + 1 + 1) = catM M (d + 1) := by
    show catM (up M (d + 1) []) (d + 1) ++ up M (d + 1) [] (d + 1) = _
    rw [cat_up (d + 1) (Nat.le_refl _), up_s, List.append_nil]
  refine ⟨⟨heL, a2, by omega, by omega, a5, a6⟩, ⟨b1, b2, by rw [hcat]; exact b3⟩, ?_, ?_, fr, f1, by rw [hcat]; exact f2⟩
  · intro j hj
    by_cases hjd : j = d + 1
    · subst hjd
      rw [up_s, upd_s]
      exact ⟨rfl, by simp⟩
    · rw [up_n hjd, upd_n hjd]; exact c1 j (by omega)
  · intro j h1 h2
    rw [cat_up j h2]
    by_cases hjd : j = d + 1
    · subst hjd
      rw [up_s, upd_s, upd_s]
      exact ⟨rfl, rfl, hk, hk2⟩
    · rw [up_n hjd, upd_n hjd, upd_n hjd]; exact c2 j h1 (by omega)
/-- a loop ends: lo holds what it is to hold as far as it goes -/
theorem invM_close {lo cs : Nat → Int32} {fr : Nat → Nat} (h : InvM L tp t A op ot ins (d + 1) M T nl pn p) (hpL : p < L) (hov : ¬ 100000 < (M d).length + T (d + 1) * (M (d + 1)).length)
    (hcs : cs t = nI ((catM M (d + 1)).length + T (d + 1) * (M (d + 1)).length))
    (f1 : ∀ l q, l < nl → q < pn → A.2.2.2.1 (1600 * t + 8 * l + q) = tp (fr l + q))
    (f2 : ∀ c q, (catM M (d + 1) ++ repL (T (d + 1)) (M (d + 1)))[c]? = some q → c < 100000 → ∃ l, l < nl ∧ lo (100000 * t + c) = nI l ∧ fr l = q) :
    InvM L tp t (A.1, A.2.1, cs, A.2.2.2.1, lo) op ot (upd ins d (nI ((M d).length + T (d + 1) * (M (d + 1)).length))) d (up M d (M d ++ repL (T (d + 1)) (M (d + 1)))) T nl pn (p + 1) := by
  obtain ⟨⟨a1, a2, a3, a4, a5, a6⟩, ⟨b1, b2, b3⟩, c1, c2, -⟩ := h
  have hcat : catM (up M d (M d ++ repL (T (d + 1)) (M (d + 1)))) (d + 1) = catM M (d + 1) ++ repL (T (d + 1)) (M (d + 1)) := by
    show catM (up M d (M d ++ repL (T (d + 1)) (M (d + 1)))) d ++ up M d (M d ++ repL (T (d + 1)) (M (d + 1))) d = (catM M d ++ M d) ++ repL (T (d + 1)) (M (d + 1))
    rw [cat_up d (Nat.le_refl d), up_s, List.append_assoc]
  refine ⟨⟨by omega, a2, by omega, by omega, a5, a6⟩, ⟨b1, b2, ?_⟩, ?_, ?_, fr, f1, by rw [hcat]; exact f2⟩
  · show cs t = _
    rw [hcs, hcat, List.length_append, repL_len]
  · intro j hj
    by_cases hjd : j = d
    · subst hjd
      rw [up_s, upd_s, List.length_append, repL_len]
      exact ⟨rfl, by omega⟩
    · rw [up_n hjd, upd_n hjd]; exact c1 j (by omega)
  · intro j h1 h2
    rw [cat_up j h2]; exact c2 j h1 (by omega)
end InvMS
