/-! the tape -/
abbrev TP : Type := Nat × (Nat → Int32)
def byt (x : Int64) (k : Nat) : Int32 := (x >>> ((8 * nI k).toInt64 &&& 63)).toInt32 &&& 255
def fdt (tp : Nat → Int32) (len : Nat) (x : Int64) (n i : Nat) : Nat → Int32 := fun j => if len ≤ j ∧ j < len + i then byt x (n - 1 - (j - len)) else tp j
def opFeed (w : TP) (x : Int64) (n : Int32) : Int32 × TP :=
  if n.toInt < 1 ∨ 8 < n.toInt then (-1000001, w)
  else if 400 < (w.1 : Int) + n.toInt then (-1000003, w)
  else (nI (w.1 + n.toInt.toNat), w.1 + n.toInt.toNat, fdt w.2 w.1 x n.toInt.toNat n.toInt.toNat)
theorem fdt_0 (tp : Nat → Int32) (len : Nat) (x : Int64) (n : Nat) : fdt tp len x n 0 = tp := by
  funext j; unfold fdt; rw [if_neg (by omega)]
theorem fdt_s (tp : Nat → Int32) (len : Nat) (x : Int64) (n i : Nat) : upd (fdt tp len x n i) (len + i) (byt x (n - 1 - i)) = fdt tp len x n (i + 1) := by
  funext j
  unfold upd fdt
  by_cases h1 : j = len + i
  · rw [if_pos h1, if_pos ⟨by omega, by omega⟩]; congr 1; omega
  · rw [if_neg h1]
    by_cases h2 : len ≤ j ∧ j < len + i
    · rw [if_pos h2, if_pos ⟨by omega, by omega⟩]
    · rw [if_neg h2, if_neg (by omega)]
def GPX (w : TP) (h : HH) : Prop := gA h 0 = aO 7 ∧ gF h 0 2 = .ref 5 ∧ gF h 0 3 = .int (nI w.1) ∧ gA h 5 = aI 400 w.2
def GPM (w : TP) (h : HH) : Prop := gA h 44 = aO 8 ∧ gF h 44 5 = .ref 48 ∧ gF h 44 6 = .int (nI w.1) ∧ gA h 48 = aI 400 w.2
theorem n_m1 (m : Nat) : nI (m + 1) - 1 = nI m := nI_pred m
theorem n_dec (m : Nat) : nI m + Int32.ofInt (-1) = nI m - 1 := by
  rw [show Int32.ofInt (-1) = -1 from rfl, ← Int32.sub_eq_add_neg]
theorem nm1T {m : Nat} (h : m < 2147483648) : (nI m - 1).toInt = (m : Int) - 1 := by
  rw [i_sub1 (by rw [nT h]; omega), nT h]
theorem byt_m (x : Int64) (k : Nat) : ((x >>> ((8 * nI k).toInt64 &&& 63)) &&& 255).toInt32 = byt x k := by
  unfold byt
  rw [Int64.toInt32_and]; rfl
theorem x_feed {w : TP} (hw : w.1 ≤ 400) {h : HH} (hg : GPX w h) (x : Int64) (n : Int32) : CT mX7_feed 0 0 0 [.ref 0, .long x, .int n] h (fun r h' => r = some (.int (opFeed w x n).1) ∧ GPX (opFeed w x n).2 h' ∧ Fr [5] [(0, 3)] h h') := by
  obtain ⟨len, tp⟩ := w
  have hg0 := hg
  obtain ⟨e1, e2, e3, e4⟩ := hg
  dsimp only at e3 e4 hw
  refine CT.go [.ref 0, .long x, hU, .int n, hU] (by decide +kernel) rfl rfl (fun Q' hQ => ?_)
  have key : ∀ N : Nat, 1 ≤ N → N ≤ 8 → len + N ≤ 400 → n = nI N → ∀ m i : Nat, i + m = N → GG (EM mX7_feed 0 0 0 Q') 0 0 34 [.ref 0, .long x, hU, .int n, .int (nI m - 1)] [] (sA (sF h 0 3 (.int (nI (len + i)))) 5 (aI 400 (fdt tp len x N i))) := by
    intro N hN1 hN8 hN4 hn m
    have e : opFeed (len, tp) x n = _ := (if_neg (by rw [hn, nT (by omega)]; omega)).trans (if_neg (by rw [hn, nT (by omega)]; dsimp only; omega))
    rw [hn, nTN (by omega)] at e
    induction m with
    | zero =>
      intro i hi
      obtain rfl : i = N := by omega
      refine g_iload dX7_feed_34 rfl ?_
      refine g_if_lt (tgt := 76) dX7_feed_36 (by decide) (fun hc36 => ?_) (fun hc36 => ?_)
      · (try simp (disch := omega) only [nT, t_m1000100, t_m1000010, t_m1000003, t_m1000002, t_m1000001, t_m1000000, t_m65535, t_m1000, t_m3, t_m1, t_0, t_1, t_2, t_3, t_4, t_5, t_6, t_7, t_8, t_9, t_10, t_11, t_12, t_13, t_15, t_16, t_20, t_21, t_22, t_32, t_40, t_41, t_48, t_49, t_57, t_59, t_60, t_63, t_72, t_76, t_88, t_100, t_144, t_200, t_255, t_288, t_400, t_800, t_999, t_1000, t_1024, t_1200, t_1600, t_3200, t_100000, t_200000, t_252645135, t_858993459, t_1431655765, u_m1000002, u_m1000001, u_m1000, u_m3, u_m1, u_0, u_1, u_2, u_3, u_4, u_5, u_7, u_8, u_10, u_11, u_15, u_60, u_100, u_255, u_999, u_1000, u_100000, u_4294967295] at hc36)
        refine g_aload_n (i := 0) dX7_feed_76 rfl rfl ?_
        refine g_get dX7_feed_77 fl_X7_24 (by repeat' (first | assumption | exact rF_eq | refine rF_ne (by decide) ?_ | refine rF_a ?_ | exact rA_eq | refine rA_ne (by decide) ?_ | refine rA_f ?_)) (by repeat' (first | assumption | exact rF_eq | refine rF_ne (by decide) ?_ | refine rF_a ?_ | exact rA_eq | refine rA_ne (by decide) ?_ | refine rA_f ?_)) ?_
        refine g_iret dX7_feed_80 rfl (rfl) (hQ _ _ ?_)
        rw [hn, e]; exact ⟨rfl, ⟨e1, e2, rfl, rfl⟩, fr_sA (by decide) (fr_sF (by decide) fr_rf)⟩
      · (try simp (disch := omega) only [nT, t_m1000100, t_m1000010, t_m1000003, t_m1000002, t_m1000001, t_m1000000, t_m65535, t_m1000, t_m3, t_m1, t_0, t_1, t_2, t_3, t_4, t_5, t_6, t_7, t_8, t_9, t_10, t_11, t_12, t_13, t_15, t_16, t_20, t_21, t_22, t_32, t_40, t_41, t_48, t_49, t_57, t_59, t_60, t_63, t_72, t_76, t_88, t_100, t_144, t_200, t_255, t_288, t_400, t_800, t_999, t_1000, t_1024, t_1200, t_1600, t_3200, t_100000, t_200000, t_252645135, t_858993459, t_1431655765, u_m1000002, u_m1000001, u_m1000, u_m3, u_m1, u_0, u_1, u_2, u_3, u_4, u_5, u_7, u_8, u_10, u_11, u_15, u_60, u_100, u_255, u_999, u_1000, u_100000, u_4294967295] at hc36); rw [nm1T (by omega)] at hc36; omega
    | succ m ih =>
      intro i hi
      rw [n_m1]
      refine g_iload dX7_feed_34 rfl ?_
      refine g_if_lt (tgt := 76) dX7_feed_36 (by decide) (fun hc36 => ?_) (fun hc36 => ?_)
      · (try simp (disch := omega) only [nT, t_m1000100, t_m1000010, t_m1000003, t_m1000002, t_m1000001, t_m1000000, t_m65535, t_m1000, t_m3, t_m1, t_0, t_1, t_2, t_3, t_4, t_5, t_6, t_7, t_8, t_9, t_10, t_11, t_12, t_13, t_15, t_16, t_20, t_21, t_22, t_32, t_40, t_41, t_48, t_49, t_57, t_59, t_60, t_63, t_72, t_76, t_88, t_100, t_144, t_200, t_255, t_288, t_400, t_800, t_999, t_1000, t_1024, t_1200, t_1600, t_3200, t_100000, t_200000, t_252645135, t_858993459, t_1431655765, u_m1000002, u_m1000001, u_m1000, u_m3, u_m1, u_0, u_1, u_2, u_3, u_4, u_5, u_7, u_8, u_10, u_11, u_15, u_60, u_100, u_255, u_999, u_1000, u_100000, u_4294967295] at hc36); omega
      · (try simp (disch := omega) only [nT, t_m1000100, t_m1000010, t_m1000003, t_m1000002, t_m1000001, t_m1000000, t_m65535, t_m1000, t_m3, t_m1, t_0, t_1, t_2, t_3, t_4, t_5, t_6, t_7, t_8, t_9, t_10, t_11, t_12, t_13, t_15, t_16, t_20, t_21, t_22, t_32, t_40, t_41, t_48, t_49, t_57, t_59, t_60, t_63, t_72, t_76, t_88, t_100, t_144, t_200, t_255, t_288, t_400, t_800, t_999, t_1000, t_1024, t_1200, t_1600, t_3200, t_100000, t_200000, t_252645135, t_858993459, t_1431655765, u_m1000002, u_m1000001, u_m1000, u_m3, u_m1, u_0, u_1, u_2, u_3, u_4, u_5, u_7, u_8, u_10, u_11, u_15, u_60, u_100, u_255, u_999, u_1000, u_100000, u_4294967295] at hc36)
        refine g_aload_n (i := 0) dX7_feed_39 rfl rfl ?_
        refine g_get dX7_feed_40 fl_X7_20 (by repeat' (first | assumption | exact rF_eq | refine rF_ne (by decide) ?_ | refine rF_a ?_ | exact rA_eq | refine rA_ne (by decide) ?_ | refine rA_f ?_)) (by repeat' (first | assumption | exact rF_eq | refine rF_ne (by decide) ?_ | refine rF_a ?_ | exact rA_eq | refine rA_ne (by decide) ?_ | refine rA_f ?_)) ?_
        refine g_aload_n (i := 0) dX7_feed_43 rfl rfl ?_
        refine g_get dX7_feed_44 fl_X7_24 (by repeat' (first | assumption | exact rF_eq | refine rF_ne (by decide) ?_ | refine rF_a ?_ | exact rA_eq | refine rA_ne (by decide) ?_ | refine rA_f ?_)) (by repeat' (first | assumption | exact rF_eq | refine rF_ne (by decide) ?_ | refine rF_a ?_ | exact rA_eq | refine rA_ne (by decide) ?_ | refine rA_f ?_)) ?_
        refine g_lload_n (i := 1) dX7_feed_47 rfl rfl ?_
        refine g_bipush (v := 8) dX7_feed_48 (by decide) ?_
        refine g_iload dX7_feed_50 rfl ?_
        refine g_imul dX7_feed_52 ?_
        refine g_lshr dX7_feed_53 ?_
        refine g_l2i dX7_feed_54 ?_
        refine g_sipush (v := 255) dX7_feed_55 (by decide) ?_
        refine g_iand dX7_feed_58 ?_
        refine g_iast dX7_feed_59 (by repeat' (first | assumption | exact rF_eq | refine rF_ne (by decide) ?_ | refine rF_a ?_ | exact rA_eq | refine rA_ne (by decide) ?_ | refine rA_f ?_)) (nT (by omega)) (by omega) ?_
        refine g_aload_n (i := 0) dX7_feed_60 rfl rfl ?_
        refine g_dup dX7_feed_61 rfl ?_
        refine g_get dX7_feed_62 fl_X7_24 (by repeat' (first | assumption | exact rF_eq | refine rF_ne (by decide) ?_ | refine rF_a ?_ | exact rA_eq | refine rA_ne (by decide) ?_ | refine rA_f ?_)) (by repeat' (first | assumption | exact rF_eq | refine rF_ne (by decide) ?_ | refine rF_a ?_ | exact rA_eq | refine rA_ne (by decide) ?_ | refine rA_f ?_)) ?_
        refine g_iconst (v := 1) dX7_feed_65 (by decide) ?_
        refine g_iadd dX7_feed_66 ?_
        refine g_put dX7_feed_67 pl_X7_24 (by repeat' (first | assumption | exact rF_eq | refine rF_ne (by decide) ?_ | refine rF_a ?_ | exact rA_eq | refine rA_ne (by decide) ?_ | refine rA_f ?_)) (fun _ => ⟨rfl, rfl⟩) ?_
        refine g_iinc dX7_feed_70 rfl (Nat.le_of_ble_eq_true rfl) rfl ?_
        refine g_goto (tgt := 34) dX7_feed_73 (by decide) ?_
        rw [sF_sA, sF_sA, sA_sA, sF_sF, ni_inc, n_dec]
        have ih1 := ih (i + 1) (by omega)
        rw [← fdt_s, show N - 1 - i = m by omega] at ih1
        exact ih1
  refine g_iload_n (i := 3) dX7_feed_0 rfl rfl ?_
  refine g_iconst (v := 1) dX7_feed_1 (by decide) ?_
  refine g_icmp_lt (tgt := 11) dX7_feed_2 (by decide) (fun hc2 => ?_) (fun hc2 => ?_)
  · (try simp (disch := omega) only [nT, t_m1000100, t_m1000010, t_m1000003, t_m1000002, t_m1000001, t_m1000000, t_m65535, t_m1000, t_m3, t_m1, t_0, t_1, t_2, t_3, t_4, t_5, t_6, t_7, t_8, t_9, t_10, t_11, t_12, t_13, t_15, t_16, t_20, t_21, t_22, t_32, t_40, t_41, t_48, t_49, t_57, t_59, t_60, t_63, t_72, t_76, t_88, t_100, t_144, t_200, t_255, t_288, t_400, t_800, t_999, t_1000, t_1024, t_1200, t_1600, t_3200, t_100000, t_200000, t_252645135, t_858993459, t_1431655765, u_m1000002, u_m1000001, u_m1000, u_m3, u_m1, u_0, u_1, u_2, u_3, u_4, u_5, u_7, u_8, u_10, u_11, u_15, u_60, u_100, u_255, u_999, u_1000, u_100000, u_4294967295] at hc2)
    refine g_ldc dX7_feed_11 kc_X7_94 ?_
    refine g_iret dX7_feed_13 rfl (rfl) (hQ _ _ ?_)
    have e : opFeed (len, tp) x n = _ := if_pos (by omega)
    rw [e]; exact ⟨rfl, hg0, fr_rf⟩
  · (try simp (disch := omega) only [nT, t_m1000100, t_m1000010, t_m1000003, t_m1000002, t_m1000001, t_m1000000, t_m65535, t_m1000, t_m3, t_m1, t_0, t_1, t_2, t_3, t_4, t_5, t_6, t_7, t_8, t_9, t_10, t_11, t_12, t_13, t_15, t_16, t_20, t_21, t_22, t_32, t_40, t_41, t_48, t_49, t_57, t_59, t_60, t_63, t_72, t_76, t_88, t_100, t_144, t_200, t_255, t_288, t_400, t_800, t_999, t_1000, t_1024, t_1200, t_1600, t_3200, t_100000, t_200000, t_252645135, t_858993459, t_1431655765, u_m1000002, u_m1000001, u_m1000, u_m3, u_m1, u_0, u_1, u_2, u_3, u_4, u_5, u_7, u_8, u_10, u_11, u_15, u_60, u_100, u_255, u_999, u_1000, u_100000, u_4294967295] at hc2)
    refine g_iload_n (i := 3) dX7_feed_5 rfl rfl ?_
    refine g_bipush (v := 8) dX7_feed_6 (by decide) ?_
    refine g_icmp_le (tgt := 14) dX7_feed_8 (by decide) (fun hc8 => ?_) (fun hc8 => ?_)
    · (try simp (disch := omega) only [nT, t_m1000100, t_m1000010, t_m1000003, t_m1000002, t_m1000001, t_m1000000, t_m65535, t_m1000, t_m3, t_m1, t_0, t_1, t_2, t_3, t_4, t_5, t_6, t_7, t_8, t_9, t_10, t_11, t_12, t_13, t_15, t_16, t_20, t_21, t_22, t_32, t_40, t_41, t_48, t_49, t_57, t_59, t_60, t_63, t_72, t_76, t_88, t_100, t_144, t_200, t_255, t_288, t_400, t_800, t_999, t_1000, t_1024, t_1200, t_1600, t_3200, t_100000, t_200000, t_252645135, t_858993459, t_1431655765, u_m1000002, u_m1000001, u_m1000, u_m3, u_m1, u_0, u_1, u_2, u_3, u_4, u_5, u_7, u_8, u_10, u_11, u_15, u_60, u_100, u_255, u_999, u_1000, u_100000, u_4294967295] at hc8)
      refine g_aload_n (i := 0) dX7_feed_14 rfl rfl ?_
      refine g_get dX7_feed_15 fl_X7_24 (by repeat' (first | assumption | exact rF_eq | refine rF_ne (by decide) ?_ | refine rF_a ?_ | exact rA_eq | refine rA_ne (by decide) ?_ | refine rA_f ?_)) (by repeat' (first | assumption | exact rF_eq | refine rF_ne (by decide) ?_ | refine rF_a ?_ | exact rA_eq | refine rA_ne (by decide) ?_ | refine rA_f ?_)) ?_
      refine g_iload_n (i := 3) dX7_feed_18 rfl rfl ?_
      refine g_iadd dX7_feed_19 ?_
      obtain ⟨N, hN, rfl, htN⟩ := n_of (n := 9) (x := n) (by omega) (by omega)
      rw [ni_add]
      refine g_sipush (v := 400) dX7_feed_20 (by decide) ?_
      refine g_icmp_le (tgt := 29) dX7_feed_23 (by decide) (fun hc23 => ?_) (fun hc23 => ?_)
      · (try simp (disch := omega) only [nT, t_m1000100, t_m1000010, t_m1000003, t_m1000002, t_m1000001, t_m1000000, t_m65535, t_m1000, t_m3, t_m1, t_0, t_1, t_2, t_3, t_4, t_5, t_6, t_7, t_8, t_9, t_10, t_11, t_12, t_13, t_15, t_16, t_20, t_21, t_22, t_32, t_40, t_41, t_48, t_49, t_57, t_59, t_60, t_63, t_72, t_76, t_88, t_100, t_144, t_200, t_255, t_288, t_400, t_800, t_999, t_1000, t_1024, t_1200, t_1600, t_3200, t_100000, t_200000, t_252645135, t_858993459, t_1431655765, u_m1000002, u_m1000001, u_m1000, u_m3, u_m1, u_0, u_1, u_2, u_3, u_4, u_5, u_7, u_8, u_10, u_11, u_15, u_60, u_100, u_255, u_999, u_1000, u_100000, u_4294967295] at hc23)
        refine g_iload_n (i := 3) dX7_feed_29 rfl rfl ?_
        refine g_iconst (v := 1) dX7_feed_30 (by decide) ?_
        refine g_isub dX7_feed_31 ?_
        refine g_istore dX7_feed_32 (Nat.le_of_ble_eq_true rfl) rfl ?_
        have k1 := key N (by omega) (by omega) (by omega) rfl N 0 (by omega)
        rw [fdt_0, Nat.add_zero, sF_self e3, sA_self e4] at k1
        exact k1
      · (try simp (disch := omega) only [nT, t_m1000100, t_m1000010, t_m1000003, t_m1000002, t_m1000001, t_m1000000, t_m65535, t_m1000, t_m3, t_m1, t_0, t_1, t_2, t_3, t_4, t_5, t_6, t_7, t_8, t_9, t_10, t_11, t_12, t_13, t_15, t_16, t_20, t_21, t_22, t_32, t_40, t_41, t_48, t_49, t_57, t_59, t_60, t_63, t_72, t_76, t_88, t_100, t_144, t_200, t_255, t_288, t_400, t_800, t_999, t_1000, t_1024, t_1200, t_1600, t_3200, t_100000, t_200000, t_252645135, t_858993459, t_1431655765, u_m1000002, u_m1000001, u_m1000, u_m3, u_m1, u_0, u_1, u_2, u_3, u_4, u_5, u_7, u_8, u_10, u_11, u_15, u_60, u_100, u_255, u_999, u_1000, u_100000, u_4294967295] at hc23)
        refine g_ldc dX7_feed_26 kc_X7_137 ?_
        refine g_iret dX7_feed_28 rfl (rfl) (hQ _ _ ?_)
        have e : opFeed (len, tp) x (nI N) = _ := (if_neg (by omega)).trans (if_pos (by dsimp only; omega))
        rw [e]; exact ⟨rfl, hg0, fr_rf⟩
    · (try simp (disch := omega) only [nT, t_m1000100, t_m1000010, t_m1000003, t_m1000002, t_m1000001, t_m1000000, t_m65535, t_m1000, t_m3, t_m1, t_0, t_1, t_2, t_3, t_4, t_5, t_6, t_7, t_8, t_9, t_10, t_11, t_12, t_13, t_15, t_16, t_20, t_21, t_22, t_32, t_40, t_41, t_48, t_49, t_57, t_59, t_60, t_63, t_72, t_76, t_88, t_100, t_144, t_200, t_255, t_288, t_400, t_800, t_999, t_1000, t_1024, t_1200, t_1600, t_3200, t_100000, t_200000, t_252645135, t_858993459, t_1431655765, u_m1000002, u_m1000001, u_m1000, u_m3, u_m1, u_0, u_1, u_2, u_3, u_4, u_5, u_7, u_8, u_10, u_11, u_15, u_60, u_100, u_255, u_999, u_1000, u_100000, u_4294967295] at hc8)
      refine g_ldc dX7_feed_11 kc_X7_94 ?_
      refine g_iret dX7_feed_13 rfl (rfl) (hQ _ _ ?_)
      have e : opFeed (len, tp) x n = _ := if_pos (by omega)
      rw [e]; exact ⟨rfl, hg0, fr_rf⟩
theorem m_feed {w : TP} (hw : w.1 ≤ 400) {h : HH} (hg : GPM w h) (x : Int64) (n : Int32) : CT mX8_feed 1 0 0 [.ref 44, .long x, .int n] h (fun r h' => r = some (.int (opFeed w x n).1) ∧ GPM (opFeed w x n).2 h' ∧ Fr [48] [(44, 0), (44, 6)] h h') := by
  obtain ⟨len, tp⟩ := w
  have hg0 := hg
  obtain ⟨e1, e2, e3, e4⟩ := hg
  dsimp only at e3 e4 hw
  refine CT.go [.ref 44, .long x, hU, .int n, hU] (by decide +kernel) rfl rfl (fun Q' hQ => ?_)
  have key : ∀ N : Nat, 1 ≤ N → N ≤ 8 → len + N ≤ 400 → n = nI N → ∀ m i : Nat, i + m = N → GG (EM mX8_feed 1 0 0 Q') 0 0 40 [.ref 44, .long x, hU, .int n, .int (nI m - 1)] [] (sA (sF (sF h 44 0 (.int 0)) 44 6 (.int (nI (len + i)))) 48 (aI 400 (fdt tp len x N i))) := by
    intro N hN1 hN8 hN4 hn m
    have e : opFeed (len, tp) x n = _ := (if_neg (by rw [hn, nT (by omega)]; omega)).trans (if_neg (by rw [hn, nT (by omega)]; dsimp only; omega))
    rw [hn, nTN (by omega)] at e
    induction m with
    | zero =>
      intro i hi
      obtain rfl : i = N := by omega
      refine g_iload dX8_feed_40 rfl ?_
      refine g_if_lt (tgt := 82) dX8_feed_42 (by decide) (fun hc42 => ?_) (fun hc42 => ?_)
      · (try simp (disch := omega) only [nT, t_m1000100, t_m1000010, t_m1000003, t_m1000002, t_m1000001, t_m1000000, t_m65535, t_m1000, t_m3, t_m1, t_0, t_1, t_2, t_3, t_4, t_5, t_6, t_7, t_8, t_9, t_10, t_11, t_12, t_13, t_15, t_16, t_20, t_21, t_22, t_32, t_40, t_41, t_48, t_49, t_57, t_59, t_60, t_63, t_72, t_76, t_88, t_100, t_144, t_200, t_255, t_288, t_400, t_800, t_999, t_1000, t_1024, t_1200, t_1600, t_3200, t_100000, t_200000, t_252645135, t_858993459, t_1431655765, u_m1000002, u_m1000001, u_m1000, u_m3, u_m1, u_0, u_1, u_2, u_3, u_4, u_5, u_7, u_8, u_10, u_11, u_15, u_60, u_100, u_255, u_999, u_1000, u_100000, u_4294967295] at hc42)
        refine g_aload_n (i := 0) dX8_feed_82 rfl rfl ?_
        refine g_get dX8_feed_83 fl_X8_133 (by repeat' (first | assumption | exact rF_eq | refine rF_ne (by decide) ?_ | refine rF_a ?_ | exact rA_eq | refine rA_ne (by decide) ?_ | refine rA_f ?_)) (by repeat' (first | assumption | exact rF_eq | refine rF_ne (by decide) ?_ | refine rF_a ?_ | exact rA_eq | refine rA_ne (by decide) ?_ | refine rA_f ?_)) ?_
        refine g_iret dX8_feed_86 rfl (rfl) (hQ _ _ ?_)
        rw [hn, e]; exact ⟨rfl, ⟨e1, e2, rfl, rfl⟩, fr_sA (by decide) (fr_sF (by decide) (fr_sF (by decide) fr_rf))⟩
      · (try simp (disch := omega) only [nT, t_m1000100, t_m1000010, t_m1000003, t_m1000002, t_m1000001, t_m1000000, t_m65535, t_m1000, t_m3, t_m1, t_0, t_1, t_2, t_3, t_4, t_5, t_6, t_7, t_8, t_9, t_10, t_11, t_12, t_13, t_15, t_16, t_20, t_21, t_22, t_32, t_40, t_41, t_48, t_49, t_57, t_59, t_60, t_63, t_72, t_76, t_88, t_100, t_144, t_200, t_255, t_288, t_400, t_800, t_999, t_1000, t_1024, t_1200, t_1600, t_3200, t_100000, t_200000, t_252645135, t_858993459, t_1431655765, u_m1000002, u_m1000001, u_m1000, u_m3, u_m1, u_0, u_1, u_2, u_3, u_4, u_5, u_7, u_8, u_10, u_11, u_15, u_60, u_100, u_255, u_999, u_1000, u_100000, u_4294967295] at hc42); rw [nm1T (by omega)] at hc42; omega
    | succ m ih =>
      intro i hi
      rw [n_m1]
      refine g_iload dX8_feed_40 rfl ?_
      refine g_if_lt (tgt := 82) dX8_feed_42 (by decide) (fun hc42 => ?_) (fun hc42 => ?_)
      · (try simp (disch := omega) only [nT, t_m1000100, t_m1000010, t_m1000003, t_m1000002, t_m1000001, t_m1000000, t_m65535, t_m1000, t_m3, t_m1, t_0, t_1, t_2, t_3, t_4, t_5, t_6, t_7, t_8, t_9, t_10, t_11, t_12, t_13, t_15, t_16, t_20, t_21, t_22, t_32, t_40, t_41, t_48, t_49, t_57, t_59, t_60, t_63, t_72, t_76, t_88, t_100, t_144, t_200, t_255, t_288, t_400, t_800, t_999, t_1000, t_1024, t_1200, t_1600, t_3200, t_100000, t_200000, t_252645135, t_858993459, t_1431655765, u_m1000002, u_m1000001, u_m1000, u_m3, u_m1, u_0, u_1, u_2, u_3, u_4, u_5, u_7, u_8, u_10, u_11, u_15, u_60, u_100, u_255, u_999, u_1000, u_100000, u_4294967295] at hc42); omega
      · (try simp (disch := omega) only [nT, t_m1000100, t_m1000010, t_m1000003, t_m1000002, t_m1000001, t_m1000000, t_m65535, t_m1000, t_m3, t_m1, t_0, t_1, t_2, t_3, t_4, t_5, t_6, t_7, t_8, t_9, t_10, t_11, t_12, t_13, t_15, t_16, t_20, t_21, t_22, t_32, t_40, t_41, t_48, t_49, t_57, t_59, t_60, t_63, t_72, t_76, t_88, t_100, t_144, t_200, t_255, t_288, t_400, t_800, t_999, t_1000, t_1024, t_1200, t_1600, t_3200, t_100000, t_200000, t_252645135, t_858993459, t_1431655765, u_m1000002, u_m1000001, u_m1000, u_m3, u_m1, u_0, u_1, u_2, u_3, u_4, u_5, u_7, u_8, u_10, u_11, u_15, u_60, u_100, u_255, u_999, u_1000, u_100000, u_4294967295] at hc42)
        refine g_aload_n (i := 0) dX8_feed_45 rfl rfl ?_
        refine g_get dX8_feed_46 fl_X8_19 (by repeat' (first | assumption | exact rF_eq | refine rF_ne (by decide) ?_ | refine rF_a ?_ | exact rA_eq | refine rA_ne (by decide) ?_ | refine rA_f ?_)) (by repeat' (first | assumption | exact rF_eq | refine rF_ne (by decide) ?_ | refine rF_a ?_ | exact rA_eq | refine rA_ne (by decide) ?_ | refine rA_f ?_)) ?_
        refine g_aload_n (i := 0) dX8_feed_49 rfl rfl ?_
        refine g_get dX8_feed_50 fl_X8_133 (by repeat' (first | assumption | exact rF_eq | refine rF_ne (by decide) ?_ | refine rF_a ?_ | exact rA_eq | refine rA_ne (by decide) ?_ | refine rA_f ?_)) (by repeat' (first | assumption | exact rF_eq | refine rF_ne (by decide) ?_ | refine rF_a ?_ | exact rA_eq | refine rA_ne (by decide) ?_ | refine rA_f ?_)) ?_
        refine g_lload_n (i := 1) dX8_feed_53 rfl rfl ?_
        refine g_bipush (v := 8) dX8_feed_54 (by decide) ?_
        refine g_iload dX8_feed_56 rfl ?_
        refine g_imul dX8_feed_58 ?_
        refine g_lshr dX8_feed_59 ?_
        refine g_ldc2 dX8_feed_60 kc_X8_137 ?_
        refine g_land dX8_feed_63 ?_
        refine g_l2i dX8_feed_64 ?_
        refine g_iast dX8_feed_65 (by repeat' (first | assumption | exact rF_eq | refine rF_ne (by decide) ?_ | refine rF_a ?_ | exact rA_eq | refine rA_ne (by decide) ?_ | refine rA_f ?_)) (nT (by omega)) (by omega) ?_
        refine g_aload_n (i := 0) dX8_feed_66 rfl rfl ?_
        refine g_dup dX8_feed_67 rfl ?_
        refine g_get dX8_feed_68 fl_X8_133 (by repeat' (first | assumption | exact rF_eq | refine rF_ne (by decide) ?_ | refine rF_a ?_ | exact rA_eq | refine rA_ne (by decide) ?_ | refine rA_f ?_)) (by repeat' (first | assumption | exact rF_eq | refine rF_ne (by decide) ?_ | refine rF_a ?_ | exact rA_eq | refine rA_ne (by decide) ?_ | refine rA_f ?_)) ?_
        refine g_iconst (v := 1) dX8_feed_71 (by decide) ?_
        refine g_iadd dX8_feed_72 ?_
        refine g_put dX8_feed_73 pl_X8_133 (by repeat' (first | assumption | exact rF_eq | refine rF_ne (by decide) ?_ | refine rF_a ?_ | exact rA_eq | refine rA_ne (by decide) ?_ | refine rA_f ?_)) (fun _ => ⟨rfl, rfl⟩) ?_
        refine g_iinc dX8_feed_76 rfl (Nat.le_of_ble_eq_true rfl) rfl ?_
        refine g_goto (tgt := 40) dX8_feed_79 (by decide) ?_
        rw [sF_sA, sF_sA, sA_sA, sF_sF, ni_inc, n_dec, byt_m]
        have ih1 := ih (i + 1) (by omega)
        rw [← fdt_s, show N - 1 - i = m by omega] at ih1
        exact ih1
  refine g_aload_n (i := 0) dX8_feed_0 rfl rfl ?_
  refine g_iconst (v := 0) dX8_feed_1 (by decide) ?_
  refine g_put dX8_feed_2 pl_X8_107 (by repeat' (first | assumption | exact rF_eq | refine rF_ne (by decide) ?_ | refine rF_a ?_ | exact rA_eq | refine rA_ne (by decide) ?_ | refine rA_f ?_)) (fun _ => ⟨rfl, rfl⟩) ?_
  refine g_iload_n (i := 3) dX8_feed_5 rfl rfl ?_
  refine g_i2l dX8_feed_6 ?_
  refine g_lconst (v := 1) dX8_feed_7 (by decide) ?_
  refine g_ldc2 dX8_feed_8 kc_X8_131 ?_
  refine g_callS (M' := mX8_in) dX8_feed_11 lc_X8_in ml_X8_116 (c_in _ n.toInt64 1 8 1 8 rfl rfl) rfl rfl ⟨Nat.le_of_ble_eq_true rfl, Nat.le_of_ble_eq_true rfl, Nat.le_of_ble_eq_true rfl, Nat.le_of_ble_eq_true rfl⟩ (Nat.le_of_ble_eq_true rfl) ?_
  intro r_ h_ q_; obtain ⟨q1_, q2_⟩ := q_; have q2_ := q2_.symm; subst q1_; subst q2_
  rw [l_i]
  refine g_if_ne (tgt := 20) dX8_feed_14 (by decide) (fun hc14 => ?_) (fun hc14 => ?_)
  · replace hc14 := bI_n0.mp hc14
    (try simp (disch := omega) only [nT, t_m1000100, t_m1000010, t_m1000003, t_m1000002, t_m1000001, t_m1000000, t_m65535, t_m1000, t_m3, t_m1, t_0, t_1, t_2, t_3, t_4, t_5, t_6, t_7, t_8, t_9, t_10, t_11, t_12, t_13, t_15, t_16, t_20, t_21, t_22, t_32, t_40, t_41, t_48, t_49, t_57, t_59, t_60, t_63, t_72, t_76, t_88, t_100, t_144, t_200, t_255, t_288, t_400, t_800, t_999, t_1000, t_1024, t_1200, t_1600, t_3200, t_100000, t_200000, t_252645135, t_858993459, t_1431655765, u_m1000002, u_m1000001, u_m1000, u_m3, u_m1, u_0, u_1, u_2, u_3, u_4, u_5, u_7, u_8, u_10, u_11, u_15, u_60, u_100, u_255, u_999, u_1000, u_100000, u_4294967295] at hc14)
    refine g_aload_n (i := 0) dX8_feed_20 rfl rfl ?_
    refine g_get dX8_feed_21 fl_X8_133 (by repeat' (first | assumption | exact rF_eq | refine rF_ne (by decide) ?_ | refine rF_a ?_ | exact rA_eq | refine rA_ne (by decide) ?_ | refine rA_f ?_)) (by repeat' (first | assumption | exact rF_eq | refine rF_ne (by decide) ?_ | refine rF_a ?_ | exact rA_eq | refine rA_ne (by decide) ?_ | refine rA_f ?_)) ?_
    refine g_iload_n (i := 3) dX8_feed_24 rfl rfl ?_
    refine g_iadd dX8_feed_25 ?_
    obtain ⟨N, hN, rfl, htN⟩ := n_of (n := 9) (x := n) (by omega) (by omega)
    rw [ni_add]
    refine g_sipush (v := 400) dX8_feed_26 (by decide) ?_
    refine g_icmp_le (tgt := 35) dX8_feed_29 (by decide) (fun hc29 => ?_) (fun hc29 => ?_)
    · (try simp (disch := omega) only [nT, t_m1000100, t_m1000010, t_m1000003, t_m1000002, t_m1000001, t_m1000000, t_m65535, t_m1000, t_m3, t_m1, t_0, t_1, t_2, t_3, t_4, t_5, t_6, t_7, t_8, t_9, t_10, t_11, t_12, t_13, t_15, t_16, t_20, t_21, t_22, t_32, t_40, t_41, t_48, t_49, t_57, t_59, t_60, t_63, t_72, t_76, t_88, t_100, t_144, t_200, t_255, t_288, t_400, t_800, t_999, t_1000, t_1024, t_1200, t_1600, t_3200, t_100000, t_200000, t_252645135, t_858993459, t_1431655765, u_m1000002, u_m1000001, u_m1000, u_m3, u_m1, u_0, u_1, u_2, u_3, u_4, u_5, u_7, u_8, u_10, u_11, u_15, u_60, u_100, u_255, u_999, u_1000, u_100000, u_4294967295] at hc29)
      refine g_iload_n (i := 3) dX8_feed_35 rfl rfl ?_
      refine g_iconst (v := 1) dX8_feed_36 (by decide) ?_
      refine g_isub dX8_feed_37 ?_
      refine g_istore dX8_feed_38 (Nat.le_of_ble_eq_true rfl) rfl ?_
      have k1 := key N (by omega) (by omega) (by omega) rfl N 0 (by omega)
      rw [fdt_0, Nat.add_zero, sF_self (show gF (sF h 44 0 (.int 0)) 44 6 = .int (nI len) from e3), sA_self (show gA (sF h 44 0 (.int 0)) 48 = aI 400 tp from e4)] at k1
      exact k1
    · (try simp (disch := omega) only [nT, t_m1000100, t_m1000010, t_m1000003, t_m1000002, t_m1000001, t_m1000000, t_m65535, t_m1000, t_m3, t_m1, t_0, t_1, t_2, t_3, t_4, t_5, t_6, t_7, t_8, t_9, t_10, t_11, t_12, t_13, t_15, t_16, t_20, t_21, t_22, t_32, t_40, t_41, t_48, t_49, t_57, t_59, t_60, t_63, t_72, t_76, t_88, t_100, t_144, t_200, t_255, t_288, t_400, t_800, t_999, t_1000, t_1024, t_1200, t_1600, t_3200, t_100000, t_200000, t_252645135, t_858993459, t_1431655765, u_m1000002, u_m1000001, u_m1000, u_m3, u_m1, u_0, u_1, u_2, u_3, u_4, u_5, u_7, u_8, u_10, u_11, u_15, u_60, u_100, u_255, u_999, u_1000, u_100000, u_4294967295] at hc29)
      refine g_ldc dX8_feed_32 kc_X8_136 ?_
      refine g_iret dX8_feed_34 rfl (rfl) (hQ _ _ ?_)
      have e : opFeed (len, tp) x (nI N) = _ := (if_neg (by omega)).trans (if_pos (by dsimp only; omega))
      rw [e]; exact ⟨rfl, ⟨e1, e2, e3, e4⟩, fr_sF (by decide) fr_rf⟩
  · replace hc14 := bI_0.mp hc14
    (try simp (disch := omega) only [nT, t_m1000100, t_m1000010, t_m1000003, t_m1000002, t_m1000001, t_m1000000, t_m65535, t_m1000, t_m3, t_m1, t_0, t_1, t_2, t_3, t_4, t_5, t_6, t_7, t_8, t_9, t_10, t_11, t_12, t_13, t_15, t_16, t_20, t_21, t_22, t_32, t_40, t_41, t_48, t_49, t_57, t_59, t_60, t_63, t_72, t_76, t_88, t_100, t_144, t_200, t_255, t_288, t_400, t_800, t_999, t_1000, t_1024, t_1200, t_1600, t_3200, t_100000, t_200000, t_252645135, t_858993459, t_1431655765, u_m1000002, u_m1000001, u_m1000, u_m3, u_m1, u_0, u_1, u_2, u_3, u_4, u_5, u_7, u_8, u_10, u_11, u_15, u_60, u_100, u_255, u_999, u_1000, u_100000, u_4294967295] at hc14)
    refine g_ldc dX8_feed_17 kc_X8_126 ?_
    refine g_iret dX8_feed_19 rfl (rfl) (hQ _ _ ?_)
    have e : opFeed (len, tp) x n = _ := if_pos (by omega)
    rw [e]; exact ⟨rfl, ⟨e1, e2, e3, e4⟩, fr_sF (by decide) fr_rf⟩
