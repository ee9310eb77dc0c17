/-! odd, the reference; joins -/
def pE (d : Nat → Nat) (x y : Nat) : Nat → Bool := fun q => decide (¬ q = 4 ∧ 1 < atW d ((x : Int) + ((q % 3 : Nat) : Int) - 1) ((y : Int) + ((q / 3 : Nat) : Int) - 1))
theorem pE_t {d : Nat → Nat} {x y q : Nat} : pE d x y q = true ↔ ¬ q = 4 ∧ 1 < atW d ((x : Int) + ((q % 3 : Nat) : Int) - 1) ((y : Int) + ((q / 3 : Nat) : Int) - 1) := decide_eq_true_iff
theorem atW_p {d : Nat → Nat} {x y : Nat} (hx : x < 12) (hy : y < 12) : atW d x y = d (12 * y + x) := by
  have e : atW d x y = _ := if_pos (by omega)
  rw [e, Int.toNat_natCast, Int.toNat_natCast]
theorem pE_F {d : Nat → Nat} {p : Nat} (hp : p < 144) (h1 : d p = 1) : cnt (pE d (p % 12) (p / 12)) 9 0 = cnt (pF d (p % 12) (p / 12)) 9 0 := by
  refine cnt_c 9 0 (fun q _ hq => ?_)
  unfold pE pF
  by_cases q4 : q = 4
  · subst q4
    have e1 : (((p % 12 : Nat) : Int) + ((4 % 3 : Nat) : Int) - 1) = ((p % 12 : Nat) : Int) := by omega
    have e2 : (((p / 12 : Nat) : Int) + ((4 / 3 : Nat) : Int) - 1) = ((p / 12 : Nat) : Int) := by omega
    rw [e1, e2, atW_p (by omega) (by omega), show 12 * (p / 12) + p % 12 = p by omega, h1]
    decide
  · congr 1
    exact propext ⟨fun z => z.2, fun z => ⟨q4, z⟩⟩
theorem s2_T {x k : Nat} (hx : x < 12) (hk : k < 4) : (nI x + nI k - 1).toInt = (x : Int) + (k : Int) - 1 := by
  have h1 := @nT (x + k) (by omega)
  rw [ni_add, i_sub (by rw [t_1]; omega) (by rw [t_1]; omega), t_1, h1]
  omega
theorem wM_le {W : WA} (hW : WfW W) (w p : Nat) (hp : p < 144) : wM W w p ≤ 16 := by
  have := hW p hp
  unfold wM
  split <;> omega
theorem m_odd {W : WA} (hW : WfW W) {h : HH} (hg : GWM W h) (w n i : Int32) : CT mX8_odd 3 0 0 [.ref 44, .int w, .int n, .int i] h (fun r h' => r = some (.int (opOdd W w n i)) ∧ h' = sF h 44 0 (.int 0)) := by
  have hg2 := gwm_f hg
  obtain ⟨e1, e2, -, -, e5⟩ := id hg
  refine CT.go [.ref 44, .int w, .int n, .int i, hU, hU, hU, hU, hU] (by decide +kernel) rfl rfl (fun Q' hQ => ?_)
  refine g_aload_n (i := 0) dX8_odd_0 rfl rfl ?_
  refine g_iconst (v := 0) dX8_odd_1 (by decide) ?_
  refine g_put dX8_odd_2 pl_X8_107 (by repeat' (first | assumption | exact rF_eq | refine rF_ne (by decide) ?_ | refine rF_a ?_ | exact rA_eq | refine rA_ne (by decide) ?_ | refine rA_f ?_)) (fun _ => ⟨rfl, rfl⟩) ?_
  refine g_iload_n (i := 1) dX8_odd_5 rfl rfl ?_
  refine g_i2l dX8_odd_6 ?_
  refine g_lconst (v := 0) dX8_odd_7 (by decide) ?_
  refine g_lconst (v := 1) dX8_odd_8 (by decide) ?_
  refine g_callS (M' := mX8_in) dX8_odd_9 lc_X8_in ml_X8_116 (c_in _ w.toInt64 0 1 0 1 rfl rfl) rfl rfl ⟨Nat.le_of_ble_eq_true rfl, Nat.le_of_ble_eq_true rfl, Nat.le_of_ble_eq_true rfl, Nat.le_of_ble_eq_true rfl⟩ (Nat.le_of_ble_eq_true rfl) ?_
  intro r_ h_ q_; obtain ⟨q1_, q2_⟩ := q_; have q2_ := q2_.symm; subst q1_; subst q2_
  rw [l_i]
  refine g_if_eq (tgt := 27) dX8_odd_12 (by decide) (fun hc12 => ?_) (fun hc12 => ?_)
  · replace hc12 := bI_0.mp hc12
    (try simp (disch := omega) only [nT, t_m1000100, t_m1000010, t_m1000003, t_m1000002, t_m1000001, t_m1000000, t_m65535, t_m1000, t_m3, t_m1, t_0, t_1, t_2, t_3, t_4, t_5, t_6, t_7, t_8, t_9, t_10, t_11, t_12, t_13, t_15, t_16, t_20, t_21, t_22, t_32, t_40, t_41, t_48, t_49, t_57, t_59, t_60, t_63, t_72, t_76, t_88, t_100, t_144, t_200, t_255, t_288, t_400, t_800, t_999, t_1000, t_1024, t_1200, t_1600, t_3200, t_100000, t_200000, t_252645135, t_858993459, t_1431655765, u_m1000002, u_m1000001, u_m1000, u_m3, u_m1, u_0, u_1, u_2, u_3, u_4, u_5, u_7, u_8, u_10, u_11, u_15, u_60, u_100, u_255, u_999, u_1000, u_100000, u_4294967295] at hc12)
    rw [show opOdd W w n i = _ from if_pos (by omega)] at hQ
    refine g_ldc dX8_odd_27 kc_X8_126 ?_
    refine g_iret dX8_odd_29 rfl (rfl) (hQ _ _ ?_)
    exact ⟨rfl, rfl⟩
  · replace hc12 := bI_n0.mp hc12
    (try simp (disch := omega) only [nT, t_m1000100, t_m1000010, t_m1000003, t_m1000002, t_m1000001, t_m1000000, t_m65535, t_m1000, t_m3, t_m1, t_0, t_1, t_2, t_3, t_4, t_5, t_6, t_7, t_8, t_9, t_10, t_11, t_12, t_13, t_15, t_16, t_20, t_21, t_22, t_32, t_40, t_41, t_48, t_49, t_57, t_59, t_60, t_63, t_72, t_76, t_88, t_100, t_144, t_200, t_255, t_288, t_400, t_800, t_999, t_1000, t_1024, t_1200, t_1600, t_3200, t_100000, t_200000, t_252645135, t_858993459, t_1431655765, u_m1000002, u_m1000001, u_m1000, u_m3, u_m1, u_0, u_1, u_2, u_3, u_4, u_5, u_7, u_8, u_10, u_11, u_15, u_60, u_100, u_255, u_999, u_1000, u_100000, u_4294967295] at hc12)
    refine g_iload_n (i := 2) dX8_odd_15 rfl rfl ?_
    refine g_i2l dX8_odd_16 ?_
    refine g_lconst (v := 1) dX8_odd_17 (by decide) ?_
    refine g_ldc2 dX8_odd_18 kc_X8_131 ?_
    refine g_callS (M' := mX8_in) dX8_odd_21 lc_X8_in ml_X8_116 (c_in _ n.toInt64 1 8 1 8 rfl rfl) rfl rfl ⟨Nat.le_of_ble_eq_true rfl, Nat.le_of_ble_eq_true rfl, Nat.le_of_ble_eq_true rfl, Nat.le_of_ble_eq_true rfl⟩ (Nat.le_of_ble_eq_true rfl) ?_
    intro r_ h_ q_; obtain ⟨q1_, q2_⟩ := q_; have q2_ := q2_.symm; subst q1_; subst q2_
    rw [l_i]
    refine g_if_ne (tgt := 30) dX8_odd_24 (by decide) (fun hc24 => ?_) (fun hc24 => ?_)
    · replace hc24 := bI_n0.mp hc24
      (try simp (disch := omega) only [nT, t_m1000100, t_m1000010, t_m1000003, t_m1000002, t_m1000001, t_m1000000, t_m65535, t_m1000, t_m3, t_m1, t_0, t_1, t_2, t_3, t_4, t_5, t_6, t_7, t_8, t_9, t_10, t_11, t_12, t_13, t_15, t_16, t_20, t_21, t_22, t_32, t_40, t_41, t_48, t_49, t_57, t_59, t_60, t_63, t_72, t_76, t_88, t_100, t_144, t_200, t_255, t_288, t_400, t_800, t_999, t_1000, t_1024, t_1200, t_1600, t_3200, t_100000, t_200000, t_252645135, t_858993459, t_1431655765, u_m1000002, u_m1000001, u_m1000, u_m3, u_m1, u_0, u_1, u_2, u_3, u_4, u_5, u_7, u_8, u_10, u_11, u_15, u_60, u_100, u_255, u_999, u_1000, u_100000, u_4294967295] at hc24)
      have e : opOdd W w n i = _ := if_neg (by omega)
      obtain ⟨b, hb, rfl, htb⟩ := n_of (n := 9) (x := n) (by omega) (by omega)
      obtain ⟨a0, ha0, rfl, hta0⟩ := n_of (n := 2) (x := w) (by omega) (by omega)
      rw [nTN (by omega), wM_w W ha0] at e
      obtain ⟨N, hN⟩ : ∃ N : Nat, N = 144 := ⟨_, rfl⟩
      rw [← hN] at e
      generalize hz : opOdd W (nI a0) (nI b) i = z at hQ e
      have key : ∀ m k acc (x6 x7 x8 : Value), k + m = 144 → acc ≤ k → (if i = -1000000 then nI (acc + cnt (oddB (wM W a0) b) m k) else oddP (oddB (wM W a0) b) i m k acc) = z → GG (EM mX8_odd 3 0 0 Q') 0 0 36 [.ref 44, .int (nI a0), .int (nI b), .int i, .int (nI acc), .int (nI k), x6, x7, x8] [] (sF h 44 0 (.int 0)) := by
        intro m
        induction m with
        | zero =>
          intro k acc x6 x7 x8 hk ha he
          refine g_iload dX8_odd_36 rfl ?_
          refine g_sipush (v := 144) dX8_odd_38 (by decide) ?_
          refine g_icmp_ge (tgt := 157) dX8_odd_41 (by decide) (fun hc41 => ?_) (fun hc41 => ?_)
          · (try simp (disch := omega) only [nT, t_m1000100, t_m1000010, t_m1000003, t_m1000002, t_m1000001, t_m1000000, t_m65535, t_m1000, t_m3, t_m1, t_0, t_1, t_2, t_3, t_4, t_5, t_6, t_7, t_8, t_9, t_10, t_11, t_12, t_13, t_15, t_16, t_20, t_21, t_22, t_32, t_40, t_41, t_48, t_49, t_57, t_59, t_60, t_63, t_72, t_76, t_88, t_100, t_144, t_200, t_255, t_288, t_400, t_800, t_999, t_1000, t_1024, t_1200, t_1600, t_3200, t_100000, t_200000, t_252645135, t_858993459, t_1431655765, u_m1000002, u_m1000001, u_m1000, u_m3, u_m1, u_0, u_1, u_2, u_3, u_4, u_5, u_7, u_8, u_10, u_11, u_15, u_60, u_100, u_255, u_999, u_1000, u_100000, u_4294967295] at hc41)
            refine g_iload_n (i := 3) dX8_odd_157 rfl rfl ?_
            refine g_ldc dX8_odd_158 kc_X8_142 ?_
            refine g_icmp_ne (tgt := 168) dX8_odd_160 (by decide) (fun hc160 => ?_) (fun hc160 => ?_)
            · have hd160 := mt i_eq.mpr hc160; (try simp (disch := omega) only [nT, t_m1000100, t_m1000010, t_m1000003, t_m1000002, t_m1000001, t_m1000000, t_m65535, t_m1000, t_m3, t_m1, t_0, t_1, t_2, t_3, t_4, t_5, t_6, t_7, t_8, t_9, t_10, t_11, t_12, t_13, t_15, t_16, t_20, t_21, t_22, t_32, t_40, t_41, t_48, t_49, t_57, t_59, t_60, t_63, t_72, t_76, t_88, t_100, t_144, t_200, t_255, t_288, t_400, t_800, t_999, t_1000, t_1024, t_1200, t_1600, t_3200, t_100000, t_200000, t_252645135, t_858993459, t_1431655765, u_m1000002, u_m1000001, u_m1000, u_m3, u_m1, u_0, u_1, u_2, u_3, u_4, u_5, u_7, u_8, u_10, u_11, u_15, u_60, u_100, u_255, u_999, u_1000, u_100000, u_4294967295] at hd160)
              rw [if_neg (by assumption)] at he
              obtain rfl : -1000000 = z := he
              refine g_ldc dX8_odd_168 kc_X8_142 ?_
              refine g_iret dX8_odd_170 rfl (rfl) (hQ _ _ ?_)
              exact ⟨rfl, rfl⟩
            · have hd160 := i_eq.mp hc160; (try simp (disch := omega) only [nT, t_m1000100, t_m1000010, t_m1000003, t_m1000002, t_m1000001, t_m1000000, t_m65535, t_m1000, t_m3, t_m1, t_0, t_1, t_2, t_3, t_4, t_5, t_6, t_7, t_8, t_9, t_10, t_11, t_12, t_13, t_15, t_16, t_20, t_21, t_22, t_32, t_40, t_41, t_48, t_49, t_57, t_59, t_60, t_63, t_72, t_76, t_88, t_100, t_144, t_200, t_255, t_288, t_400, t_800, t_999, t_1000, t_1024, t_1200, t_1600, t_3200, t_100000, t_200000, t_252645135, t_858993459, t_1431655765, u_m1000002, u_m1000001, u_m1000, u_m3, u_m1, u_0, u_1, u_2, u_3, u_4, u_5, u_7, u_8, u_10, u_11, u_15, u_60, u_100, u_255, u_999, u_1000, u_100000, u_4294967295] at hd160)
              rw [if_pos (by assumption)] at he
              subst he
              refine g_iload dX8_odd_163 rfl ?_
              refine g_goto (tgt := 170) dX8_odd_165 (by decide) ?_
              refine g_iret dX8_odd_170 rfl (rfl) (hQ _ _ ?_)
              exact ⟨rfl, rfl⟩
          · (try simp (disch := omega) only [nT, t_m1000100, t_m1000010, t_m1000003, t_m1000002, t_m1000001, t_m1000000, t_m65535, t_m1000, t_m3, t_m1, t_0, t_1, t_2, t_3, t_4, t_5, t_6, t_7, t_8, t_9, t_10, t_11, t_12, t_13, t_15, t_16, t_20, t_21, t_22, t_32, t_40, t_41, t_48, t_49, t_57, t_59, t_60, t_63, t_72, t_76, t_88, t_100, t_144, t_200, t_255, t_288, t_400, t_800, t_999, t_1000, t_1024, t_1200, t_1600, t_3200, t_100000, t_200000, t_252645135, t_858993459, t_1431655765, u_m1000002, u_m1000001, u_m1000, u_m3, u_m1, u_0, u_1, u_2, u_3, u_4, u_5, u_7, u_8, u_10, u_11, u_15, u_60, u_100, u_255, u_999, u_1000, u_100000, u_4294967295] at hc41); omega
        | succ m ih =>
          intro k acc x6 x7 x8 hk ha he
          have hle := wM_le hW a0 k (by omega)
          have ho := @oddB_t (wM W a0) b k
          have hEF := @pE_F (wM W a0) k (by omega)
          have hle9 := cnt_le (pE (wM W a0) (k % 12) (k / 12)) 9 0
          generalize hT : cnt (pE (wM W a0) (k % 12) (k / 12)) 9 0 = T at hEF hle9
          generalize cnt (pF (wM W a0) (k % 12) (k / 12)) 9 0 = T2 at hEF ho
          have fin : ∀ x7 x8 : Value, GG (EM mX8_odd 3 0 0 Q') 0 0 116 [.ref 44, .int (nI a0), .int (nI b), .int i, .int (nI acc), .int (nI k), .int (nI T), x7, x8] [] (sF h 44 0 (.int 0)) := by
            intro x7 x8
            refine g_aload_n (i := 0) dX8_odd_116 rfl rfl ?_
            refine g_get dX8_odd_117 fl_X8_101 (by repeat' (first | assumption | exact rF_eq | refine rF_ne (by decide) ?_ | refine rF_a ?_ | exact rA_eq | refine rA_ne (by decide) ?_ | refine rA_f ?_)) (by repeat' (first | assumption | exact rF_eq | refine rF_ne (by decide) ?_ | refine rF_a ?_ | exact rA_eq | refine rA_ne (by decide) ?_ | refine rA_f ?_)) ?_
            refine g_sipush (v := 144) dX8_odd_120 (by decide) ?_
            refine g_iload_n (i := 1) dX8_odd_123 rfl rfl ?_
            refine g_imul dX8_odd_124 ?_
            refine g_iload dX8_odd_125 rfl ?_
            refine g_iadd dX8_odd_127 ?_
            rw [show (144 : Int32) = nI 144 from rfl, pk_mul, ni_add]
            refine g_iald dX8_odd_128 (by repeat' (first | assumption | exact rF_eq | refine rF_ne (by decide) ?_ | refine rF_a ?_ | exact rA_eq | refine rA_ne (by decide) ?_ | refine rA_f ?_)) (nT (by omega)) (by omega) ?_
            rw [dm_w W ha0 (by omega)]
            refine g_iconst (v := 1) dX8_odd_129 (by decide) ?_
            refine g_icmp_ne (tgt := 151) dX8_odd_130 (by decide) (fun hc130 => ?_) (fun hc130 => ?_)
            · have hd130 := mt i_eq.mpr hc130; (try simp (disch := omega) only [nT, t_m1000100, t_m1000010, t_m1000003, t_m1000002, t_m1000001, t_m1000000, t_m65535, t_m1000, t_m3, t_m1, t_0, t_1, t_2, t_3, t_4, t_5, t_6, t_7, t_8, t_9, t_10, t_11, t_12, t_13, t_15, t_16, t_20, t_21, t_22, t_32, t_40, t_41, t_48, t_49, t_57, t_59, t_60, t_63, t_72, t_76, t_88, t_100, t_144, t_200, t_255, t_288, t_400, t_800, t_999, t_1000, t_1024, t_1200, t_1600, t_3200, t_100000, t_200000, t_252645135, t_858993459, t_1431655765, u_m1000002, u_m1000001, u_m1000, u_m3, u_m1, u_0, u_1, u_2, u_3, u_4, u_5, u_7, u_8, u_10, u_11, u_15, u_60, u_100, u_255, u_999, u_1000, u_100000, u_4294967295] at hd130)
              refine g_iinc dX8_odd_151 rfl (Nat.le_of_ble_eq_true rfl) rfl ?_
              refine g_goto (tgt := 36) dX8_odd_154 (by decide) ?_
              rw [ni_incO]
              first
              | (rw [cnt_t (ho.mpr ⟨by omega, by have := hEF (by omega); omega⟩), oddP, if_pos (ho.mpr ⟨by omega, by have := hEF (by omega); omega⟩), if_neg hc142] at he
                 rw [ni_incO]
                 exact ih (k + 1) (acc + 1) _ _ _ (by omega) (by omega) (by rw [Nat.add_assoc]; exact he))
              | (have hno : ¬ oddB (wM W a0) b k = true := (fun q => by have q1 := ho.mp q; have q2 := hEF q1.1; omega)
                 rw [cnt_f hno, oddP, if_neg hno] at he
                 exact ih (k + 1) acc _ _ _ (by omega) (by omega) he)
            · have hd130 := i_eq.mp hc130; (try simp (disch := omega) only [nT, t_m1000100, t_m1000010, t_m1000003, t_m1000002, t_m1000001, t_m1000000, t_m65535, t_m1000, t_m3, t_m1, t_0, t_1, t_2, t_3, t_4, t_5, t_6, t_7, t_8, t_9, t_10, t_11, t_12, t_13, t_15, t_16, t_20, t_21, t_22, t_32, t_40, t_41, t_48, t_49, t_57, t_59, t_60, t_63, t_72, t_76, t_88, t_100, t_144, t_200, t_255, t_288, t_400, t_800, t_999, t_1000, t_1024, t_1200, t_1600, t_3200, t_100000, t_200000, t_252645135, t_858993459, t_1431655765, u_m1000002, u_m1000001, u_m1000, u_m3, u_m1, u_0, u_1, u_2, u_3, u_4, u_5, u_7, u_8, u_10, u_11, u_15, u_60, u_100, u_255, u_999, u_1000, u_100000, u_4294967295] at hd130)
              refine g_iload dX8_odd_133 rfl ?_
              refine g_iload_n (i := 2) dX8_odd_135 rfl rfl ?_
              refine g_icmp_lt (tgt := 151) dX8_odd_136 (by decide) (fun hc136 => ?_) (fun hc136 => ?_)
              · (try simp (disch := omega) only [nT, t_m1000100, t_m1000010, t_m1000003, t_m1000002, t_m1000001, t_m1000000, t_m65535, t_m1000, t_m3, t_m1, t_0, t_1, t_2, t_3, t_4, t_5, t_6, t_7, t_8, t_9, t_10, t_11, t_12, t_13, t_15, t_16, t_20, t_21, t_22, t_32, t_40, t_41, t_48, t_49, t_57, t_59, t_60, t_63, t_72, t_76, t_88, t_100, t_144, t_200, t_255, t_288, t_400, t_800, t_999, t_1000, t_1024, t_1200, t_1600, t_3200, t_100000, t_200000, t_252645135, t_858993459, t_1431655765, u_m1000002, u_m1000001, u_m1000, u_m3, u_m1, u_0, u_1, u_2, u_3, u_4, u_5, u_7, u_8, u_10, u_11, u_15, u_60, u_100, u_255, u_999, u_1000, u_100000, u_4294967295] at hc136)
                refine g_iinc dX8_odd_151 rfl (Nat.le_of_ble_eq_true rfl) rfl ?_
                refine g_goto (tgt := 36) dX8_odd_154 (by decide) ?_
                rw [ni_incO]
                first
                | (rw [cnt_t (ho.mpr ⟨by omega, by have := hEF (by omega); omega⟩), oddP, if_pos (ho.mpr ⟨by omega, by have := hEF (by omega); omega⟩), if_neg hc142] at he
                   rw [ni_incO]
                   exact ih (k + 1) (acc + 1) _ _ _ (by omega) (by omega) (by rw [Nat.add_assoc]; exact he))
                | (have hno : ¬ oddB (wM W a0) b k = true := (fun q => by have q1 := ho.mp q; have q2 := hEF q1.1; omega)
                   rw [cnt_f hno, oddP, if_neg hno] at he
                   exact ih (k + 1) acc _ _ _ (by omega) (by omega) he)
              · (try simp (disch := omega) only [nT, t_m1000100, t_m1000010, t_m1000003, t_m1000002, t_m1000001, t_m1000000, t_m65535, t_m1000, t_m3, t_m1, t_0, t_1, t_2, t_3, t_4, t_5, t_6, t_7, t_8, t_9, t_10, t_11, t_12, t_13, t_15, t_16, t_20, t_21, t_22, t_32, t_40, t_41, t_48, t_49, t_57, t_59, t_60, t_63, t_72, t_76, t_88, t_100, t_144, t_200, t_255, t_288, t_400, t_800, t_999, t_1000, t_1024, t_1200, t_1600, t_3200, t_100000, t_200000, t_252645135, t_858993459, t_1431655765, u_m1000002, u_m1000001, u_m1000, u_m3, u_m1, u_0, u_1, u_2, u_3, u_4, u_5, u_7, u_8, u_10, u_11, u_15, u_60, u_100, u_255, u_999, u_1000, u_100000, u_4294967295] at hc136)
                refine g_iload dX8_odd_139 rfl ?_
                refine g_iload_n (i := 3) dX8_odd_141 rfl rfl ?_
                refine g_icmp_ne (tgt := 148) dX8_odd_142 (by decide) (fun hc142 => ?_) (fun hc142 => ?_)
                · have hd142 := mt i_eq.mpr hc142; (try simp (disch := omega) only [nT, t_m1000100, t_m1000010, t_m1000003, t_m1000002, t_m1000001, t_m1000000, t_m65535, t_m1000, t_m3, t_m1, t_0, t_1, t_2, t_3, t_4, t_5, t_6, t_7, t_8, t_9, t_10, t_11, t_12, t_13, t_15, t_16, t_20, t_21, t_22, t_32, t_40, t_41, t_48, t_49, t_57, t_59, t_60, t_63, t_72, t_76, t_88, t_100, t_144, t_200, t_255, t_288, t_400, t_800, t_999, t_1000, t_1024, t_1200, t_1600, t_3200, t_100000, t_200000, t_252645135, t_858993459, t_1431655765, u_m1000002, u_m1000001, u_m1000, u_m3, u_m1, u_0, u_1, u_2, u_3, u_4, u_5, u_7, u_8, u_10, u_11, u_15, u_60, u_100, u_255, u_999, u_1000, u_100000, u_4294967295] at hd142)
                  refine g_iinc dX8_odd_148 rfl (Nat.le_of_ble_eq_true rfl) rfl ?_
                  refine g_iinc dX8_odd_151 rfl (Nat.le_of_ble_eq_true rfl) rfl ?_
                  refine g_goto (tgt := 36) dX8_odd_154 (by decide) ?_
                  rw [ni_incO]
                  first
                  | (rw [cnt_t (ho.mpr ⟨by omega, by have := hEF (by omega); omega⟩), oddP, if_pos (ho.mpr ⟨by omega, by have := hEF (by omega); omega⟩), if_neg hc142] at he
                     rw [ni_incO]
                     exact ih (k + 1) (acc + 1) _ _ _ (by omega) (by omega) (by rw [Nat.add_assoc]; exact he))
                  | (have hno : ¬ oddB (wM W a0) b k = true := (fun q => by have q1 := ho.mp q; have q2 := hEF q1.1; omega)
                     rw [cnt_f hno, oddP, if_neg hno] at he
                     exact ih (k + 1) acc _ _ _ (by omega) (by omega) he)
                · have hd142 := i_eq.mp hc142; (try simp (disch := omega) only [nT, t_m1000100, t_m1000010, t_m1000003, t_m1000002, t_m1000001, t_m1000000, t_m65535, t_m1000, t_m3, t_m1, t_0, t_1, t_2, t_3, t_4, t_5, t_6, t_7, t_8, t_9, t_10, t_11, t_12, t_13, t_15, t_16, t_20, t_21, t_22, t_32, t_40, t_41, t_48, t_49, t_57, t_59, t_60, t_63, t_72, t_76, t_88, t_100, t_144, t_200, t_255, t_288, t_400, t_800, t_999, t_1000, t_1024, t_1200, t_1600, t_3200, t_100000, t_200000, t_252645135, t_858993459, t_1431655765, u_m1000002, u_m1000001, u_m1000, u_m3, u_m1, u_0, u_1, u_2, u_3, u_4, u_5, u_7, u_8, u_10, u_11, u_15, u_60, u_100, u_255, u_999, u_1000, u_100000, u_4294967295] at hd142)
                  have q9 : i ≠ -1000000 := (fun q => by have q1 := congrArg Int32.toInt q; rw [t_m1000000] at q1; omega)
                  rw [if_neg q9, oddP, if_pos (ho.mpr ⟨by omega, by have := hEF (by omega); omega⟩), if_pos hc142] at he
                  subst he
                  refine g_iload dX8_odd_145 rfl ?_
                  refine g_iret dX8_odd_147 rfl (rfl) (hQ _ _ ?_)
                  exact ⟨rfl, rfl⟩
          have keyI : ∀ n q t x8, q + n = 9 → t ≤ q → t + cnt (pE (wM W a0) (k % 12) (k / 12)) n q = T → GG (EM mX8_odd 3 0 0 Q') 0 0 50 [.ref 44, .int (nI a0), .int (nI b), .int i, .int (nI acc), .int (nI k), .int (nI t), .int (nI q), x8] [] (sF h 44 0 (.int 0)) := by
            intro n
            induction n with
            | zero =>
              intro q t x8 hq ht he2
              obtain rfl : t = T := he2
              refine g_iload dX8_odd_50 rfl ?_
              refine g_bipush (v := 9) dX8_odd_52 (by decide) ?_
              refine g_icmp_ge (tgt := 116) dX8_odd_54 (by decide) (fun hc54 => ?_) (fun hc54 => ?_)
              · (try simp (disch := omega) only [nT, t_m1000100, t_m1000010, t_m1000003, t_m1000002, t_m1000001, t_m1000000, t_m65535, t_m1000, t_m3, t_m1, t_0, t_1, t_2, t_3, t_4, t_5, t_6, t_7, t_8, t_9, t_10, t_11, t_12, t_13, t_15, t_16, t_20, t_21, t_22, t_32, t_40, t_41, t_48, t_49, t_57, t_59, t_60, t_63, t_72, t_76, t_88, t_100, t_144, t_200, t_255, t_288, t_400, t_800, t_999, t_1000, t_1024, t_1200, t_1600, t_3200, t_100000, t_200000, t_252645135, t_858993459, t_1431655765, u_m1000002, u_m1000001, u_m1000, u_m3, u_m1, u_0, u_1, u_2, u_3, u_4, u_5, u_7, u_8, u_10, u_11, u_15, u_60, u_100, u_255, u_999, u_1000, u_100000, u_4294967295] at hc54)
                exact fin _ _
              · (try simp (disch := omega) only [nT, t_m1000100, t_m1000010, t_m1000003, t_m1000002, t_m1000001, t_m1000000, t_m65535, t_m1000, t_m3, t_m1, t_0, t_1, t_2, t_3, t_4, t_5, t_6, t_7, t_8, t_9, t_10, t_11, t_12, t_13, t_15, t_16, t_20, t_21, t_22, t_32, t_40, t_41, t_48, t_49, t_57, t_59, t_60, t_63, t_72, t_76, t_88, t_100, t_144, t_200, t_255, t_288, t_400, t_800, t_999, t_1000, t_1024, t_1200, t_1600, t_3200, t_100000, t_200000, t_252645135, t_858993459, t_1431655765, u_m1000002, u_m1000001, u_m1000, u_m3, u_m1, u_0, u_1, u_2, u_3, u_4, u_5, u_7, u_8, u_10, u_11, u_15, u_60, u_100, u_255, u_999, u_1000, u_100000, u_4294967295] at hc54); omega
            | succ n ihn =>
              intro q t x8 hq ht he2
              have hpe := @pE_t (wM W a0) (k % 12) (k / 12) q
              have hx2 := s2_T (x := k % 12) (k := q % 3) (by omega) (by omega)
              have hy2 := s2_T (x := k / 12) (k := q / 3) (by omega) (by omega)
              rw [← hx2, ← hy2] at hpe
              have hle2 := atW_le (wM_le hW a0) (nI (k % 12) + nI (q % 3) - 1).toInt (nI (k / 12) + nI (q / 3) - 1).toInt
              refine g_iload dX8_odd_50 rfl ?_
              refine g_bipush (v := 9) dX8_odd_52 (by decide) ?_
              refine g_icmp_ge (tgt := 116) dX8_odd_54 (by decide) (fun hc54 => ?_) (fun hc54 => ?_)
              · (try simp (disch := omega) only [nT, t_m1000100, t_m1000010, t_m1000003, t_m1000002, t_m1000001, t_m1000000, t_m65535, t_m1000, t_m3, t_m1, t_0, t_1, t_2, t_3, t_4, t_5, t_6, t_7, t_8, t_9, t_10, t_11, t_12, t_13, t_15, t_16, t_20, t_21, t_22, t_32, t_40, t_41, t_48, t_49, t_57, t_59, t_60, t_63, t_72, t_76, t_88, t_100, t_144, t_200, t_255, t_288, t_400, t_800, t_999, t_1000, t_1024, t_1200, t_1600, t_3200, t_100000, t_200000, t_252645135, t_858993459, t_1431655765, u_m1000002, u_m1000001, u_m1000, u_m3, u_m1, u_0, u_1, u_2, u_3, u_4, u_5, u_7, u_8, u_10, u_11, u_15, u_60, u_100, u_255, u_999, u_1000, u_100000, u_4294967295] at hc54); omega
              · (try simp (disch := omega) only [nT, t_m1000100, t_m1000010, t_m1000003, t_m1000002, t_m1000001, t_m1000000, t_m65535, t_m1000, t_m3, t_m1, t_0, t_1, t_2, t_3, t_4, t_5, t_6, t_7, t_8, t_9, t_10, t_11, t_12, t_13, t_15, t_16, t_20, t_21, t_22, t_32, t_40, t_41, t_48, t_49, t_57, t_59, t_60, t_63, t_72, t_76, t_88, t_100, t_144, t_200, t_255, t_288, t_400, t_800, t_999, t_1000, t_1024, t_1200, t_1600, t_3200, t_100000, t_200000, t_252645135, t_858993459, t_1431655765, u_m1000002, u_m1000001, u_m1000, u_m3, u_m1, u_0, u_1, u_2, u_3, u_4, u_5, u_7, u_8, u_10, u_11, u_15, u_60, u_100, u_255, u_999, u_1000, u_100000, u_4294967295] at hc54)
                refine g_aload_n (i := 0) dX8_odd_57 rfl rfl ?_
                refine g_iload_n (i := 1) dX8_odd_58 rfl rfl ?_
                refine g_iload dX8_odd_59 rfl ?_
                refine g_bipush (v := 12) dX8_odd_61 (by decide) ?_
                refine g_irem dX8_odd_63 (by decide) ?_
                rw [n_rem12 (by omega)]
                refine g_iload dX8_odd_64 rfl ?_
                refine g_iconst (v := 3) dX8_odd_66 (by decide) ?_
                refine g_irem dX8_odd_67 (by decide) ?_
                rw [n_rem3 (by omega)]
                refine g_iadd dX8_odd_68 ?_
                refine g_iconst (v := 1) dX8_odd_69 (by decide) ?_
                refine g_isub dX8_odd_70 ?_
                refine g_iload dX8_odd_71 rfl ?_
                refine g_bipush (v := 12) dX8_odd_73 (by decide) ?_
                refine g_idiv dX8_odd_75 (by decide) ?_
                rw [n_div12 (by omega)]
                refine g_iload dX8_odd_76 rfl ?_
                refine g_iconst (v := 3) dX8_odd_78 (by decide) ?_
                refine g_idiv dX8_odd_79 (by decide) ?_
                rw [n_div3 (by omega)]
                refine g_iadd dX8_odd_80 ?_
                refine g_iconst (v := 1) dX8_odd_81 (by decide) ?_
                refine g_isub dX8_odd_82 ?_
                refine g_callV (M' := mX8_dieAt) dX8_odd_83 lc_X8_dieAt ml_X8_272 (c_dieAt hg2 ha0 _ _) rfl rfl (by repeat' (first | assumption | exact rF_eq | refine rF_ne (by decide) ?_ | refine rF_a ?_ | exact rA_eq | refine rA_ne (by decide) ?_ | refine rA_f ?_)) rfl ⟨Nat.le_of_ble_eq_true rfl, Nat.le_of_ble_eq_true rfl, Nat.le_of_ble_eq_true rfl, Nat.le_of_ble_eq_true rfl⟩ (Nat.le_of_ble_eq_true rfl) ?_
                intro r_ h_ q_; obtain ⟨q1_, q2_⟩ := q_; have q2_ := q2_.symm; subst q1_; subst q2_
                refine g_istore dX8_odd_86 (Nat.le_of_ble_eq_true rfl) rfl ?_
                refine g_iload dX8_odd_88 rfl ?_
                refine g_iload dX8_odd_90 rfl ?_
                refine g_iconst (v := 4) dX8_odd_92 (by decide) ?_
                refine g_icmp_eq (tgt := 106) dX8_odd_93 (by decide) (fun hc93 => ?_) (fun hc93 => ?_)
                · have hd93 := i_eq.mp hc93; (try simp (disch := omega) only [nT, t_m1000100, t_m1000010, t_m1000003, t_m1000002, t_m1000001, t_m1000000, t_m65535, t_m1000, t_m3, t_m1, t_0, t_1, t_2, t_3, t_4, t_5, t_6, t_7, t_8, t_9, t_10, t_11, t_12, t_13, t_15, t_16, t_20, t_21, t_22, t_32, t_40, t_41, t_48, t_49, t_57, t_59, t_60, t_63, t_72, t_76, t_88, t_100, t_144, t_200, t_255, t_288, t_400, t_800, t_999, t_1000, t_1024, t_1200, t_1600, t_3200, t_100000, t_200000, t_252645135, t_858993459, t_1431655765, u_m1000002, u_m1000001, u_m1000, u_m3, u_m1, u_0, u_1, u_2, u_3, u_4, u_5, u_7, u_8, u_10, u_11, u_15, u_60, u_100, u_255, u_999, u_1000, u_100000, u_4294967295] at hd93)
                  refine g_iconst (v := 0) dX8_odd_106 (by decide) ?_
                  refine g_iadd dX8_odd_107 ?_
                  refine g_istore dX8_odd_108 (Nat.le_of_ble_eq_true rfl) rfl ?_
                  refine g_iinc dX8_odd_110 rfl (Nat.le_of_ble_eq_true rfl) rfl ?_
                  refine g_goto (tgt := 50) dX8_odd_113 (by decide) ?_
                  rw [ni_incO]
                  first
                  | (rw [cnt_t (hpe.mpr ⟨by omega, by omega⟩)] at he2; rw [ni_inc]; exact ihn (q + 1) (t + 1) _ (by omega) (by omega) (by rw [Nat.add_assoc]; exact he2))
                  | (rw [cnt_f (fun z => by have := hpe.mp z; omega)] at he2; rw [Int32.add_zero]; exact ihn (q + 1) t _ (by omega) (by omega) he2)
                · have hd93 := mt i_eq.mpr hc93; (try simp (disch := omega) only [nT, t_m1000100, t_m1000010, t_m1000003, t_m1000002, t_m1000001, t_m1000000, t_m65535, t_m1000, t_m3, t_m1, t_0, t_1, t_2, t_3, t_4, t_5, t_6, t_7, t_8, t_9, t_10, t_11, t_12, t_13, t_15, t_16, t_20, t_21, t_22, t_32, t_40, t_41, t_48, t_49, t_57, t_59, t_60, t_63, t_72, t_76, t_88, t_100, t_144, t_200, t_255, t_288, t_400, t_800, t_999, t_1000, t_1024, t_1200, t_1600, t_3200, t_100000, t_200000, t_252645135, t_858993459, t_1431655765, u_m1000002, u_m1000001, u_m1000, u_m3, u_m1, u_0, u_1, u_2, u_3, u_4, u_5, u_7, u_8, u_10, u_11, u_15, u_60, u_100, u_255, u_999, u_1000, u_100000, u_4294967295] at hd93)
                  refine g_iload dX8_odd_96 rfl ?_
                  refine g_iconst (v := 1) dX8_odd_98 (by decide) ?_
                  refine g_icmp_le (tgt := 106) dX8_odd_99 (by decide) (fun hc99 => ?_) (fun hc99 => ?_)
                  · (try simp (disch := omega) only [nT, t_m1000100, t_m1000010, t_m1000003, t_m1000002, t_m1000001, t_m1000000, t_m65535, t_m1000, t_m3, t_m1, t_0, t_1, t_2, t_3, t_4, t_5, t_6, t_7, t_8, t_9, t_10, t_11, t_12, t_13, t_15, t_16, t_20, t_21, t_22, t_32, t_40, t_41, t_48, t_49, t_57, t_59, t_60, t_63, t_72, t_76, t_88, t_100, t_144, t_200, t_255, t_288, t_400, t_800, t_999, t_1000, t_1024, t_1200, t_1600, t_3200, t_100000, t_200000, t_252645135, t_858993459, t_1431655765, u_m1000002, u_m1000001, u_m1000, u_m3, u_m1, u_0, u_1, u_2, u_3, u_4, u_5, u_7, u_8, u_10, u_11, u_15, u_60, u_100, u_255, u_999, u_1000, u_100000, u_4294967295] at hc99)
                    refine g_iconst (v := 0) dX8_odd_106 (by decide) ?_
                    refine g_iadd dX8_odd_107 ?_
                    refine g_istore dX8_odd_108 (Nat.le_of_ble_eq_true rfl) rfl ?_
                    refine g_iinc dX8_odd_110 rfl (Nat.le_of_ble_eq_true rfl) rfl ?_
                    refine g_goto (tgt := 50) dX8_odd_113 (by decide) ?_
                    rw [ni_incO]
                    first
                    | (rw [cnt_t (hpe.mpr ⟨by omega, by omega⟩)] at he2; rw [ni_inc]; exact ihn (q + 1) (t + 1) _ (by omega) (by omega) (by rw [Nat.add_assoc]; exact he2))
                    | (rw [cnt_f (fun z => by have := hpe.mp z; omega)] at he2; rw [Int32.add_zero]; exact ihn (q + 1) t _ (by omega) (by omega) he2)
                  · (try simp (disch := omega) only [nT, t_m1000100, t_m1000010, t_m1000003, t_m1000002, t_m1000001, t_m1000000, t_m65535, t_m1000, t_m3, t_m1, t_0, t_1, t_2, t_3, t_4, t_5, t_6, t_7, t_8, t_9, t_10, t_11, t_12, t_13, t_15, t_16, t_20, t_21, t_22, t_32, t_40, t_41, t_48, t_49, t_57, t_59, t_60, t_63, t_72, t_76, t_88, t_100, t_144, t_200, t_255, t_288, t_400, t_800, t_999, t_1000, t_1024, t_1200, t_1600, t_3200, t_100000, t_200000, t_252645135, t_858993459, t_1431655765, u_m1000002, u_m1000001, u_m1000, u_m3, u_m1, u_0, u_1, u_2, u_3, u_4, u_5, u_7, u_8, u_10, u_11, u_15, u_60, u_100, u_255, u_999, u_1000, u_100000, u_4294967295] at hc99)
                    refine g_iconst (v := 1) dX8_odd_102 (by decide) ?_
                    refine g_goto (tgt := 107) dX8_odd_103 (by decide) ?_
                    refine g_iadd dX8_odd_107 ?_
                    refine g_istore dX8_odd_108 (Nat.le_of_ble_eq_true rfl) rfl ?_
                    refine g_iinc dX8_odd_110 rfl (Nat.le_of_ble_eq_true rfl) rfl ?_
                    refine g_goto (tgt := 50) dX8_odd_113 (by decide) ?_
                    rw [ni_incO]
                    first
                    | (rw [cnt_t (hpe.mpr ⟨by omega, by omega⟩)] at he2; rw [ni_inc]; exact ihn (q + 1) (t + 1) _ (by omega) (by omega) (by rw [Nat.add_assoc]; exact he2))
                    | (rw [cnt_f (fun z => by have := hpe.mp z; omega)] at he2; rw [Int32.add_zero]; exact ihn (q + 1) t _ (by omega) (by omega) he2)
          refine g_iload dX8_odd_36 rfl ?_
          refine g_sipush (v := 144) dX8_odd_38 (by decide) ?_
          refine g_icmp_ge (tgt := 157) dX8_odd_41 (by decide) (fun hc41 => ?_) (fun hc41 => ?_)
          · (try simp (disch := omega) only [nT, t_m1000100, t_m1000010, t_m1000003, t_m1000002, t_m1000001, t_m1000000, t_m65535, t_m1000, t_m3, t_m1, t_0, t_1, t_2, t_3, t_4, t_5, t_6, t_7, t_8, t_9, t_10, t_11, t_12, t_13, t_15, t_16, t_20, t_21, t_22, t_32, t_40, t_41, t_48, t_49, t_57, t_59, t_60, t_63, t_72, t_76, t_88, t_100, t_144, t_200, t_255, t_288, t_400, t_800, t_999, t_1000, t_1024, t_1200, t_1600, t_3200, t_100000, t_200000, t_252645135, t_858993459, t_1431655765, u_m1000002, u_m1000001, u_m1000, u_m3, u_m1, u_0, u_1, u_2, u_3, u_4, u_5, u_7, u_8, u_10, u_11, u_15, u_60, u_100, u_255, u_999, u_1000, u_100000, u_4294967295] at hc41); omega
          · (try simp (disch := omega) only [nT, t_m1000100, t_m1000010, t_m1000003, t_m1000002, t_m1000001, t_m1000000, t_m65535, t_m1000, t_m3, t_m1, t_0, t_1, t_2, t_3, t_4, t_5, t_6, t_7, t_8, t_9, t_10, t_11, t_12, t_13, t_15, t_16, t_20, t_21, t_22, t_32, t_40, t_41, t_48, t_49, t_57, t_59, t_60, t_63, t_72, t_76, t_88, t_100, t_144, t_200, t_255, t_288, t_400, t_800, t_999, t_1000, t_1024, t_1200, t_1600, t_3200, t_100000, t_200000, t_252645135, t_858993459, t_1431655765, u_m1000002, u_m1000001, u_m1000, u_m3, u_m1, u_0, u_1, u_2, u_3, u_4, u_5, u_7, u_8, u_10, u_11, u_15, u_60, u_100, u_255, u_999, u_1000, u_100000, u_4294967295] at hc41)
            refine g_iconst (v := 0) dX8_odd_44 (by decide) ?_
            refine g_istore dX8_odd_45 (Nat.le_of_ble_eq_true rfl) rfl ?_
            refine g_iconst (v := 0) dX8_odd_47 (by decide) ?_
            refine g_istore dX8_odd_48 (Nat.le_of_ble_eq_true rfl) rfl ?_
            exact keyI 9 0 0 _ (by omega) (by omega) (by rw [Nat.zero_add]; exact hT)
      refine g_iconst (v := 0) dX8_odd_30 (by decide) ?_
      refine g_istore dX8_odd_31 (Nat.le_of_ble_eq_true rfl) rfl ?_
      refine g_iconst (v := 0) dX8_odd_33 (by decide) ?_
      refine g_istore dX8_odd_34 (Nat.le_of_ble_eq_true rfl) rfl ?_
      exact key N 0 0 _ _ _ (by omega) (by omega) (by rw [Nat.zero_add]; exact e.symm)
    · replace hc24 := bI_0.mp hc24
      (try simp (disch := omega) only [nT, t_m1000100, t_m1000010, t_m1000003, t_m1000002, t_m1000001, t_m1000000, t_m65535, t_m1000, t_m3, t_m1, t_0, t_1, t_2, t_3, t_4, t_5, t_6, t_7, t_8, t_9, t_10, t_11, t_12, t_13, t_15, t_16, t_20, t_21, t_22, t_32, t_40, t_41, t_48, t_49, t_57, t_59, t_60, t_63, t_72, t_76, t_88, t_100, t_144, t_200, t_255, t_288, t_400, t_800, t_999, t_1000, t_1024, t_1200, t_1600, t_3200, t_100000, t_200000, t_252645135, t_858993459, t_1431655765, u_m1000002, u_m1000001, u_m1000, u_m3, u_m1, u_0, u_1, u_2, u_3, u_4, u_5, u_7, u_8, u_10, u_11, u_15, u_60, u_100, u_255, u_999, u_1000, u_100000, u_4294967295] at hc24)
      rw [show opOdd W w n i = _ from if_pos (by omega)] at hQ
      refine g_ldc dX8_odd_27 kc_X8_126 ?_
      refine g_iret dX8_odd_29 rfl (rfl) (hQ _ _ ?_)
      exact ⟨rfl, rfl⟩
