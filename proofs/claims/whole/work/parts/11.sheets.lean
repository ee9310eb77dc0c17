/-! the SHEETS -/
theorem c_isWithin (h : HH) (x y : Int32) : CT mX7_isWithin 0 0 0 [.int x, .int y] h (fun r h' => r = some (.int (bI (0 ≤ x.toInt ∧ x.toInt < y.toInt))) ∧ h' = h) := by
  refine CT.go [.int x, .int y] (by decide +kernel) rfl rfl (fun Q' hQ => ?_)
  refine g_iload_n (i := 0) dX7_isWithin_0 rfl rfl ?_
  refine g_if_lt (tgt := 13) dX7_isWithin_1 (by decide) (fun hc1 => ?_) (fun hc1 => ?_)
  · refine g_iconst (v := 0) dX7_isWithin_13 (by decide) ?_
    refine g_iret dX7_isWithin_14 rfl (rfl) (hQ _ _ ?_)
    refine ⟨?_, rfl⟩
    first | rw [bI_t ⟨by omega, by omega⟩] | rw [bI_f (fun q => by omega)]
  · refine g_iload_n (i := 0) dX7_isWithin_4 rfl rfl ?_
    refine g_iload_n (i := 1) dX7_isWithin_5 rfl rfl ?_
    refine g_icmp_ge (tgt := 13) dX7_isWithin_6 (by decide) (fun hc6 => ?_) (fun hc6 => ?_)
    · refine g_iconst (v := 0) dX7_isWithin_13 (by decide) ?_
      refine g_iret dX7_isWithin_14 rfl (rfl) (hQ _ _ ?_)
      refine ⟨?_, rfl⟩
      first | rw [bI_t ⟨by omega, by omega⟩] | rw [bI_f (fun q => by omega)]
    · refine g_iconst (v := 1) dX7_isWithin_9 (by decide) ?_
      refine g_goto (tgt := 14) dX7_isWithin_10 (by decide) ?_
      refine g_iret dX7_isWithin_14 rfl (rfl) (hQ _ _ ?_)
      refine ⟨?_, rfl⟩
      first | rw [bI_t ⟨by omega, by omega⟩] | rw [bI_f (fun q => by omega)]
def ShX (h : HH) (ln sz it : Nat → Int32) : Prop := gA h 1 = aO 3 ∧ gF h 1 0 = .ref 2 ∧ gF h 1 1 = .ref 3 ∧ gF h 1 2 = .ref 4 ∧ gA h 2 = aI 8 ln ∧ gA h 3 = aI 8 sz ∧ gA h 4 = aI 800 it
theorem c_indexOf (h : HH) (x y : Int32) : CT mX3_indexOf 0 0 0 [.ref 1, .int x, .int y] h (fun r h' => r = some (.int (x * 100 + y)) ∧ h' = h) := by
  refine CT.go [.ref 1, .int x, .int y] (by decide +kernel) rfl rfl (fun Q' hQ => ?_)
  refine g_iload_n (i := 1) dX3_indexOf_0 rfl rfl ?_
  refine g_bipush (v := 100) dX3_indexOf_1 (by decide) ?_
  refine g_imul dX3_indexOf_3 ?_
  refine g_iload_n (i := 2) dX3_indexOf_4 rfl rfl ?_
  refine g_iadd dX3_indexOf_5 ?_
  refine g_iret dX3_indexOf_6 rfl (rfl) (hQ _ _ ?_)
  exact ⟨rfl, rfl⟩
theorem c_isMissing {h : HH} {ln sz it : Nat → Int32} (hs : ShX h ln sz it) {x : Int32} {a : Nat} (hx : x.toInt = (a : Int)) (ha : a < 8) : CT mX3_isMissing 0 0 0 [.ref 1, .int x] h (fun r h' => r = some (.int (bI (ln a = -1))) ∧ h' = h) := by
  obtain ⟨e1, e2, e3, e4, e5, e6, e7⟩ := hs
  refine CT.go [.ref 1, .int x] (by decide +kernel) rfl rfl (fun Q' hQ => ?_)
  refine g_aload_n (i := 0) dX3_isMissing_0 rfl rfl ?_
  refine g_get dX3_isMissing_1 fl_X3_9 (by repeat' (first | assumption | exact rF_eq | refine rF_ne (by decide) ?_ | refine rF_a ?_ | exact rA_eq | refine rA_ne (by decide) ?_ | refine rA_f ?_)) (by repeat' (first | assumption | exact rF_eq | refine rF_ne (by decide) ?_ | refine rF_a ?_ | exact rA_eq | refine rA_ne (by decide) ?_ | refine rA_f ?_)) ?_
  refine g_iload_n (i := 1) dX3_isMissing_4 rfl rfl ?_
  refine g_iald dX3_isMissing_5 (by repeat' (first | assumption | exact rF_eq | refine rF_ne (by decide) ?_ | refine rF_a ?_ | exact rA_eq | refine rA_ne (by decide) ?_ | refine rA_f ?_)) (hx) (ha) ?_
  refine g_iconst (v := (-1)) dX3_isMissing_6 (by decide) ?_
  refine g_icmp_ne (tgt := 14) dX3_isMissing_7 (by decide) (fun hc7 => ?_) (fun hc7 => ?_)
  · refine g_iconst (v := 0) dX3_isMissing_14 (by decide) ?_
    refine g_iret dX3_isMissing_15 rfl (rfl) (hQ _ _ ?_)
    refine ⟨?_, rfl⟩
    first | rw [bI_t (by assumption)] | rw [bI_f (by assumption)]
  · refine g_iconst (v := 1) dX3_isMissing_10 (by decide) ?_
    refine g_goto (tgt := 15) dX3_isMissing_11 (by decide) ?_
    refine g_iret dX3_isMissing_15 rfl (rfl) (hQ _ _ ?_)
    refine ⟨?_, rfl⟩
    first | rw [bI_t (by assumption)] | rw [bI_f (by assumption)]
theorem c_hasItems {h : HH} {ln sz it : Nat → Int32} (hs : ShX h ln sz it) {x i n : Int32} {a : Nat} (hx : x.toInt = (a : Int)) (ha : a < 8) : CT mX3_hasItems 0 0 0 [.ref 1, .int x, .int i, .int n] h (fun r h' => r = some (.int (bI (0 ≤ i.toInt ∧ 0 ≤ n.toInt ∧ i.toInt + n.toInt ≤ (sz a).toInt))) ∧ h' = h) := by
  obtain ⟨e1, e2, e3, e4, e5, e6, e7⟩ := hs
  refine CT.go [.ref 1, .int x, .int i, .int n] (by decide +kernel) rfl rfl (fun Q' hQ => ?_)
  refine g_iload_n (i := 2) dX3_hasItems_0 rfl rfl ?_
  refine g_if_lt (tgt := 28) dX3_hasItems_1 (by decide) (fun hc1 => ?_) (fun hc1 => ?_)
  · refine g_iconst (v := 0) dX3_hasItems_28 (by decide) ?_
    refine g_iret dX3_hasItems_29 rfl (rfl) (hQ _ _ ?_)
    refine ⟨?_, rfl⟩
    first | rw [bI_t ⟨by omega, by omega, by omega⟩] | rw [bI_f (fun q => by omega)]
  · refine g_iload_n (i := 3) dX3_hasItems_4 rfl rfl ?_
    refine g_if_lt (tgt := 28) dX3_hasItems_5 (by decide) (fun hc5 => ?_) (fun hc5 => ?_)
    · refine g_iconst (v := 0) dX3_hasItems_28 (by decide) ?_
      refine g_iret dX3_hasItems_29 rfl (rfl) (hQ _ _ ?_)
      refine ⟨?_, rfl⟩
      first | rw [bI_t ⟨by omega, by omega, by omega⟩] | rw [bI_f (fun q => by omega)]
    · refine g_iload_n (i := 2) dX3_hasItems_8 rfl rfl ?_
      refine g_i2l dX3_hasItems_9 ?_
      refine g_iload_n (i := 3) dX3_hasItems_10 rfl rfl ?_
      refine g_i2l dX3_hasItems_11 ?_
      refine g_ladd dX3_hasItems_12 ?_
      refine g_aload_n (i := 0) dX3_hasItems_13 rfl rfl ?_
      refine g_get dX3_hasItems_14 fl_X3_15 (by repeat' (first | assumption | exact rF_eq | refine rF_ne (by decide) ?_ | refine rF_a ?_ | exact rA_eq | refine rA_ne (by decide) ?_ | refine rA_f ?_)) (by repeat' (first | assumption | exact rF_eq | refine rF_ne (by decide) ?_ | refine rF_a ?_ | exact rA_eq | refine rA_ne (by decide) ?_ | refine rA_f ?_)) ?_
      refine g_iload_n (i := 1) dX3_hasItems_17 rfl rfl ?_
      refine g_iald dX3_hasItems_18 (by repeat' (first | assumption | exact rF_eq | refine rF_ne (by decide) ?_ | refine rF_a ?_ | exact rA_eq | refine rA_ne (by decide) ?_ | refine rA_f ?_)) (hx) (ha) ?_
      refine g_i2l dX3_hasItems_19 ?_
      refine g_lcmp dX3_hasItems_20 ?_
      refine g_if_gt (tgt := 28) dX3_hasItems_21 (by decide) (fun hc21 => ?_) (fun hc21 => ?_)
      · replace hc21 := lc_gt.mp hc21; try simp only [l_add32, l_i] at hc21
        refine g_iconst (v := 0) dX3_hasItems_28 (by decide) ?_
        refine g_iret dX3_hasItems_29 rfl (rfl) (hQ _ _ ?_)
        refine ⟨?_, rfl⟩
        first | rw [bI_t ⟨by omega, by omega, by omega⟩] | rw [bI_f (fun q => by omega)]
      · replace hc21 := lc_le.mp hc21; try simp only [l_add32, l_i] at hc21
        refine g_iconst (v := 1) dX3_hasItems_24 (by decide) ?_
        refine g_goto (tgt := 29) dX3_hasItems_25 (by decide) ?_
        refine g_iret dX3_hasItems_29 rfl (rfl) (hQ _ _ ?_)
        refine ⟨?_, rfl⟩
        first | rw [bI_t ⟨by omega, by omega, by omega⟩] | rw [bI_f (fun q => by omega)]
