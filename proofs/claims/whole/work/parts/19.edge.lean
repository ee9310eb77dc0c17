/-! edges -/
def bsr (f : Nat → Int32) : Nat → Nat → Nat → Nat → Nat × Nat
  | 0, lo, _, k => (lo, k)
  | n + 1, lo, up, k => if lo < up then (if (f ((lo + up) / 2)).toInt = 0 then bsr f n ((lo + up) / 2 + 1) up (k + 1) else bsr f n lo ((lo + up) / 2) (k + 1)) else (lo, k)
theorem bsr_in (f : Nat → Int32) : ∀ (n lo up k : Nat), lo ≤ up → lo ≤ (bsr f n lo up k).1 ∧ (bsr f n lo up k).1 ≤ up ∧ (bsr f n lo up k).2 ≤ k + n
  | 0, lo, up, k, h => ⟨Nat.le_refl _, h, Nat.le_refl _⟩
  | n + 1, lo, up, k, h => by
    unfold bsr
    split
    · split
      · have := bsr_in f n ((lo + up) / 2 + 1) up (k + 1) (by omega); omega
      · have := bsr_in f n lo ((lo + up) / 2) (k + 1) (by omega); omega
    · exact ⟨Nat.le_refl _, h, by omega⟩
def okB (f : Nat → Int32) (e : Nat) : Nat → Nat → Bool
  | _, 0 => true
  | i, n + 1 => (decide (¬ (f i).toInt = 0) == decide (e ≤ i)) && okB f e (i + 1) n
def opEdge (w : SH) (s i n a : Int32) : Int32 × Int32 :=
  if ¬ (0 ≤ s.toInt ∧ s.toInt < 8) ∨ n.toInt < 1 ∨ 60 < n.toInt ∨ ¬ (0 ≤ a.toInt ∧ a.toInt < 3) then (-1000001, w.1)
  else if (w.2.1 s.toInt.toNat).toInt < 0 then (fnd 1, 1)
  else if i.toInt < 0 ∨ (w.2.2.1 s.toInt.toNat).toInt < i.toInt + n.toInt then (fnd 2, 2)
  else (if a.toInt = 2 then bI (okB (fun q => w.2.2.2 (100 * s.toInt.toNat + q)) (bsr (fun q => w.2.2.2 (100 * s.toInt.toNat + q)) n.toInt.toNat i.toInt.toNat (i.toInt.toNat + n.toInt.toNat) 0).1 i.toInt.toNat n.toInt.toNat = true)
    else if a.toInt = 1 then nI (bsr (fun q => w.2.2.2 (100 * s.toInt.toNat + q)) n.toInt.toNat i.toInt.toNat (i.toInt.toNat + n.toInt.toNat) 0).2
    else nI ((bsr (fun q => w.2.2.2 (100 * s.toInt.toNat + q)) n.toInt.toNat i.toInt.toNat (i.toInt.toNat + n.toInt.toNat) 0).1 - i.toInt.toNat), 0)
theorem c_isEdge {h : HH} {ln sz it : Nat → Int32} (h0 : gA h 0 = aO 7) (h1 : gF h 0 0 = .ref 1) (hs : ShX h ln sz it) {a i n e : Nat} (ha : a < 8) (hi : i + n ≤ 100) (he : e ≤ 100) : CT mX7_isEdge 2 0 0 [.ref 0, .int (nI a), .int (nI i), .int (nI e), .int (nI (i + n))] h (fun r h' => r = some (.int (bI (okB (fun q => it (100 * a + q)) e i n = true))) ∧ h' = h) := by
  have d1 := hs.1
  refine CT.go [.ref 0, .int (nI a), .int (nI i), .int (nI e), .int (nI (i + n)), hU] (by decide +kernel) rfl rfl (fun Q' hQ => ?_)
  have key : ∀ m k : Nat, k + m = i + n → okB (fun q => it (100 * a + q)) e k m = okB (fun q => it (100 * a + q)) e i n → GG (EM mX7_isEdge 2 0 0 Q') 0 0 3 [.ref 0, .int (nI a), .int (nI i), .int (nI e), .int (nI (i + n)), .int (nI k)] [] h := by
    intro m
    induction m with
    | zero =>
      intro k hk hm
      obtain rfl : k = i + n := by omega
      refine g_iload dX7_isEdge_3 rfl ?_
      refine g_iload dX7_isEdge_5 rfl ?_
      refine g_icmp_ge (tgt := 50) dX7_isEdge_7 (by decide) (fun hc7 => ?_) (fun hc7 => ?_)
      · (try simp (disch := omega) only [nT, t_m1000100, t_m1000010, t_m1000003, t_m1000002, t_m1000001, t_m1000000, t_m65535, t_m1000, t_m3, t_m1, t_0, t_1, t_2, t_3, t_4, t_5, t_6, t_7, t_8, t_9, t_10, t_11, t_12, t_13, t_15, t_16, t_20, t_21, t_22, t_32, t_40, t_41, t_48, t_49, t_57, t_59, t_60, t_63, t_72, t_76, t_88, t_100, t_144, t_200, t_255, t_288, t_400, t_800, t_999, t_1000, t_1024, t_1200, t_1600, t_3200, t_100000, t_200000, t_252645135, t_858993459, t_1431655765, u_m1000002, u_m1000001, u_m1000, u_m3, u_m1, u_0, u_1, u_2, u_3, u_4, u_5, u_7, u_8, u_10, u_11, u_15, u_60, u_100, u_255, u_999, u_1000, u_100000, u_4294967295] at hc7)
        refine g_iconst (v := 1) dX7_isEdge_50 (by decide) ?_
        refine g_iret dX7_isEdge_51 rfl (rfl) (hQ _ _ ?_)
        refine ⟨?_, rfl⟩
        rw [← hm, bI_t (by rfl)]
      · (try simp (disch := omega) only [nT, t_m1000100, t_m1000010, t_m1000003, t_m1000002, t_m1000001, t_m1000000, t_m65535, t_m1000, t_m3, t_m1, t_0, t_1, t_2, t_3, t_4, t_5, t_6, t_7, t_8, t_9, t_10, t_11, t_12, t_13, t_15, t_16, t_20, t_21, t_22, t_32, t_40, t_41, t_48, t_49, t_57, t_59, t_60, t_63, t_72, t_76, t_88, t_100, t_144, t_200, t_255, t_288, t_400, t_800, t_999, t_1000, t_1024, t_1200, t_1600, t_3200, t_100000, t_200000, t_252645135, t_858993459, t_1431655765, u_m1000002, u_m1000001, u_m1000, u_m3, u_m1, u_0, u_1, u_2, u_3, u_4, u_5, u_7, u_8, u_10, u_11, u_15, u_60, u_100, u_255, u_999, u_1000, u_100000, u_4294967295] at hc7); omega
    | succ m ih =>
      intro k hk hm
      rw [show okB (fun q => it (100 * a + q)) e k (m + 1) = ((decide (¬ (it (100 * a + k)).toInt = 0) == decide (e ≤ k)) && okB (fun q => it (100 * a + q)) e (k + 1) m) from rfl] at hm
      refine g_iload dX7_isEdge_3 rfl ?_
      refine g_iload dX7_isEdge_5 rfl ?_
      refine g_icmp_ge (tgt := 50) dX7_isEdge_7 (by decide) (fun hc7 => ?_) (fun hc7 => ?_)
      · (try simp (disch := omega) only [nT, t_m1000100, t_m1000010, t_m1000003, t_m1000002, t_m1000001, t_m1000000, t_m65535, t_m1000, t_m3, t_m1, t_0, t_1, t_2, t_3, t_4, t_5, t_6, t_7, t_8, t_9, t_10, t_11, t_12, t_13, t_15, t_16, t_20, t_21, t_22, t_32, t_40, t_41, t_48, t_49, t_57, t_59, t_60, t_63, t_72, t_76, t_88, t_100, t_144, t_200, t_255, t_288, t_400, t_800, t_999, t_1000, t_1024, t_1200, t_1600, t_3200, t_100000, t_200000, t_252645135, t_858993459, t_1431655765, u_m1000002, u_m1000001, u_m1000, u_m3, u_m1, u_0, u_1, u_2, u_3, u_4, u_5, u_7, u_8, u_10, u_11, u_15, u_60, u_100, u_255, u_999, u_1000, u_100000, u_4294967295] at hc7); omega
      · (try simp (disch := omega) only [nT, t_m1000100, t_m1000010, t_m1000003, t_m1000002, t_m1000001, t_m1000000, t_m65535, t_m1000, t_m3, t_m1, t_0, t_1, t_2, t_3, t_4, t_5, t_6, t_7, t_8, t_9, t_10, t_11, t_12, t_13, t_15, t_16, t_20, t_21, t_22, t_32, t_40, t_41, t_48, t_49, t_57, t_59, t_60, t_63, t_72, t_76, t_88, t_100, t_144, t_200, t_255, t_288, t_400, t_800, t_999, t_1000, t_1024, t_1200, t_1600, t_3200, t_100000, t_200000, t_252645135, t_858993459, t_1431655765, u_m1000002, u_m1000001, u_m1000, u_m3, u_m1, u_0, u_1, u_2, u_3, u_4, u_5, u_7, u_8, u_10, u_11, u_15, u_60, u_100, u_255, u_999, u_1000, u_100000, u_4294967295] at hc7)
        refine g_aload_n (i := 0) dX7_isEdge_10 rfl rfl ?_
        refine g_get dX7_isEdge_11 fl_X7_10 (by repeat' (first | assumption | exact rF_eq | refine rF_ne (by decide) ?_ | refine rF_a ?_ | exact rA_eq | refine rA_ne (by decide) ?_ | refine rA_f ?_)) (by repeat' (first | assumption | exact rF_eq | refine rF_ne (by decide) ?_ | refine rF_a ?_ | exact rA_eq | refine rA_ne (by decide) ?_ | refine rA_f ?_)) ?_
        refine g_iload_n (i := 1) dX7_isEdge_14 rfl rfl ?_
        refine g_iload dX7_isEdge_15 rfl ?_
        refine g_callV (M' := mX3_itemAt) dX7_isEdge_17 lc_X3_itemAt ml_X7_188 (c_itemAt hs ha (by omega : k < 100)) rfl rfl (by repeat' (first | assumption | exact rF_eq | refine rF_ne (by decide) ?_ | refine rF_a ?_ | exact rA_eq | refine rA_ne (by decide) ?_ | refine rA_f ?_)) rfl ⟨Nat.le_of_ble_eq_true rfl, Nat.le_of_ble_eq_true rfl, Nat.le_of_ble_eq_true rfl, Nat.le_of_ble_eq_true rfl⟩ (Nat.le_of_ble_eq_true rfl) ?_
        intro r_ h_ q_; obtain ⟨q1_, q2_⟩ := q_; have q2_ := q2_.symm; subst q1_; subst q2_
        refine g_if_eq (tgt := 27) dX7_isEdge_20 (by decide) (fun hc20 => ?_) (fun hc20 => ?_)
        · have hd20 := i_eq.mp hc20; (try simp (disch := omega) only [nT, t_m1000100, t_m1000010, t_m1000003, t_m1000002, t_m1000001, t_m1000000, t_m65535, t_m1000, t_m3, t_m1, t_0, t_1, t_2, t_3, t_4, t_5, t_6, t_7, t_8, t_9, t_10, t_11, t_12, t_13, t_15, t_16, t_20, t_21, t_22, t_32, t_40, t_41, t_48, t_49, t_57, t_59, t_60, t_63, t_72, t_76, t_88, t_100, t_144, t_200, t_255, t_288, t_400, t_800, t_999, t_1000, t_1024, t_1200, t_1600, t_3200, t_100000, t_200000, t_252645135, t_858993459, t_1431655765, u_m1000002, u_m1000001, u_m1000, u_m3, u_m1, u_0, u_1, u_2, u_3, u_4, u_5, u_7, u_8, u_10, u_11, u_15, u_60, u_100, u_255, u_999, u_1000, u_100000, u_4294967295] at hd20)
          refine g_iconst (v := 0) dX7_isEdge_27 (by decide) ?_
          refine g_iload dX7_isEdge_28 rfl ?_
          refine g_iload_n (i := 3) dX7_isEdge_30 rfl rfl ?_
          refine g_icmp_lt (tgt := 38) dX7_isEdge_31 (by decide) (fun hc31 => ?_) (fun hc31 => ?_)
          · (try simp (disch := omega) only [nT, t_m1000100, t_m1000010, t_m1000003, t_m1000002, t_m1000001, t_m1000000, t_m65535, t_m1000, t_m3, t_m1, t_0, t_1, t_2, t_3, t_4, t_5, t_6, t_7, t_8, t_9, t_10, t_11, t_12, t_13, t_15, t_16, t_20, t_21, t_22, t_32, t_40, t_41, t_48, t_49, t_57, t_59, t_60, t_63, t_72, t_76, t_88, t_100, t_144, t_200, t_255, t_288, t_400, t_800, t_999, t_1000, t_1024, t_1200, t_1600, t_3200, t_100000, t_200000, t_252645135, t_858993459, t_1431655765, u_m1000002, u_m1000001, u_m1000, u_m3, u_m1, u_0, u_1, u_2, u_3, u_4, u_5, u_7, u_8, u_10, u_11, u_15, u_60, u_100, u_255, u_999, u_1000, u_100000, u_4294967295] at hc31)
            refine g_iconst (v := 0) dX7_isEdge_38 (by decide) ?_
            refine g_icmp_eq (tgt := 44) dX7_isEdge_39 (by decide) (fun hc39 => ?_) (fun hc39 => ?_)
            · have hd39 := i_eq.mp hc39; (try simp (disch := omega) only [nT, t_m1000100, t_m1000010, t_m1000003, t_m1000002, t_m1000001, t_m1000000, t_m65535, t_m1000, t_m3, t_m1, t_0, t_1, t_2, t_3, t_4, t_5, t_6, t_7, t_8, t_9, t_10, t_11, t_12, t_13, t_15, t_16, t_20, t_21, t_22, t_32, t_40, t_41, t_48, t_49, t_57, t_59, t_60, t_63, t_72, t_76, t_88, t_100, t_144, t_200, t_255, t_288, t_400, t_800, t_999, t_1000, t_1024, t_1200, t_1600, t_3200, t_100000, t_200000, t_252645135, t_858993459, t_1431655765, u_m1000002, u_m1000001, u_m1000, u_m3, u_m1, u_0, u_1, u_2, u_3, u_4, u_5, u_7, u_8, u_10, u_11, u_15, u_60, u_100, u_255, u_999, u_1000, u_100000, u_4294967295] at hd39); first
              | exact absurd hc39 (by decide)
              | (have hm2 : okB (fun q => it (100 * a + q)) e (k + 1) m = okB (fun q => it (100 * a + q)) e i n := by
                   rw [← hm]; simp [hd20]; omega
                 refine g_iinc dX7_isEdge_44 rfl (Nat.le_of_ble_eq_true rfl) rfl ?_
                 refine g_goto (tgt := 3) dX7_isEdge_47 (by decide) ?_
                 rw [ni_incO]; exact ih (k + 1) (by omega) hm2
                )
            · have hd39 := mt i_eq.mpr hc39; (try simp (disch := omega) only [nT, t_m1000100, t_m1000010, t_m1000003, t_m1000002, t_m1000001, t_m1000000, t_m65535, t_m1000, t_m3, t_m1, t_0, t_1, t_2, t_3, t_4, t_5, t_6, t_7, t_8, t_9, t_10, t_11, t_12, t_13, t_15, t_16, t_20, t_21, t_22, t_32, t_40, t_41, t_48, t_49, t_57, t_59, t_60, t_63, t_72, t_76, t_88, t_100, t_144, t_200, t_255, t_288, t_400, t_800, t_999, t_1000, t_1024, t_1200, t_1600, t_3200, t_100000, t_200000, t_252645135, t_858993459, t_1431655765, u_m1000002, u_m1000001, u_m1000, u_m3, u_m1, u_0, u_1, u_2, u_3, u_4, u_5, u_7, u_8, u_10, u_11, u_15, u_60, u_100, u_255, u_999, u_1000, u_100000, u_4294967295] at hd39)
              refine g_iconst (v := 0) dX7_isEdge_42 (by decide) ?_
              refine g_iret dX7_isEdge_43 rfl (rfl) (hQ _ _ ?_)
              refine ⟨?_, rfl⟩
              first
              | exact absurd rfl hc39
              | (rw [← hm, bI_f]
                 simp [hd20]; omega)
          · (try simp (disch := omega) only [nT, t_m1000100, t_m1000010, t_m1000003, t_m1000002, t_m1000001, t_m1000000, t_m65535, t_m1000, t_m3, t_m1, t_0, t_1, t_2, t_3, t_4, t_5, t_6, t_7, t_8, t_9, t_10, t_11, t_12, t_13, t_15, t_16, t_20, t_21, t_22, t_32, t_40, t_41, t_48, t_49, t_57, t_59, t_60, t_63, t_72, t_76, t_88, t_100, t_144, t_200, t_255, t_288, t_400, t_800, t_999, t_1000, t_1024, t_1200, t_1600, t_3200, t_100000, t_200000, t_252645135, t_858993459, t_1431655765, u_m1000002, u_m1000001, u_m1000, u_m3, u_m1, u_0, u_1, u_2, u_3, u_4, u_5, u_7, u_8, u_10, u_11, u_15, u_60, u_100, u_255, u_999, u_1000, u_100000, u_4294967295] at hc31)
            refine g_iconst (v := 1) dX7_isEdge_34 (by decide) ?_
            refine g_goto (tgt := 39) dX7_isEdge_35 (by decide) ?_
            refine g_icmp_eq (tgt := 44) dX7_isEdge_39 (by decide) (fun hc39 => ?_) (fun hc39 => ?_)
            · have hd39 := i_eq.mp hc39; (try simp (disch := omega) only [nT, t_m1000100, t_m1000010, t_m1000003, t_m1000002, t_m1000001, t_m1000000, t_m65535, t_m1000, t_m3, t_m1, t_0, t_1, t_2, t_3, t_4, t_5, t_6, t_7, t_8, t_9, t_10, t_11, t_12, t_13, t_15, t_16, t_20, t_21, t_22, t_32, t_40, t_41, t_48, t_49, t_57, t_59, t_60, t_63, t_72, t_76, t_88, t_100, t_144, t_200, t_255, t_288, t_400, t_800, t_999, t_1000, t_1024, t_1200, t_1600, t_3200, t_100000, t_200000, t_252645135, t_858993459, t_1431655765, u_m1000002, u_m1000001, u_m1000, u_m3, u_m1, u_0, u_1, u_2, u_3, u_4, u_5, u_7, u_8, u_10, u_11, u_15, u_60, u_100, u_255, u_999, u_1000, u_100000, u_4294967295] at hd39); first
              | exact absurd hc39 (by decide)
              | (have hm2 : okB (fun q => it (100 * a + q)) e (k + 1) m = okB (fun q => it (100 * a + q)) e i n := by
                   rw [← hm]; simp [hd20]; omega
                 refine g_iinc dX7_isEdge_44 rfl (Nat.le_of_ble_eq_true rfl) rfl ?_
                 refine g_goto (tgt := 3) dX7_isEdge_47 (by decide) ?_
                 rw [ni_incO]; exact ih (k + 1) (by omega) hm2
                )
            · have hd39 := mt i_eq.mpr hc39; (try simp (disch := omega) only [nT, t_m1000100, t_m1000010, t_m1000003, t_m1000002, t_m1000001, t_m1000000, t_m65535, t_m1000, t_m3, t_m1, t_0, t_1, t_2, t_3, t_4, t_5, t_6, t_7, t_8, t_9, t_10, t_11, t_12, t_13, t_15, t_16, t_20, t_21, t_22, t_32, t_40, t_41, t_48, t_49, t_57, t_59, t_60, t_63, t_72, t_76, t_88, t_100, t_144, t_200, t_255, t_288, t_400, t_800, t_999, t_1000, t_1024, t_1200, t_1600, t_3200, t_100000, t_200000, t_252645135, t_858993459, t_1431655765, u_m1000002, u_m1000001, u_m1000, u_m3, u_m1, u_0, u_1, u_2, u_3, u_4, u_5, u_7, u_8, u_10, u_11, u_15, u_60, u_100, u_255, u_999, u_1000, u_100000, u_4294967295] at hd39)
              refine g_iconst (v := 0) dX7_isEdge_42 (by decide) ?_
              refine g_iret dX7_isEdge_43 rfl (rfl) (hQ _ _ ?_)
              refine ⟨?_, rfl⟩
              first
              | exact absurd rfl hc39
              | (rw [← hm, bI_f]
                 simp [hd20]; omega)
        · have hd20 := mt i_eq.mpr hc20; (try simp (disch := omega) only [nT, t_m1000100, t_m1000010, t_m1000003, t_m1000002, t_m1000001, t_m1000000, t_m65535, t_m1000, t_m3, t_m1, t_0, t_1, t_2, t_3, t_4, t_5, t_6, t_7, t_8, t_9, t_10, t_11, t_12, t_13, t_15, t_16, t_20, t_21, t_22, t_32, t_40, t_41, t_48, t_49, t_57, t_59, t_60, t_63, t_72, t_76, t_88, t_100, t_144, t_200, t_255, t_288, t_400, t_800, t_999, t_1000, t_1024, t_1200, t_1600, t_3200, t_100000, t_200000, t_252645135, t_858993459, t_1431655765, u_m1000002, u_m1000001, u_m1000, u_m3, u_m1, u_0, u_1, u_2, u_3, u_4, u_5, u_7, u_8, u_10, u_11, u_15, u_60, u_100, u_255, u_999, u_1000, u_100000, u_4294967295] at hd20)
          refine g_iconst (v := 1) dX7_isEdge_23 (by decide) ?_
          refine g_goto (tgt := 28) dX7_isEdge_24 (by decide) ?_
          refine g_iload dX7_isEdge_28 rfl ?_
          refine g_iload_n (i := 3) dX7_isEdge_30 rfl rfl ?_
          refine g_icmp_lt (tgt := 38) dX7_isEdge_31 (by decide) (fun hc31 => ?_) (fun hc31 => ?_)
          · (try simp (disch := omega) only [nT, t_m1000100, t_m1000010, t_m1000003, t_m1000002, t_m1000001, t_m1000000, t_m65535, t_m1000, t_m3, t_m1, t_0, t_1, t_2, t_3, t_4, t_5, t_6, t_7, t_8, t_9, t_10, t_11, t_12, t_13, t_15, t_16, t_20, t_21, t_22, t_32, t_40, t_41, t_48, t_49, t_57, t_59, t_60, t_63, t_72, t_76, t_88, t_100, t_144, t_200, t_255, t_288, t_400, t_800, t_999, t_1000, t_1024, t_1200, t_1600, t_3200, t_100000, t_200000, t_252645135, t_858993459, t_1431655765, u_m1000002, u_m1000001, u_m1000, u_m3, u_m1, u_0, u_1, u_2, u_3, u_4, u_5, u_7, u_8, u_10, u_11, u_15, u_60, u_100, u_255, u_999, u_1000, u_100000, u_4294967295] at hc31)
            refine g_iconst (v := 0) dX7_isEdge_38 (by decide) ?_
            refine g_icmp_eq (tgt := 44) dX7_isEdge_39 (by decide) (fun hc39 => ?_) (fun hc39 => ?_)
            · have hd39 := i_eq.mp hc39; (try simp (disch := omega) only [nT, t_m1000100, t_m1000010, t_m1000003, t_m1000002, t_m1000001, t_m1000000, t_m65535, t_m1000, t_m3, t_m1, t_0, t_1, t_2, t_3, t_4, t_5, t_6, t_7, t_8, t_9, t_10, t_11, t_12, t_13, t_15, t_16, t_20, t_21, t_22, t_32, t_40, t_41, t_48, t_49, t_57, t_59, t_60, t_63, t_72, t_76, t_88, t_100, t_144, t_200, t_255, t_288, t_400, t_800, t_999, t_1000, t_1024, t_1200, t_1600, t_3200, t_100000, t_200000, t_252645135, t_858993459, t_1431655765, u_m1000002, u_m1000001, u_m1000, u_m3, u_m1, u_0, u_1, u_2, u_3, u_4, u_5, u_7, u_8, u_10, u_11, u_15, u_60, u_100, u_255, u_999, u_1000, u_100000, u_4294967295] at hd39); first
              | exact absurd hc39 (by decide)
              | (have hm2 : okB (fun q => it (100 * a + q)) e (k + 1) m = okB (fun q => it (100 * a + q)) e i n := by
                   rw [← hm]; simp [hd20]; omega
                 refine g_iinc dX7_isEdge_44 rfl (Nat.le_of_ble_eq_true rfl) rfl ?_
                 refine g_goto (tgt := 3) dX7_isEdge_47 (by decide) ?_
                 rw [ni_incO]; exact ih (k + 1) (by omega) hm2
                )
            · have hd39 := mt i_eq.mpr hc39; (try simp (disch := omega) only [nT, t_m1000100, t_m1000010, t_m1000003, t_m1000002, t_m1000001, t_m1000000, t_m65535, t_m1000, t_m3, t_m1, t_0, t_1, t_2, t_3, t_4, t_5, t_6, t_7, t_8, t_9, t_10, t_11, t_12, t_13, t_15, t_16, t_20, t_21, t_22, t_32, t_40, t_41, t_48, t_49, t_57, t_59, t_60, t_63, t_72, t_76, t_88, t_100, t_144, t_200, t_255, t_288, t_400, t_800, t_999, t_1000, t_1024, t_1200, t_1600, t_3200, t_100000, t_200000, t_252645135, t_858993459, t_1431655765, u_m1000002, u_m1000001, u_m1000, u_m3, u_m1, u_0, u_1, u_2, u_3, u_4, u_5, u_7, u_8, u_10, u_11, u_15, u_60, u_100, u_255, u_999, u_1000, u_100000, u_4294967295] at hd39)
              refine g_iconst (v := 0) dX7_isEdge_42 (by decide) ?_
              refine g_iret dX7_isEdge_43 rfl (rfl) (hQ _ _ ?_)
              refine ⟨?_, rfl⟩
              first
              | exact absurd rfl hc39
              | (rw [← hm, bI_f]
                 simp [hd20]; omega)
          · (try simp (disch := omega) only [nT, t_m1000100, t_m1000010, t_m1000003, t_m1000002, t_m1000001, t_m1000000, t_m65535, t_m1000, t_m3, t_m1, t_0, t_1, t_2, t_3, t_4, t_5, t_6, t_7, t_8, t_9, t_10, t_11, t_12, t_13, t_15, t_16, t_20, t_21, t_22, t_32, t_40, t_41, t_48, t_49, t_57, t_59, t_60, t_63, t_72, t_76, t_88, t_100, t_144, t_200, t_255, t_288, t_400, t_800, t_999, t_1000, t_1024, t_1200, t_1600, t_3200, t_100000, t_200000, t_252645135, t_858993459, t_1431655765, u_m1000002, u_m1000001, u_m1000, u_m3, u_m1, u_0, u_1, u_2, u_3, u_4, u_5, u_7, u_8, u_10, u_11, u_15, u_60, u_100, u_255, u_999, u_1000, u_100000, u_4294967295] at hc31)
            refine g_iconst (v := 1) dX7_isEdge_34 (by decide) ?_
            refine g_goto (tgt := 39) dX7_isEdge_35 (by decide) ?_
            refine g_icmp_eq (tgt := 44) dX7_isEdge_39 (by decide) (fun hc39 => ?_) (fun hc39 => ?_)
            · have hd39 := i_eq.mp hc39; (try simp (disch := omega) only [nT, t_m1000100, t_m1000010, t_m1000003, t_m1000002, t_m1000001, t_m1000000, t_m65535, t_m1000, t_m3, t_m1, t_0, t_1, t_2, t_3, t_4, t_5, t_6, t_7, t_8, t_9, t_10, t_11, t_12, t_13, t_15, t_16, t_20, t_21, t_22, t_32, t_40, t_41, t_48, t_49, t_57, t_59, t_60, t_63, t_72, t_76, t_88, t_100, t_144, t_200, t_255, t_288, t_400, t_800, t_999, t_1000, t_1024, t_1200, t_1600, t_3200, t_100000, t_200000, t_252645135, t_858993459, t_1431655765, u_m1000002, u_m1000001, u_m1000, u_m3, u_m1, u_0, u_1, u_2, u_3, u_4, u_5, u_7, u_8, u_10, u_11, u_15, u_60, u_100, u_255, u_999, u_1000, u_100000, u_4294967295] at hd39); first
              | exact absurd hc39 (by decide)
              | (have hm2 : okB (fun q => it (100 * a + q)) e (k + 1) m = okB (fun q => it (100 * a + q)) e i n := by
                   rw [← hm]; simp [hd20]; omega
                 refine g_iinc dX7_isEdge_44 rfl (Nat.le_of_ble_eq_true rfl) rfl ?_
                 refine g_goto (tgt := 3) dX7_isEdge_47 (by decide) ?_
                 rw [ni_incO]; exact ih (k + 1) (by omega) hm2
                )
            · have hd39 := mt i_eq.mpr hc39; (try simp (disch := omega) only [nT, t_m1000100, t_m1000010, t_m1000003, t_m1000002, t_m1000001, t_m1000000, t_m65535, t_m1000, t_m3, t_m1, t_0, t_1, t_2, t_3, t_4, t_5, t_6, t_7, t_8, t_9, t_10, t_11, t_12, t_13, t_15, t_16, t_20, t_21, t_22, t_32, t_40, t_41, t_48, t_49, t_57, t_59, t_60, t_63, t_72, t_76, t_88, t_100, t_144, t_200, t_255, t_288, t_400, t_800, t_999, t_1000, t_1024, t_1200, t_1600, t_3200, t_100000, t_200000, t_252645135, t_858993459, t_1431655765, u_m1000002, u_m1000001, u_m1000, u_m3, u_m1, u_0, u_1, u_2, u_3, u_4, u_5, u_7, u_8, u_10, u_11, u_15, u_60, u_100, u_255, u_999, u_1000, u_100000, u_4294967295] at hd39)
              refine g_iconst (v := 0) dX7_isEdge_42 (by decide) ?_
              refine g_iret dX7_isEdge_43 rfl (rfl) (hQ _ _ ?_)
              refine ⟨?_, rfl⟩
              first
              | exact absurd rfl hc39
              | (rw [← hm, bI_f]
                 simp [hd20]; omega)
  refine g_iload_n (i := 2) dX7_isEdge_0 rfl rfl ?_
  refine g_istore dX7_isEdge_1 (Nat.le_of_ble_eq_true rfl) rfl ?_
  exact key n i rfl rfl
