/-! edges -/
def bsr (f : Nat → Int32) : Nat → Nat → Nat → Nat → Nat × Nat
  | 0, lo, _, k => (lo, k)
  | n + 1, lo, up, k => if lo < up then (if (f ((lo + up) / 2)).toInt = 0 then bsr f n ((lo + up) / 2 + 1) up (k + 1) else bsr f n lo ((lo + up) / 2) (k + 1)) else (lo, k)
theorem bsr_in (f : Nat → Int32) : ∀ (n lo up k : Nat), lo ≤ up → lo ≤ (bsr f n lo up k).1 ∧ (bsr f n lo up k).1 ≤ up ∧ (bsr f n lo up k).2 ≤ k + n
  | 0, lo, up, k, h => ⟨Nat.le_refl _, h, Nat.le_refl _⟩
  | n + 1, lo, up, k, h => by
    unfold bsr
    split
    · split
      · have := bsr_in f n ((lo + up) / 2 + 1) up (k + 1) (by omega); omega
      · have := bsr_in f n lo ((lo + up) / 2) (k + 1) (by omega); omega
    · exact ⟨Nat.le_refl _, h, by omega⟩
def okB (f : Nat → Int32) (e : Nat) : Nat → Nat → Bool
  | _, 0 => true
  | i, n + 1 => (decide (¬ (f i).toInt = 0) == decide (e ≤ i)) && okB f e (i + 1) n
def opEdge (w : SH) (s i n a : Int32) : Int32 × Int32 :=
  if ¬ (0 ≤ s.toInt ∧ s.toInt < 8) ∨ n.toInt < 1 ∨ 60 < n.toInt ∨ ¬ (0 ≤ a.toInt ∧ a.toInt < 3) then (-1000001, w.1)
  else if (w.2.1 s.toInt.toNat).toInt < 0 then (fnd 1, 1)
  else if i.toInt < 0 ∨ (w.2.2.1 s.toInt.toNat).toInt < i.toInt + n.toInt then (fnd 2, 2)
  else (if a.toInt = 2 then bI (okB (fun q => w.2.2.2 (100 * s.toInt.toNat + q)) (bsr (fun q => w.2.2.2 (100 * s.toInt.toNat + q)) n.toInt.toNat i.toInt.toNat (i.toInt.toNat + n.toInt.toNat) 0).1 i.toInt.toNat n.toInt.toNat = true)
    else if a.toInt = 1 then nI (bsr (fun q => w.2.2.2 (100 * s.toInt.toNat + q)) n.toInt.toNat i.toInt.toNat (i.toInt.toNat + n.toInt.toNat) 0).2
    else nI ((bsr (fun q => w.2.2.2 (100 * s.toInt.toNat + q)) n.toInt.toNat i.toInt.toNat (i.toInt.toNat + n.toInt.toNat) 0).1 - i.toInt.toNat), 0)
theorem c_isEdge {h : HH} {ln sz it : Nat → Int32} (h0 : gA h 0 = aO 7) (h1 : gF h 0 0 = .ref 1) (hs : ShX h ln sz it) {a i n e : Nat} (ha : a < 8) (hi : i + n ≤ 100) (he : e ≤ 100) : CT mX7_isEdge 2 0 0 [.ref 0, .int (nI a), .int (nI i), .int (nI e), .int (nI (i + n))] h (fun r h' => r = some (.int (bI (okB (fun q => it (100 * a + q)) e i n = true))) ∧ h' = h) := by
  have d1 := hs.1
  refine CT.go [.ref 0, .int (nI a), .int (nI i), .int (nI e), .int (nI (i + n)), hU] (by decide +kernel) rfl rfl (fun Q' hQ => ?_)
  have key : ∀ m k : Nat, k + m = i + n → okB (fun q => it (100 * a + q)) e k m = okB (fun q => it (100 * a + q)) e i n → GG (EM mX7_isEdge 2 0 0 Q') 0 0 3 [.ref 0, .int (nI a), .int (nI i), .int (nI e), .int (nI (i + n)), .int (nI k)] [] h := by
    intro m
    induction m with
    | zero =>
      intro k hk hm
      obtain rfl : k = i + n := by omega
      refine g_iload dX7_isEdge_3 rfl ?_
      refine g_iload dX7_isEdge_5 rfl ?_
      refine g_icmp_ge (tgt := 50) dX7_isEdge_7 (by decide) (fun hc7 => ?_) (fun hc7 => ?_)
      · (try simp (disch := omega) only [nT, t_m1000100, t_m1000010, t_m1000003, t_m1000002, t_m1000001, t_m1000000, t_m65535, t_m1000, t_m3, t_m1, t_0, t_1, t_2, t_3, t_4, t_5, t_6, t_7, t_8, t_9, t_10, t_11, t_12, t_13, t_15, t_16, t_20, t_21, t_22, t_32, t_40, t_41, t_48, t_49, t_57, t_59, t_60, t_63, t_72, t_76, t_88, t_100, t_144, t_200, t_255, t_288, t_400, t_800, t_999, t_1000, t_1024, t_1200, t_1600, t_3200, t_100000, t_200000, t_252645135, t_858993459, t_1431655765, u_m1000002, u_m1000001, u_m1000, u_m3, u_m1, u_0, u_1, u_2, u_3, u_4, u_5, u_7, u_8, u_10, u_11, u_15, u_60, u_100, u_255, u_999, u_1000, u_100000, u_4294967295] at hc7)
        refine g_iconst (v := 1) dX7_isEdge_50 (by decide) ?_
        refine g_iret dX7_isEdge_51 rfl (rfl) (hQ _ _ ?_)
        refine ⟨?_, rfl⟩
        rw [← hm, bI_t (by rfl)]
      · (try simp (disch := omega) only [nT, t_m1000100, t_m1000010, t_m1000003, t_m1000002, t_m1000001, t_m1000000, t_m65535, t_m1000, t_m3, t_m1, t_0, t_1, t_2, t_3, t_4, t_5, t_6, t_7, t_8, t_9, t_10, t_11, t_12, t_13, t_15, t_16, t_20, t_21, t_22, t_32, t_40, t_41, t_48, t_49, t_57, t_59, t_60, t_63, t_72, t_76, t_88, t_100, t_144, t_200, t_255, t_288, t_400, t_800, t_999, t_1000, t_1024, t_1200, t_1600, t_3200, t_100000, t_200000, t_252645135, t_858993459, t_1431655765, u_m1000002, u_m1000001, u_m1000, u_m3, u_m1, u_0, u_1, u_2, u_3, u_4, u_5, u_7, u_8, u_10, u_11, u_15, u_60, u_100, u_255, u_999, u_1000, u_100000, u_4294967295] at hc7); omega
    | succ m ih =>
      intro k hk hm
      rw [show okB (fun q => it (100 * a + q)) e k (m + 1) = ((decide (¬ (it (100 * a + k)).toInt = 0) == decide (e ≤ k)) && okB (fun q => it (100 * a + q)) e (k + 1) m) from rfl] at hm
      refine g_iload dX7_isEdge_3 rfl ?_
      refine g_iload dX7_isEdge_5 rfl ?_
      refine g_icmp_ge (tgt := 50) dX7_isEdge_7 (by decide) (fun hc7 => ?_) (fun hc7 => ?_)
      · (try simp (disch := omega) only [nT, t_m1000100, t_m1000010, t_m1000003, t_m1000002, t_m1000001, t_m1000000, t_m65535, t_m1000, t_m3, t_m1, t_0, t_1, t_2, t_3, t_4, t_5, t_6, t_7, t_8, t_9, t_10, t_11, t_12, t_13, t_15, t_16, t_20, t_21, t_22, t_32, t_40, t_41, t_48, t_49, t_57, t_59, t_60, t_63, t_72, t_76, t_88, t_100, t_144, t_200, t_255, t_288, t_400, t_800, t_999, t_1000, t_1024, t_1200, t_1600, t_3200, t_100000, t_200000, t_252645135, t_858993459, t_1431655765, u_m1000002, u_m1000001, u_m1000, u_m3, u_m1, u_0, u_1, u_2, u_3, u_4, u_5, u_7, u_8, u_10, u_11, u_15, u_60, u_100, u_255, u_999, u_1000, u_100000, u_4294967295] at hc7); omega
      · (try simp (disch := omega) only [nT, t_m1000100, t_m1000010, t_m1000003, t_m1000002, t_m1000001, t_m1000000, t_m65535, t_m1000, t_m3, t_m1, t_0, t_1, t_2, t_3, t_4, t_5, t_6, t_7, t_8, t_9, t_10, t_11, t_12, t_13, t_15, t_16, t_20, t_21, t_22, t_32, t_40, t_41, t_48, t_49, t_57, t_59, t_60, t_63, t_72, t_76, t_88, t_100, t_144, t_200, t_255, t_288, t_400, t_800, t_999, t_1000, t_1024, t_1200, t_1600, t_3200, t_100000, t_200000, t_252645135, t_858993459, t_1431655765, u_m1000002, u_m1000001, u_m1000, u_m3, u_m1, u_0, u_1, u_2, u_3, u_4, u_5, u_7, u_8, u_10, u_11, u_15, u_60, u_100, u_255, u_999, u_1000, u_100000, u_4294967295] at hc7)
        refine g_aload_n (i := 0) dX7_isEdge_10 rfl rfl ?_
        refine g_get dX7_isEdge_11 fl_X7_10 (by repeat' (first | assumption | exact rF_eq | refine rF_ne (by decide) ?_ | refine rF_a ?_ | exact rA_eq | refine rA_ne (by decide) ?_ | refine rA_f ?_)) (by repeat' (first | assumption | exact rF_eq | refine rF_ne (by decide) ?_ | refine rF_a ?_ | exact rA_eq | refine rA_ne (by decide) ?_ | refine rA_f ?_)) ?_
        refine g_iload_n (i := 1) dX7_isEdge_14 rfl rfl ?_
        refine g_iload dX7_isEdge_15 rfl ?_
        refine g_callV (M' := mX3_itemAt) dX7_isEdge_17 lc_X3_itemAt ml_X7_188 (c_itemAt hs ha (by omega : k < 100)) rfl rfl (by repeat' (first | assumption | exact rF_eq | refine rF_ne (by decide) ?_ | refine rF_a ?_ | exact rA_eq | refine rA_ne (by decide) ?_ | refine rA_f ?_)) rfl ⟨Nat.le_of_ble_eq_true rfl, Nat.le_of_ble_eq_true rfl, Nat.le_of_ble_eq_true rfl, Nat.le_of_ble_eq_true rfl⟩ (Nat.le_of_ble_eq_true rfl) ?_
        intro r_ h_ q_; obtain ⟨q1_, q2_⟩ := q_; have q2_ := q2_.symm; subst q1_; subst q2_
        refine g_if_eq (tgt := 27) dX7_isEdge_20 (by decide) (fun hc20 => ?_) (fun hc20 => ?_)
        · have hd20 := i_eq.mp hc20; (try simp (disch := omega) only [nT, t_m1000100, t_m1000010, t_m1000003, t_m1000002, t_m1000001, t_m1000000, t_m65535, t_m1000, t_m3, t_m1, t_0, t_1, t_2, t_3, t_4, t_5, t_6, t_7, t_8, t_9, t_10, t_11, t_12, t_13, t_15, t_16, t_20, t_21, t_22, t_32, t_40, t_41, t_48, t_49, t_57, t_59, t_60, t_63, t_72, t_76, t_88, t_100, t_144, t_200, t_255, t_288, t_400, t_800, t_999, t_1000, t_1024, t_1200, t_1600, t_3200, t_100000, t_200000, t_252645135, t_858993459, t_1431655765, u_m1000002, u_m1000001, u_m1000, u_m3, u_m1, u_0, u_1, u_2, u_3, u_4, u_5, u_7, u_8, u_10, u_11, u_15, u_60, u_100, u_255, u_999, u_1000, u_100000, u_4294967295] at hd20)
          refine g_iconst (v := 0) dX7_isEdge_27 (by decide) ?_
          refine g_iload dX7_isEdge_28 rfl ?_
          refine g_iload_n (i := 3) dX7_isEdge_30 rfl rfl ?_
          refine g_icmp_lt (tgt := 38) dX7_isEdge_31 (by decide) (fun hc31 => ?_) (fun hc31 => ?_)
          · (try simp (disch := omega) only [nT, t_m1000100, t_m1000010, t_m1000003, t_m1000002, t_m1000001, t_m1000000, t_m65535, t_m1000, t_m3, t_m1, t_0, t_1, t_2, t_3, t_4, t_5, t_6, t_7, t_8, t_9, t_10, t_11, t_12, t_13, t_15, t_16, t_20, t_21, t_22, t_32, t_40, t_41, t_48, t_49, t_57, t_59, t_60, t_63, t_72, t_76, t_88, t_100, t_144, t_200, t_255, t_288, t_400, t_800, t_999, t_1000, t_1024, t_1200, t_1600, t_3200, t_100000, t_200000, t_252645135, t_858993459, t_1431655765, u_m1000002, u_m1000001, u_m1000, u_m3, u_m1, u_0, u_1, u_2, u_3, u_4, u_5, u_7, u_8, u_10, u_11, u_15, u_60, u_100, u_255, u_999, u_1000, u_100000, u_4294967295] at hc31)
            refine g_iconst (v := 0) dX7_isEdge_38 (by decide) ?_
            refine g_icmp_eq (tgt := 44) dX7_isEdge_39 (by decide) (fun hc39 => ?_) (fun hc39 => ?_)
            · have hd39 := i_eq.mp hc39; (try simp (disch := omega) only [nT, t_m1000100, t_m1000010, t_m1000003, t_m1000002, t_m1000001, t_m1000000, t_m65535, t_m1000, t_m3, t_m1, t_0, t_1, t_2, t_3, t_4, t_5, t_6, t_7, t_8, t_9, t_10, t_11, t_12, t_13, t_15, t_16, t_20, t_21, t_22, t_32, t_40, t_41, t_48, t_49, t_57, t_59, t_60, t_63, t_72, t_76, t_88, t_100, t_144, t_200, t_255, t_288, t_400, t_800, t_999, t_1000, t_1024, t_1200, t_1600, t_3200, t_100000, t_200000, t_252645135, t_858993459, t_1431655765, u_m1000002, u_m1000001, u_m1000, u_m3, u_m1, u_0, u_1, u_2, u_3, u_4, u_5, u_7, u_8, u_10, u_11, u_15, u_60, u_100, u_255, u_999, u_1000, u_100000, u_4294967295] at hd39); first
              | exact absurd hc39 (by decide)
              | (have hm2 : okB (fun q => it (100 * a + q)) e (k + 1) m = okB (fun q => it (100 * a + q)) e i n := by
                   rw [← hm]; simp [hd20]; omega
                 refine g_iinc dX7_isEdge_44 rfl (Nat.le_of_ble_eq_true rfl) rfl ?_
                 refine g_goto (tgt := 3) dX7_isEdge_47 (by decide) ?_
                 rw [ni_incO]; exact ih (k + 1) (by omega) hm2
                )
            · have hd39 := mt i_eq.mpr hc39; (try simp (disch := omega) only [nT, t_m1000100, t_m1000010, t_m1000003, t_m1000002, t_m1000001, t_m1000000, t_m65535, t_m1000, t_m3, t_m1, t_0, t_1, t_2, t_3, t_4, t_5, t_6, t_7, t_8, t_9, t_10, t_11, t_12, t_13, t_15, t_16, t_20, t_21, t_22, t_32, t_40, t_41, t_48, t_49, t_57, t_59, t_60, t_63, t_72, t_76, t_88, t_100, t_144, t_200, t_255, t_288, t_400, t_800, t_999, t_1000, t_1024, t_1200, t_1600, t_3200, t_100000, t_200000, t_252645135, t_858993459, t_1431655765, u_m1000002, u_m1000001, u_m1000, u_m3, u_m1, u_0, u_1, u_2, u_3, u_4, u_5, u_7, u_8, u_10, u_11, u_15, u_60, u_100, u_255, u_999, u_1000, u_100000, u_4294967295] at hd39)
              refine g_iconst (v := 0) dX7_isEdge_42 (by decide) ?_
              refine g_iret dX7_isEdge_43 rfl (rfl) (hQ _ _ ?_)
              refine ⟨?_, rfl⟩
              first
              | exact absurd rfl hc39
              | (rw [← hm, bI_f]
                 simp [hd20]; omega)
          · (try simp (disch := omega) only [nT, t_m1000100, t_m1000010, t_m1000003, t_m1000002, t_m1000001, t_m1000000, t_m65535, t_m1000, t_m3, t_m1, t_0, t_1, t_2, t_3, t_4, t_5, t_6, t_7, t_8, t_9, t_10, t_11, t_12, t_13, t_15, t_16, t_20, t_21, t_22, t_32, t_40, t_41, t_48, t_49, t_57, t_59, t_60, t_63, t_72, t_76, t_88, t_100, t_144, t_200, t_255, t_288, t_400, t_800, t_999, t_1000, t_1024, t_1200, t_1600, t_3200, t_100000, t_200000, t_252645135, t_858993459, t_1431655765, u_m1000002, u_m1000001, u_m1000, u_m3, u_m1, u_0, u_1, u_2, u_3, u_4, u_5, u_7, u_8, u_10, u_11, u_15, u_60, u_100, u_255, u_999, u_1000, u_100000, u_4294967295] at hc31)
            refine g_iconst (v := 1) dX7_isEdge_34 (by decide) ?_
            refine g_goto (tgt := 39) dX7_isEdge_35 (by decide) ?_
            refine g_icmp_eq (tgt := 44) dX7_isEdge_39 (by decide) (fun hc39 => ?_) (fun hc39 => ?_)
            · have hd39 := i_eq.mp hc39; (try simp (disch := omega) only [nT, t_m1000100, t_m1000010, t_m1000003, t_m1000002, t_m1000001, t_m1000000, t_m65535, t_m1000, t_m3, t_m1, t_0, t_1, t_2, t_3, t_4, t_5, t_6, t_7, t_8, t_9, t_10, t_11, t_12, t_13, t_15, t_16, t_20, t_21, t_22, t_32, t_40, t_41, t_48, t_49, t_57, t_59, t_60, t_63, t_72, t_76, t_88, t_100, t_144, t_200, t_255, t_288, t_400, t_800, t_999, t_1000, t_1024, t_1200, t_1600, t_3200, t_100000, t_200000, t_252645135, t_858993459, t_1431655765, u_m1000002, u_m1000001, u_m1000, u_m3, u_m1, u_0, u_1, u_2, u_3, u_4, u_5, u_7, u_8, u_10, u_11, u_15, u_60, u_100, u_255, u_999, u_1000, u_100000, u_4294967295] at hd39); first
              | exact absurd hc39 (by decide)
              | (have hm2 : okB (fun q => it (100 * a + q)) e (k + 1) m = okB (fun q => it (100 * a + q)) e i n := by
                   rw [← hm]; simp [hd20]; omega
                 refine g_iinc dX7_isEdge_44 rfl (Nat.le_of_ble_eq_true rfl) rfl ?_
                 refine g_goto (tgt := 3) dX7_isEdge_47 (by decide) ?_
                 rw [ni_incO]; exact ih (k + 1) (by omega) hm2
                )
            · have hd39 := mt i_eq.mpr hc39; (try simp (disch := omega) only [nT, t_m1000100, t_m1000010, t_m1000003, t_m1000002, t_m1000001, t_m1000000, t_m65535, t_m1000, t_m3, t_m1, t_0, t_1, t_2, t_3, t_4, t_5, t_6, t_7, t_8, t_9, t_10, t_11, t_12, t_13, t_15, t_16, t_20, t_21, t_22, t_32, t_40, t_41, t_48, t_49, t_57, t_59, t_60, t_63, t_72, t_76, t_88, t_100, t_144, t_200, t_255, t_288, t_400, t_800, t_999, t_1000, t_1024, t_1200, t_1600, t_3200, t_100000, t_200000, t_252645135, t_858993459, t_1431655765, u_m1000002, u_m1000001, u_m1000, u_m3, u_m1, u_0, u_1, u_2, u_3, u_4, u_5, u_7, u_8, u_10, u_11, u_15, u_60, u_100, u_255, u_999, u_1000, u_100000, u_4294967295] at hd39)
              refine g_iconst (v := 0) dX7_isEdge_42 (by decide) ?_
              refine g_iret dX7_isEdge_43 rfl (rfl) (hQ _ _ ?_)
              refine ⟨?_, rfl⟩
              first
              | exact absurd rfl hc39
              | (rw [← hm, bI_f]
                 simp [hd20]; omega)
        · have hd20 := mt i_eq.mpr hc20; (try simp (disch := omega) only [nT, t_m1000100, t_m1000010, t_m1000003, t_m1000002, t_m1000001, t_m1000000, t_m65535, t_m1000, t_m3, t_m1, t_0, t_1, t_2, t_3, t_4, t_5, t_6, t_7, t_8, t_9, t_10, t_11, t_12, t_13, t_15, t_16, t_20, t_21, t_22, t_32, t_40, t_41, t_48, t_49, t_57, t_59, t_60, t_63, t_72, t_76, t_88, t_100, t_144, t_200, t_255, t_288, t_400, t_800, t_999, t_1000, t_1024, t_1200, t_1600, t_3200, t_100000, t_200000, t_252645135, t_858993459, t_1431655765, u_m1000002, u_m1000001, u_m1000, u_m3, u_m1, u_0, u_1, u_2, u_3, u_4, u_5, u_7, u_8, u_10, u_11, u_15, u_60, u_100, u_255, u_999, u_1000, u_100000, u_4294967295] at hd20)
          refine g_iconst (v := 1) dX7_isEdge_23 (by decide) ?_
          refine g_goto (tgt := 28) dX7_isEdge_24 (by decide) ?_
          refine g_iload dX7_isEdge_28 rfl ?_
          refine g_iload_n (i := 3) dX7_isEdge_30 rfl rfl ?_
          refine g_icmp_lt (tgt := 38) dX7_isEdge_31 (by decide) (fun hc31 => ?_) (fun hc31 => ?_)
          · (try simp (disch := omega) only [nT, t_m1000100, t_m1000010, t_m1000003, t_m1000002, t_m1000001, t_m1000000, t_m65535, t_m1000, t_m3, t_m1, t_0, t_1, t_2, t_3, t_4, t_5, t_6, t_7, t_8, t_9, t_10, t_11, t_12, t_13, t_15, t_16, t_20, t_21, t_22, t_32, t_40, t_41, t_48, t_49, t_57, t_59, t_60, t_63, t_72, t_76, t_88, t_100, t_144, t_200, t_255, t_288, t_400, t_800, t_999, t_1000, t_1024, t_1200, t_1600, t_3200, t_100000, t_200000, t_252645135, t_858993459, t_1431655765, u_m1000002, u_m1000001, u_m1000, u_m3, u_m1, u_0, u_1, u_2, u_3, u_4, u_5, u_7, u_8, u_10, u_11, u_15, u_60, u_100, u_255, u_999, u_1000, u_100000, u_4294967295] at hc31)
            refine g_iconst (v := 0) dX7_isEdge_38 (by decide) ?_
            refine g_icmp_eq (tgt := 44) dX7_isEdge_39 (by decide) (fun hc39 => ?_) (fun hc39 => ?_)
            · have hd39 := i_eq.mp hc39; (try simp (disch := omega) only [nT, t_m1000100, t_m1000010, t_m1000003, t_m1000002, t_m1000001, t_m1000000, t_m65535, t_m1000, t_m3, t_m1, t_0, t_1, t_2, t_3, t_4, t_5, t_6, t_7, t_8, t_9, t_10, t_11, t_12, t_13, t_15, t_16, t_20, t_21, t_22, t_32, t_40, t_41, t_48, t_49, t_57, t_59, t_60, t_63, t_72, t_76, t_88, t_100, t_144, t_200, t_255, t_288, t_400, t_800, t_999, t_1000, t_1024, t_1200, t_1600, t_3200, t_100000, t_200000, t_252645135, t_858993459, t_1431655765, u_m1000002, u_m1000001, u_m1000, u_m3, u_m1, u_0, u_1, u_2, u_3, u_4, u_5, u_7, u_8, u_10, u_11, u_15, u_60, u_100, u_255, u_999, u_1000, u_100000, u_4294967295] at hd39); first
              | exact absurd hc39 (by decide)
              | (have hm2 : okB (fun q => it (100 * a + q)) e (k + 1) m = okB (fun q => it (100 * a + q)) e i n := by
                   rw [← hm]; simp [hd20]; omega
                 refine g_iinc dX7_isEdge_44 rfl (Nat.le_of_ble_eq_true rfl) rfl ?_
                 refine g_goto (tgt := 3) dX7_isEdge_47 (by decide) ?_
                 rw [ni_incO]; exact ih (k + 1) (by omega) hm2
                )
            · have hd39 := mt i_eq.mpr hc39; (try simp (disch := omega) only [nT, t_m1000100, t_m1000010, t_m1000003, t_m1000002, t_m1000001, t_m1000000, t_m65535, t_m1000, t_m3, t_m1, t_0, t_1, t_2, t_3, t_4, t_5, t_6, t_7, t_8, t_9, t_10, t_11, t_12, t_13, t_15, t_16, t_20, t_21, t_22, t_32, t_40, t_41, t_48, t_49, t_57, t_59, t_60, t_63, t_72, t_76, t_88, t_100, t_144, t_200, t_255, t_288, t_400, t_800, t_999, t_1000, t_1024, t_1200, t_1600, t_3200, t_100000, t_200000, t_252645135, t_858993459, t_1431655765, u_m1000002, u_m1000001, u_m1000, u_m3, u_m1, u_0, u_1, u_2, u_3, u_4, u_5, u_7, u_8, u_10, u_11, u_15, u_60, u_100, u_255, u_999, u_1000, u_100000, u_4294967295] at hd39)
              refine g_iconst (v := 0) dX7_isEdge_42 (by decide) ?_
              refine g_iret dX7_isEdge_43 rfl (rfl) (hQ _ _ ?_)
              refine ⟨?_, rfl⟩
              first
              | exact absurd rfl hc39
              | (rw [← hm, bI_f]
                 simp [hd20]; omega)
          · (try simp (disch := omega) only [nT, t_m1000100, t_m1000010, t_m1000003, t_m1000002, t_m1000001, t_m1000000, t_m65535, t_m1000, t_m3, t_m1, t_0, t_1, t_2, t_3, t_4, t_5, t_6, t_7, t_8, t_9, t_10, t_11, t_12, t_13, t_15, t_16, t_20, t_21, t_22, t_32, t_40, t_41, t_48, t_49, t_57, t_59, t_60, t_63, t_72, t_76, t_88, t_100, t_144, t_200, t_255, t_288, t_400, t_800, t_999, t_1000, t_1024, t_1200, t_1600, t_3200, t_100000, t_200000, t_252645135, t_858993459, t_1431655765, u_m1000002, u_m1000001, u_m1000, u_m3, u_m1, u_0, u_1, u_2, u_3, u_4, u_5, u_7, u_8, u_10, u_11, u_15, u_60, u_100, u_255, u_999, u_1000, u_100000, u_4294967295] at hc31)
            refine g_iconst (v := 1) dX7_isEdge_34 (by decide) ?_
            refine g_goto (tgt := 39) dX7_isEdge_35 (by decide) ?_
            refine g_icmp_eq (tgt := 44) dX7_isEdge_39 (by decide) (fun hc39 => ?_) (fun hc39 => ?_)
            · have hd39 := i_eq.mp hc39; (try simp (disch := omega) only [nT, t_m1000100, t_m1000010, t_m1000003, t_m1000002, t_m1000001, t_m1000000, t_m65535, t_m1000, t_m3, t_m1, t_0, t_1, t_2, t_3, t_4, t_5, t_6, t_7, t_8, t_9, t_10, t_11, t_12, t_13, t_15, t_16, t_20, t_21, t_22, t_32, t_40, t_41, t_48, t_49, t_57, t_59, t_60, t_63, t_72, t_76, t_88, t_100, t_144, t_200, t_255, t_288, t_400, t_800, t_999, t_1000, t_1024, t_1200, t_1600, t_3200, t_100000, t_200000, t_252645135, t_858993459, t_1431655765, u_m1000002, u_m1000001, u_m1000, u_m3, u_m1, u_0, u_1, u_2, u_3, u_4, u_5, u_7, u_8, u_10, u_11, u_15, u_60, u_100, u_255, u_999, u_1000, u_100000, u_4294967295] at hd39); first
              | exact absurd hc39 (by decide)
              | (have hm2 : okB (fun q => it (100 * a + q)) e (k + 1) m = okB (fun q => it (100 * a + q)) e i n := by
                   rw [← hm]; simp [hd20]; omega
                 refine g_iinc dX7_isEdge_44 rfl (Nat.le_of_ble_eq_true rfl) rfl ?_
                 refine g_goto (tgt := 3) dX7_isEdge_47 (by decide) ?_
                 rw [ni_incO]; exact ih (k + 1) (by omega) hm2
                )
            · have hd39 := mt i_eq.mpr hc39; (try simp (disch := omega) only [nT, t_m1000100, t_m1000010, t_m1000003, t_m1000002, t_m1000001, t_m1000000, t_m65535, t_m1000, t_m3, t_m1, t_0, t_1, t_2, t_3, t_4, t_5, t_6, t_7, t_8, t_9, t_10, t_11, t_12, t_13, t_15, t_16, t_20, t_21, t_22, t_32, t_40, t_41, t_48, t_49, t_57, t_59, t_60, t_63, t_72, t_76, t_88, t_100, t_144, t_200, t_255, t_288, t_400, t_800, t_999, t_1000, t_1024, t_1200, t_1600, t_3200, t_100000, t_200000, t_252645135, t_858993459, t_1431655765, u_m1000002, u_m1000001, u_m1000, u_m3, u_m1, u_0, u_1, u_2, u_3, u_4, u_5, u_7, u_8, u_10, u_11, u_15, u_60, u_100, u_255, u_999, u_1000, u_100000, u_4294967295] at hd39)
              refine g_iconst (v := 0) dX7_isEdge_42 (by decide) ?_
              refine g_iret dX7_isEdge_43 rfl (rfl) (hQ _ _ ?_)
              refine ⟨?_, rfl⟩
              first
              | exact absurd rfl hc39
              | (rw [← hm, bI_f]
                 simp [hd20]; omega)
  refine g_iload_n (i := 2) dX7_isEdge_0 rfl rfl ?_
  refine g_istore dX7_isEdge_1 (Nat.le_of_ble_eq_true rfl) rfl ?_
  exact key n i rfl rfl
theorem mid2 {a b : Nat} (ha : a ≤ 200) (hb : b ≤ 200) : (nI a + nI b) / 2 = nI ((a + b) / 2) := by
  rw [ni_add, show (2 : Int32) = nI 2 from rfl, pk_div (by omega) (by omega) (by omega)]
theorem x_edge {w : SH} (hw : WfS w) {h : HH} (hg : GSX w h) (s i n a : Int32) : CT mX7_edge 3 0 0 [.ref 0, .int s, .int i, .int n, .int a] h (fun r h' => r = some (.int (opEdge w s i n a).1) ∧ h' = sF h 0 1 (.int (opEdge w s i n a).2)) := by
  obtain ⟨st, ln, sz, it⟩ := w
  obtain ⟨⟨h0, h1, h2⟩, hs⟩ := hg
  have hs0 := hs
  obtain ⟨e1, e2, e3, e4, e5, e6, e7⟩ := hs
  dsimp only at h2 e5 e6 e7 hs0
  refine CT.go [.ref 0, .int s, .int i, .int n, .int a, hU, hU, hU, hU] (by decide +kernel) rfl rfl (fun Q' hQ => ?_)
  refine g_iload_n (i := 1) dX7_edge_0 rfl rfl ?_
  refine g_bipush (v := 8) dX7_edge_1 (by decide) ?_
  refine g_callS (M' := mX7_isWithin) dX7_edge_3 lc_X7_isWithin ml_X7_90 (c_isWithin h s 8 8 rfl) rfl rfl ⟨Nat.le_of_ble_eq_true rfl, Nat.le_of_ble_eq_true rfl, Nat.le_of_ble_eq_true rfl, Nat.le_of_ble_eq_true rfl⟩ (Nat.le_of_ble_eq_true rfl) ?_
  intro r_ h_ q_; obtain ⟨q1_, q2_⟩ := q_; have q2_ := q2_.symm; subst q1_; subst q2_
  refine g_if_eq (tgt := 29) dX7_edge_6 (by decide) (fun hc6 => ?_) (fun hc6 => ?_)
  · replace hc6 := bI_0.mp hc6
    (try simp (disch := omega) only [nT, t_m1000100, t_m1000010, t_m1000003, t_m1000002, t_m1000001, t_m1000000, t_m65535, t_m1000, t_m3, t_m1, t_0, t_1, t_2, t_3, t_4, t_5, t_6, t_7, t_8, t_9, t_10, t_11, t_12, t_13, t_15, t_16, t_20, t_21, t_22, t_32, t_40, t_41, t_48, t_49, t_57, t_59, t_60, t_63, t_72, t_76, t_88, t_100, t_144, t_200, t_255, t_288, t_400, t_800, t_999, t_1000, t_1024, t_1200, t_1600, t_3200, t_100000, t_200000, t_252645135, t_858993459, t_1431655765, u_m1000002, u_m1000001, u_m1000, u_m3, u_m1, u_0, u_1, u_2, u_3, u_4, u_5, u_7, u_8, u_10, u_11, u_15, u_60, u_100, u_255, u_999, u_1000, u_100000, u_4294967295] at hc6)
    refine g_ldc dX7_edge_29 kc_X7_94 ?_
    refine g_iret dX7_edge_31 rfl (rfl) (hQ _ _ ?_)
    have e : opEdge (st, ln, sz, it) s i n a = _ := if_pos (by omega)
    rw [e]; exact ⟨rfl, (sF_self h2).symm⟩
  · replace hc6 := bI_n0.mp hc6
    (try simp (disch := omega) only [nT, t_m1000100, t_m1000010, t_m1000003, t_m1000002, t_m1000001, t_m1000000, t_m65535, t_m1000, t_m3, t_m1, t_0, t_1, t_2, t_3, t_4, t_5, t_6, t_7, t_8, t_9, t_10, t_11, t_12, t_13, t_15, t_16, t_20, t_21, t_22, t_32, t_40, t_41, t_48, t_49, t_57, t_59, t_60, t_63, t_72, t_76, t_88, t_100, t_144, t_200, t_255, t_288, t_400, t_800, t_999, t_1000, t_1024, t_1200, t_1600, t_3200, t_100000, t_200000, t_252645135, t_858993459, t_1431655765, u_m1000002, u_m1000001, u_m1000, u_m3, u_m1, u_0, u_1, u_2, u_3, u_4, u_5, u_7, u_8, u_10, u_11, u_15, u_60, u_100, u_255, u_999, u_1000, u_100000, u_4294967295] at hc6)
    refine g_iload_n (i := 3) dX7_edge_9 rfl rfl ?_
    refine g_iconst (v := 1) dX7_edge_10 (by decide) ?_
    refine g_icmp_lt (tgt := 29) dX7_edge_11 (by decide) (fun hc11 => ?_) (fun hc11 => ?_)
    · (try simp (disch := omega) only [nT, t_m1000100, t_m1000010, t_m1000003, t_m1000002, t_m1000001, t_m1000000, t_m65535, t_m1000, t_m3, t_m1, t_0, t_1, t_2, t_3, t_4, t_5, t_6, t_7, t_8, t_9, t_10, t_11, t_12, t_13, t_15, t_16, t_20, t_21, t_22, t_32, t_40, t_41, t_48, t_49, t_57, t_59, t_60, t_63, t_72, t_76, t_88, t_100, t_144, t_200, t_255, t_288, t_400, t_800, t_999, t_1000, t_1024, t_1200, t_1600, t_3200, t_100000, t_200000, t_252645135, t_858993459, t_1431655765, u_m1000002, u_m1000001, u_m1000, u_m3, u_m1, u_0, u_1, u_2, u_3, u_4, u_5, u_7, u_8, u_10, u_11, u_15, u_60, u_100, u_255, u_999, u_1000, u_100000, u_4294967295] at hc11)
      refine g_ldc dX7_edge_29 kc_X7_94 ?_
      refine g_iret dX7_edge_31 rfl (rfl) (hQ _ _ ?_)
      have e : opEdge (st, ln, sz, it) s i n a = _ := if_pos (by omega)
      rw [e]; exact ⟨rfl, (sF_self h2).symm⟩
    · (try simp (disch := omega) only [nT, t_m1000100, t_m1000010, t_m1000003, t_m1000002, t_m1000001, t_m1000000, t_m65535, t_m1000, t_m3, t_m1, t_0, t_1, t_2, t_3, t_4, t_5, t_6, t_7, t_8, t_9, t_10, t_11, t_12, t_13, t_15, t_16, t_20, t_21, t_22, t_32, t_40, t_41, t_48, t_49, t_57, t_59, t_60, t_63, t_72, t_76, t_88, t_100, t_144, t_200, t_255, t_288, t_400, t_800, t_999, t_1000, t_1024, t_1200, t_1600, t_3200, t_100000, t_200000, t_252645135, t_858993459, t_1431655765, u_m1000002, u_m1000001, u_m1000, u_m3, u_m1, u_0, u_1, u_2, u_3, u_4, u_5, u_7, u_8, u_10, u_11, u_15, u_60, u_100, u_255, u_999, u_1000, u_100000, u_4294967295] at hc11)
      refine g_iload_n (i := 3) dX7_edge_14 rfl rfl ?_
      refine g_bipush (v := 60) dX7_edge_15 (by decide) ?_
      refine g_icmp_gt (tgt := 29) dX7_edge_17 (by decide) (fun hc17 => ?_) (fun hc17 => ?_)
      · (try simp (disch := omega) only [nT, t_m1000100, t_m1000010, t_m1000003, t_m1000002, t_m1000001, t_m1000000, t_m65535, t_m1000, t_m3, t_m1, t_0, t_1, t_2, t_3, t_4, t_5, t_6, t_7, t_8, t_9, t_10, t_11, t_12, t_13, t_15, t_16, t_20, t_21, t_22, t_32, t_40, t_41, t_48, t_49, t_57, t_59, t_60, t_63, t_72, t_76, t_88, t_100, t_144, t_200, t_255, t_288, t_400, t_800, t_999, t_1000, t_1024, t_1200, t_1600, t_3200, t_100000, t_200000, t_252645135, t_858993459, t_1431655765, u_m1000002, u_m1000001, u_m1000, u_m3, u_m1, u_0, u_1, u_2, u_3, u_4, u_5, u_7, u_8, u_10, u_11, u_15, u_60, u_100, u_255, u_999, u_1000, u_100000, u_4294967295] at hc17)
        refine g_ldc dX7_edge_29 kc_X7_94 ?_
        refine g_iret dX7_edge_31 rfl (rfl) (hQ _ _ ?_)
        have e : opEdge (st, ln, sz, it) s i n a = _ := if_pos (by omega)
        rw [e]; exact ⟨rfl, (sF_self h2).symm⟩
      · (try simp (disch := omega) only [nT, t_m1000100, t_m1000010, t_m1000003, t_m1000002, t_m1000001, t_m1000000, t_m65535, t_m1000, t_m3, t_m1, t_0, t_1, t_2, t_3, t_4, t_5, t_6, t_7, t_8, t_9, t_10, t_11, t_12, t_13, t_15, t_16, t_20, t_21, t_22, t_32, t_40, t_41, t_48, t_49, t_57, t_59, t_60, t_63, t_72, t_76, t_88, t_100, t_144, t_200, t_255, t_288, t_400, t_800, t_999, t_1000, t_1024, t_1200, t_1600, t_3200, t_100000, t_200000, t_252645135, t_858993459, t_1431655765, u_m1000002, u_m1000001, u_m1000, u_m3, u_m1, u_0, u_1, u_2, u_3, u_4, u_5, u_7, u_8, u_10, u_11, u_15, u_60, u_100, u_255, u_999, u_1000, u_100000, u_4294967295] at hc17)
        refine g_iload dX7_edge_20 rfl ?_
        refine g_iconst (v := 3) dX7_edge_22 (by decide) ?_
        refine g_callS (M' := mX7_isWithin) dX7_edge_23 lc_X7_isWithin ml_X7_90 (c_isWithin h a 3 3 rfl) rfl rfl ⟨Nat.le_of_ble_eq_true rfl, Nat.le_of_ble_eq_true rfl, Nat.le_of_ble_eq_true rfl, Nat.le_of_ble_eq_true rfl⟩ (Nat.le_of_ble_eq_true rfl) ?_
        intro r_ h_ q_; obtain ⟨q1_, q2_⟩ := q_; have q2_ := q2_.symm; subst q1_; subst q2_
        refine g_if_ne (tgt := 32) dX7_edge_26 (by decide) (fun hc26 => ?_) (fun hc26 => ?_)
        · replace hc26 := bI_n0.mp hc26
          (try simp (disch := omega) only [nT, t_m1000100, t_m1000010, t_m1000003, t_m1000002, t_m1000001, t_m1000000, t_m65535, t_m1000, t_m3, t_m1, t_0, t_1, t_2, t_3, t_4, t_5, t_6, t_7, t_8, t_9, t_10, t_11, t_12, t_13, t_15, t_16, t_20, t_21, t_22, t_32, t_40, t_41, t_48, t_49, t_57, t_59, t_60, t_63, t_72, t_76, t_88, t_100, t_144, t_200, t_255, t_288, t_400, t_800, t_999, t_1000, t_1024, t_1200, t_1600, t_3200, t_100000, t_200000, t_252645135, t_858993459, t_1431655765, u_m1000002, u_m1000001, u_m1000, u_m3, u_m1, u_0, u_1, u_2, u_3, u_4, u_5, u_7, u_8, u_10, u_11, u_15, u_60, u_100, u_255, u_999, u_1000, u_100000, u_4294967295] at hc26)
          obtain ⟨A, hA, rfl, hta⟩ := n_of (n := 8) (x := s) (by omega) (by omega)
          have hwa := hw A hA
          dsimp only at hwa
          have en : ∀ x, opEdge (st, ln, sz, it) (nI A) i n a = x ↔ _ = x := fun x => by rw [show opEdge (st, ln, sz, it) (nI A) i n a = _ from if_neg (by omega), nTN (by omega)]
          dsimp only at en
          refine g_aload_n (i := 0) dX7_edge_32 rfl rfl ?_
          refine g_get dX7_edge_33 fl_X7_10 (by repeat' (first | assumption | exact rF_eq | refine rF_ne (by decide) ?_ | refine rF_a ?_ | exact rA_eq | refine rA_ne (by decide) ?_ | refine rA_f ?_)) (by repeat' (first | assumption | exact rF_eq | refine rF_ne (by decide) ?_ | refine rF_a ?_ | exact rA_eq | refine rA_ne (by decide) ?_ | refine rA_f ?_)) ?_
          refine g_iload_n (i := 1) dX7_edge_36 rfl rfl ?_
          refine g_callV (M' := mX3_isMissing) dX7_edge_37 lc_X3_isMissing ml_X7_106 (c_isMissing hs0 hta hA (by omega)) rfl rfl (by repeat' (first | assumption | exact rF_eq | refine rF_ne (by decide) ?_ | refine rF_a ?_ | exact rA_eq | refine rA_ne (by decide) ?_ | refine rA_f ?_)) rfl ⟨Nat.le_of_ble_eq_true rfl, Nat.le_of_ble_eq_true rfl, Nat.le_of_ble_eq_true rfl, Nat.le_of_ble_eq_true rfl⟩ (Nat.le_of_ble_eq_true rfl) ?_
          intro r_ h_ q_; obtain ⟨q1_, q2_⟩ := q_; have q2_ := q2_.symm; subst q1_; subst q2_
          refine g_if_eq (tgt := 49) dX7_edge_40 (by decide) (fun hc40 => ?_) (fun hc40 => ?_)
          · replace hc40 := bI_0.mp hc40
            (try simp (disch := omega) only [nT, t_m1000100, t_m1000010, t_m1000003, t_m1000002, t_m1000001, t_m1000000, t_m65535, t_m1000, t_m3, t_m1, t_0, t_1, t_2, t_3, t_4, t_5, t_6, t_7, t_8, t_9, t_10, t_11, t_12, t_13, t_15, t_16, t_20, t_21, t_22, t_32, t_40, t_41, t_48, t_49, t_57, t_59, t_60, t_63, t_72, t_76, t_88, t_100, t_144, t_200, t_255, t_288, t_400, t_800, t_999, t_1000, t_1024, t_1200, t_1600, t_3200, t_100000, t_200000, t_252645135, t_858993459, t_1431655765, u_m1000002, u_m1000001, u_m1000, u_m3, u_m1, u_0, u_1, u_2, u_3, u_4, u_5, u_7, u_8, u_10, u_11, u_15, u_60, u_100, u_255, u_999, u_1000, u_100000, u_4294967295] at hc40)
            refine g_aload_n (i := 0) dX7_edge_49 rfl rfl ?_
            refine g_get dX7_edge_50 fl_X7_10 (by repeat' (first | assumption | exact rF_eq | refine rF_ne (by decide) ?_ | refine rF_a ?_ | exact rA_eq | refine rA_ne (by decide) ?_ | refine rA_f ?_)) (by repeat' (first | assumption | exact rF_eq | refine rF_ne (by decide) ?_ | refine rF_a ?_ | exact rA_eq | refine rA_ne (by decide) ?_ | refine rA_f ?_)) ?_
            refine g_iload_n (i := 1) dX7_edge_53 rfl rfl ?_
            refine g_iload_n (i := 2) dX7_edge_54 rfl rfl ?_
            refine g_iload_n (i := 3) dX7_edge_55 rfl rfl ?_
            refine g_callV (M' := mX3_hasItems) dX7_edge_56 lc_X3_hasItems ml_X7_110 (c_hasItems hs0 hta hA) rfl rfl (by repeat' (first | assumption | exact rF_eq | refine rF_ne (by decide) ?_ | refine rF_a ?_ | exact rA_eq | refine rA_ne (by decide) ?_ | refine rA_f ?_)) rfl ⟨Nat.le_of_ble_eq_true rfl, Nat.le_of_ble_eq_true rfl, Nat.le_of_ble_eq_true rfl, Nat.le_of_ble_eq_true rfl⟩ (Nat.le_of_ble_eq_true rfl) ?_
            intro r_ h_ q_; obtain ⟨q1_, q2_⟩ := q_; have q2_ := q2_.symm; subst q1_; subst q2_
            refine g_if_ne (tgt := 68) dX7_edge_59 (by decide) (fun hc59 => ?_) (fun hc59 => ?_)
            · replace hc59 := bI_n0.mp hc59
              (try simp (disch := omega) only [nT, t_m1000100, t_m1000010, t_m1000003, t_m1000002, t_m1000001, t_m1000000, t_m65535, t_m1000, t_m3, t_m1, t_0, t_1, t_2, t_3, t_4, t_5, t_6, t_7, t_8, t_9, t_10, t_11, t_12, t_13, t_15, t_16, t_20, t_21, t_22, t_32, t_40, t_41, t_48, t_49, t_57, t_59, t_60, t_63, t_72, t_76, t_88, t_100, t_144, t_200, t_255, t_288, t_400, t_800, t_999, t_1000, t_1024, t_1200, t_1600, t_3200, t_100000, t_200000, t_252645135, t_858993459, t_1431655765, u_m1000002, u_m1000001, u_m1000, u_m3, u_m1, u_0, u_1, u_2, u_3, u_4, u_5, u_7, u_8, u_10, u_11, u_15, u_60, u_100, u_255, u_999, u_1000, u_100000, u_4294967295] at hc59)
              have e := (en _).mpr ((if_neg (by omega)).trans (if_neg (by omega)))
              obtain ⟨I, hI, rfl, htI⟩ := n_of (n := 101) (x := i) (by omega) (by omega)
              obtain ⟨N, hN, rfl, htN⟩ := n_of (n := 61) (x := n) (by omega) (by omega)
              rw [nTN (by omega), nTN (by omega)] at e
              rw [htI, htN] at hc59
              have hb0 := bsr_in (fun q => it (100 * A + q)) N I (I + N) 0 (by omega)
              generalize hz : bsr (fun q => it (100 * A + q)) N I (I + N) 0 = z at e hb0
              have key : ∀ m lo up k : Nat, up - lo ≤ m → lo ≤ up → up ≤ 100 → k + m ≤ 60 → bsr (fun q => it (100 * A + q)) m lo up k = z → ∀ x8 : Value, GG (EM mX7_edge 3 0 0 Q') 0 0 79 [.ref 0, .int (nI A), .int (nI I), .int (nI N), .int a, .int (nI lo), .int (nI up), .int (nI k), x8] [] h := by
                have fin2 : ∀ x8 : Value, GG (EM mX7_edge 3 0 0 Q') 0 0 134 [.ref 0, .int (nI A), .int (nI I), .int (nI N), .int a, .int (nI z.1), .int (nI z.1), .int (nI z.2), x8] [] h := by
                  intro x8
                  refine g_iload dX7_edge_134 rfl ?_
                  refine g_iconst (v := 2) dX7_edge_136 (by decide) ?_
                  refine g_icmp_ne (tgt := 164) dX7_edge_137 (by decide) (fun hc137 => ?_) (fun hc137 => ?_)
                  · have hd137 := mt i_eq.mpr hc137; (try simp (disch := omega) only [nT, t_m1000100, t_m1000010, t_m1000003, t_m1000002, t_m1000001, t_m1000000, t_m65535, t_m1000, t_m3, t_m1, t_0, t_1, t_2, t_3, t_4, t_5, t_6, t_7, t_8, t_9, t_10, t_11, t_12, t_13, t_15, t_16, t_20, t_21, t_22, t_32, t_40, t_41, t_48, t_49, t_57, t_59, t_60, t_63, t_72, t_76, t_88, t_100, t_144, t_200, t_255, t_288, t_400, t_800, t_999, t_1000, t_1024, t_1200, t_1600, t_3200, t_100000, t_200000, t_252645135, t_858993459, t_1431655765, u_m1000002, u_m1000001, u_m1000, u_m3, u_m1, u_0, u_1, u_2, u_3, u_4, u_5, u_7, u_8, u_10, u_11, u_15, u_60, u_100, u_255, u_999, u_1000, u_100000, u_4294967295] at hd137)
                    refine g_aload_n (i := 0) dX7_edge_164 rfl rfl ?_
                    refine g_iload dX7_edge_165 rfl ?_
                    refine g_iconst (v := 1) dX7_edge_167 (by decide) ?_
                    refine g_icmp_ne (tgt := 176) dX7_edge_168 (by decide) (fun hc168 => ?_) (fun hc168 => ?_)
                    · have hd168 := mt i_eq.mpr hc168; (try simp (disch := omega) only [nT, t_m1000100, t_m1000010, t_m1000003, t_m1000002, t_m1000001, t_m1000000, t_m65535, t_m1000, t_m3, t_m1, t_0, t_1, t_2, t_3, t_4, t_5, t_6, t_7, t_8, t_9, t_10, t_11, t_12, t_13, t_15, t_16, t_20, t_21, t_22, t_32, t_40, t_41, t_48, t_49, t_57, t_59, t_60, t_63, t_72, t_76, t_88, t_100, t_144, t_200, t_255, t_288, t_400, t_800, t_999, t_1000, t_1024, t_1200, t_1600, t_3200, t_100000, t_200000, t_252645135, t_858993459, t_1431655765, u_m1000002, u_m1000001, u_m1000, u_m3, u_m1, u_0, u_1, u_2, u_3, u_4, u_5, u_7, u_8, u_10, u_11, u_15, u_60, u_100, u_255, u_999, u_1000, u_100000, u_4294967295] at hd168)
                      refine g_iload dX7_edge_176 rfl ?_
                      refine g_iload_n (i := 2) dX7_edge_178 rfl rfl ?_
                      refine g_isub dX7_edge_179 ?_
                      refine g_callV (M' := mX7_fine) dX7_edge_180 lc_X7_fine ml_X7_103 (c_fine h0 _) rfl rfl (by repeat' (first | assumption | exact rF_eq | refine rF_ne (by decide) ?_ | refine rF_a ?_ | exact rA_eq | refine rA_ne (by decide) ?_ | refine rA_f ?_)) rfl ⟨Nat.le_of_ble_eq_true rfl, Nat.le_of_ble_eq_true rfl, Nat.le_of_ble_eq_true rfl, Nat.le_of_ble_eq_true rfl⟩ (Nat.le_of_ble_eq_true rfl) ?_
                      intro r_ h_ q_; obtain ⟨q1_, q2_⟩ := q_; have q2_ := q2_.symm; subst q1_; subst q2_
                      refine g_iret dX7_edge_183 rfl (rfl) (hQ _ _ ?_)
                      rw [e]; refine ⟨?_, rfl⟩
                      dsimp only
                      rw [if_neg hd137]
                      first | rw [if_pos hd168] | rw [if_neg hd168, n_sub (by omega)]
                    · have hd168 := i_eq.mp hc168; (try simp (disch := omega) only [nT, t_m1000100, t_m1000010, t_m1000003, t_m1000002, t_m1000001, t_m1000000, t_m65535, t_m1000, t_m3, t_m1, t_0, t_1, t_2, t_3, t_4, t_5, t_6, t_7, t_8, t_9, t_10, t_11, t_12, t_13, t_15, t_16, t_20, t_21, t_22, t_32, t_40, t_41, t_48, t_49, t_57, t_59, t_60, t_63, t_72, t_76, t_88, t_100, t_144, t_200, t_255, t_288, t_400, t_800, t_999, t_1000, t_1024, t_1200, t_1600, t_3200, t_100000, t_200000, t_252645135, t_858993459, t_1431655765, u_m1000002, u_m1000001, u_m1000, u_m3, u_m1, u_0, u_1, u_2, u_3, u_4, u_5, u_7, u_8, u_10, u_11, u_15, u_60, u_100, u_255, u_999, u_1000, u_100000, u_4294967295] at hd168)
                      refine g_iload dX7_edge_171 rfl ?_
                      refine g_goto (tgt := 180) dX7_edge_173 (by decide) ?_
                      refine g_callV (M' := mX7_fine) dX7_edge_180 lc_X7_fine ml_X7_103 (c_fine h0 _) rfl rfl (by repeat' (first | assumption | exact rF_eq | refine rF_ne (by decide) ?_ | refine rF_a ?_ | exact rA_eq | refine rA_ne (by decide) ?_ | refine rA_f ?_)) rfl ⟨Nat.le_of_ble_eq_true rfl, Nat.le_of_ble_eq_true rfl, Nat.le_of_ble_eq_true rfl, Nat.le_of_ble_eq_true rfl⟩ (Nat.le_of_ble_eq_true rfl) ?_
                      intro r_ h_ q_; obtain ⟨q1_, q2_⟩ := q_; have q2_ := q2_.symm; subst q1_; subst q2_
                      refine g_iret dX7_edge_183 rfl (rfl) (hQ _ _ ?_)
                      rw [e]; refine ⟨?_, rfl⟩
                      dsimp only
                      rw [if_neg hd137]
                      first | rw [if_pos hd168] | rw [if_neg hd168, n_sub (by omega)]
                  · have hd137 := i_eq.mp hc137; (try simp (disch := omega) only [nT, t_m1000100, t_m1000010, t_m1000003, t_m1000002, t_m1000001, t_m1000000, t_m65535, t_m1000, t_m3, t_m1, t_0, t_1, t_2, t_3, t_4, t_5, t_6, t_7, t_8, t_9, t_10, t_11, t_12, t_13, t_15, t_16, t_20, t_21, t_22, t_32, t_40, t_41, t_48, t_49, t_57, t_59, t_60, t_63, t_72, t_76, t_88, t_100, t_144, t_200, t_255, t_288, t_400, t_800, t_999, t_1000, t_1024, t_1200, t_1600, t_3200, t_100000, t_200000, t_252645135, t_858993459, t_1431655765, u_m1000002, u_m1000001, u_m1000, u_m3, u_m1, u_0, u_1, u_2, u_3, u_4, u_5, u_7, u_8, u_10, u_11, u_15, u_60, u_100, u_255, u_999, u_1000, u_100000, u_4294967295] at hd137)
                    refine g_aload_n (i := 0) dX7_edge_140 rfl rfl ?_
                    refine g_aload_n (i := 0) dX7_edge_141 rfl rfl ?_
                    refine g_iload_n (i := 1) dX7_edge_142 rfl rfl ?_
                    refine g_iload_n (i := 2) dX7_edge_143 rfl rfl ?_
                    refine g_iload dX7_edge_144 rfl ?_
                    refine g_iload_n (i := 2) dX7_edge_146 rfl rfl ?_
                    refine g_iload_n (i := 3) dX7_edge_147 rfl rfl ?_
                    refine g_iadd dX7_edge_148 ?_
                    rw [ni_add]
                    refine g_callV (M' := mX7_isEdge) dX7_edge_149 lc_X7_isEdge ml_X7_277 (c_isEdge h0 h1 hs0 hA (by omega) (by omega)) rfl rfl (by repeat' (first | assumption | exact rF_eq | refine rF_ne (by decide) ?_ | refine rF_a ?_ | exact rA_eq | refine rA_ne (by decide) ?_ | refine rA_f ?_)) rfl ⟨Nat.le_of_ble_eq_true rfl, Nat.le_of_ble_eq_true rfl, Nat.le_of_ble_eq_true rfl, Nat.le_of_ble_eq_true rfl⟩ (Nat.le_of_ble_eq_true rfl) ?_
                    intro r_ h_ q_; obtain ⟨q1_, q2_⟩ := q_; have q2_ := q2_.symm; subst q1_; subst q2_
                    refine g_if_eq (tgt := 159) dX7_edge_152 (by decide) (fun hc152 => ?_) (fun hc152 => ?_)
                    · replace hc152 := bI_0.mp hc152
                      (try simp (disch := omega) only [nT, t_m1000100, t_m1000010, t_m1000003, t_m1000002, t_m1000001, t_m1000000, t_m65535, t_m1000, t_m3, t_m1, t_0, t_1, t_2, t_3, t_4, t_5, t_6, t_7, t_8, t_9, t_10, t_11, t_12, t_13, t_15, t_16, t_20, t_21, t_22, t_32, t_40, t_41, t_48, t_49, t_57, t_59, t_60, t_63, t_72, t_76, t_88, t_100, t_144, t_200, t_255, t_288, t_400, t_800, t_999, t_1000, t_1024, t_1200, t_1600, t_3200, t_100000, t_200000, t_252645135, t_858993459, t_1431655765, u_m1000002, u_m1000001, u_m1000, u_m3, u_m1, u_0, u_1, u_2, u_3, u_4, u_5, u_7, u_8, u_10, u_11, u_15, u_60, u_100, u_255, u_999, u_1000, u_100000, u_4294967295] at hc152)
                      refine g_iconst (v := 0) dX7_edge_159 (by decide) ?_
                      refine g_callV (M' := mX7_fine) dX7_edge_160 lc_X7_fine ml_X7_103 (c_fine h0 _) rfl rfl (by repeat' (first | assumption | exact rF_eq | refine rF_ne (by decide) ?_ | refine rF_a ?_ | exact rA_eq | refine rA_ne (by decide) ?_ | refine rA_f ?_)) rfl ⟨Nat.le_of_ble_eq_true rfl, Nat.le_of_ble_eq_true rfl, Nat.le_of_ble_eq_true rfl, Nat.le_of_ble_eq_true rfl⟩ (Nat.le_of_ble_eq_true rfl) ?_
                      intro r_ h_ q_; obtain ⟨q1_, q2_⟩ := q_; have q2_ := q2_.symm; subst q1_; subst q2_
                      refine g_iret dX7_edge_163 rfl (rfl) (hQ _ _ ?_)
                      rw [e]; refine ⟨?_, rfl⟩
                      dsimp only
                      rw [if_pos hd137]
                      first | rw [bI_t hc152] | rw [bI_f hc152]
                    · replace hc152 := bI_n0.mp hc152
                      (try simp (disch := omega) only [nT, t_m1000100, t_m1000010, t_m1000003, t_m1000002, t_m1000001, t_m1000000, t_m65535, t_m1000, t_m3, t_m1, t_0, t_1, t_2, t_3, t_4, t_5, t_6, t_7, t_8, t_9, t_10, t_11, t_12, t_13, t_15, t_16, t_20, t_21, t_22, t_32, t_40, t_41, t_48, t_49, t_57, t_59, t_60, t_63, t_72, t_76, t_88, t_100, t_144, t_200, t_255, t_288, t_400, t_800, t_999, t_1000, t_1024, t_1200, t_1600, t_3200, t_100000, t_200000, t_252645135, t_858993459, t_1431655765, u_m1000002, u_m1000001, u_m1000, u_m3, u_m1, u_0, u_1, u_2, u_3, u_4, u_5, u_7, u_8, u_10, u_11, u_15, u_60, u_100, u_255, u_999, u_1000, u_100000, u_4294967295] at hc152)
                      refine g_iconst (v := 1) dX7_edge_155 (by decide) ?_
                      refine g_goto (tgt := 160) dX7_edge_156 (by decide) ?_
                      refine g_callV (M' := mX7_fine) dX7_edge_160 lc_X7_fine ml_X7_103 (c_fine h0 _) rfl rfl (by repeat' (first | assumption | exact rF_eq | refine rF_ne (by decide) ?_ | refine rF_a ?_ | exact rA_eq | refine rA_ne (by decide) ?_ | refine rA_f ?_)) rfl ⟨Nat.le_of_ble_eq_true rfl, Nat.le_of_ble_eq_true rfl, Nat.le_of_ble_eq_true rfl, Nat.le_of_ble_eq_true rfl⟩ (Nat.le_of_ble_eq_true rfl) ?_
                      intro r_ h_ q_; obtain ⟨q1_, q2_⟩ := q_; have q2_ := q2_.symm; subst q1_; subst q2_
                      refine g_iret dX7_edge_163 rfl (rfl) (hQ _ _ ?_)
                      rw [e]; refine ⟨?_, rfl⟩
                      dsimp only
                      rw [if_pos hd137]
                      first | rw [bI_t hc152] | rw [bI_f hc152]
                intro m
                induction m with
                | zero =>
                  intro lo up k h5 h6 h7 h8 hb x8
                  obtain rfl : lo = up := by omega
                  have hz2 : z = (lo, k) := hb.symm
                  subst hz2
                  refine g_iload dX7_edge_79 rfl ?_
                  refine g_iload dX7_edge_81 rfl ?_
                  refine g_icmp_ge (tgt := 134) dX7_edge_83 (by decide) (fun hc83 => ?_) (fun hc83 => ?_)
                  · (try simp (disch := omega) only [nT, t_m1000100, t_m1000010, t_m1000003, t_m1000002, t_m1000001, t_m1000000, t_m65535, t_m1000, t_m3, t_m1, t_0, t_1, t_2, t_3, t_4, t_5, t_6, t_7, t_8, t_9, t_10, t_11, t_12, t_13, t_15, t_16, t_20, t_21, t_22, t_32, t_40, t_41, t_48, t_49, t_57, t_59, t_60, t_63, t_72, t_76, t_88, t_100, t_144, t_200, t_255, t_288, t_400, t_800, t_999, t_1000, t_1024, t_1200, t_1600, t_3200, t_100000, t_200000, t_252645135, t_858993459, t_1431655765, u_m1000002, u_m1000001, u_m1000, u_m3, u_m1, u_0, u_1, u_2, u_3, u_4, u_5, u_7, u_8, u_10, u_11, u_15, u_60, u_100, u_255, u_999, u_1000, u_100000, u_4294967295] at hc83)
                    exact fin2 x8
                  · (try simp (disch := omega) only [nT, t_m1000100, t_m1000010, t_m1000003, t_m1000002, t_m1000001, t_m1000000, t_m65535, t_m1000, t_m3, t_m1, t_0, t_1, t_2, t_3, t_4, t_5, t_6, t_7, t_8, t_9, t_10, t_11, t_12, t_13, t_15, t_16, t_20, t_21, t_22, t_32, t_40, t_41, t_48, t_49, t_57, t_59, t_60, t_63, t_72, t_76, t_88, t_100, t_144, t_200, t_255, t_288, t_400, t_800, t_999, t_1000, t_1024, t_1200, t_1600, t_3200, t_100000, t_200000, t_252645135, t_858993459, t_1431655765, u_m1000002, u_m1000001, u_m1000, u_m3, u_m1, u_0, u_1, u_2, u_3, u_4, u_5, u_7, u_8, u_10, u_11, u_15, u_60, u_100, u_255, u_999, u_1000, u_100000, u_4294967295] at hc83); omega
                | succ m ih =>
                  intro lo up k h5 h6 h7 h8 hb x8
                  unfold bsr at hb
                  refine g_iload dX7_edge_79 rfl ?_
                  refine g_iload dX7_edge_81 rfl ?_
                  refine g_icmp_ge (tgt := 134) dX7_edge_83 (by decide) (fun hc83 => ?_) (fun hc83 => ?_)
                  · (try simp (disch := omega) only [nT, t_m1000100, t_m1000010, t_m1000003, t_m1000002, t_m1000001, t_m1000000, t_m65535, t_m1000, t_m3, t_m1, t_0, t_1, t_2, t_3, t_4, t_5, t_6, t_7, t_8, t_9, t_10, t_11, t_12, t_13, t_15, t_16, t_20, t_21, t_22, t_32, t_40, t_41, t_48, t_49, t_57, t_59, t_60, t_63, t_72, t_76, t_88, t_100, t_144, t_200, t_255, t_288, t_400, t_800, t_999, t_1000, t_1024, t_1200, t_1600, t_3200, t_100000, t_200000, t_252645135, t_858993459, t_1431655765, u_m1000002, u_m1000001, u_m1000, u_m3, u_m1, u_0, u_1, u_2, u_3, u_4, u_5, u_7, u_8, u_10, u_11, u_15, u_60, u_100, u_255, u_999, u_1000, u_100000, u_4294967295] at hc83)
                    obtain rfl : lo = up := by omega
                    rw [if_neg (by omega)] at hb
                    subst hb
                    exact fin2 x8
                  · (try simp (disch := omega) only [nT, t_m1000100, t_m1000010, t_m1000003, t_m1000002, t_m1000001, t_m1000000, t_m65535, t_m1000, t_m3, t_m1, t_0, t_1, t_2, t_3, t_4, t_5, t_6, t_7, t_8, t_9, t_10, t_11, t_12, t_13, t_15, t_16, t_20, t_21, t_22, t_32, t_40, t_41, t_48, t_49, t_57, t_59, t_60, t_63, t_72, t_76, t_88, t_100, t_144, t_200, t_255, t_288, t_400, t_800, t_999, t_1000, t_1024, t_1200, t_1600, t_3200, t_100000, t_200000, t_252645135, t_858993459, t_1431655765, u_m1000002, u_m1000001, u_m1000, u_m3, u_m1, u_0, u_1, u_2, u_3, u_4, u_5, u_7, u_8, u_10, u_11, u_15, u_60, u_100, u_255, u_999, u_1000, u_100000, u_4294967295] at hc83)
                    rw [if_pos (by omega)] at hb
                    refine g_iload dX7_edge_86 rfl ?_
                    refine g_bipush (v := 60) dX7_edge_88 (by decide) ?_
                    refine g_icmp_ge (tgt := 134) dX7_edge_90 (by decide) (fun hc90 => ?_) (fun hc90 => ?_)
                    · (try simp (disch := omega) only [nT, t_m1000100, t_m1000010, t_m1000003, t_m1000002, t_m1000001, t_m1000000, t_m65535, t_m1000, t_m3, t_m1, t_0, t_1, t_2, t_3, t_4, t_5, t_6, t_7, t_8, t_9, t_10, t_11, t_12, t_13, t_15, t_16, t_20, t_21, t_22, t_32, t_40, t_41, t_48, t_49, t_57, t_59, t_60, t_63, t_72, t_76, t_88, t_100, t_144, t_200, t_255, t_288, t_400, t_800, t_999, t_1000, t_1024, t_1200, t_1600, t_3200, t_100000, t_200000, t_252645135, t_858993459, t_1431655765, u_m1000002, u_m1000001, u_m1000, u_m3, u_m1, u_0, u_1, u_2, u_3, u_4, u_5, u_7, u_8, u_10, u_11, u_15, u_60, u_100, u_255, u_999, u_1000, u_100000, u_4294967295] at hc90); omega
                    · (try simp (disch := omega) only [nT, t_m1000100, t_m1000010, t_m1000003, t_m1000002, t_m1000001, t_m1000000, t_m65535, t_m1000, t_m3, t_m1, t_0, t_1, t_2, t_3, t_4, t_5, t_6, t_7, t_8, t_9, t_10, t_11, t_12, t_13, t_15, t_16, t_20, t_21, t_22, t_32, t_40, t_41, t_48, t_49, t_57, t_59, t_60, t_63, t_72, t_76, t_88, t_100, t_144, t_200, t_255, t_288, t_400, t_800, t_999, t_1000, t_1024, t_1200, t_1600, t_3200, t_100000, t_200000, t_252645135, t_858993459, t_1431655765, u_m1000002, u_m1000001, u_m1000, u_m3, u_m1, u_0, u_1, u_2, u_3, u_4, u_5, u_7, u_8, u_10, u_11, u_15, u_60, u_100, u_255, u_999, u_1000, u_100000, u_4294967295] at hc90)
                      refine g_iload dX7_edge_93 rfl ?_
                      refine g_iload dX7_edge_95 rfl ?_
                      refine g_iadd dX7_edge_97 ?_
                      refine g_iconst (v := 2) dX7_edge_98 (by decide) ?_
                      refine g_idiv dX7_edge_99 (by decide) ?_
                      rw [mid2 (by omega) (by omega)]
                      refine g_istore dX7_edge_100 (Nat.le_of_ble_eq_true rfl) rfl ?_
                      refine g_iinc dX7_edge_102 rfl (Nat.le_of_ble_eq_true rfl) rfl ?_
                      refine g_aload_n (i := 0) dX7_edge_105 rfl rfl ?_
                      refine g_get dX7_edge_106 fl_X7_10 (by repeat' (first | assumption | exact rF_eq | refine rF_ne (by decide) ?_ | refine rF_a ?_ | exact rA_eq | refine rA_ne (by decide) ?_ | refine rA_f ?_)) (by repeat' (first | assumption | exact rF_eq | refine rF_ne (by decide) ?_ | refine rF_a ?_ | exact rA_eq | refine rA_ne (by decide) ?_ | refine rA_f ?_)) ?_
                      refine g_iload_n (i := 1) dX7_edge_109 rfl rfl ?_
                      refine g_iload dX7_edge_110 rfl ?_
                      refine g_callV (M' := mX3_itemAt) dX7_edge_112 lc_X3_itemAt ml_X7_188 (c_itemAt hs0 hA (by omega : (lo + up) / 2 < 100)) rfl rfl (by repeat' (first | assumption | exact rF_eq | refine rF_ne (by decide) ?_ | refine rF_a ?_ | exact rA_eq | refine rA_ne (by decide) ?_ | refine rA_f ?_)) rfl ⟨Nat.le_of_ble_eq_true rfl, Nat.le_of_ble_eq_true rfl, Nat.le_of_ble_eq_true rfl, Nat.le_of_ble_eq_true rfl⟩ (Nat.le_of_ble_eq_true rfl) ?_
                      intro r_ h_ q_; obtain ⟨q1_, q2_⟩ := q_; have q2_ := q2_.symm; subst q1_; subst q2_
                      refine g_if_eq (tgt := 125) dX7_edge_115 (by decide) (fun hc115 => ?_) (fun hc115 => ?_)
                      · have hd115 := i_eq.mp hc115; (try simp (disch := omega) only [nT, t_m1000100, t_m1000010, t_m1000003, t_m1000002, t_m1000001, t_m1000000, t_m65535, t_m1000, t_m3, t_m1, t_0, t_1, t_2, t_3, t_4, t_5, t_6, t_7, t_8, t_9, t_10, t_11, t_12, t_13, t_15, t_16, t_20, t_21, t_22, t_32, t_40, t_41, t_48, t_49, t_57, t_59, t_60, t_63, t_72, t_76, t_88, t_100, t_144, t_200, t_255, t_288, t_400, t_800, t_999, t_1000, t_1024, t_1200, t_1600, t_3200, t_100000, t_200000, t_252645135, t_858993459, t_1431655765, u_m1000002, u_m1000001, u_m1000, u_m3, u_m1, u_0, u_1, u_2, u_3, u_4, u_5, u_7, u_8, u_10, u_11, u_15, u_60, u_100, u_255, u_999, u_1000, u_100000, u_4294967295] at hd115)
                        refine g_iload dX7_edge_125 rfl ?_
                        refine g_iconst (v := 1) dX7_edge_127 (by decide) ?_
                        refine g_iadd dX7_edge_128 ?_
                        refine g_istore dX7_edge_129 (Nat.le_of_ble_eq_true rfl) rfl ?_
                        refine g_goto (tgt := 79) dX7_edge_131 (by decide) ?_
                        try rw [ni_inc]
                        rw [ni_incO]
                        first
                        | (rw [if_pos hd115] at hb; exact ih _ _ _ (by omega) (by omega) (by omega) (by omega) hb _)
                        | (rw [if_neg hd115] at hb; exact ih _ _ _ (by omega) (by omega) (by omega) (by omega) hb _)
                      · have hd115 := mt i_eq.mpr hc115; (try simp (disch := omega) only [nT, t_m1000100, t_m1000010, t_m1000003, t_m1000002, t_m1000001, t_m1000000, t_m65535, t_m1000, t_m3, t_m1, t_0, t_1, t_2, t_3, t_4, t_5, t_6, t_7, t_8, t_9, t_10, t_11, t_12, t_13, t_15, t_16, t_20, t_21, t_22, t_32, t_40, t_41, t_48, t_49, t_57, t_59, t_60, t_63, t_72, t_76, t_88, t_100, t_144, t_200, t_255, t_288, t_400, t_800, t_999, t_1000, t_1024, t_1200, t_1600, t_3200, t_100000, t_200000, t_252645135, t_858993459, t_1431655765, u_m1000002, u_m1000001, u_m1000, u_m3, u_m1, u_0, u_1, u_2, u_3, u_4, u_5, u_7, u_8, u_10, u_11, u_15, u_60, u_100, u_255, u_999, u_1000, u_100000, u_4294967295] at hd115)
                        refine g_iload dX7_edge_118 rfl ?_
                        refine g_istore dX7_edge_120 (Nat.le_of_ble_eq_true rfl) rfl ?_
                        refine g_goto (tgt := 131) dX7_edge_122 (by decide) ?_
                        refine g_goto (tgt := 79) dX7_edge_131 (by decide) ?_
                        try rw [ni_inc]
                        rw [ni_incO]
                        first
                        | (rw [if_pos hd115] at hb; exact ih _ _ _ (by omega) (by omega) (by omega) (by omega) hb _)
                        | (rw [if_neg hd115] at hb; exact ih _ _ _ (by omega) (by omega) (by omega) (by omega) hb _)
              refine g_iload_n (i := 2) dX7_edge_68 rfl rfl ?_
              refine g_istore dX7_edge_69 (Nat.le_of_ble_eq_true rfl) rfl ?_
              refine g_iload_n (i := 2) dX7_edge_71 rfl rfl ?_
              refine g_iload_n (i := 3) dX7_edge_72 rfl rfl ?_
              refine g_iadd dX7_edge_73 ?_
              refine g_istore dX7_edge_74 (Nat.le_of_ble_eq_true rfl) rfl ?_
              refine g_iconst (v := 0) dX7_edge_76 (by decide) ?_
              refine g_istore dX7_edge_77 (Nat.le_of_ble_eq_true rfl) rfl ?_
              rw [ni_add]
              exact key N I (I + N) 0 (by omega) (by omega) (by omega) (by omega) hz hU
            · replace hc59 := bI_0.mp hc59
              (try simp (disch := omega) only [nT, t_m1000100, t_m1000010, t_m1000003, t_m1000002, t_m1000001, t_m1000000, t_m65535, t_m1000, t_m3, t_m1, t_0, t_1, t_2, t_3, t_4, t_5, t_6, t_7, t_8, t_9, t_10, t_11, t_12, t_13, t_15, t_16, t_20, t_21, t_22, t_32, t_40, t_41, t_48, t_49, t_57, t_59, t_60, t_63, t_72, t_76, t_88, t_100, t_144, t_200, t_255, t_288, t_400, t_800, t_999, t_1000, t_1024, t_1200, t_1600, t_3200, t_100000, t_200000, t_252645135, t_858993459, t_1431655765, u_m1000002, u_m1000001, u_m1000, u_m3, u_m1, u_0, u_1, u_2, u_3, u_4, u_5, u_7, u_8, u_10, u_11, u_15, u_60, u_100, u_255, u_999, u_1000, u_100000, u_4294967295] at hc59)
              refine g_aload_n (i := 0) dX7_edge_62 rfl rfl ?_
              refine g_iconst (v := 2) dX7_edge_63 (by decide) ?_
              refine g_callV (M' := mX7_found) dX7_edge_64 lc_X7_found ml_X7_95 (c_found h0 2) rfl rfl (by repeat' (first | assumption | exact rF_eq | refine rF_ne (by decide) ?_ | refine rF_a ?_ | exact rA_eq | refine rA_ne (by decide) ?_ | refine rA_f ?_)) rfl ⟨Nat.le_of_ble_eq_true rfl, Nat.le_of_ble_eq_true rfl, Nat.le_of_ble_eq_true rfl, Nat.le_of_ble_eq_true rfl⟩ (Nat.le_of_ble_eq_true rfl) ?_
              intro r_ h_ q_; obtain ⟨q1_, q2_⟩ := q_; have q2_ := q2_.symm; subst q1_; subst q2_
              refine g_iret dX7_edge_67 rfl (rfl) (hQ _ _ ?_)
              have e := (en _).mpr ((if_neg (by omega)).trans (if_pos (by omega)))
              rw [e]; exact ⟨rfl, rfl⟩
          · replace hc40 := bI_n0.mp hc40
            (try simp (disch := omega) only [nT, t_m1000100, t_m1000010, t_m1000003, t_m1000002, t_m1000001, t_m1000000, t_m65535, t_m1000, t_m3, t_m1, t_0, t_1, t_2, t_3, t_4, t_5, t_6, t_7, t_8, t_9, t_10, t_11, t_12, t_13, t_15, t_16, t_20, t_21, t_22, t_32, t_40, t_41, t_48, t_49, t_57, t_59, t_60, t_63, t_72, t_76, t_88, t_100, t_144, t_200, t_255, t_288, t_400, t_800, t_999, t_1000, t_1024, t_1200, t_1600, t_3200, t_100000, t_200000, t_252645135, t_858993459, t_1431655765, u_m1000002, u_m1000001, u_m1000, u_m3, u_m1, u_0, u_1, u_2, u_3, u_4, u_5, u_7, u_8, u_10, u_11, u_15, u_60, u_100, u_255, u_999, u_1000, u_100000, u_4294967295] at hc40)
            refine g_aload_n (i := 0) dX7_edge_43 rfl rfl ?_
            refine g_iconst (v := 1) dX7_edge_44 (by decide) ?_
            refine g_callV (M' := mX7_found) dX7_edge_45 lc_X7_found ml_X7_95 (c_found h0 1) rfl rfl (by repeat' (first | assumption | exact rF_eq | refine rF_ne (by decide) ?_ | refine rF_a ?_ | exact rA_eq | refine rA_ne (by decide) ?_ | refine rA_f ?_)) rfl ⟨Nat.le_of_ble_eq_true rfl, Nat.le_of_ble_eq_true rfl, Nat.le_of_ble_eq_true rfl, Nat.le_of_ble_eq_true rfl⟩ (Nat.le_of_ble_eq_true rfl) ?_
            intro r_ h_ q_; obtain ⟨q1_, q2_⟩ := q_; have q2_ := q2_.symm; subst q1_; subst q2_
            refine g_iret dX7_edge_48 rfl (rfl) (hQ _ _ ?_)
            have e := (en _).mpr (if_pos (by omega))
            rw [e]; exact ⟨rfl, rfl⟩
        · replace hc26 := bI_0.mp hc26
          (try simp (disch := omega) only [nT, t_m1000100, t_m1000010, t_m1000003, t_m1000002, t_m1000001, t_m1000000, t_m65535, t_m1000, t_m3, t_m1, t_0, t_1, t_2, t_3, t_4, t_5, t_6, t_7, t_8, t_9, t_10, t_11, t_12, t_13, t_15, t_16, t_20, t_21, t_22, t_32, t_40, t_41, t_48, t_49, t_57, t_59, t_60, t_63, t_72, t_76, t_88, t_100, t_144, t_200, t_255, t_288, t_400, t_800, t_999, t_1000, t_1024, t_1200, t_1600, t_3200, t_100000, t_200000, t_252645135, t_858993459, t_1431655765, u_m1000002, u_m1000001, u_m1000, u_m3, u_m1, u_0, u_1, u_2, u_3, u_4, u_5, u_7, u_8, u_10, u_11, u_15, u_60, u_100, u_255, u_999, u_1000, u_100000, u_4294967295] at hc26)
          refine g_ldc dX7_edge_29 kc_X7_94 ?_
          refine g_iret dX7_edge_31 rfl (rfl) (hQ _ _ ?_)
          have e : opEdge (st, ln, sz, it) s i n a = _ := if_pos (by omega)
          rw [e]; exact ⟨rfl, (sF_self h2).symm⟩
theorem m_edge {w : SH} (hw : WfS w) {h : HH} (hg : GSM w h) (s i n a : Int32) : CT mX8_edge 2 0 0 [.ref 44, .int s, .int i, .int n, .int a] h (fun r h' => r = some (.int (opEdge w s i n a).1) ∧ ∃ th, h' = sF (sF h 44 0 th) 44 1 (.int (opEdge w s i n a).2)) := by
  obtain ⟨st, lo0, so, io⟩ := w
  obtain ⟨ln, sz, it, h2, hs, hE⟩ := hg
  have hs0 := hs
  obtain ⟨e1, e2, e3, e4, e5, e6, e7⟩ := hs
  dsimp only at h2
  refine CT.go [.ref 44, .int s, .int i, .int n, .int a, hU, hU, hU, hU, hU] (by decide +kernel) rfl rfl (fun Q' hQ => ?_)
  refine g_aload_n (i := 0) dX8_edge_0 rfl rfl ?_
  refine g_iconst (v := 0) dX8_edge_1 (by decide) ?_
  refine g_put dX8_edge_2 pl_X8_107 (by repeat' (first | assumption | exact rF_eq | refine rF_ne (by decide) ?_ | refine rF_a ?_ | exact rA_eq | refine rA_ne (by decide) ?_ | refine rA_f ?_)) (fun _ => ⟨rfl, rfl⟩) ?_
  refine g_iload_n (i := 1) dX8_edge_5 rfl rfl ?_
  refine g_callS (M' := mX8_isSheet) dX8_edge_6 lc_X8_isSheet ml_X8_120 (c_isSheet _ s) rfl rfl ⟨Nat.le_of_ble_eq_true rfl, Nat.le_of_ble_eq_true rfl, Nat.le_of_ble_eq_true rfl, Nat.le_of_ble_eq_true rfl⟩ (Nat.le_of_ble_eq_true rfl) ?_
  intro r_ h_ q_; obtain ⟨q1_, q2_⟩ := q_; have q2_ := q2_.symm; subst q1_; subst q2_
  refine g_if_eq (tgt := 37) dX8_edge_9 (by decide) (fun hc9 => ?_) (fun hc9 => ?_)
  · replace hc9 := bI_0.mp hc9
    (try simp (disch := omega) only [nT, t_m1000100, t_m1000010, t_m1000003, t_m1000002, t_m1000001, t_m1000000, t_m65535, t_m1000, t_m3, t_m1, t_0, t_1, t_2, t_3, t_4, t_5, t_6, t_7, t_8, t_9, t_10, t_11, t_12, t_13, t_15, t_16, t_20, t_21, t_22, t_32, t_40, t_41, t_48, t_49, t_57, t_59, t_60, t_63, t_72, t_76, t_88, t_100, t_144, t_200, t_255, t_288, t_400, t_800, t_999, t_1000, t_1024, t_1200, t_1600, t_3200, t_100000, t_200000, t_252645135, t_858993459, t_1431655765, u_m1000002, u_m1000001, u_m1000, u_m3, u_m1, u_0, u_1, u_2, u_3, u_4, u_5, u_7, u_8, u_10, u_11, u_15, u_60, u_100, u_255, u_999, u_1000, u_100000, u_4294967295] at hc9)
    refine g_ldc dX8_edge_37 kc_X8_126 ?_
    refine g_iret dX8_edge_39 rfl (rfl) (hQ _ _ ?_)
    have e : opEdge (st, lo0, so, io) s i n a = _ := if_pos (by omega)
    rw [e]; exact ⟨rfl, _, (sF_self (show gF (sF h 44 0 (.int 0)) 44 1 = .int st from h2)).symm⟩
  · replace hc9 := bI_n0.mp hc9
    (try simp (disch := omega) only [nT, t_m1000100, t_m1000010, t_m1000003, t_m1000002, t_m1000001, t_m1000000, t_m65535, t_m1000, t_m3, t_m1, t_0, t_1, t_2, t_3, t_4, t_5, t_6, t_7, t_8, t_9, t_10, t_11, t_12, t_13, t_15, t_16, t_20, t_21, t_22, t_32, t_40, t_41, t_48, t_49, t_57, t_59, t_60, t_63, t_72, t_76, t_88, t_100, t_144, t_200, t_255, t_288, t_400, t_800, t_999, t_1000, t_1024, t_1200, t_1600, t_3200, t_100000, t_200000, t_252645135, t_858993459, t_1431655765, u_m1000002, u_m1000001, u_m1000, u_m3, u_m1, u_0, u_1, u_2, u_3, u_4, u_5, u_7, u_8, u_10, u_11, u_15, u_60, u_100, u_255, u_999, u_1000, u_100000, u_4294967295] at hc9)
    refine g_iload_n (i := 3) dX8_edge_12 rfl rfl ?_
    refine g_i2l dX8_edge_13 ?_
    refine g_lconst (v := 1) dX8_edge_14 (by decide) ?_
    refine g_ldc2 dX8_edge_15 kc_X8_264 ?_
    refine g_callS (M' := mX8_in) dX8_edge_18 lc_X8_in ml_X8_116 (c_in _ n.toInt64 1 60 1 60 rfl rfl) rfl rfl ⟨Nat.le_of_ble_eq_true rfl, Nat.le_of_ble_eq_true rfl, Nat.le_of_ble_eq_true rfl, Nat.le_of_ble_eq_true rfl⟩ (Nat.le_of_ble_eq_true rfl) ?_
    intro r_ h_ q_; obtain ⟨q1_, q2_⟩ := q_; have q2_ := q2_.symm; subst q1_; subst q2_
    rw [l_i]
    refine g_if_eq (tgt := 37) dX8_edge_21 (by decide) (fun hc21 => ?_) (fun hc21 => ?_)
    · replace hc21 := bI_0.mp hc21
      (try simp (disch := omega) only [nT, t_m1000100, t_m1000010, t_m1000003, t_m1000002, t_m1000001, t_m1000000, t_m65535, t_m1000, t_m3, t_m1, t_0, t_1, t_2, t_3, t_4, t_5, t_6, t_7, t_8, t_9, t_10, t_11, t_12, t_13, t_15, t_16, t_20, t_21, t_22, t_32, t_40, t_41, t_48, t_49, t_57, t_59, t_60, t_63, t_72, t_76, t_88, t_100, t_144, t_200, t_255, t_288, t_400, t_800, t_999, t_1000, t_1024, t_1200, t_1600, t_3200, t_100000, t_200000, t_252645135, t_858993459, t_1431655765, u_m1000002, u_m1000001, u_m1000, u_m3, u_m1, u_0, u_1, u_2, u_3, u_4, u_5, u_7, u_8, u_10, u_11, u_15, u_60, u_100, u_255, u_999, u_1000, u_100000, u_4294967295] at hc21)
      refine g_ldc dX8_edge_37 kc_X8_126 ?_
      refine g_iret dX8_edge_39 rfl (rfl) (hQ _ _ ?_)
      have e : opEdge (st, lo0, so, io) s i n a = _ := if_pos (by omega)
      rw [e]; exact ⟨rfl, _, (sF_self (show gF (sF h 44 0 (.int 0)) 44 1 = .int st from h2)).symm⟩
    · replace hc21 := bI_n0.mp hc21
      (try simp (disch := omega) only [nT, t_m1000100, t_m1000010, t_m1000003, t_m1000002, t_m1000001, t_m1000000, t_m65535, t_m1000, t_m3, t_m1, t_0, t_1, t_2, t_3, t_4, t_5, t_6, t_7, t_8, t_9, t_10, t_11, t_12, t_13, t_15, t_16, t_20, t_21, t_22, t_32, t_40, t_41, t_48, t_49, t_57, t_59, t_60, t_63, t_72, t_76, t_88, t_100, t_144, t_200, t_255, t_288, t_400, t_800, t_999, t_1000, t_1024, t_1200, t_1600, t_3200, t_100000, t_200000, t_252645135, t_858993459, t_1431655765, u_m1000002, u_m1000001, u_m1000, u_m3, u_m1, u_0, u_1, u_2, u_3, u_4, u_5, u_7, u_8, u_10, u_11, u_15, u_60, u_100, u_255, u_999, u_1000, u_100000, u_4294967295] at hc21)
      refine g_iload dX8_edge_24 rfl ?_
      refine g_i2l dX8_edge_26 ?_
      refine g_lconst (v := 0) dX8_edge_27 (by decide) ?_
      refine g_ldc2 dX8_edge_28 kc_X8_124 ?_
      refine g_callS (M' := mX8_in) dX8_edge_31 lc_X8_in ml_X8_116 (c_in _ a.toInt64 0 2 0 2 rfl rfl) rfl rfl ⟨Nat.le_of_ble_eq_true rfl, Nat.le_of_ble_eq_true rfl, Nat.le_of_ble_eq_true rfl, Nat.le_of_ble_eq_true rfl⟩ (Nat.le_of_ble_eq_true rfl) ?_
      intro r_ h_ q_; obtain ⟨q1_, q2_⟩ := q_; have q2_ := q2_.symm; subst q1_; subst q2_
      rw [l_i]
      refine g_if_ne (tgt := 40) dX8_edge_34 (by decide) (fun hc34 => ?_) (fun hc34 => ?_)
      · replace hc34 := bI_n0.mp hc34
        (try simp (disch := omega) only [nT, t_m1000100, t_m1000010, t_m1000003, t_m1000002, t_m1000001, t_m1000000, t_m65535, t_m1000, t_m3, t_m1, t_0, t_1, t_2, t_3, t_4, t_5, t_6, t_7, t_8, t_9, t_10, t_11, t_12, t_13, t_15, t_16, t_20, t_21, t_22, t_32, t_40, t_41, t_48, t_49, t_57, t_59, t_60, t_63, t_72, t_76, t_88, t_100, t_144, t_200, t_255, t_288, t_400, t_800, t_999, t_1000, t_1024, t_1200, t_1600, t_3200, t_100000, t_200000, t_252645135, t_858993459, t_1431655765, u_m1000002, u_m1000001, u_m1000, u_m3, u_m1, u_0, u_1, u_2, u_3, u_4, u_5, u_7, u_8, u_10, u_11, u_15, u_60, u_100, u_255, u_999, u_1000, u_100000, u_4294967295] at hc34)
        obtain ⟨A, hA, rfl, hta⟩ := n_of (n := 8) (x := s) (by omega) (by omega)
        have hwa := hw A hA
        have q0 := hE.1 A hA
        have q1 := congrArg Int32.toInt q0.1
        have q2 := congrArg Int32.toInt q0.2
        dsimp only at hwa q1 q2
        have en : ∀ x, opEdge (st, lo0, so, io) (nI A) i n a = x ↔ _ = x := fun x => by rw [show opEdge (st, lo0, so, io) (nI A) i n a = _ from if_neg (by omega), nTN (by omega)]
        dsimp only at en
        refine g_aload_n (i := 0) dX8_edge_40 rfl rfl ?_
        refine g_iconst (v := 0) dX8_edge_41 (by decide) ?_
        refine g_put dX8_edge_42 pl_X8_110 (by repeat' (first | assumption | exact rF_eq | refine rF_ne (by decide) ?_ | refine rF_a ?_ | exact rA_eq | refine rA_ne (by decide) ?_ | refine rA_f ?_)) (fun _ => ⟨rfl, rfl⟩) ?_
        refine g_aload_n (i := 0) dX8_edge_45 rfl rfl ?_
        refine g_get dX8_edge_46 fl_X8_7 (by repeat' (first | assumption | exact rF_eq | refine rF_ne (by decide) ?_ | refine rF_a ?_ | exact rA_eq | refine rA_ne (by decide) ?_ | refine rA_f ?_)) (by repeat' (first | assumption | exact rF_eq | refine rF_ne (by decide) ?_ | refine rF_a ?_ | exact rA_eq | refine rA_ne (by decide) ?_ | refine rA_f ?_)) ?_
        refine g_iload_n (i := 1) dX8_edge_49 rfl rfl ?_
        refine g_iald dX8_edge_50 (by repeat' (first | assumption | exact rF_eq | refine rF_ne (by decide) ?_ | refine rF_a ?_ | exact rA_eq | refine rA_ne (by decide) ?_ | refine rA_f ?_)) (hta) (hA) ?_
        refine g_if_ge (tgt := 60) dX8_edge_51 (by decide) (fun hc51 => ?_) (fun hc51 => ?_)
        · (try simp (disch := omega) only [nT, t_m1000100, t_m1000010, t_m1000003, t_m1000002, t_m1000001, t_m1000000, t_m65535, t_m1000, t_m3, t_m1, t_0, t_1, t_2, t_3, t_4, t_5, t_6, t_7, t_8, t_9, t_10, t_11, t_12, t_13, t_15, t_16, t_20, t_21, t_22, t_32, t_40, t_41, t_48, t_49, t_57, t_59, t_60, t_63, t_72, t_76, t_88, t_100, t_144, t_200, t_255, t_288, t_400, t_800, t_999, t_1000, t_1024, t_1200, t_1600, t_3200, t_100000, t_200000, t_252645135, t_858993459, t_1431655765, u_m1000002, u_m1000001, u_m1000, u_m3, u_m1, u_0, u_1, u_2, u_3, u_4, u_5, u_7, u_8, u_10, u_11, u_15, u_60, u_100, u_255, u_999, u_1000, u_100000, u_4294967295] at hc51)
          refine g_iload_n (i := 2) dX8_edge_60 rfl rfl ?_
          refine g_if_lt (tgt := 80) dX8_edge_61 (by decide) (fun hc61 => ?_) (fun hc61 => ?_)
          · (try simp (disch := omega) only [nT, t_m1000100, t_m1000010, t_m1000003, t_m1000002, t_m1000001, t_m1000000, t_m65535, t_m1000, t_m3, t_m1, t_0, t_1, t_2, t_3, t_4, t_5, t_6, t_7, t_8, t_9, t_10, t_11, t_12, t_13, t_15, t_16, t_20, t_21, t_22, t_32, t_40, t_41, t_48, t_49, t_57, t_59, t_60, t_63, t_72, t_76, t_88, t_100, t_144, t_200, t_255, t_288, t_400, t_800, t_999, t_1000, t_1024, t_1200, t_1600, t_3200, t_100000, t_200000, t_252645135, t_858993459, t_1431655765, u_m1000002, u_m1000001, u_m1000, u_m3, u_m1, u_0, u_1, u_2, u_3, u_4, u_5, u_7, u_8, u_10, u_11, u_15, u_60, u_100, u_255, u_999, u_1000, u_100000, u_4294967295] at hc61)
            refine g_aload_n (i := 0) dX8_edge_80 rfl rfl ?_
            refine g_iconst (v := 2) dX8_edge_81 (by decide) ?_
            refine g_callV (M' := mX8_found) dX8_edge_82 lc_X8_found ml_X8_127 (c_mfound (h := sF (sF h 44 0 (.int 0)) 44 1 (.int 0)) e1 2) rfl rfl (by repeat' (first | assumption | exact rF_eq | refine rF_ne (by decide) ?_ | refine rF_a ?_ | exact rA_eq | refine rA_ne (by decide) ?_ | refine rA_f ?_)) rfl ⟨Nat.le_of_ble_eq_true rfl, Nat.le_of_ble_eq_true rfl, Nat.le_of_ble_eq_true rfl, Nat.le_of_ble_eq_true rfl⟩ (Nat.le_of_ble_eq_true rfl) ?_
            intro r_ h_ q_; obtain ⟨q1_, q2_⟩ := q_; have q2_ := q2_.symm; subst q1_; subst q2_
            refine g_iret dX8_edge_85 rfl (rfl) (hQ _ _ ?_)
            have e := (en _).mpr ((if_neg (by omega)).trans (if_pos (by omega)))
            rw [e, sF_sF]; exact ⟨rfl, _, rfl⟩
          · (try simp (disch := omega) only [nT, t_m1000100, t_m1000010, t_m1000003, t_m1000002, t_m1000001, t_m1000000, t_m65535, t_m1000, t_m3, t_m1, t_0, t_1, t_2, t_3, t_4, t_5, t_6, t_7, t_8, t_9, t_10, t_11, t_12, t_13, t_15, t_16, t_20, t_21, t_22, t_32, t_40, t_41, t_48, t_49, t_57, t_59, t_60, t_63, t_72, t_76, t_88, t_100, t_144, t_200, t_255, t_288, t_400, t_800, t_999, t_1000, t_1024, t_1200, t_1600, t_3200, t_100000, t_200000, t_252645135, t_858993459, t_1431655765, u_m1000002, u_m1000001, u_m1000, u_m3, u_m1, u_0, u_1, u_2, u_3, u_4, u_5, u_7, u_8, u_10, u_11, u_15, u_60, u_100, u_255, u_999, u_1000, u_100000, u_4294967295] at hc61)
            refine g_iload_n (i := 2) dX8_edge_64 rfl rfl ?_
            refine g_i2l dX8_edge_65 ?_
            refine g_iload_n (i := 3) dX8_edge_66 rfl rfl ?_
            refine g_i2l dX8_edge_67 ?_
            refine g_ladd dX8_edge_68 ?_
            refine g_aload_n (i := 0) dX8_edge_69 rfl rfl ?_
            refine g_get dX8_edge_70 fl_X8_13 (by repeat' (first | assumption | exact rF_eq | refine rF_ne (by decide) ?_ | refine rF_a ?_ | exact rA_eq | refine rA_ne (by decide) ?_ | refine rA_f ?_)) (by repeat' (first | assumption | exact rF_eq | refine rF_ne (by decide) ?_ | refine rF_a ?_ | exact rA_eq | refine rA_ne (by decide) ?_ | refine rA_f ?_)) ?_
            refine g_iload_n (i := 1) dX8_edge_73 rfl rfl ?_
            refine g_iald dX8_edge_74 (by repeat' (first | assumption | exact rF_eq | refine rF_ne (by decide) ?_ | refine rF_a ?_ | exact rA_eq | refine rA_ne (by decide) ?_ | refine rA_f ?_)) (hta) (hA) ?_
            refine g_i2l dX8_edge_75 ?_
            refine g_lcmp dX8_edge_76 ?_
            refine g_if_le (tgt := 86) dX8_edge_77 (by decide) (fun hc77 => ?_) (fun hc77 => ?_)
            · replace hc77 := lc_le.mp hc77; (try simp only [l_add32, l_i] at hc77)
              (try simp (disch := omega) only [nT, t_m1000100, t_m1000010, t_m1000003, t_m1000002, t_m1000001, t_m1000000, t_m65535, t_m1000, t_m3, t_m1, t_0, t_1, t_2, t_3, t_4, t_5, t_6, t_7, t_8, t_9, t_10, t_11, t_12, t_13, t_15, t_16, t_20, t_21, t_22, t_32, t_40, t_41, t_48, t_49, t_57, t_59, t_60, t_63, t_72, t_76, t_88, t_100, t_144, t_200, t_255, t_288, t_400, t_800, t_999, t_1000, t_1024, t_1200, t_1600, t_3200, t_100000, t_200000, t_252645135, t_858993459, t_1431655765, u_m1000002, u_m1000001, u_m1000, u_m3, u_m1, u_0, u_1, u_2, u_3, u_4, u_5, u_7, u_8, u_10, u_11, u_15, u_60, u_100, u_255, u_999, u_1000, u_100000, u_4294967295] at hc77)
              have e := (en _).mpr ((if_neg (by omega)).trans (if_neg (by omega)))
              obtain ⟨I, hI, rfl, htI⟩ := n_of (n := 101) (x := i) (by omega) (by omega)
              obtain ⟨N, hN, rfl, htN⟩ := n_of (n := 61) (x := n) (by omega) (by omega)
              rw [nTN (by omega), nTN (by omega)] at e
              have hle : (I : Int) + N ≤ (so A).toInt := by omega
              have hb0 := bsr_in (fun q => io (100 * A + q)) N I (I + N) 0 (by omega)
              have hio : ∀ q, q < I + N → it (100 * A + q) = io (100 * A + q) := fun q hq => hE.2 A q hA (by dsimp only; omega)
              generalize hz : bsr (fun q => io (100 * A + q)) N I (I + N) 0 = z at e hb0
              have tl : ∀ m k : Nat, k + m = I + N → I ≤ k → ∀ b : Bool, (b && okB (fun q => io (100 * A + q)) z.1 k m) = okB (fun q => io (100 * A + q)) z.1 I N → GG (EM mX8_edge 2 0 0 Q') 0 0 153 [.ref 44, .int (nI A), .int (nI I), .int (nI N), .int a, .int (nI z.1), .int (nI z.1), .int (nI z.2), .int (bI (b = true)), .int (nI k)] [] (sF (sF h 44 0 (.int 0)) 44 1 (.int 0)) := by
                intro m
                induction m with
                | zero =>
                  intro k hk hIk b hb
                  obtain rfl : k = I + N := by omega
                  rw [show okB (fun q => io (100 * A + q)) z.1 (I + N) 0 = true from rfl, Bool.and_true] at hb
                  refine g_iload dX8_edge_153 rfl ?_
                  refine g_iload_n (i := 2) dX8_edge_155 rfl rfl ?_
                  refine g_iload_n (i := 3) dX8_edge_156 rfl rfl ?_
                  refine g_iadd dX8_edge_157 ?_
                  rw [ni_add]
                  refine g_icmp_ge (tgt := 214) dX8_edge_158 (by decide) (fun hc158 => ?_) (fun hc158 => ?_)
                  · (try simp (disch := omega) only [nT, t_m1000100, t_m1000010, t_m1000003, t_m1000002, t_m1000001, t_m1000000, t_m65535, t_m1000, t_m3, t_m1, t_0, t_1, t_2, t_3, t_4, t_5, t_6, t_7, t_8, t_9, t_10, t_11, t_12, t_13, t_15, t_16, t_20, t_21, t_22, t_32, t_40, t_41, t_48, t_49, t_57, t_59, t_60, t_63, t_72, t_76, t_88, t_100, t_144, t_200, t_255, t_288, t_400, t_800, t_999, t_1000, t_1024, t_1200, t_1600, t_3200, t_100000, t_200000, t_252645135, t_858993459, t_1431655765, u_m1000002, u_m1000001, u_m1000, u_m3, u_m1, u_0, u_1, u_2, u_3, u_4, u_5, u_7, u_8, u_10, u_11, u_15, u_60, u_100, u_255, u_999, u_1000, u_100000, u_4294967295] at hc158)
                    refine g_iload dX8_edge_214 rfl ?_
                    refine g_if_ne (tgt := 226) dX8_edge_216 (by decide) (fun hc216 => ?_) (fun hc216 => ?_)
                    · have hd216 := mt i_eq.mpr hc216; (try simp (disch := omega) only [nT, t_m1000100, t_m1000010, t_m1000003, t_m1000002, t_m1000001, t_m1000000, t_m65535, t_m1000, t_m3, t_m1, t_0, t_1, t_2, t_3, t_4, t_5, t_6, t_7, t_8, t_9, t_10, t_11, t_12, t_13, t_15, t_16, t_20, t_21, t_22, t_32, t_40, t_41, t_48, t_49, t_57, t_59, t_60, t_63, t_72, t_76, t_88, t_100, t_144, t_200, t_255, t_288, t_400, t_800, t_999, t_1000, t_1024, t_1200, t_1600, t_3200, t_100000, t_200000, t_252645135, t_858993459, t_1431655765, u_m1000002, u_m1000001, u_m1000, u_m3, u_m1, u_0, u_1, u_2, u_3, u_4, u_5, u_7, u_8, u_10, u_11, u_15, u_60, u_100, u_255, u_999, u_1000, u_100000, u_4294967295] at hd216)
                      refine g_iload dX8_edge_226 rfl ?_
                      refine g_iconst (v := 1) dX8_edge_228 (by decide) ?_
                      refine g_icmp_ne (tgt := 237) dX8_edge_229 (by decide) (fun hc229 => ?_) (fun hc229 => ?_)
                      · have hd229 := mt i_eq.mpr hc229; (try simp (disch := omega) only [nT, t_m1000100, t_m1000010, t_m1000003, t_m1000002, t_m1000001, t_m1000000, t_m65535, t_m1000, t_m3, t_m1, t_0, t_1, t_2, t_3, t_4, t_5, t_6, t_7, t_8, t_9, t_10, t_11, t_12, t_13, t_15, t_16, t_20, t_21, t_22, t_32, t_40, t_41, t_48, t_49, t_57, t_59, t_60, t_63, t_72, t_76, t_88, t_100, t_144, t_200, t_255, t_288, t_400, t_800, t_999, t_1000, t_1024, t_1200, t_1600, t_3200, t_100000, t_200000, t_252645135, t_858993459, t_1431655765, u_m1000002, u_m1000001, u_m1000, u_m3, u_m1, u_0, u_1, u_2, u_3, u_4, u_5, u_7, u_8, u_10, u_11, u_15, u_60, u_100, u_255, u_999, u_1000, u_100000, u_4294967295] at hd229)
                        refine g_iload dX8_edge_237 rfl ?_
                        refine g_if_eq (tgt := 246) dX8_edge_239 (by decide) (fun hc239 => ?_) (fun hc239 => ?_)
                        · have hd239 := i_eq.mp hc239; (try simp (disch := omega) only [nT, t_m1000100, t_m1000010, t_m1000003, t_m1000002, t_m1000001, t_m1000000, t_m65535, t_m1000, t_m3, t_m1, t_0, t_1, t_2, t_3, t_4, t_5, t_6, t_7, t_8, t_9, t_10, t_11, t_12, t_13, t_15, t_16, t_20, t_21, t_22, t_32, t_40, t_41, t_48, t_49, t_57, t_59, t_60, t_63, t_72, t_76, t_88, t_100, t_144, t_200, t_255, t_288, t_400, t_800, t_999, t_1000, t_1024, t_1200, t_1600, t_3200, t_100000, t_200000, t_252645135, t_858993459, t_1431655765, u_m1000002, u_m1000001, u_m1000, u_m3, u_m1, u_0, u_1, u_2, u_3, u_4, u_5, u_7, u_8, u_10, u_11, u_15, u_60, u_100, u_255, u_999, u_1000, u_100000, u_4294967295] at hd239)
                          refine g_iconst (v := 0) dX8_edge_246 (by decide) ?_
                          refine g_iret dX8_edge_247 rfl (rfl) (hQ _ _ ?_)
                          rw [e]
                          refine ⟨?_, _, rfl⟩
                          dsimp only
                          first
                          | rw [if_neg (by omega), if_neg (by omega), n_sub (by omega)]
                          | rw [if_neg (by omega), if_pos (by omega)]
                          | (rw [if_pos (by omega), ← hb]; first | rw [bI_t (bI_n0.mp hc239)] | rw [bI_f (bI_0.mp hc239)])
                        · have hd239 := mt i_eq.mpr hc239; (try simp (disch := omega) only [nT, t_m1000100, t_m1000010, t_m1000003, t_m1000002, t_m1000001, t_m1000000, t_m65535, t_m1000, t_m3, t_m1, t_0, t_1, t_2, t_3, t_4, t_5, t_6, t_7, t_8, t_9, t_10, t_11, t_12, t_13, t_15, t_16, t_20, t_21, t_22, t_32, t_40, t_41, t_48, t_49, t_57, t_59, t_60, t_63, t_72, t_76, t_88, t_100, t_144, t_200, t_255, t_288, t_400, t_800, t_999, t_1000, t_1024, t_1200, t_1600, t_3200, t_100000, t_200000, t_252645135, t_858993459, t_1431655765, u_m1000002, u_m1000001, u_m1000, u_m3, u_m1, u_0, u_1, u_2, u_3, u_4, u_5, u_7, u_8, u_10, u_11, u_15, u_60, u_100, u_255, u_999, u_1000, u_100000, u_4294967295] at hd239)
                          refine g_iconst (v := 1) dX8_edge_242 (by decide) ?_
                          refine g_goto (tgt := 247) dX8_edge_243 (by decide) ?_
                          refine g_iret dX8_edge_247 rfl (rfl) (hQ _ _ ?_)
                          rw [e]
                          refine ⟨?_, _, rfl⟩
                          dsimp only
                          first
                          | rw [if_neg (by omega), if_neg (by omega), n_sub (by omega)]
                          | rw [if_neg (by omega), if_pos (by omega)]
                          | (rw [if_pos (by omega), ← hb]; first | rw [bI_t (bI_n0.mp hc239)] | rw [bI_f (bI_0.mp hc239)])
                      · have hd229 := i_eq.mp hc229; (try simp (disch := omega) only [nT, t_m1000100, t_m1000010, t_m1000003, t_m1000002, t_m1000001, t_m1000000, t_m65535, t_m1000, t_m3, t_m1, t_0, t_1, t_2, t_3, t_4, t_5, t_6, t_7, t_8, t_9, t_10, t_11, t_12, t_13, t_15, t_16, t_20, t_21, t_22, t_32, t_40, t_41, t_48, t_49, t_57, t_59, t_60, t_63, t_72, t_76, t_88, t_100, t_144, t_200, t_255, t_288, t_400, t_800, t_999, t_1000, t_1024, t_1200, t_1600, t_3200, t_100000, t_200000, t_252645135, t_858993459, t_1431655765, u_m1000002, u_m1000001, u_m1000, u_m3, u_m1, u_0, u_1, u_2, u_3, u_4, u_5, u_7, u_8, u_10, u_11, u_15, u_60, u_100, u_255, u_999, u_1000, u_100000, u_4294967295] at hd229)
                        refine g_iload dX8_edge_232 rfl ?_
                        refine g_goto (tgt := 247) dX8_edge_234 (by decide) ?_
                        refine g_iret dX8_edge_247 rfl (rfl) (hQ _ _ ?_)
                        rw [e]
                        refine ⟨?_, _, rfl⟩
                        dsimp only
                        first
                        | rw [if_neg (by omega), if_neg (by omega), n_sub (by omega)]
                        | rw [if_neg (by omega), if_pos (by omega)]
                        | (rw [if_pos (by omega), ← hb]; first | rw [bI_t (bI_n0.mp hc239)] | rw [bI_f (bI_0.mp hc239)])
                    · have hd216 := i_eq.mp hc216; (try simp (disch := omega) only [nT, t_m1000100, t_m1000010, t_m1000003, t_m1000002, t_m1000001, t_m1000000, t_m65535, t_m1000, t_m3, t_m1, t_0, t_1, t_2, t_3, t_4, t_5, t_6, t_7, t_8, t_9, t_10, t_11, t_12, t_13, t_15, t_16, t_20, t_21, t_22, t_32, t_40, t_41, t_48, t_49, t_57, t_59, t_60, t_63, t_72, t_76, t_88, t_100, t_144, t_200, t_255, t_288, t_400, t_800, t_999, t_1000, t_1024, t_1200, t_1600, t_3200, t_100000, t_200000, t_252645135, t_858993459, t_1431655765, u_m1000002, u_m1000001, u_m1000, u_m3, u_m1, u_0, u_1, u_2, u_3, u_4, u_5, u_7, u_8, u_10, u_11, u_15, u_60, u_100, u_255, u_999, u_1000, u_100000, u_4294967295] at hd216)
                      refine g_iload dX8_edge_219 rfl ?_
                      refine g_iload_n (i := 2) dX8_edge_221 rfl rfl ?_
                      refine g_isub dX8_edge_222 ?_
                      refine g_goto (tgt := 247) dX8_edge_223 (by decide) ?_
                      refine g_iret dX8_edge_247 rfl (rfl) (hQ _ _ ?_)
                      rw [e]
                      refine ⟨?_, _, rfl⟩
                      dsimp only
                      first
                      | rw [if_neg (by omega), if_neg (by omega), n_sub (by omega)]
                      | rw [if_neg (by omega), if_pos (by omega)]
                      | (rw [if_pos (by omega), ← hb]; first | rw [bI_t (bI_n0.mp hc239)] | rw [bI_f (bI_0.mp hc239)])
                  · (try simp (disch := omega) only [nT, t_m1000100, t_m1000010, t_m1000003, t_m1000002, t_m1000001, t_m1000000, t_m65535, t_m1000, t_m3, t_m1, t_0, t_1, t_2, t_3, t_4, t_5, t_6, t_7, t_8, t_9, t_10, t_11, t_12, t_13, t_15, t_16, t_20, t_21, t_22, t_32, t_40, t_41, t_48, t_49, t_57, t_59, t_60, t_63, t_72, t_76, t_88, t_100, t_144, t_200, t_255, t_288, t_400, t_800, t_999, t_1000, t_1024, t_1200, t_1600, t_3200, t_100000, t_200000, t_252645135, t_858993459, t_1431655765, u_m1000002, u_m1000001, u_m1000, u_m3, u_m1, u_0, u_1, u_2, u_3, u_4, u_5, u_7, u_8, u_10, u_11, u_15, u_60, u_100, u_255, u_999, u_1000, u_100000, u_4294967295] at hc158); omega
                | succ m ih =>
                  intro k hk hIk b hb
                  rw [show okB (fun q => io (100 * A + q)) z.1 k (m + 1) = ((decide (¬ (io (100 * A + k)).toInt = 0) == decide (z.1 ≤ k)) && okB (fun q => io (100 * A + q)) z.1 (k + 1) m) from rfl, ← hio k (by omega)] at hb
                  have key2 : ∀ b' : Bool, (b' && okB (fun q => io (100 * A + q)) z.1 (k + 1) m) = okB (fun q => io (100 * A + q)) z.1 I N → ∀ x8 : Int32, x8 = bI (b' = true) → GG (EM mX8_edge 2 0 0 Q') 0 0 206 [.ref 44, .int (nI A), .int (nI I), .int (nI N), .int a, .int (nI z.1), .int (nI z.1), .int (nI z.2), .int (bI (b = true)), .int (nI k)] [.int x8] (sF (sF h 44 0 (.int 0)) 44 1 (.int 0)) := by
                    intro b' hb' x8 hx8
                    subst hx8
                    refine g_istore dX8_edge_206 (Nat.le_of_ble_eq_true rfl) rfl ?_
                    refine g_iinc dX8_edge_208 rfl (Nat.le_of_ble_eq_true rfl) rfl ?_
                    refine g_goto (tgt := 153) dX8_edge_211 (by decide) ?_
                    rw [ni_incO]; exact ih (k + 1) (by omega) (by omega) b' hb'
                  refine g_iload dX8_edge_153 rfl ?_
                  refine g_iload_n (i := 2) dX8_edge_155 rfl rfl ?_
                  refine g_iload_n (i := 3) dX8_edge_156 rfl rfl ?_
                  refine g_iadd dX8_edge_157 ?_
                  rw [ni_add]
                  refine g_icmp_ge (tgt := 214) dX8_edge_158 (by decide) (fun hc158 => ?_) (fun hc158 => ?_)
                  · (try simp (disch := omega) only [nT, t_m1000100, t_m1000010, t_m1000003, t_m1000002, t_m1000001, t_m1000000, t_m65535, t_m1000, t_m3, t_m1, t_0, t_1, t_2, t_3, t_4, t_5, t_6, t_7, t_8, t_9, t_10, t_11, t_12, t_13, t_15, t_16, t_20, t_21, t_22, t_32, t_40, t_41, t_48, t_49, t_57, t_59, t_60, t_63, t_72, t_76, t_88, t_100, t_144, t_200, t_255, t_288, t_400, t_800, t_999, t_1000, t_1024, t_1200, t_1600, t_3200, t_100000, t_200000, t_252645135, t_858993459, t_1431655765, u_m1000002, u_m1000001, u_m1000, u_m3, u_m1, u_0, u_1, u_2, u_3, u_4, u_5, u_7, u_8, u_10, u_11, u_15, u_60, u_100, u_255, u_999, u_1000, u_100000, u_4294967295] at hc158); omega
                  · (try simp (disch := omega) only [nT, t_m1000100, t_m1000010, t_m1000003, t_m1000002, t_m1000001, t_m1000000, t_m65535, t_m1000, t_m3, t_m1, t_0, t_1, t_2, t_3, t_4, t_5, t_6, t_7, t_8, t_9, t_10, t_11, t_12, t_13, t_15, t_16, t_20, t_21, t_22, t_32, t_40, t_41, t_48, t_49, t_57, t_59, t_60, t_63, t_72, t_76, t_88, t_100, t_144, t_200, t_255, t_288, t_400, t_800, t_999, t_1000, t_1024, t_1200, t_1600, t_3200, t_100000, t_200000, t_252645135, t_858993459, t_1431655765, u_m1000002, u_m1000001, u_m1000, u_m3, u_m1, u_0, u_1, u_2, u_3, u_4, u_5, u_7, u_8, u_10, u_11, u_15, u_60, u_100, u_255, u_999, u_1000, u_100000, u_4294967295] at hc158)
                    refine g_iload dX8_edge_161 rfl ?_
                    refine g_if_eq (tgt := 205) dX8_edge_163 (by decide) (fun hc163 => ?_) (fun hc163 => ?_)
                    · have hd163 := i_eq.mp hc163; (try simp (disch := omega) only [nT, t_m1000100, t_m1000010, t_m1000003, t_m1000002, t_m1000001, t_m1000000, t_m65535, t_m1000, t_m3, t_m1, t_0, t_1, t_2, t_3, t_4, t_5, t_6, t_7, t_8, t_9, t_10, t_11, t_12, t_13, t_15, t_16, t_20, t_21, t_22, t_32, t_40, t_41, t_48, t_49, t_57, t_59, t_60, t_63, t_72, t_76, t_88, t_100, t_144, t_200, t_255, t_288, t_400, t_800, t_999, t_1000, t_1024, t_1200, t_1600, t_3200, t_100000, t_200000, t_252645135, t_858993459, t_1431655765, u_m1000002, u_m1000001, u_m1000, u_m3, u_m1, u_0, u_1, u_2, u_3, u_4, u_5, u_7, u_8, u_10, u_11, u_15, u_60, u_100, u_255, u_999, u_1000, u_100000, u_4294967295] at hd163); replace hc163 := bI_0.mp hc163
                      rw [Bool.not_eq_true] at hc163
                      subst hc163
                      refine g_iconst (v := 0) dX8_edge_205 (by decide) ?_
                      exact key2 false (by rw [← hb]; rfl) _ rfl
                    · have hd163 := mt i_eq.mpr hc163; (try simp (disch := omega) only [nT, t_m1000100, t_m1000010, t_m1000003, t_m1000002, t_m1000001, t_m1000000, t_m65535, t_m1000, t_m3, t_m1, t_0, t_1, t_2, t_3, t_4, t_5, t_6, t_7, t_8, t_9, t_10, t_11, t_12, t_13, t_15, t_16, t_20, t_21, t_22, t_32, t_40, t_41, t_48, t_49, t_57, t_59, t_60, t_63, t_72, t_76, t_88, t_100, t_144, t_200, t_255, t_288, t_400, t_800, t_999, t_1000, t_1024, t_1200, t_1600, t_3200, t_100000, t_200000, t_252645135, t_858993459, t_1431655765, u_m1000002, u_m1000001, u_m1000, u_m3, u_m1, u_0, u_1, u_2, u_3, u_4, u_5, u_7, u_8, u_10, u_11, u_15, u_60, u_100, u_255, u_999, u_1000, u_100000, u_4294967295] at hd163)
                      replace hc163 := bI_n0.mp hc163
                      subst hc163
                      refine g_aload_n (i := 0) dX8_edge_166 rfl rfl ?_
                      refine g_get dX8_edge_167 fl_X8_16 (by repeat' (first | assumption | exact rF_eq | refine rF_ne (by decide) ?_ | refine rF_a ?_ | exact rA_eq | refine rA_ne (by decide) ?_ | refine rA_f ?_)) (by repeat' (first | assumption | exact rF_eq | refine rF_ne (by decide) ?_ | refine rF_a ?_ | exact rA_eq | refine rA_ne (by decide) ?_ | refine rA_f ?_)) ?_
                      refine g_bipush (v := 100) dX8_edge_170 (by decide) ?_
                      refine g_iload_n (i := 1) dX8_edge_172 rfl rfl ?_
                      refine g_imul dX8_edge_173 ?_
                      refine g_iload dX8_edge_174 rfl ?_
                      refine g_iadd dX8_edge_176 ?_
                      refine g_iald dX8_edge_177 (by repeat' (first | assumption | exact rF_eq | refine rF_ne (by decide) ?_ | refine rF_a ?_ | exact rA_eq | refine rA_ne (by decide) ?_ | refine rA_f ?_)) ((by rw [ixm]; exact nT (by omega))) (by omega) ?_
                      refine g_if_eq (tgt := 185) dX8_edge_178 (by decide) (fun hc178 => ?_) (fun hc178 => ?_)
                      · have hd178 := i_eq.mp hc178; (try simp (disch := omega) only [nT, t_m1000100, t_m1000010, t_m1000003, t_m1000002, t_m1000001, t_m1000000, t_m65535, t_m1000, t_m3, t_m1, t_0, t_1, t_2, t_3, t_4, t_5, t_6, t_7, t_8, t_9, t_10, t_11, t_12, t_13, t_15, t_16, t_20, t_21, t_22, t_32, t_40, t_41, t_48, t_49, t_57, t_59, t_60, t_63, t_72, t_76, t_88, t_100, t_144, t_200, t_255, t_288, t_400, t_800, t_999, t_1000, t_1024, t_1200, t_1600, t_3200, t_100000, t_200000, t_252645135, t_858993459, t_1431655765, u_m1000002, u_m1000001, u_m1000, u_m3, u_m1, u_0, u_1, u_2, u_3, u_4, u_5, u_7, u_8, u_10, u_11, u_15, u_60, u_100, u_255, u_999, u_1000, u_100000, u_4294967295] at hd178)
                        refine g_iconst (v := 0) dX8_edge_185 (by decide) ?_
                        refine g_iload dX8_edge_186 rfl ?_
                        refine g_iload dX8_edge_188 rfl ?_
                        refine g_icmp_lt (tgt := 197) dX8_edge_190 (by decide) (fun hc190 => ?_) (fun hc190 => ?_)
                        · (try simp (disch := omega) only [nT, t_m1000100, t_m1000010, t_m1000003, t_m1000002, t_m1000001, t_m1000000, t_m65535, t_m1000, t_m3, t_m1, t_0, t_1, t_2, t_3, t_4, t_5, t_6, t_7, t_8, t_9, t_10, t_11, t_12, t_13, t_15, t_16, t_20, t_21, t_22, t_32, t_40, t_41, t_48, t_49, t_57, t_59, t_60, t_63, t_72, t_76, t_88, t_100, t_144, t_200, t_255, t_288, t_400, t_800, t_999, t_1000, t_1024, t_1200, t_1600, t_3200, t_100000, t_200000, t_252645135, t_858993459, t_1431655765, u_m1000002, u_m1000001, u_m1000, u_m3, u_m1, u_0, u_1, u_2, u_3, u_4, u_5, u_7, u_8, u_10, u_11, u_15, u_60, u_100, u_255, u_999, u_1000, u_100000, u_4294967295] at hc190)
                          refine g_iconst (v := 0) dX8_edge_197 (by decide) ?_
                          refine g_icmp_ne (tgt := 205) dX8_edge_198 (by decide) (fun hc198 => ?_) (fun hc198 => ?_)
                          · have hd198 := mt i_eq.mpr hc198; (try simp (disch := omega) only [nT, t_m1000100, t_m1000010, t_m1000003, t_m1000002, t_m1000001, t_m1000000, t_m65535, t_m1000, t_m3, t_m1, t_0, t_1, t_2, t_3, t_4, t_5, t_6, t_7, t_8, t_9, t_10, t_11, t_12, t_13, t_15, t_16, t_20, t_21, t_22, t_32, t_40, t_41, t_48, t_49, t_57, t_59, t_60, t_63, t_72, t_76, t_88, t_100, t_144, t_200, t_255, t_288, t_400, t_800, t_999, t_1000, t_1024, t_1200, t_1600, t_3200, t_100000, t_200000, t_252645135, t_858993459, t_1431655765, u_m1000002, u_m1000001, u_m1000, u_m3, u_m1, u_0, u_1, u_2, u_3, u_4, u_5, u_7, u_8, u_10, u_11, u_15, u_60, u_100, u_255, u_999, u_1000, u_100000, u_4294967295] at hd198)
                            refine g_iconst (v := 0) dX8_edge_205 (by decide) ?_
                            first
                            | exact key2 true (by rw [← hb]; simp [hd178]; omega) _ rfl
                            | exact key2 false (by rw [← hb]; simp [hd178]; omega) _ rfl
                            | exact absurd hc198 (by decide)
                            | exact absurd rfl hc198
                          · have hd198 := i_eq.mp hc198; (try simp (disch := omega) only [nT, t_m1000100, t_m1000010, t_m1000003, t_m1000002, t_m1000001, t_m1000000, t_m65535, t_m1000, t_m3, t_m1, t_0, t_1, t_2, t_3, t_4, t_5, t_6, t_7, t_8, t_9, t_10, t_11, t_12, t_13, t_15, t_16, t_20, t_21, t_22, t_32, t_40, t_41, t_48, t_49, t_57, t_59, t_60, t_63, t_72, t_76, t_88, t_100, t_144, t_200, t_255, t_288, t_400, t_800, t_999, t_1000, t_1024, t_1200, t_1600, t_3200, t_100000, t_200000, t_252645135, t_858993459, t_1431655765, u_m1000002, u_m1000001, u_m1000, u_m3, u_m1, u_0, u_1, u_2, u_3, u_4, u_5, u_7, u_8, u_10, u_11, u_15, u_60, u_100, u_255, u_999, u_1000, u_100000, u_4294967295] at hd198)
                            refine g_iconst (v := 1) dX8_edge_201 (by decide) ?_
                            refine g_goto (tgt := 206) dX8_edge_202 (by decide) ?_
                            first
                            | exact key2 true (by rw [← hb]; simp [hd178]; omega) _ rfl
                            | exact key2 false (by rw [← hb]; simp [hd178]; omega) _ rfl
                            | exact absurd hc198 (by decide)
                            | exact absurd rfl hc198
                        · (try simp (disch := omega) only [nT, t_m1000100, t_m1000010, t_m1000003, t_m1000002, t_m1000001, t_m1000000, t_m65535, t_m1000, t_m3, t_m1, t_0, t_1, t_2, t_3, t_4, t_5, t_6, t_7, t_8, t_9, t_10, t_11, t_12, t_13, t_15, t_16, t_20, t_21, t_22, t_32, t_40, t_41, t_48, t_49, t_57, t_59, t_60, t_63, t_72, t_76, t_88, t_100, t_144, t_200, t_255, t_288, t_400, t_800, t_999, t_1000, t_1024, t_1200, t_1600, t_3200, t_100000, t_200000, t_252645135, t_858993459, t_1431655765, u_m1000002, u_m1000001, u_m1000, u_m3, u_m1, u_0, u_1, u_2, u_3, u_4, u_5, u_7, u_8, u_10, u_11, u_15, u_60, u_100, u_255, u_999, u_1000, u_100000, u_4294967295] at hc190)
                          refine g_iconst (v := 1) dX8_edge_193 (by decide) ?_
                          refine g_goto (tgt := 198) dX8_edge_194 (by decide) ?_
                          refine g_icmp_ne (tgt := 205) dX8_edge_198 (by decide) (fun hc198 => ?_) (fun hc198 => ?_)
                          · have hd198 := mt i_eq.mpr hc198; (try simp (disch := omega) only [nT, t_m1000100, t_m1000010, t_m1000003, t_m1000002, t_m1000001, t_m1000000, t_m65535, t_m1000, t_m3, t_m1, t_0, t_1, t_2, t_3, t_4, t_5, t_6, t_7, t_8, t_9, t_10, t_11, t_12, t_13, t_15, t_16, t_20, t_21, t_22, t_32, t_40, t_41, t_48, t_49, t_57, t_59, t_60, t_63, t_72, t_76, t_88, t_100, t_144, t_200, t_255, t_288, t_400, t_800, t_999, t_1000, t_1024, t_1200, t_1600, t_3200, t_100000, t_200000, t_252645135, t_858993459, t_1431655765, u_m1000002, u_m1000001, u_m1000, u_m3, u_m1, u_0, u_1, u_2, u_3, u_4, u_5, u_7, u_8, u_10, u_11, u_15, u_60, u_100, u_255, u_999, u_1000, u_100000, u_4294967295] at hd198)
                            refine g_iconst (v := 0) dX8_edge_205 (by decide) ?_
                            first
                            | exact key2 true (by rw [← hb]; simp [hd178]; omega) _ rfl
                            | exact key2 false (by rw [← hb]; simp [hd178]; omega) _ rfl
                            | exact absurd hc198 (by decide)
                            | exact absurd rfl hc198
                          · have hd198 := i_eq.mp hc198; (try simp (disch := omega) only [nT, t_m1000100, t_m1000010, t_m1000003, t_m1000002, t_m1000001, t_m1000000, t_m65535, t_m1000, t_m3, t_m1, t_0, t_1, t_2, t_3, t_4, t_5, t_6, t_7, t_8, t_9, t_10, t_11, t_12, t_13, t_15, t_16, t_20, t_21, t_22, t_32, t_40, t_41, t_48, t_49, t_57, t_59, t_60, t_63, t_72, t_76, t_88, t_100, t_144, t_200, t_255, t_288, t_400, t_800, t_999, t_1000, t_1024, t_1200, t_1600, t_3200, t_100000, t_200000, t_252645135, t_858993459, t_1431655765, u_m1000002, u_m1000001, u_m1000, u_m3, u_m1, u_0, u_1, u_2, u_3, u_4, u_5, u_7, u_8, u_10, u_11, u_15, u_60, u_100, u_255, u_999, u_1000, u_100000, u_4294967295] at hd198)
                            refine g_iconst (v := 1) dX8_edge_201 (by decide) ?_
                            refine g_goto (tgt := 206) dX8_edge_202 (by decide) ?_
                            first
                            | exact key2 true (by rw [← hb]; simp [hd178]; omega) _ rfl
                            | exact key2 false (by rw [← hb]; simp [hd178]; omega) _ rfl
                            | exact absurd hc198 (by decide)
                            | exact absurd rfl hc198
                      · have hd178 := mt i_eq.mpr hc178; (try simp (disch := omega) only [nT, t_m1000100, t_m1000010, t_m1000003, t_m1000002, t_m1000001, t_m1000000, t_m65535, t_m1000, t_m3, t_m1, t_0, t_1, t_2, t_3, t_4, t_5, t_6, t_7, t_8, t_9, t_10, t_11, t_12, t_13, t_15, t_16, t_20, t_21, t_22, t_32, t_40, t_41, t_48, t_49, t_57, t_59, t_60, t_63, t_72, t_76, t_88, t_100, t_144, t_200, t_255, t_288, t_400, t_800, t_999, t_1000, t_1024, t_1200, t_1600, t_3200, t_100000, t_200000, t_252645135, t_858993459, t_1431655765, u_m1000002, u_m1000001, u_m1000, u_m3, u_m1, u_0, u_1, u_2, u_3, u_4, u_5, u_7, u_8, u_10, u_11, u_15, u_60, u_100, u_255, u_999, u_1000, u_100000, u_4294967295] at hd178)
                        refine g_iconst (v := 1) dX8_edge_181 (by decide) ?_
                        refine g_goto (tgt := 186) dX8_edge_182 (by decide) ?_
                        refine g_iload dX8_edge_186 rfl ?_
                        refine g_iload dX8_edge_188 rfl ?_
                        refine g_icmp_lt (tgt := 197) dX8_edge_190 (by decide) (fun hc190 => ?_) (fun hc190 => ?_)
                        · (try simp (disch := omega) only [nT, t_m1000100, t_m1000010, t_m1000003, t_m1000002, t_m1000001, t_m1000000, t_m65535, t_m1000, t_m3, t_m1, t_0, t_1, t_2, t_3, t_4, t_5, t_6, t_7, t_8, t_9, t_10, t_11, t_12, t_13, t_15, t_16, t_20, t_21, t_22, t_32, t_40, t_41, t_48, t_49, t_57, t_59, t_60, t_63, t_72, t_76, t_88, t_100, t_144, t_200, t_255, t_288, t_400, t_800, t_999, t_1000, t_1024, t_1200, t_1600, t_3200, t_100000, t_200000, t_252645135, t_858993459, t_1431655765, u_m1000002, u_m1000001, u_m1000, u_m3, u_m1, u_0, u_1, u_2, u_3, u_4, u_5, u_7, u_8, u_10, u_11, u_15, u_60, u_100, u_255, u_999, u_1000, u_100000, u_4294967295] at hc190)
                          refine g_iconst (v := 0) dX8_edge_197 (by decide) ?_
                          refine g_icmp_ne (tgt := 205) dX8_edge_198 (by decide) (fun hc198 => ?_) (fun hc198 => ?_)
                          · have hd198 := mt i_eq.mpr hc198; (try simp (disch := omega) only [nT, t_m1000100, t_m1000010, t_m1000003, t_m1000002, t_m1000001, t_m1000000, t_m65535, t_m1000, t_m3, t_m1, t_0, t_1, t_2, t_3, t_4, t_5, t_6, t_7, t_8, t_9, t_10, t_11, t_12, t_13, t_15, t_16, t_20, t_21, t_22, t_32, t_40, t_41, t_48, t_49, t_57, t_59, t_60, t_63, t_72, t_76, t_88, t_100, t_144, t_200, t_255, t_288, t_400, t_800, t_999, t_1000, t_1024, t_1200, t_1600, t_3200, t_100000, t_200000, t_252645135, t_858993459, t_1431655765, u_m1000002, u_m1000001, u_m1000, u_m3, u_m1, u_0, u_1, u_2, u_3, u_4, u_5, u_7, u_8, u_10, u_11, u_15, u_60, u_100, u_255, u_999, u_1000, u_100000, u_4294967295] at hd198)
                            refine g_iconst (v := 0) dX8_edge_205 (by decide) ?_
                            first
                            | exact key2 true (by rw [← hb]; simp [hd178]; omega) _ rfl
                            | exact key2 false (by rw [← hb]; simp [hd178]; omega) _ rfl
                            | exact absurd hc198 (by decide)
                            | exact absurd rfl hc198
                          · have hd198 := i_eq.mp hc198; (try simp (disch := omega) only [nT, t_m1000100, t_m1000010, t_m1000003, t_m1000002, t_m1000001, t_m1000000, t_m65535, t_m1000, t_m3, t_m1, t_0, t_1, t_2, t_3, t_4, t_5, t_6, t_7, t_8, t_9, t_10, t_11, t_12, t_13, t_15, t_16, t_20, t_21, t_22, t_32, t_40, t_41, t_48, t_49, t_57, t_59, t_60, t_63, t_72, t_76, t_88, t_100, t_144, t_200, t_255, t_288, t_400, t_800, t_999, t_1000, t_1024, t_1200, t_1600, t_3200, t_100000, t_200000, t_252645135, t_858993459, t_1431655765, u_m1000002, u_m1000001, u_m1000, u_m3, u_m1, u_0, u_1, u_2, u_3, u_4, u_5, u_7, u_8, u_10, u_11, u_15, u_60, u_100, u_255, u_999, u_1000, u_100000, u_4294967295] at hd198)
                            refine g_iconst (v := 1) dX8_edge_201 (by decide) ?_
                            refine g_goto (tgt := 206) dX8_edge_202 (by decide) ?_
                            first
                            | exact key2 true (by rw [← hb]; simp [hd178]; omega) _ rfl
                            | exact key2 false (by rw [← hb]; simp [hd178]; omega) _ rfl
                            | exact absurd hc198 (by decide)
                            | exact absurd rfl hc198
                        · (try simp (disch := omega) only [nT, t_m1000100, t_m1000010, t_m1000003, t_m1000002, t_m1000001, t_m1000000, t_m65535, t_m1000, t_m3, t_m1, t_0, t_1, t_2, t_3, t_4, t_5, t_6, t_7, t_8, t_9, t_10, t_11, t_12, t_13, t_15, t_16, t_20, t_21, t_22, t_32, t_40, t_41, t_48, t_49, t_57, t_59, t_60, t_63, t_72, t_76, t_88, t_100, t_144, t_200, t_255, t_288, t_400, t_800, t_999, t_1000, t_1024, t_1200, t_1600, t_3200, t_100000, t_200000, t_252645135, t_858993459, t_1431655765, u_m1000002, u_m1000001, u_m1000, u_m3, u_m1, u_0, u_1, u_2, u_3, u_4, u_5, u_7, u_8, u_10, u_11, u_15, u_60, u_100, u_255, u_999, u_1000, u_100000, u_4294967295] at hc190)
                          refine g_iconst (v := 1) dX8_edge_193 (by decide) ?_
                          refine g_goto (tgt := 198) dX8_edge_194 (by decide) ?_
                          refine g_icmp_ne (tgt := 205) dX8_edge_198 (by decide) (fun hc198 => ?_) (fun hc198 => ?_)
                          · have hd198 := mt i_eq.mpr hc198; (try simp (disch := omega) only [nT, t_m1000100, t_m1000010, t_m1000003, t_m1000002, t_m1000001, t_m1000000, t_m65535, t_m1000, t_m3, t_m1, t_0, t_1, t_2, t_3, t_4, t_5, t_6, t_7, t_8, t_9, t_10, t_11, t_12, t_13, t_15, t_16, t_20, t_21, t_22, t_32, t_40, t_41, t_48, t_49, t_57, t_59, t_60, t_63, t_72, t_76, t_88, t_100, t_144, t_200, t_255, t_288, t_400, t_800, t_999, t_1000, t_1024, t_1200, t_1600, t_3200, t_100000, t_200000, t_252645135, t_858993459, t_1431655765, u_m1000002, u_m1000001, u_m1000, u_m3, u_m1, u_0, u_1, u_2, u_3, u_4, u_5, u_7, u_8, u_10, u_11, u_15, u_60, u_100, u_255, u_999, u_1000, u_100000, u_4294967295] at hd198)
                            refine g_iconst (v := 0) dX8_edge_205 (by decide) ?_
                            first
                            | exact key2 true (by rw [← hb]; simp [hd178]; omega) _ rfl
                            | exact key2 false (by rw [← hb]; simp [hd178]; omega) _ rfl
                            | exact absurd hc198 (by decide)
                            | exact absurd rfl hc198
                          · have hd198 := i_eq.mp hc198; (try simp (disch := omega) only [nT, t_m1000100, t_m1000010, t_m1000003, t_m1000002, t_m1000001, t_m1000000, t_m65535, t_m1000, t_m3, t_m1, t_0, t_1, t_2, t_3, t_4, t_5, t_6, t_7, t_8, t_9, t_10, t_11, t_12, t_13, t_15, t_16, t_20, t_21, t_22, t_32, t_40, t_41, t_48, t_49, t_57, t_59, t_60, t_63, t_72, t_76, t_88, t_100, t_144, t_200, t_255, t_288, t_400, t_800, t_999, t_1000, t_1024, t_1200, t_1600, t_3200, t_100000, t_200000, t_252645135, t_858993459, t_1431655765, u_m1000002, u_m1000001, u_m1000, u_m3, u_m1, u_0, u_1, u_2, u_3, u_4, u_5, u_7, u_8, u_10, u_11, u_15, u_60, u_100, u_255, u_999, u_1000, u_100000, u_4294967295] at hd198)
                            refine g_iconst (v := 1) dX8_edge_201 (by decide) ?_
                            refine g_goto (tgt := 206) dX8_edge_202 (by decide) ?_
                            first
                            | exact key2 true (by rw [← hb]; simp [hd178]; omega) _ rfl
                            | exact key2 false (by rw [← hb]; simp [hd178]; omega) _ rfl
                            | exact absurd hc198 (by decide)
                            | exact absurd rfl hc198
              have fin2 : ∀ x8 : Value, GG (EM mX8_edge 2 0 0 Q') 0 0 147 [.ref 44, .int (nI A), .int (nI I), .int (nI N), .int a, .int (nI z.1), .int (nI z.1), .int (nI z.2), x8, hU] [] (sF (sF h 44 0 (.int 0)) 44 1 (.int 0)) := by
                intro x8
                refine g_iconst (v := 1) dX8_edge_147 (by decide) ?_
                refine g_istore dX8_edge_148 (Nat.le_of_ble_eq_true rfl) rfl ?_
                refine g_iload_n (i := 2) dX8_edge_150 rfl rfl ?_
                refine g_istore dX8_edge_151 (Nat.le_of_ble_eq_true rfl) rfl ?_
                exact tl N I rfl (Nat.le_refl _) true (by rw [Bool.true_and])
              have key : ∀ m lo up k : Nat, up - lo ≤ m → lo ≤ up → up ≤ I + N → k + m ≤ 100 → bsr (fun q => io (100 * A + q)) m lo up k = z → ∀ x8 : Value, GG (EM mX8_edge 2 0 0 Q') 0 0 97 [.ref 44, .int (nI A), .int (nI I), .int (nI N), .int a, .int (nI lo), .int (nI up), .int (nI k), x8, hU] [] (sF (sF h 44 0 (.int 0)) 44 1 (.int 0)) := by
                intro m
                induction m with
                | zero =>
                  intro lo up k h5 h6 h7 h8 hb x8
                  obtain rfl : lo = up := by omega
                  have hz2 : z = (lo, k) := hb.symm
                  subst hz2
                  refine g_iload dX8_edge_97 rfl ?_
                  refine g_iload dX8_edge_99 rfl ?_
                  refine g_icmp_eq (tgt := 147) dX8_edge_101 (by decide) (fun hc101 => ?_) (fun hc101 => ?_)
                  · have hd101 := i_eq.mp hc101; (try simp (disch := omega) only [nT, t_m1000100, t_m1000010, t_m1000003, t_m1000002, t_m1000001, t_m1000000, t_m65535, t_m1000, t_m3, t_m1, t_0, t_1, t_2, t_3, t_4, t_5, t_6, t_7, t_8, t_9, t_10, t_11, t_12, t_13, t_15, t_16, t_20, t_21, t_22, t_32, t_40, t_41, t_48, t_49, t_57, t_59, t_60, t_63, t_72, t_76, t_88, t_100, t_144, t_200, t_255, t_288, t_400, t_800, t_999, t_1000, t_1024, t_1200, t_1600, t_3200, t_100000, t_200000, t_252645135, t_858993459, t_1431655765, u_m1000002, u_m1000001, u_m1000, u_m3, u_m1, u_0, u_1, u_2, u_3, u_4, u_5, u_7, u_8, u_10, u_11, u_15, u_60, u_100, u_255, u_999, u_1000, u_100000, u_4294967295] at hd101)
                    exact fin2 x8
                  · have hd101 := mt i_eq.mpr hc101; (try simp (disch := omega) only [nT, t_m1000100, t_m1000010, t_m1000003, t_m1000002, t_m1000001, t_m1000000, t_m65535, t_m1000, t_m3, t_m1, t_0, t_1, t_2, t_3, t_4, t_5, t_6, t_7, t_8, t_9, t_10, t_11, t_12, t_13, t_15, t_16, t_20, t_21, t_22, t_32, t_40, t_41, t_48, t_49, t_57, t_59, t_60, t_63, t_72, t_76, t_88, t_100, t_144, t_200, t_255, t_288, t_400, t_800, t_999, t_1000, t_1024, t_1200, t_1600, t_3200, t_100000, t_200000, t_252645135, t_858993459, t_1431655765, u_m1000002, u_m1000001, u_m1000, u_m3, u_m1, u_0, u_1, u_2, u_3, u_4, u_5, u_7, u_8, u_10, u_11, u_15, u_60, u_100, u_255, u_999, u_1000, u_100000, u_4294967295] at hd101); exact absurd rfl hc101
                | succ m ih =>
                  intro lo up k h5 h6 h7 h8 hb x8
                  unfold bsr at hb
                  refine g_iload dX8_edge_97 rfl ?_
                  refine g_iload dX8_edge_99 rfl ?_
                  refine g_icmp_eq (tgt := 147) dX8_edge_101 (by decide) (fun hc101 => ?_) (fun hc101 => ?_)
                  · have hd101 := i_eq.mp hc101; (try simp (disch := omega) only [nT, t_m1000100, t_m1000010, t_m1000003, t_m1000002, t_m1000001, t_m1000000, t_m65535, t_m1000, t_m3, t_m1, t_0, t_1, t_2, t_3, t_4, t_5, t_6, t_7, t_8, t_9, t_10, t_11, t_12, t_13, t_15, t_16, t_20, t_21, t_22, t_32, t_40, t_41, t_48, t_49, t_57, t_59, t_60, t_63, t_72, t_76, t_88, t_100, t_144, t_200, t_255, t_288, t_400, t_800, t_999, t_1000, t_1024, t_1200, t_1600, t_3200, t_100000, t_200000, t_252645135, t_858993459, t_1431655765, u_m1000002, u_m1000001, u_m1000, u_m3, u_m1, u_0, u_1, u_2, u_3, u_4, u_5, u_7, u_8, u_10, u_11, u_15, u_60, u_100, u_255, u_999, u_1000, u_100000, u_4294967295] at hd101)
                    obtain rfl : lo = up := by omega
                    rw [if_neg (by omega)] at hb
                    subst hb
                    exact fin2 x8
                  · have hd101 := mt i_eq.mpr hc101; (try simp (disch := omega) only [nT, t_m1000100, t_m1000010, t_m1000003, t_m1000002, t_m1000001, t_m1000000, t_m65535, t_m1000, t_m3, t_m1, t_0, t_1, t_2, t_3, t_4, t_5, t_6, t_7, t_8, t_9, t_10, t_11, t_12, t_13, t_15, t_16, t_20, t_21, t_22, t_32, t_40, t_41, t_48, t_49, t_57, t_59, t_60, t_63, t_72, t_76, t_88, t_100, t_144, t_200, t_255, t_288, t_400, t_800, t_999, t_1000, t_1024, t_1200, t_1600, t_3200, t_100000, t_200000, t_252645135, t_858993459, t_1431655765, u_m1000002, u_m1000001, u_m1000, u_m3, u_m1, u_0, u_1, u_2, u_3, u_4, u_5, u_7, u_8, u_10, u_11, u_15, u_60, u_100, u_255, u_999, u_1000, u_100000, u_4294967295] at hd101)
                    have hlt : lo < up := by omega
                    rw [if_pos hlt] at hb
                    refine g_iload dX8_edge_104 rfl ?_
                    refine g_iload dX8_edge_106 rfl ?_
                    refine g_iadd dX8_edge_108 ?_
                    refine g_iconst (v := 2) dX8_edge_109 (by decide) ?_
                    refine g_idiv dX8_edge_110 (by decide) ?_
                    rw [mid2 (by omega) (by omega)]
                    refine g_istore dX8_edge_111 (Nat.le_of_ble_eq_true rfl) rfl ?_
                    refine g_iinc dX8_edge_113 rfl (Nat.le_of_ble_eq_true rfl) rfl ?_
                    refine g_aload_n (i := 0) dX8_edge_116 rfl rfl ?_
                    refine g_get dX8_edge_117 fl_X8_16 (by repeat' (first | assumption | exact rF_eq | refine rF_ne (by decide) ?_ | refine rF_a ?_ | exact rA_eq | refine rA_ne (by decide) ?_ | refine rA_f ?_)) (by repeat' (first | assumption | exact rF_eq | refine rF_ne (by decide) ?_ | refine rF_a ?_ | exact rA_eq | refine rA_ne (by decide) ?_ | refine rA_f ?_)) ?_
                    refine g_bipush (v := 100) dX8_edge_120 (by decide) ?_
                    refine g_iload_n (i := 1) dX8_edge_122 rfl rfl ?_
                    refine g_imul dX8_edge_123 ?_
                    refine g_iload dX8_edge_124 rfl ?_
                    refine g_iadd dX8_edge_126 ?_
                    refine g_iald dX8_edge_127 (by repeat' (first | assumption | exact rF_eq | refine rF_ne (by decide) ?_ | refine rF_a ?_ | exact rA_eq | refine rA_ne (by decide) ?_ | refine rA_f ?_)) ((by rw [ixm]; exact nT (by omega))) (by omega) ?_
                    rw [hio _ (by omega)]
                    refine g_if_eq (tgt := 138) dX8_edge_128 (by decide) (fun hc128 => ?_) (fun hc128 => ?_)
                    · have hd128 := i_eq.mp hc128; (try simp (disch := omega) only [nT, t_m1000100, t_m1000010, t_m1000003, t_m1000002, t_m1000001, t_m1000000, t_m65535, t_m1000, t_m3, t_m1, t_0, t_1, t_2, t_3, t_4, t_5, t_6, t_7, t_8, t_9, t_10, t_11, t_12, t_13, t_15, t_16, t_20, t_21, t_22, t_32, t_40, t_41, t_48, t_49, t_57, t_59, t_60, t_63, t_72, t_76, t_88, t_100, t_144, t_200, t_255, t_288, t_400, t_800, t_999, t_1000, t_1024, t_1200, t_1600, t_3200, t_100000, t_200000, t_252645135, t_858993459, t_1431655765, u_m1000002, u_m1000001, u_m1000, u_m3, u_m1, u_0, u_1, u_2, u_3, u_4, u_5, u_7, u_8, u_10, u_11, u_15, u_60, u_100, u_255, u_999, u_1000, u_100000, u_4294967295] at hd128)
                      refine g_iload dX8_edge_138 rfl ?_
                      refine g_iconst (v := 1) dX8_edge_140 (by decide) ?_
                      refine g_iadd dX8_edge_141 ?_
                      refine g_istore dX8_edge_142 (Nat.le_of_ble_eq_true rfl) rfl ?_
                      refine g_goto (tgt := 97) dX8_edge_144 (by decide) ?_
                      try rw [ni_inc]
                      rw [ni_incO]
                      first
                      | (rw [if_pos hd128] at hb; exact ih _ _ _ (by omega) (by omega) (by omega) (by omega) hb _)
                      | (rw [if_neg hd128] at hb; exact ih _ _ _ (by omega) (by omega) (by omega) (by omega) hb _)
                    · have hd128 := mt i_eq.mpr hc128; (try simp (disch := omega) only [nT, t_m1000100, t_m1000010, t_m1000003, t_m1000002, t_m1000001, t_m1000000, t_m65535, t_m1000, t_m3, t_m1, t_0, t_1, t_2, t_3, t_4, t_5, t_6, t_7, t_8, t_9, t_10, t_11, t_12, t_13, t_15, t_16, t_20, t_21, t_22, t_32, t_40, t_41, t_48, t_49, t_57, t_59, t_60, t_63, t_72, t_76, t_88, t_100, t_144, t_200, t_255, t_288, t_400, t_800, t_999, t_1000, t_1024, t_1200, t_1600, t_3200, t_100000, t_200000, t_252645135, t_858993459, t_1431655765, u_m1000002, u_m1000001, u_m1000, u_m3, u_m1, u_0, u_1, u_2, u_3, u_4, u_5, u_7, u_8, u_10, u_11, u_15, u_60, u_100, u_255, u_999, u_1000, u_100000, u_4294967295] at hd128)
                      refine g_iload dX8_edge_131 rfl ?_
                      refine g_istore dX8_edge_133 (Nat.le_of_ble_eq_true rfl) rfl ?_
                      refine g_goto (tgt := 144) dX8_edge_135 (by decide) ?_
                      refine g_goto (tgt := 97) dX8_edge_144 (by decide) ?_
                      try rw [ni_inc]
                      rw [ni_incO]
                      first
                      | (rw [if_pos hd128] at hb; exact ih _ _ _ (by omega) (by omega) (by omega) (by omega) hb _)
                      | (rw [if_neg hd128] at hb; exact ih _ _ _ (by omega) (by omega) (by omega) (by omega) hb _)
              refine g_iload_n (i := 2) dX8_edge_86 rfl rfl ?_
              refine g_istore dX8_edge_87 (Nat.le_of_ble_eq_true rfl) rfl ?_
              refine g_iload_n (i := 2) dX8_edge_89 rfl rfl ?_
              refine g_iload_n (i := 3) dX8_edge_90 rfl rfl ?_
              refine g_iadd dX8_edge_91 ?_
              refine g_istore dX8_edge_92 (Nat.le_of_ble_eq_true rfl) rfl ?_
              refine g_iconst (v := 0) dX8_edge_94 (by decide) ?_
              refine g_istore dX8_edge_95 (Nat.le_of_ble_eq_true rfl) rfl ?_
              rw [ni_add]
              exact key N I (I + N) 0 (by omega) (by omega) (by omega) (by omega) hz hU
            · replace hc77 := lc_gt.mp hc77; (try simp only [l_add32, l_i] at hc77)
              (try simp (disch := omega) only [nT, t_m1000100, t_m1000010, t_m1000003, t_m1000002, t_m1000001, t_m1000000, t_m65535, t_m1000, t_m3, t_m1, t_0, t_1, t_2, t_3, t_4, t_5, t_6, t_7, t_8, t_9, t_10, t_11, t_12, t_13, t_15, t_16, t_20, t_21, t_22, t_32, t_40, t_41, t_48, t_49, t_57, t_59, t_60, t_63, t_72, t_76, t_88, t_100, t_144, t_200, t_255, t_288, t_400, t_800, t_999, t_1000, t_1024, t_1200, t_1600, t_3200, t_100000, t_200000, t_252645135, t_858993459, t_1431655765, u_m1000002, u_m1000001, u_m1000, u_m3, u_m1, u_0, u_1, u_2, u_3, u_4, u_5, u_7, u_8, u_10, u_11, u_15, u_60, u_100, u_255, u_999, u_1000, u_100000, u_4294967295] at hc77)
              refine g_aload_n (i := 0) dX8_edge_80 rfl rfl ?_
              refine g_iconst (v := 2) dX8_edge_81 (by decide) ?_
              refine g_callV (M' := mX8_found) dX8_edge_82 lc_X8_found ml_X8_127 (c_mfound (h := sF (sF h 44 0 (.int 0)) 44 1 (.int 0)) e1 2) rfl rfl (by repeat' (first | assumption | exact rF_eq | refine rF_ne (by decide) ?_ | refine rF_a ?_ | exact rA_eq | refine rA_ne (by decide) ?_ | refine rA_f ?_)) rfl ⟨Nat.le_of_ble_eq_true rfl, Nat.le_of_ble_eq_true rfl, Nat.le_of_ble_eq_true rfl, Nat.le_of_ble_eq_true rfl⟩ (Nat.le_of_ble_eq_true rfl) ?_
              intro r_ h_ q_; obtain ⟨q1_, q2_⟩ := q_; have q2_ := q2_.symm; subst q1_; subst q2_
              refine g_iret dX8_edge_85 rfl (rfl) (hQ _ _ ?_)
              have e := (en _).mpr ((if_neg (by omega)).trans (if_pos (by omega)))
              rw [e, sF_sF]; exact ⟨rfl, _, rfl⟩
        · (try simp (disch := omega) only [nT, t_m1000100, t_m1000010, t_m1000003, t_m1000002, t_m1000001, t_m1000000, t_m65535, t_m1000, t_m3, t_m1, t_0, t_1, t_2, t_3, t_4, t_5, t_6, t_7, t_8, t_9, t_10, t_11, t_12, t_13, t_15, t_16, t_20, t_21, t_22, t_32, t_40, t_41, t_48, t_49, t_57, t_59, t_60, t_63, t_72, t_76, t_88, t_100, t_144, t_200, t_255, t_288, t_400, t_800, t_999, t_1000, t_1024, t_1200, t_1600, t_3200, t_100000, t_200000, t_252645135, t_858993459, t_1431655765, u_m1000002, u_m1000001, u_m1000, u_m3, u_m1, u_0, u_1, u_2, u_3, u_4, u_5, u_7, u_8, u_10, u_11, u_15, u_60, u_100, u_255, u_999, u_1000, u_100000, u_4294967295] at hc51)
          refine g_aload_n (i := 0) dX8_edge_54 rfl rfl ?_
          refine g_iconst (v := 1) dX8_edge_55 (by decide) ?_
          refine g_callV (M' := mX8_found) dX8_edge_56 lc_X8_found ml_X8_127 (c_mfound (h := sF (sF h 44 0 (.int 0)) 44 1 (.int 0)) e1 1) rfl rfl (by repeat' (first | assumption | exact rF_eq | refine rF_ne (by decide) ?_ | refine rF_a ?_ | exact rA_eq | refine rA_ne (by decide) ?_ | refine rA_f ?_)) rfl ⟨Nat.le_of_ble_eq_true rfl, Nat.le_of_ble_eq_true rfl, Nat.le_of_ble_eq_true rfl, Nat.le_of_ble_eq_true rfl⟩ (Nat.le_of_ble_eq_true rfl) ?_
          intro r_ h_ q_; obtain ⟨q1_, q2_⟩ := q_; have q2_ := q2_.symm; subst q1_; subst q2_
          refine g_iret dX8_edge_59 rfl (rfl) (hQ _ _ ?_)
          have e := (en _).mpr (if_pos (by omega))
          rw [e, sF_sF]; exact ⟨rfl, _, rfl⟩
      · replace hc34 := bI_0.mp hc34
        (try simp (disch := omega) only [nT, t_m1000100, t_m1000010, t_m1000003, t_m1000002, t_m1000001, t_m1000000, t_m65535, t_m1000, t_m3, t_m1, t_0, t_1, t_2, t_3, t_4, t_5, t_6, t_7, t_8, t_9, t_10, t_11, t_12, t_13, t_15, t_16, t_20, t_21, t_22, t_32, t_40, t_41, t_48, t_49, t_57, t_59, t_60, t_63, t_72, t_76, t_88, t_100, t_144, t_200, t_255, t_288, t_400, t_800, t_999, t_1000, t_1024, t_1200, t_1600, t_3200, t_100000, t_200000, t_252645135, t_858993459, t_1431655765, u_m1000002, u_m1000001, u_m1000, u_m3, u_m1, u_0, u_1, u_2, u_3, u_4, u_5, u_7, u_8, u_10, u_11, u_15, u_60, u_100, u_255, u_999, u_1000, u_100000, u_4294967295] at hc34)
        refine g_ldc dX8_edge_37 kc_X8_126 ?_
        refine g_iret dX8_edge_39 rfl (rfl) (hQ _ _ ?_)
        have e : opEdge (st, lo0, so, io) s i n a = _ := if_pos (by omega)
        rw [e]; exact ⟨rfl, _, (sF_self (show gF (sF h 44 0 (.int 0)) 44 1 = .int st from h2)).symm⟩
