/-! order: the scan's result, the class's loop -/
def isN (n : Nat) (tt ss : Nat → Nat) (p : Nat → Bool) (mat : Bool) (j : Nat) : Prop := j < n ∧ p j = true ∧ (mat = true → bes n tt ss p j) ∧ ∀ u, u < j → p u = true → ¬ (mat = true → bes n tt ss p u)
theorem scn2_p {tt ss : Nat → Nat} (h0 : ∀ t, 0 < tt t) {p : Nat → Bool} {mat : Bool} : ∀ m k b, (b = none → ∀ u, u < k → ¬ p u = true) → (∀ j, b = some j → isN k tt ss p mat j) → (scn2 tt ss p mat m k b = none → ∀ u, u < k + m → ¬ p u = true) ∧ ∀ j, scn2 tt ss p mat m k b = some j → isN (k + m) tt ss p mat j
  | 0, k, b, h1, h2 => ⟨h1, h2⟩
  | m + 1, k, b, h1, h2 => by
    unfold scn2
    rw [show k + (m + 1) = k + 1 + m by omega]
    by_cases hp : p k = true
    · rcases b with _ | j
      · rw [if_pos ⟨hp, rfl⟩]
        have h3 := h1 rfl
        refine scn2_p h0 m (k + 1) (some k) (fun q => by cases q) (fun j hj => ?_)
        cases hj
        refine ⟨by omega, hp, fun _ u hu hpu => ?_, fun u hu hpu => absurd hpu (h3 u hu)⟩
        by_cases q : u = k
        · rw [q]; exact Nat.le_refl _
        · exact absurd hpu (h3 u (by omega))
      · obtain ⟨i1, i2, i3, i4⟩ := h2 j rfl
        by_cases ht : tkO tt ss mat k (some j) = true
        · rw [if_pos ⟨hp, ht⟩]
          obtain ⟨hm, hlt⟩ := tkO_s.mp ht
          have hbj := i3 hm
          refine scn2_p h0 m (k + 1) (some k) (fun q => by cases q) (fun j' hj => ?_)
          cases hj
          refine ⟨by omega, hp, fun _ u hu hpu => ?_, fun u hu hpu hb => ?_⟩
          · by_cases q : u = k
            · rw [q]; exact Nat.le_refl _
            · exact bes_tr (h0 j) (Nat.le_of_lt hlt) (hbj u (by omega) hpu)
          · have h3 := hb hm k (by omega) hp
            have h4 := bes_tr (h0 u) (hbj u (by omega) hpu) h3
            omega
        · rw [if_neg (fun q => ht q.2)]
          refine scn2_p h0 m (k + 1) (some j) (fun q => by cases q) (fun j' hj => ?_)
          cases hj
          refine ⟨by omega, i2, fun hm u hu hpu => ?_, fun u hu hpu hb => i4 u hu hpu (fun hm x hx hpx => hb hm x (by omega) hpx)⟩
          by_cases q : u = k
          · subst q
            exact Nat.le_of_not_lt (fun z => ht (tkO_s.mpr ⟨hm, z⟩))
          · exact i3 hm u (by omega) hpu
    · rw [if_neg (fun q => hp q.1)]
      refine scn2_p h0 m (k + 1) b (fun hb u hu => ?_) (fun j hj => ?_)
      · by_cases q : u = k
        · rw [q]; exact hp
        · exact h1 hb u (by omega)
      · obtain ⟨i1, i2, i3, i4⟩ := h2 j hj
        refine ⟨by omega, i2, fun hm u hu hpu => ?_, fun u hu hpu hb => i4 u hu hpu (fun hm x hx hpx => hb hm x (by omega) hpx)⟩
        have q : ¬ u = k := fun z => hp (z ▸ hpu)
        exact i3 hm u (by omega) hpu
theorem isN_u {n : Nat} {tt ss : Nat → Nat} {p : Nat → Bool} {mat : Bool} {i j : Nat} (hi : isN n tt ss p mat i) (hj : isN n tt ss p mat j) : i = j := by
  rcases Nat.lt_trichotomy i j with q | q | q
  · exact absurd hi.2.2.1 (hj.2.2.2 i q hi.2.1)
  · exact q
  · exact absurd hj.2.2.1 (hi.2.2.2 j q hj.2.1)
/-- the FLOW that comes out -/
def gfl (n : Nat) (tt ss : Nat → Nat) : Nat → Nat → (Nat → Bool) → Bool → (Nat → Int32) → (Nat → Int32)
  | 0, _, _, _, f => f
  | m + 1, k, p, mat, f => match scn2 tt ss p mat n 0 none with
    | none => f
    | some t => gfl n tt ss m (k + 1) (dlt p t) (mat && decide (ss t < 10)) (upd f k (nI t))
abbrev TF (T : TS) (f : Nat → Int32) : TS := (T.1, T.2.1, T.2.2.1, T.2.2.2.1, T.2.2.2.2.1, T.2.2.2.2.2.1, f)
def opOrd (T : TS) : TS := TF T (gfl T.1 (ttO T) (ssO T) T.1 0 (fun t => decide (t < T.1)) true T.2.2.2.2.2.2)
theorem scn2_some {n : Nat} {tt ss : Nat → Nat} (h0 : ∀ t, 0 < tt t) {p : Nat → Bool} {mat : Bool} (hc : 0 < cnt p n 0) : ∃ j, scn2 tt ss p mat n 0 none = some j ∧ isN n tt ss p mat j := by
  have h := scn2_p (ss := ss) h0 (p := p) (mat := mat) n 0 none (fun _ u hu => by omega) (fun j hj => by cases hj)
  rw [Nat.zero_add] at h
  rcases hs : scn2 tt ss p mat n 0 none with _ | j
  · obtain ⟨t, h1, h2, h3⟩ := cnt_pos n 0 hc
    exact absurd h3 (h.1 hs t (by omega))
  · exact ⟨j, rfl, h.2 j hs⟩
theorem cnt_all : ∀ n k, cnt (fun t => decide (t < k + n)) n k = n
  | 0, k => rfl
  | n + 1, k => by
    rw [cnt_t (by simp), show k + (n + 1) = k + 1 + n by omega, cnt_all n (k + 1)]
    omega
theorem c_takeBestOrder {T : TS} (hT : WfT T) {h : HH} (hs : TX' h T) : CT mX5_takeBestOrder 2 0 0 [.ref 27] h (fun r h' => r = none ∧ h' = sA h 33 (aI 10 (opOrd T).2.2.2.2.2.2)) := by
  obtain ⟨e1, e2, e3, e4, e5, e6, e7, e8, e9, e10, e11, e12, e13, e14⟩ := id hs
  have hT1 := hT.1
  have hp := fun t => ttO_p hT t
  refine CT.go [.ref 27, hU, hU, hU, hU] (by decide +kernel) rfl rfl (fun Q' hQ => ?_)
  generalize hz : (opOrd T).2.2.2.2.2.2 = z at hQ
  have key : ∀ m k S mat f (v4 : Value), k + m = T.1 → S < 1024 → cnt S.testBit T.1 0 = m → gfl T.1 (ttO T) (ssO T) m k S.testBit mat f = z → GG (EM mX5_takeBestOrder 2 0 0 Q') 0 0 13 [.ref 27, .int (bI (mat = true)), .int (nI S), .int (nI k), v4] [] (sA h 33 (aI 10 f)) := by
    intro m
    induction m with
    | zero =>
      intro k S mat f v4 hk hS hc he
      obtain rfl : f = z := he
      refine g_iload_n (i := 3) dX5_takeBestOrder_13 rfl rfl ?_
      refine g_aload_n (i := 0) dX5_takeBestOrder_14 rfl rfl ?_
      refine g_get dX5_takeBestOrder_15 fl_X5_9 (by repeat' (first | assumption | exact rF_eq | refine rF_ne (by decide) ?_ | refine rF_a ?_ | exact rA_eq | refine rA_ne (by decide) ?_ | refine rA_f ?_)) (by repeat' (first | assumption | exact rF_eq | refine rF_ne (by decide) ?_ | refine rF_a ?_ | exact rA_eq | refine rA_ne (by decide) ?_ | refine rA_f ?_)) ?_
      refine g_icmp_ge (tgt := 82) dX5_takeBestOrder_18 (by decide) (fun hc18 => ?_) (fun hc18 => ?_)
      · (try simp (disch := omega) only [nT, t_m1000100, t_m1000010, t_m1000003, t_m1000002, t_m1000001, t_m1000000, t_m65535, t_m1000, t_m3, t_m1, t_0, t_1, t_2, t_3, t_4, t_5, t_6, t_7, t_8, t_9, t_10, t_11, t_12, t_13, t_15, t_16, t_20, t_21, t_22, t_32, t_40, t_41, t_48, t_49, t_57, t_59, t_60, t_63, t_72, t_76, t_88, t_100, t_144, t_200, t_255, t_288, t_400, t_800, t_999, t_1000, t_1024, t_1200, t_1600, t_3200, t_100000, t_200000, t_252645135, t_858993459, t_1431655765, u_m1000002, u_m1000001, u_m1000, u_m3, u_m1, u_0, u_1, u_2, u_3, u_4, u_5, u_7, u_8, u_10, u_11, u_15, u_60, u_100, u_255, u_999, u_1000, u_100000, u_4294967295] at hc18)
        refine g_vret dX5_takeBestOrder_82 rfl (hQ _ _ ?_)
        exact ⟨rfl, rfl⟩
      · (try simp (disch := omega) only [nT, t_m1000100, t_m1000010, t_m1000003, t_m1000002, t_m1000001, t_m1000000, t_m65535, t_m1000, t_m3, t_m1, t_0, t_1, t_2, t_3, t_4, t_5, t_6, t_7, t_8, t_9, t_10, t_11, t_12, t_13, t_15, t_16, t_20, t_21, t_22, t_32, t_40, t_41, t_48, t_49, t_57, t_59, t_60, t_63, t_72, t_76, t_88, t_100, t_144, t_200, t_255, t_288, t_400, t_800, t_999, t_1000, t_1024, t_1200, t_1600, t_3200, t_100000, t_200000, t_252645135, t_858993459, t_1431655765, u_m1000002, u_m1000001, u_m1000, u_m3, u_m1, u_0, u_1, u_2, u_3, u_4, u_5, u_7, u_8, u_10, u_11, u_15, u_60, u_100, u_255, u_999, u_1000, u_100000, u_4294967295] at hc18); omega
    | succ m ih =>
      intro k S mat f v4 hk hS hc he
      obtain ⟨t, hst, ht1, ht2, ht3, ht4⟩ := scn2_some (ss := ssO T) (mat := mat) (fun t => (hp t).1) (show 0 < cnt S.testBit T.1 0 by omega)
      obtain ⟨d1, d2⟩ := mk_del S hS t (by omega) ht2
      have hc2 := (cnt_dlt ht2 T.1 0).1 (by omega)
      have hs4 := ((hp t).2.2.2 ht1).2
      have ih2 := ih (k + 1) (S ^^^ 2 ^ t) (mat && decide (ssO T t < 10)) (upd f k (nI t)) (.int (nI t)) (by omega) (by omega) (by rw [mk_dlt ht2]; omega) (by rw [mk_dlt ht2, ← he, gfl, hst])
      have call : CT mX5_nextOfBest 1 0 0 [.ref 27, .int (nI S), .int (bI (mat = true))] (sA h 33 (aI 10 f)) (fun r h' => r = some (.int (nI t)) ∧ h' = sA h 33 (aI 10 f)) := by
        have c := c_nextOfBest hT (h := sA h 33 (aI 10 f)) (f := f) ⟨e1, e2, e3, e4, e5, e6, e7, e8, e9, e10, e11, e12, e13, rfl⟩ hS mat
        rw [hst] at c
        exact c
      refine g_iload_n (i := 3) dX5_takeBestOrder_13 rfl rfl ?_
      refine g_aload_n (i := 0) dX5_takeBestOrder_14 rfl rfl ?_
      refine g_get dX5_takeBestOrder_15 fl_X5_9 (by repeat' (first | assumption | exact rF_eq | refine rF_ne (by decide) ?_ | refine rF_a ?_ | exact rA_eq | refine rA_ne (by decide) ?_ | refine rA_f ?_)) (by repeat' (first | assumption | exact rF_eq | refine rF_ne (by decide) ?_ | refine rF_a ?_ | exact rA_eq | refine rA_ne (by decide) ?_ | refine rA_f ?_)) ?_
      refine g_icmp_ge (tgt := 82) dX5_takeBestOrder_18 (by decide) (fun hc18 => ?_) (fun hc18 => ?_)
      · (try simp (disch := omega) only [nT, t_m1000100, t_m1000010, t_m1000003, t_m1000002, t_m1000001, t_m1000000, t_m65535, t_m1000, t_m3, t_m1, t_0, t_1, t_2, t_3, t_4, t_5, t_6, t_7, t_8, t_9, t_10, t_11, t_12, t_13, t_15, t_16, t_20, t_21, t_22, t_32, t_40, t_41, t_48, t_49, t_57, t_59, t_60, t_63, t_72, t_76, t_88, t_100, t_144, t_200, t_255, t_288, t_400, t_800, t_999, t_1000, t_1024, t_1200, t_1600, t_3200, t_100000, t_200000, t_252645135, t_858993459, t_1431655765, u_m1000002, u_m1000001, u_m1000, u_m3, u_m1, u_0, u_1, u_2, u_3, u_4, u_5, u_7, u_8, u_10, u_11, u_15, u_60, u_100, u_255, u_999, u_1000, u_100000, u_4294967295] at hc18); omega
      · (try simp (disch := omega) only [nT, t_m1000100, t_m1000010, t_m1000003, t_m1000002, t_m1000001, t_m1000000, t_m65535, t_m1000, t_m3, t_m1, t_0, t_1, t_2, t_3, t_4, t_5, t_6, t_7, t_8, t_9, t_10, t_11, t_12, t_13, t_15, t_16, t_20, t_21, t_22, t_32, t_40, t_41, t_48, t_49, t_57, t_59, t_60, t_63, t_72, t_76, t_88, t_100, t_144, t_200, t_255, t_288, t_400, t_800, t_999, t_1000, t_1024, t_1200, t_1600, t_3200, t_100000, t_200000, t_252645135, t_858993459, t_1431655765, u_m1000002, u_m1000001, u_m1000, u_m3, u_m1, u_0, u_1, u_2, u_3, u_4, u_5, u_7, u_8, u_10, u_11, u_15, u_60, u_100, u_255, u_999, u_1000, u_100000, u_4294967295] at hc18)
        refine g_aload_n (i := 0) dX5_takeBestOrder_21 rfl rfl ?_
        refine g_iload_n (i := 2) dX5_takeBestOrder_22 rfl rfl ?_
        refine g_iload_n (i := 1) dX5_takeBestOrder_23 rfl rfl ?_
        refine g_callV (M' := mX5_nextOfBest) dX5_takeBestOrder_24 lc_X5_nextOfBest ml_X5_41 (call) rfl rfl (by repeat' (first | assumption | exact rF_eq | refine rF_ne (by decide) ?_ | refine rF_a ?_ | exact rA_eq | refine rA_ne (by decide) ?_ | refine rA_f ?_)) rfl ⟨Nat.le_of_ble_eq_true rfl, Nat.le_of_ble_eq_true rfl, Nat.le_of_ble_eq_true rfl, Nat.le_of_ble_eq_true rfl⟩ (Nat.le_of_ble_eq_true rfl) ?_
        intro r_ h_ q_; obtain ⟨q1_, q2_⟩ := q_; have q2_ := q2_.symm; subst q1_; subst q2_
        refine g_istore dX5_takeBestOrder_27 (Nat.le_of_ble_eq_true rfl) rfl ?_
        refine g_iload dX5_takeBestOrder_29 rfl ?_
        refine g_ldc dX5_takeBestOrder_31 kc_X5_38 ?_
        refine g_icmp_ne (tgt := 37) dX5_takeBestOrder_33 (by decide) (fun hc33 => ?_) (fun hc33 => ?_)
        · have hd33 := mt i_eq.mpr hc33; (try simp (disch := omega) only [nT, t_m1000100, t_m1000010, t_m1000003, t_m1000002, t_m1000001, t_m1000000, t_m65535, t_m1000, t_m3, t_m1, t_0, t_1, t_2, t_3, t_4, t_5, t_6, t_7, t_8, t_9, t_10, t_11, t_12, t_13, t_15, t_16, t_20, t_21, t_22, t_32, t_40, t_41, t_48, t_49, t_57, t_59, t_60, t_63, t_72, t_76, t_88, t_100, t_144, t_200, t_255, t_288, t_400, t_800, t_999, t_1000, t_1024, t_1200, t_1600, t_3200, t_100000, t_200000, t_252645135, t_858993459, t_1431655765, u_m1000002, u_m1000001, u_m1000, u_m3, u_m1, u_0, u_1, u_2, u_3, u_4, u_5, u_7, u_8, u_10, u_11, u_15, u_60, u_100, u_255, u_999, u_1000, u_100000, u_4294967295] at hd33)
          refine g_iload_n (i := 2) dX5_takeBestOrder_37 rfl rfl ?_
          refine g_iconst (v := 1) dX5_takeBestOrder_38 (by decide) ?_
          refine g_iload dX5_takeBestOrder_39 rfl ?_
          refine g_ishl dX5_takeBestOrder_41 ?_
          refine g_iconst (v := (-1)) dX5_takeBestOrder_42 (by decide) ?_
          refine g_ixor dX5_takeBestOrder_43 ?_
          refine g_iand dX5_takeBestOrder_44 ?_
          rw [d1]
          refine g_istore_n (i := 2) dX5_takeBestOrder_45 rfl (Nat.le_of_ble_eq_true rfl) rfl ?_
          refine g_aload_n (i := 0) dX5_takeBestOrder_46 rfl rfl ?_
          refine g_get dX5_takeBestOrder_47 fl_X5_31 (by repeat' (first | assumption | exact rF_eq | refine rF_ne (by decide) ?_ | refine rF_a ?_ | exact rA_eq | refine rA_ne (by decide) ?_ | refine rA_f ?_)) (by repeat' (first | assumption | exact rF_eq | refine rF_ne (by decide) ?_ | refine rF_a ?_ | exact rA_eq | refine rA_ne (by decide) ?_ | refine rA_f ?_)) ?_
          refine g_iload_n (i := 3) dX5_takeBestOrder_50 rfl rfl ?_
          refine g_iload dX5_takeBestOrder_51 rfl ?_
          refine g_iast dX5_takeBestOrder_53 (by repeat' (first | assumption | exact rF_eq | refine rF_ne (by decide) ?_ | refine rF_a ?_ | exact rA_eq | refine rA_ne (by decide) ?_ | refine rA_f ?_)) (nT (by omega)) (by omega) ?_
          refine g_iload_n (i := 1) dX5_takeBestOrder_54 rfl rfl ?_
          refine g_if_eq (tgt := 74) dX5_takeBestOrder_55 (by decide) (fun hc55 => ?_) (fun hc55 => ?_)
          · have hd55 := i_eq.mp hc55; (try simp (disch := omega) only [nT, t_m1000100, t_m1000010, t_m1000003, t_m1000002, t_m1000001, t_m1000000, t_m65535, t_m1000, t_m3, t_m1, t_0, t_1, t_2, t_3, t_4, t_5, t_6, t_7, t_8, t_9, t_10, t_11, t_12, t_13, t_15, t_16, t_20, t_21, t_22, t_32, t_40, t_41, t_48, t_49, t_57, t_59, t_60, t_63, t_72, t_76, t_88, t_100, t_144, t_200, t_255, t_288, t_400, t_800, t_999, t_1000, t_1024, t_1200, t_1600, t_3200, t_100000, t_200000, t_252645135, t_858993459, t_1431655765, u_m1000002, u_m1000001, u_m1000, u_m3, u_m1, u_0, u_1, u_2, u_3, u_4, u_5, u_7, u_8, u_10, u_11, u_15, u_60, u_100, u_255, u_999, u_1000, u_100000, u_4294967295] at hd55)
            refine g_iconst (v := 0) dX5_takeBestOrder_74 (by decide) ?_
            refine g_istore_n (i := 1) dX5_takeBestOrder_75 rfl (Nat.le_of_ble_eq_true rfl) rfl ?_
            refine g_iinc dX5_takeBestOrder_76 rfl (Nat.le_of_ble_eq_true rfl) rfl ?_
            refine g_goto (tgt := 13) dX5_takeBestOrder_79 (by decide) ?_
            rw [ni_incO, sA_sA]
            first
            | (rw [bI_t (by rw [Bool.and_eq_true, decide_eq_true_iff]; exact ⟨bI_n0.mp hc55, by omega⟩)] at ih2; exact ih2)
            | (rw [bI_f (fun q => by rw [Bool.and_eq_true, decide_eq_true_iff] at q; first | exact bI_0.mp hc55 q.1 | omega)] at ih2; exact ih2)
          · have hd55 := mt i_eq.mpr hc55; (try simp (disch := omega) only [nT, t_m1000100, t_m1000010, t_m1000003, t_m1000002, t_m1000001, t_m1000000, t_m65535, t_m1000, t_m3, t_m1, t_0, t_1, t_2, t_3, t_4, t_5, t_6, t_7, t_8, t_9, t_10, t_11, t_12, t_13, t_15, t_16, t_20, t_21, t_22, t_32, t_40, t_41, t_48, t_49, t_57, t_59, t_60, t_63, t_72, t_76, t_88, t_100, t_144, t_200, t_255, t_288, t_400, t_800, t_999, t_1000, t_1024, t_1200, t_1600, t_3200, t_100000, t_200000, t_252645135, t_858993459, t_1431655765, u_m1000002, u_m1000001, u_m1000, u_m3, u_m1, u_0, u_1, u_2, u_3, u_4, u_5, u_7, u_8, u_10, u_11, u_15, u_60, u_100, u_255, u_999, u_1000, u_100000, u_4294967295] at hd55)
            refine g_aload_n (i := 0) dX5_takeBestOrder_58 rfl rfl ?_
            refine g_get dX5_takeBestOrder_59 fl_X5_28 (by repeat' (first | assumption | exact rF_eq | refine rF_ne (by decide) ?_ | refine rF_a ?_ | exact rA_eq | refine rA_ne (by decide) ?_ | refine rA_f ?_)) (by repeat' (first | assumption | exact rF_eq | refine rF_ne (by decide) ?_ | refine rF_a ?_ | exact rA_eq | refine rA_ne (by decide) ?_ | refine rA_f ?_)) ?_
            refine g_iload dX5_takeBestOrder_62 rfl ?_
            refine g_iald dX5_takeBestOrder_64 (by repeat' (first | assumption | exact rF_eq | refine rF_ne (by decide) ?_ | refine rF_a ?_ | exact rA_eq | refine rA_ne (by decide) ?_ | refine rA_f ?_)) (nT (by omega)) (by omega) ?_
            refine g_bipush (v := 10) dX5_takeBestOrder_65 (by decide) ?_
            refine g_icmp_ge (tgt := 74) dX5_takeBestOrder_67 (by decide) (fun hc67 => ?_) (fun hc67 => ?_)
            · (try simp (disch := omega) only [nT, t_m1000100, t_m1000010, t_m1000003, t_m1000002, t_m1000001, t_m1000000, t_m65535, t_m1000, t_m3, t_m1, t_0, t_1, t_2, t_3, t_4, t_5, t_6, t_7, t_8, t_9, t_10, t_11, t_12, t_13, t_15, t_16, t_20, t_21, t_22, t_32, t_40, t_41, t_48, t_49, t_57, t_59, t_60, t_63, t_72, t_76, t_88, t_100, t_144, t_200, t_255, t_288, t_400, t_800, t_999, t_1000, t_1024, t_1200, t_1600, t_3200, t_100000, t_200000, t_252645135, t_858993459, t_1431655765, u_m1000002, u_m1000001, u_m1000, u_m3, u_m1, u_0, u_1, u_2, u_3, u_4, u_5, u_7, u_8, u_10, u_11, u_15, u_60, u_100, u_255, u_999, u_1000, u_100000, u_4294967295] at hc67)
              refine g_iconst (v := 0) dX5_takeBestOrder_74 (by decide) ?_
              refine g_istore_n (i := 1) dX5_takeBestOrder_75 rfl (Nat.le_of_ble_eq_true rfl) rfl ?_
              refine g_iinc dX5_takeBestOrder_76 rfl (Nat.le_of_ble_eq_true rfl) rfl ?_
              refine g_goto (tgt := 13) dX5_takeBestOrder_79 (by decide) ?_
              rw [ni_incO, sA_sA]
              first
              | (rw [bI_t (by rw [Bool.and_eq_true, decide_eq_true_iff]; exact ⟨bI_n0.mp hc55, by omega⟩)] at ih2; exact ih2)
              | (rw [bI_f (fun q => by rw [Bool.and_eq_true, decide_eq_true_iff] at q; first | exact bI_0.mp hc55 q.1 | omega)] at ih2; exact ih2)
            · (try simp (disch := omega) only [nT, t_m1000100, t_m1000010, t_m1000003, t_m1000002, t_m1000001, t_m1000000, t_m65535, t_m1000, t_m3, t_m1, t_0, t_1, t_2, t_3, t_4, t_5, t_6, t_7, t_8, t_9, t_10, t_11, t_12, t_13, t_15, t_16, t_20, t_21, t_22, t_32, t_40, t_41, t_48, t_49, t_57, t_59, t_60, t_63, t_72, t_76, t_88, t_100, t_144, t_200, t_255, t_288, t_400, t_800, t_999, t_1000, t_1024, t_1200, t_1600, t_3200, t_100000, t_200000, t_252645135, t_858993459, t_1431655765, u_m1000002, u_m1000001, u_m1000, u_m3, u_m1, u_0, u_1, u_2, u_3, u_4, u_5, u_7, u_8, u_10, u_11, u_15, u_60, u_100, u_255, u_999, u_1000, u_100000, u_4294967295] at hc67)
              refine g_iconst (v := 1) dX5_takeBestOrder_70 (by decide) ?_
              refine g_goto (tgt := 75) dX5_takeBestOrder_71 (by decide) ?_
              refine g_istore_n (i := 1) dX5_takeBestOrder_75 rfl (Nat.le_of_ble_eq_true rfl) rfl ?_
              refine g_iinc dX5_takeBestOrder_76 rfl (Nat.le_of_ble_eq_true rfl) rfl ?_
              refine g_goto (tgt := 13) dX5_takeBestOrder_79 (by decide) ?_
              rw [ni_incO, sA_sA]
              first
              | (rw [bI_t (by rw [Bool.and_eq_true, decide_eq_true_iff]; exact ⟨bI_n0.mp hc55, by omega⟩)] at ih2; exact ih2)
              | (rw [bI_f (fun q => by rw [Bool.and_eq_true, decide_eq_true_iff] at q; first | exact bI_0.mp hc55 q.1 | omega)] at ih2; exact ih2)
        · have hd33 := i_eq.mp hc33; (try simp (disch := omega) only [nT, t_m1000100, t_m1000010, t_m1000003, t_m1000002, t_m1000001, t_m1000000, t_m65535, t_m1000, t_m3, t_m1, t_0, t_1, t_2, t_3, t_4, t_5, t_6, t_7, t_8, t_9, t_10, t_11, t_12, t_13, t_15, t_16, t_20, t_21, t_22, t_32, t_40, t_41, t_48, t_49, t_57, t_59, t_60, t_63, t_72, t_76, t_88, t_100, t_144, t_200, t_255, t_288, t_400, t_800, t_999, t_1000, t_1024, t_1200, t_1600, t_3200, t_100000, t_200000, t_252645135, t_858993459, t_1431655765, u_m1000002, u_m1000001, u_m1000, u_m3, u_m1, u_0, u_1, u_2, u_3, u_4, u_5, u_7, u_8, u_10, u_11, u_15, u_60, u_100, u_255, u_999, u_1000, u_100000, u_4294967295] at hd33); have q9 := congrArg Int32.toInt (show nI t = -1000000 from hc33); rw [nT (by omega), t_m1000000] at q9; omega
  refine g_iconst (v := 1) dX5_takeBestOrder_0 (by decide) ?_
  refine g_istore_n (i := 1) dX5_takeBestOrder_1 rfl (Nat.le_of_ble_eq_true rfl) rfl ?_
  refine g_iconst (v := 1) dX5_takeBestOrder_2 (by decide) ?_
  refine g_aload_n (i := 0) dX5_takeBestOrder_3 rfl rfl ?_
  refine g_get dX5_takeBestOrder_4 fl_X5_9 (by repeat' (first | assumption | exact rF_eq | refine rF_ne (by decide) ?_ | refine rF_a ?_ | exact rA_eq | refine rA_ne (by decide) ?_ | refine rA_f ?_)) (by repeat' (first | assumption | exact rF_eq | refine rF_ne (by decide) ?_ | refine rF_a ?_ | exact rA_eq | refine rA_ne (by decide) ?_ | refine rA_f ?_)) ?_
  refine g_ishl dX5_takeBestOrder_7 ?_
  rw [(mk_pow T.1 (by omega)).1]
  refine g_iconst (v := 1) dX5_takeBestOrder_8 (by decide) ?_
  refine g_isub dX5_takeBestOrder_9 ?_
  rw [show nI (2 ^ T.1) - 1 = nI (2 ^ T.1 - 1) from n_sub (mk_pow T.1 (by omega)).2.1]
  refine g_istore_n (i := 2) dX5_takeBestOrder_10 rfl (Nat.le_of_ble_eq_true rfl) rfl ?_
  refine g_iconst (v := 0) dX5_takeBestOrder_11 (by decide) ?_
  refine g_istore_n (i := 3) dX5_takeBestOrder_12 rfl (Nat.le_of_ble_eq_true rfl) rfl ?_
  have hb : ∀ t, (2 ^ T.1 - 1).testBit t = decide (t < T.1) := fun t => Nat.testBit_two_pow_sub_one _ _
  have k0 := key T.1 0 (2 ^ T.1 - 1) true T.2.2.2.2.2.2 hU (by omega) (by have := (mk_pow T.1 (by omega)).2.2; omega) (by rw [funext hb]; have := cnt_all T.1 0; rw [Nat.zero_add] at this; exact this) (by rw [funext hb, ← hz]; rfl)
  rw [sA_self e14] at k0
  exact k0
theorem TF_wf {T : TS} (hT : WfT T) {f : Nat → Int32} (h1 : ∀ k, k < T.1 → ∃ j, j < T.1 ∧ f k = nI j) (h2 : ∀ j, j < T.1 → ∃ k, k < T.1 ∧ f k = nI j) : WfT (TF T f) := ⟨hT.1, h1, h2, hT.2.2.2⟩
theorem gfl_p {n : Nat} {tt ss : Nat → Nat} (h0 : ∀ t, 0 < tt t) : ∀ m k p mat f, cnt p n 0 = m → (∀ i, i < k → gfl n tt ss m k p mat f i = f i) ∧ (∀ i, k + m ≤ i → gfl n tt ss m k p mat f i = f i) ∧ (∀ i, k ≤ i → i < k + m → ∃ j, j < n ∧ p j = true ∧ gfl n tt ss m k p mat f i = nI j) ∧ ∀ j, j < n → p j = true → ∃ i, k ≤ i ∧ i < k + m ∧ gfl n tt ss m k p mat f i = nI j
  | 0, k, p, mat, f, hc => ⟨fun i _ => rfl, fun i _ => rfl, fun i h1 h2 => by omega, fun j hj hp => by
      have := (cnt_dlt hp n 0).1 (by omega)
      omega⟩
  | m + 1, k, p, mat, f, hc => by
    obtain ⟨t, hst, ht1, ht2, -, -⟩ := scn2_some (ss := ss) (mat := mat) h0 (show 0 < cnt p n 0 by omega)
    have hc2 := (cnt_dlt ht2 n 0).1 (by omega)
    obtain ⟨i1, i2, i3, i4⟩ := gfl_p (n := n) (ss := ss) h0 m (k + 1) (dlt p t) (mat && decide (ss t < 10)) (upd f k (nI t)) (by omega)
    have e : gfl n tt ss (m + 1) k p mat f = gfl n tt ss m (k + 1) (dlt p t) (mat && decide (ss t < 10)) (upd f k (nI t)) := by rw [gfl, hst]
    rw [e]
    refine ⟨fun i hi => ?_, fun i hi => ?_, fun i h1 h2 => ?_, fun j hj hp => ?_⟩
    · rw [i1 i (by omega), upd_n (by omega)]
    · rw [i2 i (by omega), upd_n (by omega)]
    · by_cases q : i = k
      · exact ⟨t, ht1, ht2, by rw [q, i1 k (by omega), upd_s]⟩
      · obtain ⟨j, h3, h4, h5⟩ := i3 i (by omega) (by omega)
        exact ⟨j, h3, (dlt_t.mp h4).1, h5⟩
    · by_cases q : j = t
      · exact ⟨k, by omega, by omega, by rw [q, i1 k (by omega), upd_s]⟩
      · obtain ⟨i, h3, h4, h5⟩ := i4 j hj (dlt_t.mpr ⟨hp, q⟩)
        exact ⟨i, by omega, by omega, h5⟩
theorem opOrd_wf {T : TS} (hT : WfT T) : WfT (opOrd T) := by
  have hc := cnt_all T.1 0
  rw [Nat.zero_add] at hc
  obtain ⟨-, -, i3, i4⟩ := gfl_p (tt := ttO T) (ss := ssO T) (fun t => (ttO_p hT t).1) T.1 0 (fun t => decide (t < T.1)) true T.2.2.2.2.2.2 hc
  refine TF_wf hT (fun k hk => ?_) (fun j hj => ?_)
  · obtain ⟨j, h1, h2, h3⟩ := i3 k (by omega) (by omega)
    exact ⟨j, h1, h3⟩
  · obtain ⟨i, h1, h2, h3⟩ := i4 j hj (decide_eq_true hj)
    exact ⟨i, by omega, h3⟩
theorem x_order {T : TS} (hT : WfT T) {h : HH} (hg : GTX T h) : CT mX7_order 3 0 0 [.ref 0] h (fun r h' => r = some (.long (opMean (opOrd T))) ∧ GTX (opOrd T) h' ∧ Fr [33] [] h h') := by
  obtain ⟨⟨h0, h7⟩, hs⟩ := hg
  obtain ⟨e1, e2, e3, e4, e5, e6, e7, e8, e9, e10, e11, e12, e13, e14⟩ := id hs
  have ht : TX' (sA h 33 (aI 10 (opOrd T).2.2.2.2.2.2)) (opOrd T) := ⟨e1, e2, e3, e4, e5, e6, e7, e8, e9, e10, e11, e12, e13, rfl⟩
  refine CT.go [.ref 0] (by decide +kernel) rfl rfl (fun Q' hQ => ?_)
  refine g_aload_n (i := 0) dX7_order_0 rfl rfl ?_
  refine g_get dX7_order_1 fl_X7_47 (by repeat' (first | assumption | exact rF_eq | refine rF_ne (by decide) ?_ | refine rF_a ?_ | exact rA_eq | refine rA_ne (by decide) ?_ | refine rA_f ?_)) (by repeat' (first | assumption | exact rF_eq | refine rF_ne (by decide) ?_ | refine rF_a ?_ | exact rA_eq | refine rA_ne (by decide) ?_ | refine rA_f ?_)) ?_
  refine g_callV (M' := mX5_takeBestOrder) dX7_order_4 lc_X5_takeBestOrder ml_X7_274 (c_takeBestOrder hT hs) rfl rfl (by repeat' (first | assumption | exact rF_eq | refine rF_ne (by decide) ?_ | refine rF_a ?_ | exact rA_eq | refine rA_ne (by decide) ?_ | refine rA_f ?_)) rfl ⟨Nat.le_of_ble_eq_true rfl, Nat.le_of_ble_eq_true rfl, Nat.le_of_ble_eq_true rfl, Nat.le_of_ble_eq_true rfl⟩ (Nat.le_of_ble_eq_true rfl) ?_
  intro r_ h_ q_; obtain ⟨q1_, q2_⟩ := q_; have q2_ := q2_.symm; subst q1_; subst q2_
  refine g_aload_n (i := 0) dX7_order_7 rfl rfl ?_
  refine g_get dX7_order_8 fl_X7_47 (by repeat' (first | assumption | exact rF_eq | refine rF_ne (by decide) ?_ | refine rF_a ?_ | exact rA_eq | refine rA_ne (by decide) ?_ | refine rA_f ?_)) (by repeat' (first | assumption | exact rF_eq | refine rF_ne (by decide) ?_ | refine rF_a ?_ | exact rA_eq | refine rA_ne (by decide) ?_ | refine rA_f ?_)) ?_
  refine g_callV (M' := mX5_meanTime) dX7_order_11 lc_X5_meanTime ml_X7_270 (c_meanTime (opOrd_wf hT) ht) rfl rfl (by repeat' (first | assumption | exact rF_eq | refine rF_ne (by decide) ?_ | refine rF_a ?_ | exact rA_eq | refine rA_ne (by decide) ?_ | refine rA_f ?_)) rfl ⟨Nat.le_of_ble_eq_true rfl, Nat.le_of_ble_eq_true rfl, Nat.le_of_ble_eq_true rfl, Nat.le_of_ble_eq_true rfl⟩ (Nat.le_of_ble_eq_true rfl) ?_
  intro r_ h_ q_; obtain ⟨q1_, q2_⟩ := q_; have q2_ := q2_.symm; subst q1_; subst q2_
  refine g_lret dX7_order_14 rfl (hQ _ _ ?_)
  exact ⟨rfl, ⟨⟨h0, h7⟩, ht⟩, fr_sA (by decide) fr_rf⟩
