/-! count, status, fault -/
def pD (E : ST2) : Nat → Bool := fun s => decide (¬ E.2 s = 0)
theorem pD_t {E : ST2} {s : Nat} : pD E s = true ↔ ¬ E.2 s = 0 := decide_eq_true_iff
theorem c_deadSeats {E : ST2} {h : HH} (hg : GEX E h) : CT mX7_deadSeats 0 0 0 [.ref 0] h (fun r h' => r = some (.int (nI (cnt (pD E) 8 0))) ∧ h' = h) := by
  obtain ⟨d1, d2, d3, d4, d5⟩ := hg
  refine CT.go [.ref 0, hU, hU] (by decide +kernel) rfl rfl (fun Q' hQ => ?_)
  generalize hz : cnt (pD E) 8 0 = z at hQ
  have key : ∀ m k acc : Nat, k + m = 8 → acc ≤ k → acc + cnt (pD E) m k = z → GG (EM mX7_deadSeats 0 0 0 Q') 0 0 4 [.ref 0, .int (nI acc), .int (nI k)] [] h := by
    intro m
    induction m with
    | zero =>
      intro k acc hk ha he
      obtain rfl : acc = z := he
      refine g_iload_n (i := 2) dX7_deadSeats_4 rfl rfl ?_
      refine g_bipush (v := 8) dX7_deadSeats_5 (by decide) ?_
      refine g_icmp_ge (tgt := 28) dX7_deadSeats_7 (by decide) (fun hc7 => ?_) (fun hc7 => ?_)
      · (try simp (disch := omega) only [nT, t_m1000100, t_m1000010, t_m1000003, t_m1000002, t_m1000001, t_m1000000, t_m65535, t_m1000, t_m3, t_m1, t_0, t_1, t_2, t_3, t_4, t_5, t_6, t_7, t_8, t_9, t_10, t_11, t_12, t_13, t_15, t_16, t_20, t_21, t_22, t_32, t_40, t_41, t_48, t_49, t_57, t_59, t_60, t_63, t_72, t_76, t_88, t_100, t_144, t_200, t_255, t_288, t_400, t_800, t_999, t_1000, t_1024, t_1200, t_1600, t_3200, t_100000, t_200000, t_252645135, t_858993459, t_1431655765, u_m1000002, u_m1000001, u_m1000, u_m3, u_m1, u_0, u_1, u_2, u_3, u_4, u_5, u_7, u_8, u_10, u_11, u_15, u_60, u_100, u_255, u_999, u_1000, u_100000, u_4294967295] at hc7)
        refine g_iload_n (i := 1) dX7_deadSeats_28 rfl rfl ?_
        refine g_iret dX7_deadSeats_29 rfl (rfl) (hQ _ _ ?_)
        exact ⟨rfl, rfl⟩
      · (try simp (disch := omega) only [nT, t_m1000100, t_m1000010, t_m1000003, t_m1000002, t_m1000001, t_m1000000, t_m65535, t_m1000, t_m3, t_m1, t_0, t_1, t_2, t_3, t_4, t_5, t_6, t_7, t_8, t_9, t_10, t_11, t_12, t_13, t_15, t_16, t_20, t_21, t_22, t_32, t_40, t_41, t_48, t_49, t_57, t_59, t_60, t_63, t_72, t_76, t_88, t_100, t_144, t_200, t_255, t_288, t_400, t_800, t_999, t_1000, t_1024, t_1200, t_1600, t_3200, t_100000, t_200000, t_252645135, t_858993459, t_1431655765, u_m1000002, u_m1000001, u_m1000, u_m3, u_m1, u_0, u_1, u_2, u_3, u_4, u_5, u_7, u_8, u_10, u_11, u_15, u_60, u_100, u_255, u_999, u_1000, u_100000, u_4294967295] at hc7); omega
    | succ m ih =>
      intro k acc hk ha he
      refine g_iload_n (i := 2) dX7_deadSeats_4 rfl rfl ?_
      refine g_bipush (v := 8) dX7_deadSeats_5 (by decide) ?_
      refine g_icmp_ge (tgt := 28) dX7_deadSeats_7 (by decide) (fun hc7 => ?_) (fun hc7 => ?_)
      · (try simp (disch := omega) only [nT, t_m1000100, t_m1000010, t_m1000003, t_m1000002, t_m1000001, t_m1000000, t_m65535, t_m1000, t_m3, t_m1, t_0, t_1, t_2, t_3, t_4, t_5, t_6, t_7, t_8, t_9, t_10, t_11, t_12, t_13, t_15, t_16, t_20, t_21, t_22, t_32, t_40, t_41, t_48, t_49, t_57, t_59, t_60, t_63, t_72, t_76, t_88, t_100, t_144, t_200, t_255, t_288, t_400, t_800, t_999, t_1000, t_1024, t_1200, t_1600, t_3200, t_100000, t_200000, t_252645135, t_858993459, t_1431655765, u_m1000002, u_m1000001, u_m1000, u_m3, u_m1, u_0, u_1, u_2, u_3, u_4, u_5, u_7, u_8, u_10, u_11, u_15, u_60, u_100, u_255, u_999, u_1000, u_100000, u_4294967295] at hc7); omega
      · (try simp (disch := omega) only [nT, t_m1000100, t_m1000010, t_m1000003, t_m1000002, t_m1000001, t_m1000000, t_m65535, t_m1000, t_m3, t_m1, t_0, t_1, t_2, t_3, t_4, t_5, t_6, t_7, t_8, t_9, t_10, t_11, t_12, t_13, t_15, t_16, t_20, t_21, t_22, t_32, t_40, t_41, t_48, t_49, t_57, t_59, t_60, t_63, t_72, t_76, t_88, t_100, t_144, t_200, t_255, t_288, t_400, t_800, t_999, t_1000, t_1024, t_1200, t_1600, t_3200, t_100000, t_200000, t_252645135, t_858993459, t_1431655765, u_m1000002, u_m1000001, u_m1000, u_m3, u_m1, u_0, u_1, u_2, u_3, u_4, u_5, u_7, u_8, u_10, u_11, u_15, u_60, u_100, u_255, u_999, u_1000, u_100000, u_4294967295] at hc7)
        refine g_aload_n (i := 0) dX7_deadSeats_10 rfl rfl ?_
        refine g_get dX7_deadSeats_11 fl_X7_63 (by repeat' (first | assumption | exact rF_eq | refine rF_ne (by decide) ?_ | refine rF_a ?_ | exact rA_eq | refine rA_ne (by decide) ?_ | refine rA_f ?_)) (by repeat' (first | assumption | exact rF_eq | refine rF_ne (by decide) ?_ | refine rF_a ?_ | exact rA_eq | refine rA_ne (by decide) ?_ | refine rA_f ?_)) ?_
        refine g_iload_n (i := 2) dX7_deadSeats_14 rfl rfl ?_
        refine g_zald dX7_deadSeats_15 (by repeat' (first | assumption | exact rF_eq | refine rF_ne (by decide) ?_ | refine rF_a ?_ | exact rA_eq | refine rA_ne (by decide) ?_ | refine rA_f ?_)) (nT (by omega)) (by omega) ?_
        refine g_if_eq (tgt := 22) dX7_deadSeats_16 (by decide) (fun hc16 => ?_) (fun hc16 => ?_)
        · have hd16 := i_eq.mp hc16; (try simp (disch := omega) only [nT, t_m1000100, t_m1000010, t_m1000003, t_m1000002, t_m1000001, t_m1000000, t_m65535, t_m1000, t_m3, t_m1, t_0, t_1, t_2, t_3, t_4, t_5, t_6, t_7, t_8, t_9, t_10, t_11, t_12, t_13, t_15, t_16, t_20, t_21, t_22, t_32, t_40, t_41, t_48, t_49, t_57, t_59, t_60, t_63, t_72, t_76, t_88, t_100, t_144, t_200, t_255, t_288, t_400, t_800, t_999, t_1000, t_1024, t_1200, t_1600, t_3200, t_100000, t_200000, t_252645135, t_858993459, t_1431655765, u_m1000002, u_m1000001, u_m1000, u_m3, u_m1, u_0, u_1, u_2, u_3, u_4, u_5, u_7, u_8, u_10, u_11, u_15, u_60, u_100, u_255, u_999, u_1000, u_100000, u_4294967295] at hd16)
          refine g_iinc dX7_deadSeats_22 rfl (Nat.le_of_ble_eq_true rfl) rfl ?_
          refine g_goto (tgt := 4) dX7_deadSeats_25 (by decide) ?_
          rw [ni_incO]
          first
          | (rw [cnt_t (pD_t.mpr (by assumption))] at he; rw [ni_incO]; exact ih _ _ (by omega) (by omega) (by omega))
          | (rw [cnt_f (fun q => absurd (by assumption) (pD_t.mp q))] at he; exact ih _ _ (by omega) (by omega) (by omega))
        · have hd16 := mt i_eq.mpr hc16; (try simp (disch := omega) only [nT, t_m1000100, t_m1000010, t_m1000003, t_m1000002, t_m1000001, t_m1000000, t_m65535, t_m1000, t_m3, t_m1, t_0, t_1, t_2, t_3, t_4, t_5, t_6, t_7, t_8, t_9, t_10, t_11, t_12, t_13, t_15, t_16, t_20, t_21, t_22, t_32, t_40, t_41, t_48, t_49, t_57, t_59, t_60, t_63, t_72, t_76, t_88, t_100, t_144, t_200, t_255, t_288, t_400, t_800, t_999, t_1000, t_1024, t_1200, t_1600, t_3200, t_100000, t_200000, t_252645135, t_858993459, t_1431655765, u_m1000002, u_m1000001, u_m1000, u_m3, u_m1, u_0, u_1, u_2, u_3, u_4, u_5, u_7, u_8, u_10, u_11, u_15, u_60, u_100, u_255, u_999, u_1000, u_100000, u_4294967295] at hd16)
          refine g_iinc dX7_deadSeats_19 rfl (Nat.le_of_ble_eq_true rfl) rfl ?_
          refine g_iinc dX7_deadSeats_22 rfl (Nat.le_of_ble_eq_true rfl) rfl ?_
          refine g_goto (tgt := 4) dX7_deadSeats_25 (by decide) ?_
          rw [ni_incO]
          first
          | (rw [cnt_t (pD_t.mpr (by assumption))] at he; rw [ni_incO]; exact ih _ _ (by omega) (by omega) (by omega))
          | (rw [cnt_f (fun q => absurd (by assumption) (pD_t.mp q))] at he; exact ih _ _ (by omega) (by omega) (by omega))
  refine g_iconst (v := 0) dX7_deadSeats_0 (by decide) ?_
  refine g_istore_n (i := 1) dX7_deadSeats_1 rfl (Nat.le_of_ble_eq_true rfl) rfl ?_
  refine g_iconst (v := 0) dX7_deadSeats_2 (by decide) ?_
  refine g_istore_n (i := 2) dX7_deadSeats_3 rfl (Nat.le_of_ble_eq_true rfl) rfl ?_
  exact key 8 0 0 (by omega) (by omega) (by rw [Nat.zero_add]; exact hz)
def opCount (w : SH) (T : TS) (G : GL2) (E : ST2) (tp : Nat) (ln pn x : Int32) : Int32 :=
  if x = 0 then nI (pres w.2.1 8) else if x = 1 then nI T.1 else if x = 2 then nI G.1 else if x = 3 then nI (G.1 - G.2.1)
  else if x = 4 then nI (cnt (pD E) 8 0) else if x = 5 then pn else if x = 6 then ln else if x = 7 then nI tp else -1000001
theorem opCount_out {w : SH} {T : TS} {G : GL2} {E : ST2} {tp : Nat} {ln pn x : Int32} (h : ¬ (0 ≤ x.toInt ∧ x.toInt < 8)) : opCount w T G E tp ln pn x = -1000001 := by
  unfold opCount
  rw [if_neg (fun q => h (by subst q; decide)), if_neg (fun q => h (by subst q; decide)), if_neg (fun q => h (by subst q; decide)), if_neg (fun q => h (by subst q; decide)), if_neg (fun q => h (by subst q; decide)), if_neg (fun q => h (by subst q; decide)), if_neg (fun q => h (by subst q; decide)), if_neg (fun q => h (by subst q; decide))]
def PcX (ln pn : Int32) (h : HH) : Prop := ∃ P, gF h 0 5 = .ref P ∧ gA h P = aO 2 ∧ gF h P 10 = .int pn ∧ gF h P 11 = .int ln
def PcM (ln pn : Int32) (h : HH) : Prop := gF h 44 14 = .ref 49 ∧ gF h 44 15 = .ref 50 ∧ ∃ (th : Int32) (sd : Nat) (ls ps : Nat → Int32), gF h 44 13 = .int th ∧ gF h 44 12 = .int (nI sd) ∧ sd < 2 ∧ gA h 49 = aI 2 ls ∧ gA h 50 = aI 2 ps ∧ (th = 0 → ln = 0 ∧ pn = 0) ∧ (¬ th = 0 → ln = ls sd ∧ pn = ps sd)
theorem x_count {w : SH} {T : TS} {G : GL2} {E : ST2} {P : TP} {ln pn : Int32} (hw : WfS w) (hG : WfG G) {h : HH} (gs : GSX w h) (gt : GTX T h) (go : GOX G h) (ge : GEX E h) (gp : GPX P h) (gq : PcX ln pn h) (x : Int32) : CT mX7_count 2 0 0 [.ref 0, .int x] h (fun r h' => r = some (.int (opCount w T G E P.1 ln pn x)) ∧ h' = h) := by
  obtain ⟨⟨h0, h1, h2⟩, hs⟩ := gs
  obtain ⟨⟨-, h7⟩, ht⟩ := gt
  obtain ⟨fa, ⟨-, h13⟩, hL, hfa⟩ := go
  obtain ⟨P', p1, p2, p3, p4⟩ := gq
  obtain ⟨-, t1, t2, t3⟩ := gp
  obtain ⟨s1, -⟩ := id hs
  have t4 := ht.1
  have t5 := ht.2.1
  obtain ⟨l1, l2, l3, l4, l5⟩ := id hL
  refine CT.go [.ref 0, .int x] (by decide +kernel) rfl rfl (fun Q' hQ => ?_)
  refine g_iload_n (i := 1) dX7_count_0 rfl rfl ?_
  by_cases hx : 0 ≤ x.toInt ∧ x.toInt < 8
  · obtain ⟨j, hj, rfl, hjt⟩ := n_of (n := 8) hx.1 hx.2
    rcases (by omega : j = 0 ∨ j = 1 ∨ j = 2 ∨ j = 3 ∨ j = 4 ∨ j = 5 ∨ j = 6 ∨ j = 7) with rfl | rfl | rfl | rfl | rfl | rfl | rfl | rfl
    · refine g_tabIn (tgt := 48) dX7_count_1 (by decide) (by decide) (off := 47) (by decide) (by decide) ?_
      refine g_aload_n (i := 0) dX7_count_48 rfl rfl ?_
      refine g_get dX7_count_49 fl_X7_10 (by repeat' (first | assumption | exact rF_eq | refine rF_ne (by decide) ?_ | refine rF_a ?_ | exact rA_eq | refine rA_ne (by decide) ?_ | refine rA_f ?_)) (by repeat' (first | assumption | exact rF_eq | refine rF_ne (by decide) ?_ | refine rF_a ?_ | exact rA_eq | refine rA_ne (by decide) ?_ | refine rA_f ?_)) ?_
      refine g_callV (M' := mX3_present) dX7_count_52 lc_X3_present ml_X7_334 (c_present hs (fun a ha => (hw a ha).1)) rfl rfl (by repeat' (first | assumption | exact rF_eq | refine rF_ne (by decide) ?_ | refine rF_a ?_ | exact rA_eq | refine rA_ne (by decide) ?_ | refine rA_f ?_)) rfl ⟨Nat.le_of_ble_eq_true rfl, Nat.le_of_ble_eq_true rfl, Nat.le_of_ble_eq_true rfl, Nat.le_of_ble_eq_true rfl⟩ (Nat.le_of_ble_eq_true rfl) ?_
      intro r_ h_ q_; obtain ⟨q1_, q2_⟩ := q_; have q2_ := q2_.symm; subst q1_; subst q2_
      refine g_iret dX7_count_55 rfl (rfl) (hQ _ _ ?_)
      exact ⟨rfl, rfl⟩
    · refine g_tabIn (tgt := 56) dX7_count_1 (by decide) (by decide) (off := 55) (by decide) (by decide) ?_
      refine g_aload_n (i := 0) dX7_count_56 rfl rfl ?_
      refine g_get dX7_count_57 fl_X7_47 (by repeat' (first | assumption | exact rF_eq | refine rF_ne (by decide) ?_ | refine rF_a ?_ | exact rA_eq | refine rA_ne (by decide) ?_ | refine rA_f ?_)) (by repeat' (first | assumption | exact rF_eq | refine rF_ne (by decide) ?_ | refine rF_a ?_ | exact rA_eq | refine rA_ne (by decide) ?_ | refine rA_f ?_)) ?_
      refine g_get dX7_count_60 fl_X7_194 (by repeat' (first | assumption | exact rF_eq | refine rF_ne (by decide) ?_ | refine rF_a ?_ | exact rA_eq | refine rA_ne (by decide) ?_ | refine rA_f ?_)) (by repeat' (first | assumption | exact rF_eq | refine rF_ne (by decide) ?_ | refine rF_a ?_ | exact rA_eq | refine rA_ne (by decide) ?_ | refine rA_f ?_)) ?_
      refine g_iret dX7_count_63 rfl (rfl) (hQ _ _ ?_)
      exact ⟨rfl, rfl⟩
    · refine g_tabIn (tgt := 64) dX7_count_1 (by decide) (by decide) (off := 63) (by decide) (by decide) ?_
      refine g_aload_n (i := 0) dX7_count_64 rfl rfl ?_
      refine g_get dX7_count_65 fl_X7_76 (by repeat' (first | assumption | exact rF_eq | refine rF_ne (by decide) ?_ | refine rF_a ?_ | exact rA_eq | refine rA_ne (by decide) ?_ | refine rA_f ?_)) (by repeat' (first | assumption | exact rF_eq | refine rF_ne (by decide) ?_ | refine rF_a ?_ | exact rA_eq | refine rA_ne (by decide) ?_ | refine rA_f ?_)) ?_
      refine g_get dX7_count_68 fl_X7_232 (by repeat' (first | assumption | exact rF_eq | refine rF_ne (by decide) ?_ | refine rF_a ?_ | exact rA_eq | refine rA_ne (by decide) ?_ | refine rA_f ?_)) (by repeat' (first | assumption | exact rF_eq | refine rF_ne (by decide) ?_ | refine rF_a ?_ | exact rA_eq | refine rA_ne (by decide) ?_ | refine rA_f ?_)) ?_
      refine g_iret dX7_count_71 rfl (rfl) (hQ _ _ ?_)
      exact ⟨rfl, rfl⟩
    · refine g_tabIn (tgt := 72) dX7_count_1 (by decide) (by decide) (off := 71) (by decide) (by decide) ?_
      refine g_aload_n (i := 0) dX7_count_72 rfl rfl ?_
      refine g_get dX7_count_73 fl_X7_76 (by repeat' (first | assumption | exact rF_eq | refine rF_ne (by decide) ?_ | refine rF_a ?_ | exact rA_eq | refine rA_ne (by decide) ?_ | refine rA_f ?_)) (by repeat' (first | assumption | exact rF_eq | refine rF_ne (by decide) ?_ | refine rF_a ?_ | exact rA_eq | refine rA_ne (by decide) ?_ | refine rA_f ?_)) ?_
      refine g_callV (M' := mX1_lotSize) dX7_count_76 lc_X1_lotSize ml_X7_307 (c_lotSize hG ⟨hL, hfa⟩) rfl rfl (by repeat' (first | assumption | exact rF_eq | refine rF_ne (by decide) ?_ | refine rF_a ?_ | exact rA_eq | refine rA_ne (by decide) ?_ | refine rA_f ?_)) rfl ⟨Nat.le_of_ble_eq_true rfl, Nat.le_of_ble_eq_true rfl, Nat.le_of_ble_eq_true rfl, Nat.le_of_ble_eq_true rfl⟩ (Nat.le_of_ble_eq_true rfl) ?_
      intro r_ h_ q_; obtain ⟨q1_, q2_⟩ := q_; have q2_ := q2_.symm; subst q1_; subst q2_
      refine g_iret dX7_count_79 rfl (rfl) (hQ _ _ ?_)
      exact ⟨rfl, rfl⟩
    · refine g_tabIn (tgt := 80) dX7_count_1 (by decide) (by decide) (off := 79) (by decide) (by decide) ?_
      refine g_aload_n (i := 0) dX7_count_80 rfl rfl ?_
      refine g_callV (M' := mX7_deadSeats) dX7_count_81 lc_X7_deadSeats ml_X7_337 (c_deadSeats ge) rfl rfl (by repeat' (first | assumption | exact rF_eq | refine rF_ne (by decide) ?_ | refine rF_a ?_ | exact rA_eq | refine rA_ne (by decide) ?_ | refine rA_f ?_)) rfl ⟨Nat.le_of_ble_eq_true rfl, Nat.le_of_ble_eq_true rfl, Nat.le_of_ble_eq_true rfl, Nat.le_of_ble_eq_true rfl⟩ (Nat.le_of_ble_eq_true rfl) ?_
      intro r_ h_ q_; obtain ⟨q1_, q2_⟩ := q_; have q2_ := q2_.symm; subst q1_; subst q2_
      refine g_iret dX7_count_84 rfl (rfl) (hQ _ _ ?_)
      exact ⟨rfl, rfl⟩
    · refine g_tabIn (tgt := 85) dX7_count_1 (by decide) (by decide) (off := 84) (by decide) (by decide) ?_
      refine g_aload_n (i := 0) dX7_count_85 rfl rfl ?_
      refine g_get dX7_count_86 fl_X7_37 (by repeat' (first | assumption | exact rF_eq | refine rF_ne (by decide) ?_ | refine rF_a ?_ | exact rA_eq | refine rA_ne (by decide) ?_ | refine rA_f ?_)) (by repeat' (first | assumption | exact rF_eq | refine rF_ne (by decide) ?_ | refine rF_a ?_ | exact rA_eq | refine rA_ne (by decide) ?_ | refine rA_f ?_)) ?_
      refine g_get dX7_count_89 fl_X7_152 (by repeat' (first | assumption | exact rF_eq | refine rF_ne (by decide) ?_ | refine rF_a ?_ | exact rA_eq | refine rA_ne (by decide) ?_ | refine rA_f ?_)) (by repeat' (first | assumption | exact rF_eq | refine rF_ne (by decide) ?_ | refine rF_a ?_ | exact rA_eq | refine rA_ne (by decide) ?_ | refine rA_f ?_)) ?_
      refine g_iret dX7_count_92 rfl (rfl) (hQ _ _ ?_)
      exact ⟨rfl, rfl⟩
    · refine g_tabIn (tgt := 93) dX7_count_1 (by decide) (by decide) (off := 92) (by decide) (by decide) ?_
      refine g_aload_n (i := 0) dX7_count_93 rfl rfl ?_
      refine g_get dX7_count_94 fl_X7_37 (by repeat' (first | assumption | exact rF_eq | refine rF_ne (by decide) ?_ | refine rF_a ?_ | exact rA_eq | refine rA_ne (by decide) ?_ | refine rA_f ?_)) (by repeat' (first | assumption | exact rF_eq | refine rF_ne (by decide) ?_ | refine rF_a ?_ | exact rA_eq | refine rA_ne (by decide) ?_ | refine rA_f ?_)) ?_
      refine g_get dX7_count_97 fl_X7_340 (by repeat' (first | assumption | exact rF_eq | refine rF_ne (by decide) ?_ | refine rF_a ?_ | exact rA_eq | refine rA_ne (by decide) ?_ | refine rA_f ?_)) (by repeat' (first | assumption | exact rF_eq | refine rF_ne (by decide) ?_ | refine rF_a ?_ | exact rA_eq | refine rA_ne (by decide) ?_ | refine rA_f ?_)) ?_
      refine g_iret dX7_count_100 rfl (rfl) (hQ _ _ ?_)
      exact ⟨rfl, rfl⟩
    · refine g_tabIn (tgt := 101) dX7_count_1 (by decide) (by decide) (off := 100) (by decide) (by decide) ?_
      refine g_aload_n (i := 0) dX7_count_101 rfl rfl ?_
      refine g_get dX7_count_102 fl_X7_24 (by repeat' (first | assumption | exact rF_eq | refine rF_ne (by decide) ?_ | refine rF_a ?_ | exact rA_eq | refine rA_ne (by decide) ?_ | refine rA_f ?_)) (by repeat' (first | assumption | exact rF_eq | refine rF_ne (by decide) ?_ | refine rF_a ?_ | exact rA_eq | refine rA_ne (by decide) ?_ | refine rA_f ?_)) ?_
      refine g_iret dX7_count_105 rfl (rfl) (hQ _ _ ?_)
      exact ⟨rfl, rfl⟩
  · rw [opCount_out hx] at hQ
    refine g_tabOut (tgt := 106) dX7_count_1 (by omega) (by decide) ?_
    refine g_ldc dX7_count_106 kc_X7_94 ?_
    refine g_iret dX7_count_108 rfl (rfl) (hQ _ _ ?_)
    exact ⟨rfl, rfl⟩
theorem pres_cnt (ln : Nat → Int32) (m : Nat) : ∀ k, pres ln (k + m) = pres ln k + cnt (fun s => decide (0 ≤ (ln s).toInt)) m k := by
  induction m with
  | zero => intro k; rfl
  | succ m ih =>
    intro k
    rw [show k + (m + 1) = (k + 1) + m by omega, ih (k + 1), pres]
    by_cases q : (ln k).toInt < 0
    · rw [if_pos q, cnt_f (by simp [q]), Nat.add_zero]
    · rw [if_neg q, cnt_t (decide_eq_true (by omega))]; omega
theorem cnt_c {p q : Nat → Bool} : ∀ n k, (∀ i, k ≤ i → i < k + n → p i = q i) → cnt p n k = cnt q n k
  | 0, _, _ => rfl
  | n + 1, k, h => by unfold cnt; rw [h k (by omega) (by omega), cnt_c n (k + 1) (fun i h1 h2 => h i (by omega) (by omega))]
theorem m_count {w : SH} {T : TS} {G : GL2} {E : ST2} {P : TP} {ln pn : Int32} (hG : WfG G) {h : HH} (gs : GSM w h) (gt : GTM T h) (go : GOM G h) (ge : GEM E h) (gp : GPM P h) (gq : PcM ln pn h) (x : Int32) : CT mX8_count 0 0 0 [.ref 44, .int x] h (fun r h' => r = some (.int (opCount w T G E P.1 ln pn x)) ∧ h' = sF h 44 0 (.int 0)) := by
  obtain ⟨lnn, sz, it, h2, ⟨e1, e2, e3, e4, e5, e6, e7⟩, hE⟩ := gs
  obtain ⟨-, d2, d3, d4, d5⟩ := ge
  obtain ⟨-, o2, o3, -⟩ := go
  obtain ⟨-, t1, t2, t3⟩ := gp
  have t5 := gt.2.1
  obtain ⟨p1, p2, th, sd, ls, ps, p3, p4, p5, p6, p7, p8, p9⟩ := gq
  refine CT.go [.ref 44, .int x, hU, hU] (by decide +kernel) rfl rfl (fun Q' hQ => ?_)
  refine g_aload_n (i := 0) dX8_count_0 rfl rfl ?_
  refine g_iconst (v := 0) dX8_count_1 (by decide) ?_
  refine g_put dX8_count_2 pl_X8_107 (by repeat' (first | assumption | exact rF_eq | refine rF_ne (by decide) ?_ | refine rF_a ?_ | exact rA_eq | refine rA_ne (by decide) ?_ | refine rA_f ?_)) (fun _ => ⟨rfl, rfl⟩) ?_
  refine g_iconst (v := 0) dX8_count_5 (by decide) ?_
  refine g_istore_n (i := 2) dX8_count_6 rfl (Nat.le_of_ble_eq_true rfl) rfl ?_
  refine g_iload_n (i := 1) dX8_count_7 rfl rfl ?_
  by_cases hx : 0 ≤ x.toInt ∧ x.toInt < 8
  · obtain ⟨j, hj, rfl, hjt⟩ := n_of (n := 8) hx.1 hx.2
    rcases (by omega : j = 0 ∨ j = 1 ∨ j = 2 ∨ j = 3 ∨ j = 4 ∨ j = 5 ∨ j = 6 ∨ j = 7) with rfl | rfl | rfl | rfl | rfl | rfl | rfl | rfl
    · refine g_tabIn (tgt := 56) dX8_count_8 (by decide) (by decide) (off := 48) (by decide) (by decide) ?_
      have hz : cnt (fun s => decide (0 ≤ (lnn s).toInt)) 8 0 = pres w.2.1 8 := by
        have q1 := pres_cnt w.2.1 8 0
        rw [Nat.zero_add] at q1
        rw [q1, pres, Nat.zero_add]
        exact cnt_c 8 0 (fun i _ hi => by rw [(hE.1 i (by omega)).1])
      have hQ2 : Q' (some (.int (nI (pres w.2.1 8)))) (sF h 44 0 (.int 0)) := hQ _ _ ⟨rfl, rfl⟩
      rw [← hz] at hQ2
      generalize hz : cnt (fun s => decide (0 ≤ (lnn s).toInt)) 8 0 = z at hQ2
      have key : ∀ m k acc : Nat, k + m = 8 → acc ≤ k → acc + cnt (fun s => decide (0 ≤ (lnn s).toInt)) m k = z → GG (EM mX8_count 0 0 0 Q') 0 0 58 [.ref 44, .int 0, .int (nI acc), .int (nI k)] [] (sF h 44 0 (.int 0)) := by
        intro m
        induction m with
        | zero =>
          intro k acc hk ha he
          obtain rfl : acc = z := he
          refine g_iload_n (i := 3) dX8_count_58 rfl rfl ?_
          refine g_bipush (v := 8) dX8_count_59 (by decide) ?_
          refine g_icmp_ge (tgt := 87) dX8_count_61 (by decide) (fun hc61 => ?_) (fun hc61 => ?_)
          · (try simp (disch := omega) only [nT, t_m1000100, t_m1000010, t_m1000003, t_m1000002, t_m1000001, t_m1000000, t_m65535, t_m1000, t_m3, t_m1, t_0, t_1, t_2, t_3, t_4, t_5, t_6, t_7, t_8, t_9, t_10, t_11, t_12, t_13, t_15, t_16, t_20, t_21, t_22, t_32, t_40, t_41, t_48, t_49, t_57, t_59, t_60, t_63, t_72, t_76, t_88, t_100, t_144, t_200, t_255, t_288, t_400, t_800, t_999, t_1000, t_1024, t_1200, t_1600, t_3200, t_100000, t_200000, t_252645135, t_858993459, t_1431655765, u_m1000002, u_m1000001, u_m1000, u_m3, u_m1, u_0, u_1, u_2, u_3, u_4, u_5, u_7, u_8, u_10, u_11, u_15, u_60, u_100, u_255, u_999, u_1000, u_100000, u_4294967295] at hc61)
            refine g_iload_n (i := 2) dX8_count_87 rfl rfl ?_
            exact g_iret dX8_count_88 rfl rfl hQ2
          · (try simp (disch := omega) only [nT, t_m1000100, t_m1000010, t_m1000003, t_m1000002, t_m1000001, t_m1000000, t_m65535, t_m1000, t_m3, t_m1, t_0, t_1, t_2, t_3, t_4, t_5, t_6, t_7, t_8, t_9, t_10, t_11, t_12, t_13, t_15, t_16, t_20, t_21, t_22, t_32, t_40, t_41, t_48, t_49, t_57, t_59, t_60, t_63, t_72, t_76, t_88, t_100, t_144, t_200, t_255, t_288, t_400, t_800, t_999, t_1000, t_1024, t_1200, t_1600, t_3200, t_100000, t_200000, t_252645135, t_858993459, t_1431655765, u_m1000002, u_m1000001, u_m1000, u_m3, u_m1, u_0, u_1, u_2, u_3, u_4, u_5, u_7, u_8, u_10, u_11, u_15, u_60, u_100, u_255, u_999, u_1000, u_100000, u_4294967295] at hc61); omega
        | succ m ih =>
          intro k acc hk ha he
          refine g_iload_n (i := 3) dX8_count_58 rfl rfl ?_
          refine g_bipush (v := 8) dX8_count_59 (by decide) ?_
          refine g_icmp_ge (tgt := 87) dX8_count_61 (by decide) (fun hc61 => ?_) (fun hc61 => ?_)
          · (try simp (disch := omega) only [nT, t_m1000100, t_m1000010, t_m1000003, t_m1000002, t_m1000001, t_m1000000, t_m65535, t_m1000, t_m3, t_m1, t_0, t_1, t_2, t_3, t_4, t_5, t_6, t_7, t_8, t_9, t_10, t_11, t_12, t_13, t_15, t_16, t_20, t_21, t_22, t_32, t_40, t_41, t_48, t_49, t_57, t_59, t_60, t_63, t_72, t_76, t_88, t_100, t_144, t_200, t_255, t_288, t_400, t_800, t_999, t_1000, t_1024, t_1200, t_1600, t_3200, t_100000, t_200000, t_252645135, t_858993459, t_1431655765, u_m1000002, u_m1000001, u_m1000, u_m3, u_m1, u_0, u_1, u_2, u_3, u_4, u_5, u_7, u_8, u_10, u_11, u_15, u_60, u_100, u_255, u_999, u_1000, u_100000, u_4294967295] at hc61); omega
          · (try simp (disch := omega) only [nT, t_m1000100, t_m1000010, t_m1000003, t_m1000002, t_m1000001, t_m1000000, t_m65535, t_m1000, t_m3, t_m1, t_0, t_1, t_2, t_3, t_4, t_5, t_6, t_7, t_8, t_9, t_10, t_11, t_12, t_13, t_15, t_16, t_20, t_21, t_22, t_32, t_40, t_41, t_48, t_49, t_57, t_59, t_60, t_63, t_72, t_76, t_88, t_100, t_144, t_200, t_255, t_288, t_400, t_800, t_999, t_1000, t_1024, t_1200, t_1600, t_3200, t_100000, t_200000, t_252645135, t_858993459, t_1431655765, u_m1000002, u_m1000001, u_m1000, u_m3, u_m1, u_0, u_1, u_2, u_3, u_4, u_5, u_7, u_8, u_10, u_11, u_15, u_60, u_100, u_255, u_999, u_1000, u_100000, u_4294967295] at hc61)
            refine g_iload_n (i := 2) dX8_count_64 rfl rfl ?_
            refine g_aload_n (i := 0) dX8_count_65 rfl rfl ?_
            refine g_get dX8_count_66 fl_X8_7 (by repeat' (first | assumption | exact rF_eq | refine rF_ne (by decide) ?_ | refine rF_a ?_ | exact rA_eq | refine rA_ne (by decide) ?_ | refine rA_f ?_)) (by repeat' (first | assumption | exact rF_eq | refine rF_ne (by decide) ?_ | refine rF_a ?_ | exact rA_eq | refine rA_ne (by decide) ?_ | refine rA_f ?_)) ?_
            refine g_iload_n (i := 3) dX8_count_69 rfl rfl ?_
            refine g_iald dX8_count_70 (by repeat' (first | assumption | exact rF_eq | refine rF_ne (by decide) ?_ | refine rF_a ?_ | exact rA_eq | refine rA_ne (by decide) ?_ | refine rA_f ?_)) (nT (by omega)) (by omega) ?_
            refine g_if_lt (tgt := 78) dX8_count_71 (by decide) (fun hc71 => ?_) (fun hc71 => ?_)
            · (try simp (disch := omega) only [nT, t_m1000100, t_m1000010, t_m1000003, t_m1000002, t_m1000001, t_m1000000, t_m65535, t_m1000, t_m3, t_m1, t_0, t_1, t_2, t_3, t_4, t_5, t_6, t_7, t_8, t_9, t_10, t_11, t_12, t_13, t_15, t_16, t_20, t_21, t_22, t_32, t_40, t_41, t_48, t_49, t_57, t_59, t_60, t_63, t_72, t_76, t_88, t_100, t_144, t_200, t_255, t_288, t_400, t_800, t_999, t_1000, t_1024, t_1200, t_1600, t_3200, t_100000, t_200000, t_252645135, t_858993459, t_1431655765, u_m1000002, u_m1000001, u_m1000, u_m3, u_m1, u_0, u_1, u_2, u_3, u_4, u_5, u_7, u_8, u_10, u_11, u_15, u_60, u_100, u_255, u_999, u_1000, u_100000, u_4294967295] at hc71)
              refine g_iconst (v := 0) dX8_count_78 (by decide) ?_
              refine g_iadd dX8_count_79 ?_
              refine g_istore_n (i := 2) dX8_count_80 rfl (Nat.le_of_ble_eq_true rfl) rfl ?_
              refine g_iinc dX8_count_81 rfl (Nat.le_of_ble_eq_true rfl) rfl ?_
              refine g_goto (tgt := 58) dX8_count_84 (by decide) ?_
              rw [ni_incO]
              first
              | (rw [cnt_t (p := fun s => decide (0 ≤ (lnn s).toInt)) (decide_eq_true (by omega))] at he; rw [ni_inc]; exact ih _ _ (by omega) (by omega) (by omega))
              | (rw [cnt_f (p := fun s => decide (0 ≤ (lnn s).toInt)) (fun q => by have := of_decide_eq_true q; omega)] at he; rw [Int32.add_zero]; exact ih _ _ (by omega) (by omega) (by omega))
            · (try simp (disch := omega) only [nT, t_m1000100, t_m1000010, t_m1000003, t_m1000002, t_m1000001, t_m1000000, t_m65535, t_m1000, t_m3, t_m1, t_0, t_1, t_2, t_3, t_4, t_5, t_6, t_7, t_8, t_9, t_10, t_11, t_12, t_13, t_15, t_16, t_20, t_21, t_22, t_32, t_40, t_41, t_48, t_49, t_57, t_59, t_60, t_63, t_72, t_76, t_88, t_100, t_144, t_200, t_255, t_288, t_400, t_800, t_999, t_1000, t_1024, t_1200, t_1600, t_3200, t_100000, t_200000, t_252645135, t_858993459, t_1431655765, u_m1000002, u_m1000001, u_m1000, u_m3, u_m1, u_0, u_1, u_2, u_3, u_4, u_5, u_7, u_8, u_10, u_11, u_15, u_60, u_100, u_255, u_999, u_1000, u_100000, u_4294967295] at hc71)
              refine g_iconst (v := 1) dX8_count_74 (by decide) ?_
              refine g_goto (tgt := 79) dX8_count_75 (by decide) ?_
              refine g_iadd dX8_count_79 ?_
              refine g_istore_n (i := 2) dX8_count_80 rfl (Nat.le_of_ble_eq_true rfl) rfl ?_
              refine g_iinc dX8_count_81 rfl (Nat.le_of_ble_eq_true rfl) rfl ?_
              refine g_goto (tgt := 58) dX8_count_84 (by decide) ?_
              rw [ni_incO]
              first
              | (rw [cnt_t (p := fun s => decide (0 ≤ (lnn s).toInt)) (decide_eq_true (by omega))] at he; rw [ni_inc]; exact ih _ _ (by omega) (by omega) (by omega))
              | (rw [cnt_f (p := fun s => decide (0 ≤ (lnn s).toInt)) (fun q => by have := of_decide_eq_true q; omega)] at he; rw [Int32.add_zero]; exact ih _ _ (by omega) (by omega) (by omega))
      refine g_iconst (v := 0) dX8_count_56 (by decide) ?_
      refine g_istore_n (i := 3) dX8_count_57 rfl (Nat.le_of_ble_eq_true rfl) rfl ?_
      exact key 8 0 0 (by omega) (by omega) (by rw [Nat.zero_add]; exact hz)
    · refine g_tabIn (tgt := 89) dX8_count_8 (by decide) (by decide) (off := 81) (by decide) (by decide) ?_
      refine g_aload_n (i := 0) dX8_count_89 rfl rfl ?_
      refine g_get dX8_count_90 fl_X8_197 (by repeat' (first | assumption | exact rF_eq | refine rF_ne (by decide) ?_ | refine rF_a ?_ | exact rA_eq | refine rA_ne (by decide) ?_ | refine rA_f ?_)) (by repeat' (first | assumption | exact rF_eq | refine rF_ne (by decide) ?_ | refine rF_a ?_ | exact rA_eq | refine rA_ne (by decide) ?_ | refine rA_f ?_)) ?_
      refine g_iret dX8_count_93 rfl (rfl) (hQ _ _ ?_)
      exact ⟨rfl, rfl⟩
    · refine g_tabIn (tgt := 94) dX8_count_8 (by decide) (by decide) (off := 86) (by decide) (by decide) ?_
      refine g_aload_n (i := 0) dX8_count_94 rfl rfl ?_
      refine g_get dX8_count_95 fl_X8_240 (by repeat' (first | assumption | exact rF_eq | refine rF_ne (by decide) ?_ | refine rF_a ?_ | exact rA_eq | refine rA_ne (by decide) ?_ | refine rA_f ?_)) (by repeat' (first | assumption | exact rF_eq | refine rF_ne (by decide) ?_ | refine rF_a ?_ | exact rA_eq | refine rA_ne (by decide) ?_ | refine rA_f ?_)) ?_
      refine g_iret dX8_count_98 rfl (rfl) (hQ _ _ ?_)
      exact ⟨rfl, rfl⟩
    · refine g_tabIn (tgt := 99) dX8_count_8 (by decide) (by decide) (off := 91) (by decide) (by decide) ?_
      refine g_aload_n (i := 0) dX8_count_99 rfl rfl ?_
      refine g_get dX8_count_100 fl_X8_240 (by repeat' (first | assumption | exact rF_eq | refine rF_ne (by decide) ?_ | refine rF_a ?_ | exact rA_eq | refine rA_ne (by decide) ?_ | refine rA_f ?_)) (by repeat' (first | assumption | exact rF_eq | refine rF_ne (by decide) ?_ | refine rF_a ?_ | exact rA_eq | refine rA_ne (by decide) ?_ | refine rA_f ?_)) ?_
      refine g_aload_n (i := 0) dX8_count_103 rfl rfl ?_
      refine g_get dX8_count_104 fl_X8_284 (by repeat' (first | assumption | exact rF_eq | refine rF_ne (by decide) ?_ | refine rF_a ?_ | exact rA_eq | refine rA_ne (by decide) ?_ | refine rA_f ?_)) (by repeat' (first | assumption | exact rF_eq | refine rF_ne (by decide) ?_ | refine rF_a ?_ | exact rA_eq | refine rA_ne (by decide) ?_ | refine rA_f ?_)) ?_
      refine g_isub dX8_count_107 ?_
      refine g_iret dX8_count_108 rfl (rfl) (hQ _ _ ?_)
      rw [n_sub hG.2]; exact ⟨rfl, rfl⟩
    · refine g_tabIn (tgt := 109) dX8_count_8 (by decide) (by decide) (off := 101) (by decide) (by decide) ?_
      have hQ2 : Q' (some (.int (nI (cnt (pD E) 8 0)))) (sF h 44 0 (.int 0)) := hQ _ _ ⟨rfl, rfl⟩
      generalize hz : cnt (pD E) 8 0 = z at hQ2
      have key : ∀ m k acc : Nat, k + m = 8 → acc ≤ k → acc + cnt (pD E) m k = z → GG (EM mX8_count 0 0 0 Q') 0 0 111 [.ref 44, .int 4, .int (nI acc), .int (nI k)] [] (sF h 44 0 (.int 0)) := by
        intro m
        induction m with
        | zero =>
          intro k acc hk ha he
          obtain rfl : acc = z := he
          refine g_iload_n (i := 3) dX8_count_111 rfl rfl ?_
          refine g_bipush (v := 8) dX8_count_112 (by decide) ?_
          refine g_icmp_ge (tgt := 140) dX8_count_114 (by decide) (fun hc114 => ?_) (fun hc114 => ?_)
          · (try simp (disch := omega) only [nT, t_m1000100, t_m1000010, t_m1000003, t_m1000002, t_m1000001, t_m1000000, t_m65535, t_m1000, t_m3, t_m1, t_0, t_1, t_2, t_3, t_4, t_5, t_6, t_7, t_8, t_9, t_10, t_11, t_12, t_13, t_15, t_16, t_20, t_21, t_22, t_32, t_40, t_41, t_48, t_49, t_57, t_59, t_60, t_63, t_72, t_76, t_88, t_100, t_144, t_200, t_255, t_288, t_400, t_800, t_999, t_1000, t_1024, t_1200, t_1600, t_3200, t_100000, t_200000, t_252645135, t_858993459, t_1431655765, u_m1000002, u_m1000001, u_m1000, u_m3, u_m1, u_0, u_1, u_2, u_3, u_4, u_5, u_7, u_8, u_10, u_11, u_15, u_60, u_100, u_255, u_999, u_1000, u_100000, u_4294967295] at hc114)
            refine g_iload_n (i := 2) dX8_count_140 rfl rfl ?_
            exact g_iret dX8_count_141 rfl rfl hQ2
          · (try simp (disch := omega) only [nT, t_m1000100, t_m1000010, t_m1000003, t_m1000002, t_m1000001, t_m1000000, t_m65535, t_m1000, t_m3, t_m1, t_0, t_1, t_2, t_3, t_4, t_5, t_6, t_7, t_8, t_9, t_10, t_11, t_12, t_13, t_15, t_16, t_20, t_21, t_22, t_32, t_40, t_41, t_48, t_49, t_57, t_59, t_60, t_63, t_72, t_76, t_88, t_100, t_144, t_200, t_255, t_288, t_400, t_800, t_999, t_1000, t_1024, t_1200, t_1600, t_3200, t_100000, t_200000, t_252645135, t_858993459, t_1431655765, u_m1000002, u_m1000001, u_m1000, u_m3, u_m1, u_0, u_1, u_2, u_3, u_4, u_5, u_7, u_8, u_10, u_11, u_15, u_60, u_100, u_255, u_999, u_1000, u_100000, u_4294967295] at hc114); omega
        | succ m ih =>
          intro k acc hk ha he
          refine g_iload_n (i := 3) dX8_count_111 rfl rfl ?_
          refine g_bipush (v := 8) dX8_count_112 (by decide) ?_
          refine g_icmp_ge (tgt := 140) dX8_count_114 (by decide) (fun hc114 => ?_) (fun hc114 => ?_)
          · (try simp (disch := omega) only [nT, t_m1000100, t_m1000010, t_m1000003, t_m1000002, t_m1000001, t_m1000000, t_m65535, t_m1000, t_m3, t_m1, t_0, t_1, t_2, t_3, t_4, t_5, t_6, t_7, t_8, t_9, t_10, t_11, t_12, t_13, t_15, t_16, t_20, t_21, t_22, t_32, t_40, t_41, t_48, t_49, t_57, t_59, t_60, t_63, t_72, t_76, t_88, t_100, t_144, t_200, t_255, t_288, t_400, t_800, t_999, t_1000, t_1024, t_1200, t_1600, t_3200, t_100000, t_200000, t_252645135, t_858993459, t_1431655765, u_m1000002, u_m1000001, u_m1000, u_m3, u_m1, u_0, u_1, u_2, u_3, u_4, u_5, u_7, u_8, u_10, u_11, u_15, u_60, u_100, u_255, u_999, u_1000, u_100000, u_4294967295] at hc114); omega
          · (try simp (disch := omega) only [nT, t_m1000100, t_m1000010, t_m1000003, t_m1000002, t_m1000001, t_m1000000, t_m65535, t_m1000, t_m3, t_m1, t_0, t_1, t_2, t_3, t_4, t_5, t_6, t_7, t_8, t_9, t_10, t_11, t_12, t_13, t_15, t_16, t_20, t_21, t_22, t_32, t_40, t_41, t_48, t_49, t_57, t_59, t_60, t_63, t_72, t_76, t_88, t_100, t_144, t_200, t_255, t_288, t_400, t_800, t_999, t_1000, t_1024, t_1200, t_1600, t_3200, t_100000, t_200000, t_252645135, t_858993459, t_1431655765, u_m1000002, u_m1000001, u_m1000, u_m3, u_m1, u_0, u_1, u_2, u_3, u_4, u_5, u_7, u_8, u_10, u_11, u_15, u_60, u_100, u_255, u_999, u_1000, u_100000, u_4294967295] at hc114)
            refine g_iload_n (i := 2) dX8_count_117 rfl rfl ?_
            refine g_aload_n (i := 0) dX8_count_118 rfl rfl ?_
            refine g_get dX8_count_119 fl_X8_71 (by repeat' (first | assumption | exact rF_eq | refine rF_ne (by decide) ?_ | refine rF_a ?_ | exact rA_eq | refine rA_ne (by decide) ?_ | refine rA_f ?_)) (by repeat' (first | assumption | exact rF_eq | refine rF_ne (by decide) ?_ | refine rF_a ?_ | exact rA_eq | refine rA_ne (by decide) ?_ | refine rA_f ?_)) ?_
            refine g_iload_n (i := 3) dX8_count_122 rfl rfl ?_
            refine g_zald dX8_count_123 (by repeat' (first | assumption | exact rF_eq | refine rF_ne (by decide) ?_ | refine rF_a ?_ | exact rA_eq | refine rA_ne (by decide) ?_ | refine rA_f ?_)) (nT (by omega)) (by omega) ?_
            refine g_if_eq (tgt := 131) dX8_count_124 (by decide) (fun hc124 => ?_) (fun hc124 => ?_)
            · have hd124 := i_eq.mp hc124; (try simp (disch := omega) only [nT, t_m1000100, t_m1000010, t_m1000003, t_m1000002, t_m1000001, t_m1000000, t_m65535, t_m1000, t_m3, t_m1, t_0, t_1, t_2, t_3, t_4, t_5, t_6, t_7, t_8, t_9, t_10, t_11, t_12, t_13, t_15, t_16, t_20, t_21, t_22, t_32, t_40, t_41, t_48, t_49, t_57, t_59, t_60, t_63, t_72, t_76, t_88, t_100, t_144, t_200, t_255, t_288, t_400, t_800, t_999, t_1000, t_1024, t_1200, t_1600, t_3200, t_100000, t_200000, t_252645135, t_858993459, t_1431655765, u_m1000002, u_m1000001, u_m1000, u_m3, u_m1, u_0, u_1, u_2, u_3, u_4, u_5, u_7, u_8, u_10, u_11, u_15, u_60, u_100, u_255, u_999, u_1000, u_100000, u_4294967295] at hd124)
              refine g_iconst (v := 0) dX8_count_131 (by decide) ?_
              refine g_iadd dX8_count_132 ?_
              refine g_istore_n (i := 2) dX8_count_133 rfl (Nat.le_of_ble_eq_true rfl) rfl ?_
              refine g_iinc dX8_count_134 rfl (Nat.le_of_ble_eq_true rfl) rfl ?_
              refine g_goto (tgt := 111) dX8_count_137 (by decide) ?_
              rw [ni_incO]
              first
              | (rw [cnt_t (pD_t.mpr (by assumption))] at he; rw [ni_inc]; exact ih _ _ (by omega) (by omega) (by omega))
              | (rw [cnt_f (fun q => absurd (by assumption) (pD_t.mp q))] at he; rw [Int32.add_zero]; exact ih _ _ (by omega) (by omega) (by omega))
            · have hd124 := mt i_eq.mpr hc124; (try simp (disch := omega) only [nT, t_m1000100, t_m1000010, t_m1000003, t_m1000002, t_m1000001, t_m1000000, t_m65535, t_m1000, t_m3, t_m1, t_0, t_1, t_2, t_3, t_4, t_5, t_6, t_7, t_8, t_9, t_10, t_11, t_12, t_13, t_15, t_16, t_20, t_21, t_22, t_32, t_40, t_41, t_48, t_49, t_57, t_59, t_60, t_63, t_72, t_76, t_88, t_100, t_144, t_200, t_255, t_288, t_400, t_800, t_999, t_1000, t_1024, t_1200, t_1600, t_3200, t_100000, t_200000, t_252645135, t_858993459, t_1431655765, u_m1000002, u_m1000001, u_m1000, u_m3, u_m1, u_0, u_1, u_2, u_3, u_4, u_5, u_7, u_8, u_10, u_11, u_15, u_60, u_100, u_255, u_999, u_1000, u_100000, u_4294967295] at hd124)
              refine g_iconst (v := 1) dX8_count_127 (by decide) ?_
              refine g_goto (tgt := 132) dX8_count_128 (by decide) ?_
              refine g_iadd dX8_count_132 ?_
              refine g_istore_n (i := 2) dX8_count_133 rfl (Nat.le_of_ble_eq_true rfl) rfl ?_
              refine g_iinc dX8_count_134 rfl (Nat.le_of_ble_eq_true rfl) rfl ?_
              refine g_goto (tgt := 111) dX8_count_137 (by decide) ?_
              rw [ni_incO]
              first
              | (rw [cnt_t (pD_t.mpr (by assumption))] at he; rw [ni_inc]; exact ih _ _ (by omega) (by omega) (by omega))
              | (rw [cnt_f (fun q => absurd (by assumption) (pD_t.mp q))] at he; rw [Int32.add_zero]; exact ih _ _ (by omega) (by omega) (by omega))
      refine g_iconst (v := 0) dX8_count_109 (by decide) ?_
      refine g_istore_n (i := 3) dX8_count_110 rfl (Nat.le_of_ble_eq_true rfl) rfl ?_
      exact key 8 0 0 (by omega) (by omega) (by rw [Nat.zero_add]; exact hz)
    · refine g_tabIn (tgt := 142) dX8_count_8 (by decide) (by decide) (off := 134) (by decide) (by decide) ?_
      refine g_aload_n (i := 0) dX8_count_142 rfl rfl ?_
      refine g_get dX8_count_143 fl_X8_192 (by repeat' (first | assumption | exact rF_eq | refine rF_ne (by decide) ?_ | refine rF_a ?_ | exact rA_eq | refine rA_ne (by decide) ?_ | refine rA_f ?_)) (by repeat' (first | assumption | exact rF_eq | refine rF_ne (by decide) ?_ | refine rF_a ?_ | exact rA_eq | refine rA_ne (by decide) ?_ | refine rA_f ?_)) ?_
      refine g_if_eq (tgt := 161) dX8_count_146 (by decide) (fun hc146 => ?_) (fun hc146 => ?_)
      · have hd146 := i_eq.mp hc146; (try simp (disch := omega) only [nT, t_m1000100, t_m1000010, t_m1000003, t_m1000002, t_m1000001, t_m1000000, t_m65535, t_m1000, t_m3, t_m1, t_0, t_1, t_2, t_3, t_4, t_5, t_6, t_7, t_8, t_9, t_10, t_11, t_12, t_13, t_15, t_16, t_20, t_21, t_22, t_32, t_40, t_41, t_48, t_49, t_57, t_59, t_60, t_63, t_72, t_76, t_88, t_100, t_144, t_200, t_255, t_288, t_400, t_800, t_999, t_1000, t_1024, t_1200, t_1600, t_3200, t_100000, t_200000, t_252645135, t_858993459, t_1431655765, u_m1000002, u_m1000001, u_m1000, u_m3, u_m1, u_0, u_1, u_2, u_3, u_4, u_5, u_7, u_8, u_10, u_11, u_15, u_60, u_100, u_255, u_999, u_1000, u_100000, u_4294967295] at hd146)
        obtain rfl : pn = 0 := (p8 (by assumption)).2
        refine g_iconst (v := 0) dX8_count_161 (by decide) ?_
        refine g_iret dX8_count_162 rfl (rfl) (hQ _ _ ?_)
        exact ⟨rfl, rfl⟩
      · have hd146 := mt i_eq.mpr hc146; (try simp (disch := omega) only [nT, t_m1000100, t_m1000010, t_m1000003, t_m1000002, t_m1000001, t_m1000000, t_m65535, t_m1000, t_m3, t_m1, t_0, t_1, t_2, t_3, t_4, t_5, t_6, t_7, t_8, t_9, t_10, t_11, t_12, t_13, t_15, t_16, t_20, t_21, t_22, t_32, t_40, t_41, t_48, t_49, t_57, t_59, t_60, t_63, t_72, t_76, t_88, t_100, t_144, t_200, t_255, t_288, t_400, t_800, t_999, t_1000, t_1024, t_1200, t_1600, t_3200, t_100000, t_200000, t_252645135, t_858993459, t_1431655765, u_m1000002, u_m1000001, u_m1000, u_m3, u_m1, u_0, u_1, u_2, u_3, u_4, u_5, u_7, u_8, u_10, u_11, u_15, u_60, u_100, u_255, u_999, u_1000, u_100000, u_4294967295] at hd146)
        refine g_aload_n (i := 0) dX8_count_149 rfl rfl ?_
        refine g_get dX8_count_150 fl_X8_25 (by repeat' (first | assumption | exact rF_eq | refine rF_ne (by decide) ?_ | refine rF_a ?_ | exact rA_eq | refine rA_ne (by decide) ?_ | refine rA_f ?_)) (by repeat' (first | assumption | exact rF_eq | refine rF_ne (by decide) ?_ | refine rF_a ?_ | exact rA_eq | refine rA_ne (by decide) ?_ | refine rA_f ?_)) ?_
        refine g_aload_n (i := 0) dX8_count_153 rfl rfl ?_
        refine g_get dX8_count_154 fl_X8_171 (by repeat' (first | assumption | exact rF_eq | refine rF_ne (by decide) ?_ | refine rF_a ?_ | exact rA_eq | refine rA_ne (by decide) ?_ | refine rA_f ?_)) (by repeat' (first | assumption | exact rF_eq | refine rF_ne (by decide) ?_ | refine rF_a ?_ | exact rA_eq | refine rA_ne (by decide) ?_ | refine rA_f ?_)) ?_
        refine g_iald dX8_count_157 (by repeat' (first | assumption | exact rF_eq | refine rF_ne (by decide) ?_ | refine rF_a ?_ | exact rA_eq | refine rA_ne (by decide) ?_ | refine rA_f ?_)) (nT (by omega)) (p5) ?_
        rw [← (p9 (by assumption)).2]
        refine g_goto (tgt := 162) dX8_count_158 (by decide) ?_
        refine g_iret dX8_count_162 rfl (rfl) (hQ _ _ ?_)
        exact ⟨rfl, rfl⟩
    · refine g_tabIn (tgt := 163) dX8_count_8 (by decide) (by decide) (off := 155) (by decide) (by decide) ?_
      refine g_aload_n (i := 0) dX8_count_163 rfl rfl ?_
      refine g_get dX8_count_164 fl_X8_192 (by repeat' (first | assumption | exact rF_eq | refine rF_ne (by decide) ?_ | refine rF_a ?_ | exact rA_eq | refine rA_ne (by decide) ?_ | refine rA_f ?_)) (by repeat' (first | assumption | exact rF_eq | refine rF_ne (by decide) ?_ | refine rF_a ?_ | exact rA_eq | refine rA_ne (by decide) ?_ | refine rA_f ?_)) ?_
      refine g_if_eq (tgt := 182) dX8_count_167 (by decide) (fun hc167 => ?_) (fun hc167 => ?_)
      · have hd167 := i_eq.mp hc167; (try simp (disch := omega) only [nT, t_m1000100, t_m1000010, t_m1000003, t_m1000002, t_m1000001, t_m1000000, t_m65535, t_m1000, t_m3, t_m1, t_0, t_1, t_2, t_3, t_4, t_5, t_6, t_7, t_8, t_9, t_10, t_11, t_12, t_13, t_15, t_16, t_20, t_21, t_22, t_32, t_40, t_41, t_48, t_49, t_57, t_59, t_60, t_63, t_72, t_76, t_88, t_100, t_144, t_200, t_255, t_288, t_400, t_800, t_999, t_1000, t_1024, t_1200, t_1600, t_3200, t_100000, t_200000, t_252645135, t_858993459, t_1431655765, u_m1000002, u_m1000001, u_m1000, u_m3, u_m1, u_0, u_1, u_2, u_3, u_4, u_5, u_7, u_8, u_10, u_11, u_15, u_60, u_100, u_255, u_999, u_1000, u_100000, u_4294967295] at hd167)
        obtain rfl : ln = 0 := (p8 (by assumption)).1
        refine g_iconst (v := 0) dX8_count_182 (by decide) ?_
        refine g_iret dX8_count_183 rfl (rfl) (hQ _ _ ?_)
        exact ⟨rfl, rfl⟩
      · have hd167 := mt i_eq.mpr hc167; (try simp (disch := omega) only [nT, t_m1000100, t_m1000010, t_m1000003, t_m1000002, t_m1000001, t_m1000000, t_m65535, t_m1000, t_m3, t_m1, t_0, t_1, t_2, t_3, t_4, t_5, t_6, t_7, t_8, t_9, t_10, t_11, t_12, t_13, t_15, t_16, t_20, t_21, t_22, t_32, t_40, t_41, t_48, t_49, t_57, t_59, t_60, t_63, t_72, t_76, t_88, t_100, t_144, t_200, t_255, t_288, t_400, t_800, t_999, t_1000, t_1024, t_1200, t_1600, t_3200, t_100000, t_200000, t_252645135, t_858993459, t_1431655765, u_m1000002, u_m1000001, u_m1000, u_m3, u_m1, u_0, u_1, u_2, u_3, u_4, u_5, u_7, u_8, u_10, u_11, u_15, u_60, u_100, u_255, u_999, u_1000, u_100000, u_4294967295] at hd167)
        refine g_aload_n (i := 0) dX8_count_170 rfl rfl ?_
        refine g_get dX8_count_171 fl_X8_22 (by repeat' (first | assumption | exact rF_eq | refine rF_ne (by decide) ?_ | refine rF_a ?_ | exact rA_eq | refine rA_ne (by decide) ?_ | refine rA_f ?_)) (by repeat' (first | assumption | exact rF_eq | refine rF_ne (by decide) ?_ | refine rF_a ?_ | exact rA_eq | refine rA_ne (by decide) ?_ | refine rA_f ?_)) ?_
        refine g_aload_n (i := 0) dX8_count_174 rfl rfl ?_
        refine g_get dX8_count_175 fl_X8_171 (by repeat' (first | assumption | exact rF_eq | refine rF_ne (by decide) ?_ | refine rF_a ?_ | exact rA_eq | refine rA_ne (by decide) ?_ | refine rA_f ?_)) (by repeat' (first | assumption | exact rF_eq | refine rF_ne (by decide) ?_ | refine rF_a ?_ | exact rA_eq | refine rA_ne (by decide) ?_ | refine rA_f ?_)) ?_
        refine g_iald dX8_count_178 (by repeat' (first | assumption | exact rF_eq | refine rF_ne (by decide) ?_ | refine rF_a ?_ | exact rA_eq | refine rA_ne (by decide) ?_ | refine rA_f ?_)) (nT (by omega)) (p5) ?_
        rw [← (p9 (by assumption)).1]
        refine g_goto (tgt := 183) dX8_count_179 (by decide) ?_
        refine g_iret dX8_count_183 rfl (rfl) (hQ _ _ ?_)
        exact ⟨rfl, rfl⟩
    · refine g_tabIn (tgt := 184) dX8_count_8 (by decide) (by decide) (off := 176) (by decide) (by decide) ?_
      refine g_aload_n (i := 0) dX8_count_184 rfl rfl ?_
      refine g_get dX8_count_185 fl_X8_133 (by repeat' (first | assumption | exact rF_eq | refine rF_ne (by decide) ?_ | refine rF_a ?_ | exact rA_eq | refine rA_ne (by decide) ?_ | refine rA_f ?_)) (by repeat' (first | assumption | exact rF_eq | refine rF_ne (by decide) ?_ | refine rF_a ?_ | exact rA_eq | refine rA_ne (by decide) ?_ | refine rA_f ?_)) ?_
      refine g_iret dX8_count_188 rfl (rfl) (hQ _ _ ?_)
      exact ⟨rfl, rfl⟩
  · rw [opCount_out hx] at hQ
    refine g_tabOut (tgt := 189) dX8_count_8 (by omega) (by decide) ?_
    refine g_ldc dX8_count_189 kc_X8_126 ?_
    refine g_iret dX8_count_191 rfl (rfl) (hQ _ _ ?_)
    exact ⟨rfl, rfl⟩
theorem x_status {w : SH} {h : HH} (gs : GSX w h) : CT mX7_status 0 0 0 [.ref 0] h (fun r h' => r = some (.int w.1) ∧ h' = h) := by
  obtain ⟨⟨h0, h1, h2⟩, hs⟩ := gs
  refine CT.go [.ref 0] (by decide +kernel) rfl rfl (fun Q' hQ => ?_)
  refine g_aload_n (i := 0) dX7_status_0 rfl rfl ?_
  refine g_get dX7_status_1 fl_X7_16 (by repeat' (first | assumption | exact rF_eq | refine rF_ne (by decide) ?_ | refine rF_a ?_ | exact rA_eq | refine rA_ne (by decide) ?_ | refine rA_f ?_)) (by repeat' (first | assumption | exact rF_eq | refine rF_ne (by decide) ?_ | refine rF_a ?_ | exact rA_eq | refine rA_ne (by decide) ?_ | refine rA_f ?_)) ?_
  refine g_iret dX7_status_4 rfl (rfl) (hQ _ _ ?_)
  exact ⟨rfl, rfl⟩
theorem m_status {w : SH} {h : HH} (gs : GSM w h) : CT mX8_status 0 0 0 [.ref 44] h (fun r h' => r = some (.int w.1) ∧ h' = sF h 44 0 (.int 0)) := by
  obtain ⟨lnn, sz, it, h2, ⟨e1, e2, e3, e4, e5, e6, e7⟩, hE⟩ := gs
  refine CT.go [.ref 44] (by decide +kernel) rfl rfl (fun Q' hQ => ?_)
  refine g_aload_n (i := 0) dX8_status_0 rfl rfl ?_
  refine g_iconst (v := 0) dX8_status_1 (by decide) ?_
  refine g_put dX8_status_2 pl_X8_107 (by repeat' (first | assumption | exact rF_eq | refine rF_ne (by decide) ?_ | refine rF_a ?_ | exact rA_eq | refine rA_ne (by decide) ?_ | refine rA_f ?_)) (fun _ => ⟨rfl, rfl⟩) ?_
  refine g_aload_n (i := 0) dX8_status_5 rfl rfl ?_
  refine g_get dX8_status_6 fl_X8_110 (by repeat' (first | assumption | exact rF_eq | refine rF_ne (by decide) ?_ | refine rF_a ?_ | exact rA_eq | refine rA_ne (by decide) ?_ | refine rA_f ?_)) (by repeat' (first | assumption | exact rF_eq | refine rF_ne (by decide) ?_ | refine rF_a ?_ | exact rA_eq | refine rA_ne (by decide) ?_ | refine rA_f ?_)) ?_
  refine g_iret dX8_status_9 rfl (rfl) (hQ _ _ ?_)
  exact ⟨rfl, rfl⟩
theorem x_fault {f : Int32} {h : HH} (h0 : gA h 0 = aO 7) (h6 : gF h 0 6 = .int f) : CT mX7_fault 0 0 0 [.ref 0] h (fun r h' => r = some (.int f) ∧ h' = h) := by
  refine CT.go [.ref 0] (by decide +kernel) rfl rfl (fun Q' hQ => ?_)
  refine g_aload_n (i := 0) dX7_fault_0 rfl rfl ?_
  refine g_get dX7_fault_1 fl_X7_41 (by repeat' (first | assumption | exact rF_eq | refine rF_ne (by decide) ?_ | refine rF_a ?_ | exact rA_eq | refine rA_ne (by decide) ?_ | refine rA_f ?_)) (by repeat' (first | assumption | exact rF_eq | refine rF_ne (by decide) ?_ | refine rF_a ?_ | exact rA_eq | refine rA_ne (by decide) ?_ | refine rA_f ?_)) ?_
  refine g_iret dX7_fault_4 rfl (rfl) (hQ _ _ ?_)
  exact ⟨rfl, rfl⟩
theorem m_fault {f : Int32} {h : HH} (h0 : gA h 44 = aO 8) (h6 : gF h 44 7 = .int f) : CT mX8_fault 0 0 0 [.ref 44] h (fun r h' => r = some (.int f) ∧ h' = sF h 44 0 (.int 0)) := by
  refine CT.go [.ref 44] (by decide +kernel) rfl rfl (fun Q' hQ => ?_)
  refine g_aload_n (i := 0) dX8_fault_0 rfl rfl ?_
  refine g_iconst (v := 0) dX8_fault_1 (by decide) ?_
  refine g_put dX8_fault_2 pl_X8_107 (by repeat' (first | assumption | exact rF_eq | refine rF_ne (by decide) ?_ | refine rF_a ?_ | exact rA_eq | refine rA_ne (by decide) ?_ | refine rA_f ?_)) (fun _ => ⟨rfl, rfl⟩) ?_
  refine g_aload_n (i := 0) dX8_fault_5 rfl rfl ?_
  refine g_get dX8_fault_6 fl_X8_188 (by repeat' (first | assumption | exact rF_eq | refine rF_ne (by decide) ?_ | refine rF_a ?_ | exact rA_eq | refine rA_ne (by decide) ?_ | refine rA_f ?_)) (by repeat' (first | assumption | exact rF_eq | refine rF_ne (by decide) ?_ | refine rF_a ?_ | exact rA_eq | refine rA_ne (by decide) ?_ | refine rA_f ?_)) ?_
  refine g_iret dX8_fault_9 rfl (rfl) (hQ _ _ ?_)
  exact ⟨rfl, rfl⟩
