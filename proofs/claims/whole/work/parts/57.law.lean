/-! the law: its loop, its start -/
theorem w_inc6 (i : Nat) : nI i + Int32.ofInt 6 = nI (i + 6) := ni_add i 6
theorem law_loop {L : Nat} {xs : Nat → Int32} (hL : L ≤ 3072) : ∀ (m i : Nat) (w : SH) (P : TP) (E : ST2) (A : LA) (T : TS) (R : RS) (G : GL2) (W : WA) (pt : PT) (fl : Int32) (h : HH), L ≤ i + m → i ≤ L + 6 → WF w P A T R G W pt → RX w P E A T R G W pt fl h → RM w P E A T R G W pt fl h → GG (EL L xs) 75 216376 18 [hX, .ref 0, .ref 44, .int (nI i)] [] h := by
  have hLi : (Int32.ofNat L - 6).toInt = (L : Int) - 6 := by
    have h1 : (Int32.ofNat L).toInt = (L : Int) := nT (by omega)
    have h6 : (6 : Int32).toInt = 6 := rfl
    rw [i_sub (by omega) (by omega), h1, h6]
  intro m
  induction m with
  | zero =>
    intro i w P E A T R G W pt fl h hm hi hf hx hmm
    refine g_iload_n (i := 3) dL_law_18 rfl rfl ?_
    refine g_aload_x dL_law_19 rfl rfl ?_
    refine g_slen dL_law_20 xl_3 ?_
    refine g_bipush (v := 6) dL_law_21 (by decide) ?_
    refine g_isub dL_law_23 ?_
    refine g_icmp_gt (tgt := 1312) dL_law_24 (by decide) (fun hc24 => ?_) (fun hc24 => ?_)
    · (try simp (disch := omega) only [nT, t_m1000100, t_m1000010, t_m1000003, t_m1000002, t_m1000001, t_m1000000, t_m65535, t_m1000, t_m3, t_m1, t_0, t_1, t_2, t_3, t_4, t_5, t_6, t_7, t_8, t_9, t_10, t_11, t_12, t_13, t_15, t_16, t_20, t_21, t_22, t_32, t_40, t_41, t_48, t_49, t_57, t_59, t_60, t_63, t_72, t_76, t_88, t_100, t_144, t_200, t_255, t_288, t_400, t_800, t_999, t_1000, t_1024, t_1200, t_1600, t_3200, t_100000, t_200000, t_252645135, t_858993459, t_1431655765, u_m1000002, u_m1000001, u_m1000, u_m3, u_m1, u_0, u_1, u_2, u_3, u_4, u_5, u_7, u_8, u_10, u_11, u_15, u_60, u_100, u_255, u_999, u_1000, u_100000, u_4294967295] at hc24)
      refine g_iconst (v := 1) dL_law_1312 (by decide) ?_
      exact g_lawret dL_law_1313 (by decide) (by decide)
    · (try simp (disch := omega) only [nT, t_m1000100, t_m1000010, t_m1000003, t_m1000002, t_m1000001, t_m1000000, t_m65535, t_m1000, t_m3, t_m1, t_0, t_1, t_2, t_3, t_4, t_5, t_6, t_7, t_8, t_9, t_10, t_11, t_12, t_13, t_15, t_16, t_20, t_21, t_22, t_32, t_40, t_41, t_48, t_49, t_57, t_59, t_60, t_63, t_72, t_76, t_88, t_100, t_144, t_200, t_255, t_288, t_400, t_800, t_999, t_1000, t_1024, t_1200, t_1600, t_3200, t_100000, t_200000, t_252645135, t_858993459, t_1431655765, u_m1000002, u_m1000001, u_m1000, u_m3, u_m1, u_0, u_1, u_2, u_3, u_4, u_5, u_7, u_8, u_10, u_11, u_15, u_60, u_100, u_255, u_999, u_1000, u_100000, u_4294967295] at hc24); omega
  | succ m ih =>
    intro i w P E A T R G W pt fl h hm hi hf hx hmm
    have K : ∀ (w : SH) (P : TP) (E : ST2) (A : LA) (T : TS) (R : RS) (G : GL2) (W : WA) (pt : PT) (fl : Int32) (h' : HH), i + 6 ≤ L → WF w P A T R G W pt → RX w P E A T R G W pt fl h' → RM w P E A T R G W pt fl h' → GG (EL L xs) 75 216376 1306 [hX, .ref 0, .ref 44, .int (nI i)] [] h' := by
      intro w P E A T R G W pt fl h' h6 hf hx hmm
      refine g_iinc dL_law_1306 rfl (Nat.le_of_ble_eq_true rfl) rfl ?_
      refine g_goto (tgt := 18) dL_law_1309 (by decide) ?_
      rw [w_inc6]
      exact ih (i + 6) w P E A T R G W pt fl h' (by omega) (by omega) hf hx hmm
    refine g_iload_n (i := 3) dL_law_18 rfl rfl ?_
    refine g_aload_x dL_law_19 rfl rfl ?_
    refine g_slen dL_law_20 xl_3 ?_
    refine g_bipush (v := 6) dL_law_21 (by decide) ?_
    refine g_isub dL_law_23 ?_
    refine g_icmp_gt (tgt := 1312) dL_law_24 (by decide) (fun hc24 => ?_) (fun hc24 => ?_)
    · (try simp (disch := omega) only [nT, t_m1000100, t_m1000010, t_m1000003, t_m1000002, t_m1000001, t_m1000000, t_m65535, t_m1000, t_m3, t_m1, t_0, t_1, t_2, t_3, t_4, t_5, t_6, t_7, t_8, t_9, t_10, t_11, t_12, t_13, t_15, t_16, t_20, t_21, t_22, t_32, t_40, t_41, t_48, t_49, t_57, t_59, t_60, t_63, t_72, t_76, t_88, t_100, t_144, t_200, t_255, t_288, t_400, t_800, t_999, t_1000, t_1024, t_1200, t_1600, t_3200, t_100000, t_200000, t_252645135, t_858993459, t_1431655765, u_m1000002, u_m1000001, u_m1000, u_m3, u_m1, u_0, u_1, u_2, u_3, u_4, u_5, u_7, u_8, u_10, u_11, u_15, u_60, u_100, u_255, u_999, u_1000, u_100000, u_4294967295] at hc24)
      refine g_iconst (v := 1) dL_law_1312 (by decide) ?_
      exact g_lawret dL_law_1313 (by decide) (by decide)
    · (try simp (disch := omega) only [nT, t_m1000100, t_m1000010, t_m1000003, t_m1000002, t_m1000001, t_m1000000, t_m65535, t_m1000, t_m3, t_m1, t_0, t_1, t_2, t_3, t_4, t_5, t_6, t_7, t_8, t_9, t_10, t_11, t_12, t_13, t_15, t_16, t_20, t_21, t_22, t_32, t_40, t_41, t_48, t_49, t_57, t_59, t_60, t_63, t_72, t_76, t_88, t_100, t_144, t_200, t_255, t_288, t_400, t_800, t_999, t_1000, t_1024, t_1200, t_1600, t_3200, t_100000, t_200000, t_252645135, t_858993459, t_1431655765, u_m1000002, u_m1000001, u_m1000, u_m3, u_m1, u_0, u_1, u_2, u_3, u_4, u_5, u_7, u_8, u_10, u_11, u_15, u_60, u_100, u_255, u_999, u_1000, u_100000, u_4294967295] at hc24)
      refine g_aload_x dL_law_27 rfl rfl ?_
      refine g_iload_n (i := 3) dL_law_28 rfl rfl ?_
      refine g_sld dL_law_29 xl_3 (nT (by omega)) (by omega) ?_
      refine g_bipush (v := 63) dL_law_30 (by decide) ?_
      refine g_iand dL_law_32 ?_
      have h6 : i + 6 ≤ L := by omega
      have K6 := fun w P E A T R G W pt fl h' => K w P E A T R G W pt fl h' h6
      obtain ⟨j, hj, e⟩ := pk_andE (xs i) (m := 63) 6 (by decide)
      rw [e]
      have hjt := @nT j (by omega)
      by_cases hj35 : j < 35
      · rcases (by omega : j = 0 ∨ j = 1 ∨ j = 2 ∨ j = 3 ∨ j = 4 ∨ j = 5 ∨ j = 6 ∨ j = 7 ∨ j = 8 ∨ j = 9 ∨ j = 10 ∨ j = 11 ∨ j = 12 ∨ j = 13 ∨ j = 14 ∨ j = 15 ∨ j = 16 ∨ j = 17 ∨ j = 18 ∨ j = 19 ∨ j = 20 ∨ j = 21 ∨ j = 22 ∨ j = 23 ∨ j = 24 ∨ j = 25 ∨ j = 26 ∨ j = 27 ∨ j = 28 ∨ j = 29 ∨ j = 30 ∨ j = 31 ∨ j = 32 ∨ j = 33 ∨ j = 34) with rfl | rfl | rfl | rfl | rfl | rfl | rfl | rfl | rfl | rfl | rfl | rfl | rfl | rfl | rfl | rfl | rfl | rfl | rfl | rfl | rfl | rfl | rfl | rfl | rfl | rfl | rfl | rfl | rfl | rfl | rfl | rfl | rfl | rfl | rfl
        · exact g_tabIn (tgt := 188) dL_law_33 (by decide) (by decide) (off := 155) (by decide) (by decide) (lw_c_sheet h6 hL hf hx hmm K6)
        · exact g_tabIn (tgt := 231) dL_law_33 (by decide) (by decide) (off := 198) (by decide) (by decide) (lw_c_set h6 hL hf hx hmm K6)
        · exact g_tabIn (tgt := 274) dL_law_33 (by decide) (by decide) (off := 241) (by decide) (by decide) (lw_c_copy h6 hL hf hx hmm K6)
        · exact g_tabIn (tgt := 337) dL_law_33 (by decide) (by decide) (off := 304) (by decide) (by decide) (lw_c_drop h6 hL hf hx hmm K6)
        · exact g_tabIn (tgt := 360) dL_law_33 (by decide) (by decide) (off := 327) (by decide) (by decide) (lw_c_feed h6 hL hf hx hmm K6)
        · exact g_tabIn (tgt := 423) dL_law_33 (by decide) (by decide) (off := 390) (by decide) (by decide) (lw_c_pattern h6 hL hf hx hmm K6)
        · exact g_tabIn (tgt := 436) dL_law_33 (by decide) (by decide) (off := 403) (by decide) (by decide) (lw_c_fault h6 hL hf hx hmm K6)
        · exact g_tabIn (tgt := 449) dL_law_33 (by decide) (by decide) (off := 416) (by decide) (by decide) (lw_c_sign h6 hL hf hx hmm K6)
        · exact g_tabIn (tgt := 482) dL_law_33 (by decide) (by decide) (off := 449) (by decide) (by decide) (lw_c_compare h6 hL hf hx hmm K6)
        · exact g_tabIn (tgt := 515) dL_law_33 (by decide) (by decide) (off := 482) (by decide) (by decide) (lw_c_test h6 hL hf hx hmm K6)
        · exact g_tabIn (tgt := 568) dL_law_33 (by decide) (by decide) (off := 535) (by decide) (by decide) (lw_c_move h6 hL hf hx hmm K6)
        · exact g_tabIn (tgt := 601) dL_law_33 (by decide) (by decide) (off := 568) (by decide) (by decide) (lw_c_flow h6 hL hf hx hmm K6)
        · exact g_tabIn (tgt := 624) dL_law_33 (by decide) (by decide) (off := 591) (by decide) (by decide) (lw_c_kind h6 hL hf hx hmm K6)
        · exact g_tabIn (tgt := 647) dL_law_33 (by decide) (by decide) (off := 614) (by decide) (by decide) (lw_c_as h6 hL hf hx hmm K6)
        · exact g_tabIn (tgt := 680) dL_law_33 (by decide) (by decide) (off := 647) (by decide) (by decide) (lw_c_ask h6 hL hf hx hmm K6)
        · exact g_tabIn (tgt := 713) dL_law_33 (by decide) (by decide) (off := 680) (by decide) (by decide) (lw_c_trace h6 hL hf hx hmm K6)
        · exact g_tabIn (tgt := 736) dL_law_33 (by decide) (by decide) (off := 703) (by decide) (by decide) (lw_c_seat h6 hL hf hx hmm K6)
        · exact g_tabIn (tgt := 769) dL_law_33 (by decide) (by decide) (off := 736) (by decide) (by decide) (lw_c_dead h6 hL hf hx hmm K6)
        · exact g_tabIn (tgt := 792) dL_law_33 (by decide) (by decide) (off := 759) (by decide) (by decide) (lw_c_law h6 hL hf hx hmm K6)
        · exact g_tabIn (tgt := 825) dL_law_33 (by decide) (by decide) (off := 792) (by decide) (by decide) (lw_c_chip h6 hL hf hx hmm K6)
        · exact g_tabIn (tgt := 858) dL_law_33 (by decide) (by decide) (off := 825) (by decide) (by decide) (lw_c_told h6 hL hf hx hmm K6)
        · exact g_tabIn (tgt := 891) dL_law_33 (by decide) (by decide) (off := 858) (by decide) (by decide) (lw_c_share h6 hL hf hx hmm K6)
        · exact g_tabIn (tgt := 924) dL_law_33 (by decide) (by decide) (off := 891) (by decide) (by decide) (lw_c_mean h6 hL hf hx hmm K6)
        · exact g_tabIn (tgt := 938) dL_law_33 (by decide) (by decide) (off := 905) (by decide) (by decide) (lw_c_order h6 hL hf hx hmm K6)
        · exact g_tabIn (tgt := 952) dL_law_33 (by decide) (by decide) (off := 919) (by decide) (by decide) (lw_c_edge h6 hL hf hx hmm K6)
        · exact g_tabIn (tgt := 1005) dL_law_33 (by decide) (by decide) (off := 972) (by decide) (by decide) (lw_c_die h6 hL hf hx hmm K6)
        · exact g_tabIn (tgt := 1058) dL_law_33 (by decide) (by decide) (off := 1025) (by decide) (by decide) (lw_c_odd h6 hL hf hx hmm K6)
        · exact g_tabIn (tgt := 1101) dL_law_33 (by decide) (by decide) (off := 1068) (by decide) (by decide) (lw_c_join h6 hL hf hx hmm K6)
        · exact g_tabIn (tgt := 1144) dL_law_33 (by decide) (by decide) (off := 1111) (by decide) (by decide) (lw_c_best h6 hL hf hx hmm K6)
        · exact g_tabIn (tgt := 1167) dL_law_33 (by decide) (by decide) (off := 1134) (by decide) (by decide) (lw_c_lot h6 hL hf hx hmm K6)
        · exact g_tabIn (tgt := 1180) dL_law_33 (by decide) (by decide) (off := 1147) (by decide) (by decide) (lw_c_bins h6 hL hf hx hmm K6)
        · exact g_tabIn (tgt := 1203) dL_law_33 (by decide) (by decide) (off := 1170) (by decide) (by decide) (lw_c_held h6 hL hf hx hmm K6)
        · exact g_tabIn (tgt := 1236) dL_law_33 (by decide) (by decide) (off := 1203) (by decide) (by decide) (lw_c_chance h6 hL hf hx hmm K6)
        · exact g_tabIn (tgt := 1270) dL_law_33 (by decide) (by decide) (off := 1237) (by decide) (by decide) (lw_c_count h6 hL hf hx hmm K6)
        · exact g_tabIn (tgt := 1293) dL_law_33 (by decide) (by decide) (off := 1260) (by decide) (by decide) (lw_c_status h6 hL hf hx hmm K6)
      · exact g_tabOut (tgt := 1306) dL_law_33 (by omega) (by decide) (K6 w P E A T R G W pt fl h hf hx hmm)
set_option maxRecDepth 100000 in
theorem law_start {L : Nat} {xs : Nat → Int32} (hL : L ≤ 3072) : GG (EL L xs) 0 0 0 [hX, hU, hU, hU] [] hE := by
  refine g_new (c := 7) (V := VX7) tyX7 dL_law_0 rfl tyX7_ok hVX7 kl_L_7 ki_X7 kn_X7 ⟨Nat.le_of_ble_eq_true rfl, Nat.le_of_ble_eq_true rfl⟩ ?_
  refine g_dup dL_law_3 rfl ?_
  refine g_callI dL_law_4 lc_X7_init rfl ml_L_9 (c_X7_init_0 hE rfl) rfl rfl ⟨Nat.le_of_ble_eq_true rfl, Nat.le_of_ble_eq_true rfl, Nat.le_of_ble_eq_true rfl, Nat.le_of_ble_eq_true rfl⟩ (Nat.le_of_ble_eq_true rfl) ?_
  intro r_ h_ q_; obtain ⟨q1_, q2_⟩ := q_; have q2_ := q2_.symm; subst q1_; subst q2_
  refine g_astore_n (i := 1) dL_law_7 rfl (Nat.le_of_ble_eq_true rfl) rfl ?_
  show GG _ 44 9277 8 [hX, .ref 0, hU, hU] [] h1E
  refine g_new (c := 8) (V := VX8) tyX8 dL_law_8 rfl tyX8_ok hVX8 kl_L_10 ki_X8 kn_X8 ⟨Nat.le_of_ble_eq_true rfl, Nat.le_of_ble_eq_true rfl⟩ ?_
  refine g_dup dL_law_11 rfl ?_
  refine g_callI dL_law_12 lc_X8_init rfl ml_L_12 (c_X8_init_44 h1E rfl) rfl rfl ⟨Nat.le_of_ble_eq_true rfl, Nat.le_of_ble_eq_true rfl, Nat.le_of_ble_eq_true rfl, Nat.le_of_ble_eq_true rfl⟩ (Nat.le_of_ble_eq_true rfl) ?_
  intro r_ h_ q_; obtain ⟨q1_, q2_⟩ := q_; have q2_ := q2_.symm; subst q1_; subst q2_
  refine g_astore_n (i := 2) dL_law_15 rfl (Nat.le_of_ble_eq_true rfl) rfl ?_
  refine g_iconst (v := 0) dL_law_16 (by decide) ?_
  refine g_istore_n (i := 3) dL_law_17 rfl (Nat.le_of_ble_eq_true rfl) rfl ?_
  show GG _ 75 216376 18 [hX, .ref 0, .ref 44, .int (nI 0)] [] h2E
  exact law_loop hL L 0 _ _ _ _ _ _ _ _ _ _ _ (by omega) (by omega) wf_0 (rx_hi rx_0 hi_0) rm_0
theorem whole_start {p : Program} {e : Env} {s : State} {m : MethodId} {below : List Frame} {meth : Method} {c : Code} (l : Launch) (hflags : l.flags = flags0) {b L : Nat} {xs : Nat → Int32} (hL : L ≤ 3072) (C0 : lw_At p s m meth c b L xs) : W p l e room_1 s m #[Value.ref b] below meth c s.heap [] 0 0 (lw_Z below #[Value.ref b] s) (entryFrame m ([Value.ref b] : List Value).toArray 4) := law_entry C0 (law_start hL)
