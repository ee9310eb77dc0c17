/-! compare of the class -/
def cmS (tp : Nat → Int32) (it : Nat → Int32) (pn : Nat) : List Nat → Nat → Nat
  | [], _ => 0
  | q :: M, c => cnt (wrB tp (it c) q) pn 0 + cmS tp it pn M (c + 1)
def cmF (tp : Nat → Int32) (it : Nat → Int32) (pn : Nat) : List Nat → Nat → Option (Nat × Nat)
  | [], _ => none
  | q :: M, c => match fsB (wrB tp (it c) q) pn 0 with
    | some p => some (c, p)
    | none => cmF tp it pn M (c + 1)
theorem cmF_s {tp it : Nat → Int32} {pn q c p : Nat} {M : List Nat} (h : fsB (wrB tp (it c) q) pn 0 = some p) : cmF tp it pn (q :: M) c = some (c, p) := by unfold cmF; rw [h]
theorem cmF_n {tp it : Nat → Int32} {pn q c : Nat} {M : List Nat} (h : fsB (wrB tp (it c) q) pn 0 = none) : cmF tp it pn (q :: M) c = cmF tp it pn M (c + 1) := by rw [cmF, h]
def oC (b : Bool) : Option (Nat × Nat) → Int32
  | none => -1000000
  | some x => if b = true then nI x.2 else nI x.1
def opCmp (w : SH) (pt : PT) (s a : Int32) : Int32 × Int32 :=
  if ¬ (0 ≤ s.toInt ∧ s.toInt < 8) ∨ ¬ (0 ≤ a.toInt ∧ a.toInt < 3) then (-1000001, w.1)
  else if pt.2.2.1.length = 0 then (-1000002, w.1)
  else if (w.2.1 s.toInt.toNat).toInt < 0 then (fnd 1, 1)
  else if (w.2.2.1 s.toInt.toNat).toInt = 0 then (fnd 2, 2)
  else (if a.toInt = 2 then nI (cmS pt.2.2.2 (fun c => w.2.2.2 (100 * s.toInt.toNat + c % (w.2.2.1 s.toInt.toNat).toInt.toNat)) pt.2.1 pt.2.2.1 0)
    else oC (decide (a.toInt = 1)) (cmF pt.2.2.2 (fun c => w.2.2.2 (100 * s.toInt.toNat + c % (w.2.2.1 s.toInt.toNat).toInt.toNat)) pt.2.1 pt.2.2.1 0), 0)
theorem gB_c {P Q : Nat → Bool} : ∀ n, (∀ i, i < n → P i = Q i) → gB P n = gB Q n
  | 0, _ => rfl
  | n + 1, h => by unfold gB; rw [h n (by omega), gB_c n (fun i hi => h i (by omega))]
theorem shx_fw {P : Nat} {h h' : HH} {ln sz it : Nat → Int32} (hP : P = 7 ∨ P = 18) (hs : ShX h ln sz it) (f : FrW P h h') : ShX h' ln sz it := by
  obtain ⟨e1, e2, e3, e4, e5, e6, e7⟩ := hs
  exact ⟨(f.1 1 (by omega)).trans e1, (f.2 1 0 (by omega)).trans e2, (f.2 1 1 (by omega)).trans e3, (f.2 1 2 (by omega)).trans e4, (f.1 2 (by omega)).trans e5, (f.1 3 (by omega)).trans e6, (f.1 4 (by omega)).trans e7⟩
/-- what stands of the LINE of step s -/
def LnP (tx lk lo hi tp : Nat → Int32) (pn s : Nat) : Prop := s < 400 ∧ lo s = nI (pwB 76 tx (lkP lk s) pn) ∧ hi s = nI (pwB 72 tx (lkP lk s) pn) ∧ ∀ j, j < pn → tx (lkP lk s + j) = tp (lkP lk s + j)
section CmpX
variable {P sz pn : Nat} {tx rl lk tm wi lo hi tp : Nat → Int32} {pnI nl : Int32}
theorem c_wrongPins {h : HH} {tu : Nat → Int32} {ws : Int32} (hs : StX h P tx rl lk tm wi lo hi tu sz ws pnI nl) (hn : pn ≤ 8) {s : Nat} (hl : LnP tx lk lo hi tp pn s) (v : Int32) : CT mX2_wrongPins 0 0 0 [.ref P, .int (nI s), .int v] h (fun r h' => r = some (.int (nI (gB (wrB tp v (lkP lk s)) pn))) ∧ h' = h) := by
  obtain ⟨e0, e1, e2, e3, e4, e5, e6, e7, e8, a1, a2, a3, a4, a5, a6, a7, a8, f8, f9, f10, f11⟩ := hs
  obtain ⟨l1, l2, l3, l4⟩ := hl
  have hm := mask_e tx v (lkP lk s) hn
  rw [gB_c (Q := wrB tp v (lkP lk s)) pn (fun i hi => by unfold wrB; rw [l4 i hi])] at hm
  refine CT.go [.ref P, .int (nI s), .int v] (by decide +kernel) rfl rfl (fun Q' hQ => ?_)
  refine g_iload_n (i := 1) dX2_wrongPins_0 rfl rfl ?_
  refine g_ldc dX2_wrongPins_1 kc_X2_62 ?_
  refine g_icmp_ne (tgt := 10) dX2_wrongPins_3 (by decide) (fun hc3 => ?_) (fun hc3 => ?_)
  · have hd3 := mt i_eq.mpr hc3; (try simp (disch := omega) only [nT, t_m1000100, t_m1000010, t_m1000003, t_m1000002, t_m1000001, t_m1000000, t_m65535, t_m1000, t_m3, t_m1, t_0, t_1, t_2, t_3, t_4, t_5, t_6, t_7, t_8, t_9, t_10, t_11, t_12, t_13, t_15, t_16, t_20, t_21, t_22, t_32, t_40, t_41, t_48, t_49, t_57, t_59, t_60, t_63, t_72, t_76, t_88, t_100, t_144, t_200, t_255, t_288, t_400, t_800, t_999, t_1000, t_1024, t_1200, t_1600, t_3200, t_100000, t_200000, t_252645135, t_858993459, t_1431655765, u_m1000002, u_m1000001, u_m1000, u_m3, u_m1, u_0, u_1, u_2, u_3, u_4, u_5, u_7, u_8, u_10, u_11, u_15, u_60, u_100, u_255, u_999, u_1000, u_100000, u_4294967295] at hd3)
    refine g_iload_n (i := 2) dX2_wrongPins_10 rfl rfl ?_
    refine g_aload_n (i := 0) dX2_wrongPins_11 rfl rfl ?_
    refine g_get dX2_wrongPins_12 fl_X2_27 (by repeat' (first | assumption | exact rF_eq | (apply rF_nj; focus decide) | (apply rF_nk; focus omega) | refine rF_a ?_ | exact rA_eq | refine rA_ne (by omega) ?_ | refine rA_f ?_)) (by repeat' (first | assumption | exact rF_eq | (apply rF_nj; focus decide) | (apply rF_nk; focus omega) | refine rF_a ?_ | exact rA_eq | refine rA_ne (by omega) ?_ | refine rA_f ?_)) ?_
    refine g_iload_n (i := 1) dX2_wrongPins_15 rfl rfl ?_
    refine g_iald dX2_wrongPins_16 (by repeat' (first | assumption | exact rF_eq | (apply rF_nj; focus decide) | (apply rF_nk; focus omega) | refine rF_a ?_ | exact rA_eq | refine rA_ne (by omega) ?_ | refine rA_f ?_)) (nT (by omega)) (by omega) ?_
    rw [l2]
    refine g_iand dX2_wrongPins_17 ?_
    refine g_iload_n (i := 2) dX2_wrongPins_18 rfl rfl ?_
    refine g_iconst (v := (-1)) dX2_wrongPins_19 (by decide) ?_
    refine g_ixor dX2_wrongPins_20 ?_
    refine g_aload_n (i := 0) dX2_wrongPins_21 rfl rfl ?_
    refine g_get dX2_wrongPins_22 fl_X2_30 (by repeat' (first | assumption | exact rF_eq | (apply rF_nj; focus decide) | (apply rF_nk; focus omega) | refine rF_a ?_ | exact rA_eq | refine rA_ne (by omega) ?_ | refine rA_f ?_)) (by repeat' (first | assumption | exact rF_eq | (apply rF_nj; focus decide) | (apply rF_nk; focus omega) | refine rF_a ?_ | exact rA_eq | refine rA_ne (by omega) ?_ | refine rA_f ?_)) ?_
    refine g_iload_n (i := 1) dX2_wrongPins_25 rfl rfl ?_
    refine g_iald dX2_wrongPins_26 (by repeat' (first | assumption | exact rF_eq | (apply rF_nj; focus decide) | (apply rF_nk; focus omega) | refine rF_a ?_ | exact rA_eq | refine rA_ne (by omega) ?_ | refine rA_f ?_)) (nT (by omega)) (by omega) ?_
    rw [l3]
    refine g_iand dX2_wrongPins_27 ?_
    refine g_ior dX2_wrongPins_28 ?_
    rw [hm]
    refine g_iret dX2_wrongPins_29 rfl (rfl) (hQ _ _ ?_)
    exact ⟨rfl, rfl⟩
  · have hd3 := i_eq.mp hc3; (try simp (disch := omega) only [nT, t_m1000100, t_m1000010, t_m1000003, t_m1000002, t_m1000001, t_m1000000, t_m65535, t_m1000, t_m3, t_m1, t_0, t_1, t_2, t_3, t_4, t_5, t_6, t_7, t_8, t_9, t_10, t_11, t_12, t_13, t_15, t_16, t_20, t_21, t_22, t_32, t_40, t_41, t_48, t_49, t_57, t_59, t_60, t_63, t_72, t_76, t_88, t_100, t_144, t_200, t_255, t_288, t_400, t_800, t_999, t_1000, t_1024, t_1200, t_1600, t_3200, t_100000, t_200000, t_252645135, t_858993459, t_1431655765, u_m1000002, u_m1000001, u_m1000, u_m3, u_m1, u_0, u_1, u_2, u_3, u_4, u_5, u_7, u_8, u_10, u_11, u_15, u_60, u_100, u_255, u_999, u_1000, u_100000, u_4294967295] at hd3); have q9 := congrArg Int32.toInt (show nI s = -1000000 from hc3); rw [nT (by omega), t_m1000000] at q9; omega
theorem c_wrongPinsNext {h : HH} {ln so it : Nat → Int32} (h0 : gA h 0 = aO 7) (h1 : gF h 0 0 = .ref 1) (h5 : gF h 0 5 = .ref P) (hS : ShX h ln so it) (hP : P = 7 ∨ P = 18) (hz : sz ≤ 400) (hn : pn ≤ 8) {s : Nat} {L : List Nat} (hw : WkS P tx rl lk tm wi lo hi sz pnI nl (s :: L) h) (hl : LnP tx lk lo hi tp pn s) {A N c : Nat} (hA : A < 8) (hN : so A = nI N) (hN1 : 0 < N) (hN2 : N ≤ 100) (hc : c < 2147483648) : CT mX7_wrongPinsNext 2 0 0 [.ref 0, .int (nI A), .int (nI c)] h (fun r h' => r = some (.int (nI (gB (wrB tp (it (100 * A + c % N)) (lkP lk s)) pn))) ∧ WkS P tx rl lk tm wi lo hi sz pnI nl L h' ∧ FrW P h h') := by
  obtain ⟨e1, e2, e3, e4, e5, e6, e7⟩ := id hS
  obtain ⟨tu, K, a, f, L1, R, hs, -⟩ := id hw
  have aP := hs.1
  have hmod := Nat.mod_lt c hN1
  refine CT.go [.ref 0, .int (nI A), .int (nI c), hU] (by decide +kernel) rfl rfl (fun Q' hQ => ?_)
  refine g_aload_n (i := 0) dX7_wrongPinsNext_0 rfl rfl ?_
  refine g_get dX7_wrongPinsNext_1 fl_X7_10 (by repeat' (first | assumption | exact rF_eq | refine rF_ne (by decide) ?_ | refine rF_a ?_ | exact rA_eq | refine rA_ne (by decide) ?_ | refine rA_f ?_)) (by repeat' (first | assumption | exact rF_eq | refine rF_ne (by decide) ?_ | refine rF_a ?_ | exact rA_eq | refine rA_ne (by decide) ?_ | refine rA_f ?_)) ?_
  refine g_get dX7_wrongPinsNext_4 fl_X7_134 (by repeat' (first | assumption | exact rF_eq | refine rF_ne (by decide) ?_ | refine rF_a ?_ | exact rA_eq | refine rA_ne (by decide) ?_ | refine rA_f ?_)) (by repeat' (first | assumption | exact rF_eq | refine rF_ne (by decide) ?_ | refine rF_a ?_ | exact rA_eq | refine rA_ne (by decide) ?_ | refine rA_f ?_)) ?_
  refine g_iload_n (i := 1) dX7_wrongPinsNext_7 rfl rfl ?_
  refine g_iald dX7_wrongPinsNext_8 (by repeat' (first | assumption | exact rF_eq | refine rF_ne (by decide) ?_ | refine rF_a ?_ | exact rA_eq | refine rA_ne (by decide) ?_ | refine rA_f ?_)) (nT (by omega)) (by omega) ?_
  rw [hN]
  refine g_istore_n (i := 3) dX7_wrongPinsNext_9 rfl (Nat.le_of_ble_eq_true rfl) rfl ?_
  refine g_iload_n (i := 3) dX7_wrongPinsNext_10 rfl rfl ?_
  refine g_if_ne (tgt := 16) dX7_wrongPinsNext_11 (by decide) (fun hc11 => ?_) (fun hc11 => ?_)
  · have hd11 := mt i_eq.mpr hc11; (try simp (disch := omega) only [nT, t_m1000100, t_m1000010, t_m1000003, t_m1000002, t_m1000001, t_m1000000, t_m65535, t_m1000, t_m3, t_m1, t_0, t_1, t_2, t_3, t_4, t_5, t_6, t_7, t_8, t_9, t_10, t_11, t_12, t_13, t_15, t_16, t_20, t_21, t_22, t_32, t_40, t_41, t_48, t_49, t_57, t_59, t_60, t_63, t_72, t_76, t_88, t_100, t_144, t_200, t_255, t_288, t_400, t_800, t_999, t_1000, t_1024, t_1200, t_1600, t_3200, t_100000, t_200000, t_252645135, t_858993459, t_1431655765, u_m1000002, u_m1000001, u_m1000, u_m3, u_m1, u_0, u_1, u_2, u_3, u_4, u_5, u_7, u_8, u_10, u_11, u_15, u_60, u_100, u_255, u_999, u_1000, u_100000, u_4294967295] at hd11)
    refine g_aload_n (i := 0) dX7_wrongPinsNext_16 rfl rfl ?_
    refine g_get dX7_wrongPinsNext_17 fl_X7_37 (by repeat' (first | assumption | exact rF_eq | refine rF_ne (by decide) ?_ | refine rF_a ?_ | exact rA_eq | refine rA_ne (by decide) ?_ | refine rA_f ?_)) (by repeat' (first | assumption | exact rF_eq | refine rF_ne (by decide) ?_ | refine rF_a ?_ | exact rA_eq | refine rA_ne (by decide) ?_ | refine rA_f ?_)) ?_
    refine g_aload_n (i := 0) dX7_wrongPinsNext_20 rfl rfl ?_
    refine g_get dX7_wrongPinsNext_21 fl_X7_37 (by repeat' (first | assumption | exact rF_eq | refine rF_ne (by decide) ?_ | refine rF_a ?_ | exact rA_eq | refine rA_ne (by decide) ?_ | refine rA_f ?_)) (by repeat' (first | assumption | exact rF_eq | refine rF_ne (by decide) ?_ | refine rF_a ?_ | exact rA_eq | refine rA_ne (by decide) ?_ | refine rA_f ?_)) ?_
    refine g_callV (M' := mX2_nextLine) dX7_wrongPinsNext_24 lc_X2_nextLine ml_X7_184 (c_nextLine hz hw) rfl rfl (by repeat' (first | assumption | exact rF_eq | refine rF_ne (by decide) ?_ | refine rF_a ?_ | exact rA_eq | refine rA_ne (by decide) ?_ | refine rA_f ?_)) rfl ⟨Nat.le_of_ble_eq_true rfl, Nat.le_of_ble_eq_true rfl, Nat.le_of_ble_eq_true rfl, Nat.le_of_ble_eq_true rfl⟩ (Nat.le_of_ble_eq_true rfl) ?_
    intro r_ h_ q_; obtain ⟨rfl, hw2, hf2⟩ := q_
    have k0 := (hf2.1 0 (by omega)).trans h0
    have k1 := (hf2.2 0 0 (by omega)).trans h1
    have kS := shx_fw hP hS hf2
    have kS1 := kS.1
    obtain ⟨tu2, K2, a2, f2, L2, R2, hs2, hrest⟩ := id hw2
    have aP2 := hs2.1
    refine g_aload_n (i := 0) dX7_wrongPinsNext_27 rfl rfl ?_
    refine g_get dX7_wrongPinsNext_28 fl_X7_10 (by repeat' (first | assumption | exact rF_eq | refine rF_ne (by decide) ?_ | refine rF_a ?_ | exact rA_eq | refine rA_ne (by decide) ?_ | refine rA_f ?_)) (by repeat' (first | assumption | exact rF_eq | refine rF_ne (by decide) ?_ | refine rF_a ?_ | exact rA_eq | refine rA_ne (by decide) ?_ | refine rA_f ?_)) ?_
    refine g_iload_n (i := 1) dX7_wrongPinsNext_31 rfl rfl ?_
    refine g_iload_n (i := 2) dX7_wrongPinsNext_32 rfl rfl ?_
    refine g_iload_n (i := 3) dX7_wrongPinsNext_33 rfl rfl ?_
    refine g_irem dX7_wrongPinsNext_34 (nI_ne0 hN1 (by omega)) ?_
    rw [pk_rem hc hN1 (by omega)]
    refine g_callV (M' := mX3_itemAt) dX7_wrongPinsNext_35 lc_X3_itemAt ml_X7_188 (c_itemAt kS hA (by omega : c % N < 100)) rfl rfl (by repeat' (first | assumption | exact rF_eq | refine rF_ne (by decide) ?_ | refine rF_a ?_ | exact rA_eq | refine rA_ne (by decide) ?_ | refine rA_f ?_)) rfl ⟨Nat.le_of_ble_eq_true rfl, Nat.le_of_ble_eq_true rfl, Nat.le_of_ble_eq_true rfl, Nat.le_of_ble_eq_true rfl⟩ (Nat.le_of_ble_eq_true rfl) ?_
    intro r_ h_ q_; obtain ⟨q1_, q2_⟩ := q_; have q2_ := q2_.symm; subst q1_; subst q2_
    refine g_callV (M' := mX2_wrongPins) dX7_wrongPinsNext_38 lc_X2_wrongPins ml_X7_191 (c_wrongPins hs2 hn hl (it (100 * A + c % N))) rfl rfl (by repeat' (first | assumption | exact rF_eq | refine rF_ne (by decide) ?_ | refine rF_a ?_ | exact rA_eq | refine rA_ne (by decide) ?_ | refine rA_f ?_)) rfl ⟨Nat.le_of_ble_eq_true rfl, Nat.le_of_ble_eq_true rfl, Nat.le_of_ble_eq_true rfl, Nat.le_of_ble_eq_true rfl⟩ (Nat.le_of_ble_eq_true rfl) ?_
    intro r_ h_ q_; obtain ⟨q1_, q2_⟩ := q_; have q2_ := q2_.symm; subst q1_; subst q2_
    refine g_iret dX7_wrongPinsNext_41 rfl (rfl) (hQ _ _ ?_)
    exact ⟨rfl, hw2, hf2⟩
  · have hd11 := i_eq.mp hc11; (try simp (disch := omega) only [nT, t_m1000100, t_m1000010, t_m1000003, t_m1000002, t_m1000001, t_m1000000, t_m65535, t_m1000, t_m3, t_m1, t_0, t_1, t_2, t_3, t_4, t_5, t_6, t_7, t_8, t_9, t_10, t_11, t_12, t_13, t_15, t_16, t_20, t_21, t_22, t_32, t_40, t_41, t_48, t_49, t_57, t_59, t_60, t_63, t_72, t_76, t_88, t_100, t_144, t_200, t_255, t_288, t_400, t_800, t_999, t_1000, t_1024, t_1200, t_1600, t_3200, t_100000, t_200000, t_252645135, t_858993459, t_1431655765, u_m1000002, u_m1000001, u_m1000, u_m3, u_m1, u_0, u_1, u_2, u_3, u_4, u_5, u_7, u_8, u_10, u_11, u_15, u_60, u_100, u_255, u_999, u_1000, u_100000, u_4294967295] at hd11); exact absurd hc11 (nI_ne0 hN1 (by omega))
theorem c_startWalk {h : HH} {tu : Nat → Int32} {ws : Int32} (hs : StX h P tx rl lk tm wi lo hi tu sz ws pnI nl) : CT mX2_startWalk 0 0 0 [.ref P] h (fun r h' => r = none ∧ h' = sF h P 9 (.int 0)) := by
  have e0 := hs.1
  refine CT.go [.ref P] (by decide +kernel) rfl rfl (fun Q' hQ => ?_)
  refine g_aload_n (i := 0) dX2_startWalk_0 rfl rfl ?_
  refine g_iconst (v := 0) dX2_startWalk_1 (by decide) ?_
  refine g_put dX2_startWalk_2 pl_X2_40 (by repeat' (first | assumption | exact rF_eq | refine rF_ne (by decide) ?_ | refine rF_a ?_ | exact rA_eq | refine rA_ne (by decide) ?_ | refine rA_f ?_)) (fun _ => ⟨rfl, rfl⟩) ?_
  refine g_vret dX2_startWalk_5 rfl (hQ _ _ ?_)
  exact ⟨rfl, rfl⟩
theorem wk_0 {h : HH} {tu : Nat → Int32} {ws : Int32} (hs : StX h P tx rl lk tm wi lo hi tu sz ws pnI nl) {f : Nat} {Ls : List Nat} (hb : blk rl lk tm wi f 6 0 sz Ls) : WkS P tx rl lk tm wi lo hi sz pnI nl Ls (sF h P 9 (.int 0)) :=
  ⟨tu, [], 0, f, Ls, [], stx_ws hs _, by simp, hb, (List.append_nil _).symm, rfl, fun z hz => (by cases hz), Nat.le_refl _⟩
theorem c_firstWrong {h : HH} {ln so it : Nat → Int32} {tu : Nat → Int32} {ws : Int32} (h0 : gA h 0 = aO 7) (h1 : gF h 0 0 = .ref 1) (h5 : gF h 0 5 = .ref P) (hS : ShX h ln so it) (hP : P = 7 ∨ P = 18) (hs : StX h P tx rl lk tm wi lo hi tu sz ws pnI nl) (hz : sz ≤ 400) (hn : pn ≤ 8) {f : Nat} {Ls : List Nat} (hb : blk rl lk tm wi f 6 0 sz Ls) (h12 : gF h P 12 = .int (nI Ls.length)) (hLs : Ls.length ≤ 100000) (hl : ∀ s, s ∈ Ls → LnP tx lk lo hi tp pn s) {A N : Nat} (hA : A < 8) (hN : so A = nI N) (hN1 : 0 < N) (hN2 : N ≤ 100) (b : Bool) : CT mX7_firstWrong 3 0 0 [.ref 0, .int (nI A), .int (bI (b = true))] h (fun r h' => r = some (.int (oC b (cmF tp (fun c => it (100 * A + c % N)) pn (Ls.map (lkP lk)) 0))) ∧ (∃ L2, WkS P tx rl lk tm wi lo hi sz pnI nl L2 h') ∧ FrW P h h') := by
  obtain ⟨e1, e2, e3, e4, e5, e6, e7⟩ := id hS
  have aP := hs.1
  refine CT.go [.ref 0, .int (nI A), .int (bI (b = true)), hU, hU] (by decide +kernel) rfl rfl (fun Q' hQ => ?_)
  generalize hzz : cmF tp (fun c => it (100 * A + c % N)) pn (Ls.map (lkP lk)) 0 = z at hQ
  have key : ∀ (L : List Nat) (c : Nat) (h2 : HH) (v4 : Value), WkS P tx rl lk tm wi lo hi sz pnI nl L h2 → FrW P h h2 → c + L.length = Ls.length → (∀ s, s ∈ L → LnP tx lk lo hi tp pn s) → cmF tp (fun c => it (100 * A + c % N)) pn (L.map (lkP lk)) c = z → GG (EM mX7_firstWrong 3 0 0 Q') 0 0 9 [.ref 0, .int (nI A), .int (bI (b = true)), .int (nI c), v4] [] h2 := by
    intro L
    induction L with
    | nil =>
      intro c h2 v4 hw hfr hcl hll he
      rw [List.length_nil] at hcl
      obtain rfl : none = z := he
      have k0 := (hfr.1 0 (by omega)).trans h0
      have k5 := (hfr.2 0 5 (by omega)).trans h5
      have k12 := (hfr.2 P 12 (by omega)).trans h12
      obtain ⟨tu2, K2, a2, f2, L2, R2, hs2, hrest⟩ := id hw
      have aP2 := hs2.1
      refine g_iload_n (i := 3) dX7_firstWrong_9 rfl rfl ?_
      refine g_aload_n (i := 0) dX7_firstWrong_10 rfl rfl ?_
      refine g_get dX7_firstWrong_11 fl_X7_37 (by repeat' (first | assumption | exact rF_eq | refine rF_ne (by decide) ?_ | refine rF_a ?_ | exact rA_eq | refine rA_ne (by decide) ?_ | refine rA_f ?_)) (by repeat' (first | assumption | exact rF_eq | refine rF_ne (by decide) ?_ | refine rF_a ?_ | exact rA_eq | refine rA_ne (by decide) ?_ | refine rA_f ?_)) ?_
      refine g_get dX7_firstWrong_14 fl_X7_149 (by repeat' (first | assumption | exact rF_eq | refine rF_ne (by decide) ?_ | refine rF_a ?_ | exact rA_eq | refine rA_ne (by decide) ?_ | refine rA_f ?_)) (by repeat' (first | assumption | exact rF_eq | refine rF_ne (by decide) ?_ | refine rF_a ?_ | exact rA_eq | refine rA_ne (by decide) ?_ | refine rA_f ?_)) ?_
      refine g_icmp_ge (tgt := 53) dX7_firstWrong_17 (by decide) (fun hc17 => ?_) (fun hc17 => ?_)
      · (try simp (disch := omega) only [nT, t_m1000100, t_m1000010, t_m1000003, t_m1000002, t_m1000001, t_m1000000, t_m65535, t_m1000, t_m3, t_m1, t_0, t_1, t_2, t_3, t_4, t_5, t_6, t_7, t_8, t_9, t_10, t_11, t_12, t_13, t_15, t_16, t_20, t_21, t_22, t_32, t_40, t_41, t_48, t_49, t_57, t_59, t_60, t_63, t_72, t_76, t_88, t_100, t_144, t_200, t_255, t_288, t_400, t_800, t_999, t_1000, t_1024, t_1200, t_1600, t_3200, t_100000, t_200000, t_252645135, t_858993459, t_1431655765, u_m1000002, u_m1000001, u_m1000, u_m3, u_m1, u_0, u_1, u_2, u_3, u_4, u_5, u_7, u_8, u_10, u_11, u_15, u_60, u_100, u_255, u_999, u_1000, u_100000, u_4294967295] at hc17)
        refine g_ldc dX7_firstWrong_53 kc_X7_155 ?_
        refine g_iret dX7_firstWrong_55 rfl (rfl) (hQ _ _ ?_)
        exact ⟨rfl, ⟨_, hw⟩, hfr⟩
      · (try simp (disch := omega) only [nT, t_m1000100, t_m1000010, t_m1000003, t_m1000002, t_m1000001, t_m1000000, t_m65535, t_m1000, t_m3, t_m1, t_0, t_1, t_2, t_3, t_4, t_5, t_6, t_7, t_8, t_9, t_10, t_11, t_12, t_13, t_15, t_16, t_20, t_21, t_22, t_32, t_40, t_41, t_48, t_49, t_57, t_59, t_60, t_63, t_72, t_76, t_88, t_100, t_144, t_200, t_255, t_288, t_400, t_800, t_999, t_1000, t_1024, t_1200, t_1600, t_3200, t_100000, t_200000, t_252645135, t_858993459, t_1431655765, u_m1000002, u_m1000001, u_m1000, u_m3, u_m1, u_0, u_1, u_2, u_3, u_4, u_5, u_7, u_8, u_10, u_11, u_15, u_60, u_100, u_255, u_999, u_1000, u_100000, u_4294967295] at hc17); omega
    | cons s L ih =>
      intro c h2 v4 hw hfr hcl hll he
      rw [List.length_cons] at hcl
      rw [List.map_cons] at he
      have k0 := (hfr.1 0 (by omega)).trans h0
      have k1 := (hfr.2 0 0 (by omega)).trans h1
      have k5 := (hfr.2 0 5 (by omega)).trans h5
      have k12 := (hfr.2 P 12 (by omega)).trans h12
      have kS := shx_fw hP hS hfr
      obtain ⟨tu2, K2, a2, f2, L2, R2, hs2, hrest⟩ := id hw
      have aP2 := hs2.1
      have hgl := gB_lt (wrB tp (it (100 * A + c % N)) (lkP lk s)) pn
      have h28 : 2 ^ pn ≤ 2 ^ 8 := Nat.pow_le_pow_right (by omega) hn
      have h256 : (2 : Nat) ^ 8 = 256 := by decide
      have hfsg := fsB_g (wrB tp (it (100 * A + c % N)) (lkP lk s)) hn
      by_cases hx : gB (wrB tp (it (100 * A + c % N)) (lkP lk s)) pn = 0
      · have hno := gB_0 _ _ hx
        rw [cmF_n (it := fun c => it (100 * A + c % N)) (fsB_z pn 0 (fun i _ h2 => hno i (by omega)))] at he
        refine g_iload_n (i := 3) dX7_firstWrong_9 rfl rfl ?_
        refine g_aload_n (i := 0) dX7_firstWrong_10 rfl rfl ?_
        refine g_get dX7_firstWrong_11 fl_X7_37 (by repeat' (first | assumption | exact rF_eq | refine rF_ne (by decide) ?_ | refine rF_a ?_ | exact rA_eq | refine rA_ne (by decide) ?_ | refine rA_f ?_)) (by repeat' (first | assumption | exact rF_eq | refine rF_ne (by decide) ?_ | refine rF_a ?_ | exact rA_eq | refine rA_ne (by decide) ?_ | refine rA_f ?_)) ?_
        refine g_get dX7_firstWrong_14 fl_X7_149 (by repeat' (first | assumption | exact rF_eq | refine rF_ne (by decide) ?_ | refine rF_a ?_ | exact rA_eq | refine rA_ne (by decide) ?_ | refine rA_f ?_)) (by repeat' (first | assumption | exact rF_eq | refine rF_ne (by decide) ?_ | refine rF_a ?_ | exact rA_eq | refine rA_ne (by decide) ?_ | refine rA_f ?_)) ?_
        refine g_icmp_ge (tgt := 53) dX7_firstWrong_17 (by decide) (fun hc17 => ?_) (fun hc17 => ?_)
        · (try simp (disch := omega) only [nT, t_m1000100, t_m1000010, t_m1000003, t_m1000002, t_m1000001, t_m1000000, t_m65535, t_m1000, t_m3, t_m1, t_0, t_1, t_2, t_3, t_4, t_5, t_6, t_7, t_8, t_9, t_10, t_11, t_12, t_13, t_15, t_16, t_20, t_21, t_22, t_32, t_40, t_41, t_48, t_49, t_57, t_59, t_60, t_63, t_72, t_76, t_88, t_100, t_144, t_200, t_255, t_288, t_400, t_800, t_999, t_1000, t_1024, t_1200, t_1600, t_3200, t_100000, t_200000, t_252645135, t_858993459, t_1431655765, u_m1000002, u_m1000001, u_m1000, u_m3, u_m1, u_0, u_1, u_2, u_3, u_4, u_5, u_7, u_8, u_10, u_11, u_15, u_60, u_100, u_255, u_999, u_1000, u_100000, u_4294967295] at hc17); omega
        · (try simp (disch := omega) only [nT, t_m1000100, t_m1000010, t_m1000003, t_m1000002, t_m1000001, t_m1000000, t_m65535, t_m1000, t_m3, t_m1, t_0, t_1, t_2, t_3, t_4, t_5, t_6, t_7, t_8, t_9, t_10, t_11, t_12, t_13, t_15, t_16, t_20, t_21, t_22, t_32, t_40, t_41, t_48, t_49, t_57, t_59, t_60, t_63, t_72, t_76, t_88, t_100, t_144, t_200, t_255, t_288, t_400, t_800, t_999, t_1000, t_1024, t_1200, t_1600, t_3200, t_100000, t_200000, t_252645135, t_858993459, t_1431655765, u_m1000002, u_m1000001, u_m1000, u_m3, u_m1, u_0, u_1, u_2, u_3, u_4, u_5, u_7, u_8, u_10, u_11, u_15, u_60, u_100, u_255, u_999, u_1000, u_100000, u_4294967295] at hc17)
          refine g_aload_n (i := 0) dX7_firstWrong_20 rfl rfl ?_
          refine g_iload_n (i := 1) dX7_firstWrong_21 rfl rfl ?_
          refine g_iload_n (i := 3) dX7_firstWrong_22 rfl rfl ?_
          refine g_callV (M' := mX7_wrongPinsNext) dX7_firstWrong_23 lc_X7_wrongPinsNext ml_X7_173 (c_wrongPinsNext k0 k1 k5 kS hP hz hn hw (hll s List.mem_cons_self) hA hN hN1 hN2 (by omega)) rfl rfl (by repeat' (first | assumption | exact rF_eq | refine rF_ne (by decide) ?_ | refine rF_a ?_ | exact rA_eq | refine rA_ne (by decide) ?_ | refine rA_f ?_)) rfl ⟨Nat.le_of_ble_eq_true rfl, Nat.le_of_ble_eq_true rfl, Nat.le_of_ble_eq_true rfl, Nat.le_of_ble_eq_true rfl⟩ (Nat.le_of_ble_eq_true rfl) ?_
          intro r_ h_ q_; obtain ⟨rfl, hw2, hf2⟩ := q_
          rw [hx]
          refine g_istore dX7_firstWrong_26 (Nat.le_of_ble_eq_true rfl) rfl ?_
          refine g_iload dX7_firstWrong_28 rfl ?_
          refine g_if_eq (tgt := 47) dX7_firstWrong_30 (by decide) (fun hc30 => ?_) (fun hc30 => ?_)
          · have hd30 := i_eq.mp hc30; (try simp (disch := omega) only [nT, t_m1000100, t_m1000010, t_m1000003, t_m1000002, t_m1000001, t_m1000000, t_m65535, t_m1000, t_m3, t_m1, t_0, t_1, t_2, t_3, t_4, t_5, t_6, t_7, t_8, t_9, t_10, t_11, t_12, t_13, t_15, t_16, t_20, t_21, t_22, t_32, t_40, t_41, t_48, t_49, t_57, t_59, t_60, t_63, t_72, t_76, t_88, t_100, t_144, t_200, t_255, t_288, t_400, t_800, t_999, t_1000, t_1024, t_1200, t_1600, t_3200, t_100000, t_200000, t_252645135, t_858993459, t_1431655765, u_m1000002, u_m1000001, u_m1000, u_m3, u_m1, u_0, u_1, u_2, u_3, u_4, u_5, u_7, u_8, u_10, u_11, u_15, u_60, u_100, u_255, u_999, u_1000, u_100000, u_4294967295] at hd30)
            refine g_iinc dX7_firstWrong_47 rfl (Nat.le_of_ble_eq_true rfl) rfl ?_
            refine g_goto (tgt := 9) dX7_firstWrong_50 (by decide) ?_
            rw [ni_incO]
            exact ih (c + 1) _ _ hw2 (fw_tr hfr hf2) (by omega) (fun q hq => hll q (List.mem_cons_of_mem _ hq)) he
          · have hd30 := mt i_eq.mpr hc30; (try simp (disch := omega) only [nT, t_m1000100, t_m1000010, t_m1000003, t_m1000002, t_m1000001, t_m1000000, t_m65535, t_m1000, t_m3, t_m1, t_0, t_1, t_2, t_3, t_4, t_5, t_6, t_7, t_8, t_9, t_10, t_11, t_12, t_13, t_15, t_16, t_20, t_21, t_22, t_32, t_40, t_41, t_48, t_49, t_57, t_59, t_60, t_63, t_72, t_76, t_88, t_100, t_144, t_200, t_255, t_288, t_400, t_800, t_999, t_1000, t_1024, t_1200, t_1600, t_3200, t_100000, t_200000, t_252645135, t_858993459, t_1431655765, u_m1000002, u_m1000001, u_m1000, u_m3, u_m1, u_0, u_1, u_2, u_3, u_4, u_5, u_7, u_8, u_10, u_11, u_15, u_60, u_100, u_255, u_999, u_1000, u_100000, u_4294967295] at hd30); exact absurd rfl hc30
      · obtain ⟨i, hi1, hi2⟩ := gB_n0 _ hx
        obtain ⟨j, hj1, hj2⟩ := fsB_s pn 0 i (by omega) (by omega) hi2
        rw [cmF_s (it := fun c => it (100 * A + c % N)) hj1] at he
        subst he
        rw [hj1] at hfsg
        refine g_iload_n (i := 3) dX7_firstWrong_9 rfl rfl ?_
        refine g_aload_n (i := 0) dX7_firstWrong_10 rfl rfl ?_
        refine g_get dX7_firstWrong_11 fl_X7_37 (by repeat' (first | assumption | exact rF_eq | refine rF_ne (by decide) ?_ | refine rF_a ?_ | exact rA_eq | refine rA_ne (by decide) ?_ | refine rA_f ?_)) (by repeat' (first | assumption | exact rF_eq | refine rF_ne (by decide) ?_ | refine rF_a ?_ | exact rA_eq | refine rA_ne (by decide) ?_ | refine rA_f ?_)) ?_
        refine g_get dX7_firstWrong_14 fl_X7_149 (by repeat' (first | assumption | exact rF_eq | refine rF_ne (by decide) ?_ | refine rF_a ?_ | exact rA_eq | refine rA_ne (by decide) ?_ | refine rA_f ?_)) (by repeat' (first | assumption | exact rF_eq | refine rF_ne (by decide) ?_ | refine rF_a ?_ | exact rA_eq | refine rA_ne (by decide) ?_ | refine rA_f ?_)) ?_
        refine g_icmp_ge (tgt := 53) dX7_firstWrong_17 (by decide) (fun hc17 => ?_) (fun hc17 => ?_)
        · (try simp (disch := omega) only [nT, t_m1000100, t_m1000010, t_m1000003, t_m1000002, t_m1000001, t_m1000000, t_m65535, t_m1000, t_m3, t_m1, t_0, t_1, t_2, t_3, t_4, t_5, t_6, t_7, t_8, t_9, t_10, t_11, t_12, t_13, t_15, t_16, t_20, t_21, t_22, t_32, t_40, t_41, t_48, t_49, t_57, t_59, t_60, t_63, t_72, t_76, t_88, t_100, t_144, t_200, t_255, t_288, t_400, t_800, t_999, t_1000, t_1024, t_1200, t_1600, t_3200, t_100000, t_200000, t_252645135, t_858993459, t_1431655765, u_m1000002, u_m1000001, u_m1000, u_m3, u_m1, u_0, u_1, u_2, u_3, u_4, u_5, u_7, u_8, u_10, u_11, u_15, u_60, u_100, u_255, u_999, u_1000, u_100000, u_4294967295] at hc17); omega
        · (try simp (disch := omega) only [nT, t_m1000100, t_m1000010, t_m1000003, t_m1000002, t_m1000001, t_m1000000, t_m65535, t_m1000, t_m3, t_m1, t_0, t_1, t_2, t_3, t_4, t_5, t_6, t_7, t_8, t_9, t_10, t_11, t_12, t_13, t_15, t_16, t_20, t_21, t_22, t_32, t_40, t_41, t_48, t_49, t_57, t_59, t_60, t_63, t_72, t_76, t_88, t_100, t_144, t_200, t_255, t_288, t_400, t_800, t_999, t_1000, t_1024, t_1200, t_1600, t_3200, t_100000, t_200000, t_252645135, t_858993459, t_1431655765, u_m1000002, u_m1000001, u_m1000, u_m3, u_m1, u_0, u_1, u_2, u_3, u_4, u_5, u_7, u_8, u_10, u_11, u_15, u_60, u_100, u_255, u_999, u_1000, u_100000, u_4294967295] at hc17)
          refine g_aload_n (i := 0) dX7_firstWrong_20 rfl rfl ?_
          refine g_iload_n (i := 1) dX7_firstWrong_21 rfl rfl ?_
          refine g_iload_n (i := 3) dX7_firstWrong_22 rfl rfl ?_
          refine g_callV (M' := mX7_wrongPinsNext) dX7_firstWrong_23 lc_X7_wrongPinsNext ml_X7_173 (c_wrongPinsNext k0 k1 k5 kS hP hz hn hw (hll s List.mem_cons_self) hA hN hN1 hN2 (by omega)) rfl rfl (by repeat' (first | assumption | exact rF_eq | refine rF_ne (by decide) ?_ | refine rF_a ?_ | exact rA_eq | refine rA_ne (by decide) ?_ | refine rA_f ?_)) rfl ⟨Nat.le_of_ble_eq_true rfl, Nat.le_of_ble_eq_true rfl, Nat.le_of_ble_eq_true rfl, Nat.le_of_ble_eq_true rfl⟩ (Nat.le_of_ble_eq_true rfl) ?_
          intro r_ h_ q_; obtain ⟨rfl, hw2, hf2⟩ := q_
          have hxx : gB (wrB tp (it (100 * A + c % N)) (lkP lk s)) pn < 256 := by omega
          refine g_istore dX7_firstWrong_26 (Nat.le_of_ble_eq_true rfl) rfl ?_
          refine g_iload dX7_firstWrong_28 rfl ?_
          refine g_if_eq (tgt := 47) dX7_firstWrong_30 (by decide) (fun hc30 => ?_) (fun hc30 => ?_)
          · have hd30 := i_eq.mp hc30; (try simp (disch := omega) only [nT, t_m1000100, t_m1000010, t_m1000003, t_m1000002, t_m1000001, t_m1000000, t_m65535, t_m1000, t_m3, t_m1, t_0, t_1, t_2, t_3, t_4, t_5, t_6, t_7, t_8, t_9, t_10, t_11, t_12, t_13, t_15, t_16, t_20, t_21, t_22, t_32, t_40, t_41, t_48, t_49, t_57, t_59, t_60, t_63, t_72, t_76, t_88, t_100, t_144, t_200, t_255, t_288, t_400, t_800, t_999, t_1000, t_1024, t_1200, t_1600, t_3200, t_100000, t_200000, t_252645135, t_858993459, t_1431655765, u_m1000002, u_m1000001, u_m1000, u_m3, u_m1, u_0, u_1, u_2, u_3, u_4, u_5, u_7, u_8, u_10, u_11, u_15, u_60, u_100, u_255, u_999, u_1000, u_100000, u_4294967295] at hd30); exact absurd hc30 (nI_ne0 (by omega) (by omega))
          · have hd30 := mt i_eq.mpr hc30; (try simp (disch := omega) only [nT, t_m1000100, t_m1000010, t_m1000003, t_m1000002, t_m1000001, t_m1000000, t_m65535, t_m1000, t_m3, t_m1, t_0, t_1, t_2, t_3, t_4, t_5, t_6, t_7, t_8, t_9, t_10, t_11, t_12, t_13, t_15, t_16, t_20, t_21, t_22, t_32, t_40, t_41, t_48, t_49, t_57, t_59, t_60, t_63, t_72, t_76, t_88, t_100, t_144, t_200, t_255, t_288, t_400, t_800, t_999, t_1000, t_1024, t_1200, t_1600, t_3200, t_100000, t_200000, t_252645135, t_858993459, t_1431655765, u_m1000002, u_m1000001, u_m1000, u_m3, u_m1, u_0, u_1, u_2, u_3, u_4, u_5, u_7, u_8, u_10, u_11, u_15, u_60, u_100, u_255, u_999, u_1000, u_100000, u_4294967295] at hd30)
            refine g_iload_n (i := 2) dX7_firstWrong_33 rfl rfl ?_
            refine g_if_eq (tgt := 45) dX7_firstWrong_34 (by decide) (fun hc34 => ?_) (fun hc34 => ?_)
            · have hd34 := i_eq.mp hc34; (try simp (disch := omega) only [nT, t_m1000100, t_m1000010, t_m1000003, t_m1000002, t_m1000001, t_m1000000, t_m65535, t_m1000, t_m3, t_m1, t_0, t_1, t_2, t_3, t_4, t_5, t_6, t_7, t_8, t_9, t_10, t_11, t_12, t_13, t_15, t_16, t_20, t_21, t_22, t_32, t_40, t_41, t_48, t_49, t_57, t_59, t_60, t_63, t_72, t_76, t_88, t_100, t_144, t_200, t_255, t_288, t_400, t_800, t_999, t_1000, t_1024, t_1200, t_1600, t_3200, t_100000, t_200000, t_252645135, t_858993459, t_1431655765, u_m1000002, u_m1000001, u_m1000, u_m3, u_m1, u_0, u_1, u_2, u_3, u_4, u_5, u_7, u_8, u_10, u_11, u_15, u_60, u_100, u_255, u_999, u_1000, u_100000, u_4294967295] at hd34)
              refine g_iload_n (i := 3) dX7_firstWrong_45 rfl rfl ?_
              refine g_iret dX7_firstWrong_46 rfl (rfl) (hQ _ _ ?_)
              refine ⟨?_, ⟨_, hw2⟩, fw_tr hfr hf2⟩
              show _ = some (Value.int (if b = true then nI j else nI c))
              first
              | (rw [if_pos (bI_n0.mp hc34)]; rfl)
              | rw [if_neg (bI_0.mp hc34)]
            · have hd34 := mt i_eq.mpr hc34; (try simp (disch := omega) only [nT, t_m1000100, t_m1000010, t_m1000003, t_m1000002, t_m1000001, t_m1000000, t_m65535, t_m1000, t_m3, t_m1, t_0, t_1, t_2, t_3, t_4, t_5, t_6, t_7, t_8, t_9, t_10, t_11, t_12, t_13, t_15, t_16, t_20, t_21, t_22, t_32, t_40, t_41, t_48, t_49, t_57, t_59, t_60, t_63, t_72, t_76, t_88, t_100, t_144, t_200, t_255, t_288, t_400, t_800, t_999, t_1000, t_1024, t_1200, t_1600, t_3200, t_100000, t_200000, t_252645135, t_858993459, t_1431655765, u_m1000002, u_m1000001, u_m1000, u_m3, u_m1, u_0, u_1, u_2, u_3, u_4, u_5, u_7, u_8, u_10, u_11, u_15, u_60, u_100, u_255, u_999, u_1000, u_100000, u_4294967295] at hd34)
              refine g_iload dX7_firstWrong_37 rfl ?_
              refine g_callS (M' := mX7_lowestBit) dX7_firstWrong_39 lc_X7_lowestBit ml_X7_176 (c_lowestBit _ (by omega)) rfl rfl ⟨Nat.le_of_ble_eq_true rfl, Nat.le_of_ble_eq_true rfl, Nat.le_of_ble_eq_true rfl, Nat.le_of_ble_eq_true rfl⟩ (Nat.le_of_ble_eq_true rfl) ?_
              intro r_ h_ q_; obtain ⟨q1_, q2_⟩ := q_; have q2_ := q2_.symm; subst q1_; subst q2_
              rw [fsB_g _ hn, hj1]
              refine g_goto (tgt := 46) dX7_firstWrong_42 (by decide) ?_
              refine g_iret dX7_firstWrong_46 rfl (rfl) (hQ _ _ ?_)
              refine ⟨?_, ⟨_, hw2⟩, fw_tr hfr hf2⟩
              show _ = some (Value.int (if b = true then nI j else nI c))
              first
              | (rw [if_pos (bI_n0.mp hc34)]; rfl)
              | rw [if_neg (bI_0.mp hc34)]
  refine g_aload_n (i := 0) dX7_firstWrong_0 rfl rfl ?_
  refine g_get dX7_firstWrong_1 fl_X7_37 (by repeat' (first | assumption | exact rF_eq | refine rF_ne (by decide) ?_ | refine rF_a ?_ | exact rA_eq | refine rA_ne (by decide) ?_ | refine rA_f ?_)) (by repeat' (first | assumption | exact rF_eq | refine rF_ne (by decide) ?_ | refine rF_a ?_ | exact rA_eq | refine rA_ne (by decide) ?_ | refine rA_f ?_)) ?_
  refine g_callV (M' := mX2_startWalk) dX7_firstWrong_4 lc_X2_startWalk ml_X7_170 (c_startWalk hs) rfl rfl (by repeat' (first | assumption | exact rF_eq | refine rF_ne (by decide) ?_ | refine rF_a ?_ | exact rA_eq | refine rA_ne (by decide) ?_ | refine rA_f ?_)) rfl ⟨Nat.le_of_ble_eq_true rfl, Nat.le_of_ble_eq_true rfl, Nat.le_of_ble_eq_true rfl, Nat.le_of_ble_eq_true rfl⟩ (Nat.le_of_ble_eq_true rfl) ?_
  intro r_ h_ q_; obtain ⟨q1_, q2_⟩ := q_; have q2_ := q2_.symm; subst q1_; subst q2_
  refine g_iconst (v := 0) dX7_firstWrong_7 (by decide) ?_
  refine g_istore_n (i := 3) dX7_firstWrong_8 rfl (Nat.le_of_ble_eq_true rfl) rfl ?_
  exact key Ls 0 _ _ (wk_0 hs hb) (fw_F fw_rf) (by omega) hl hzz
theorem cmS_le (tp it : Nat → Int32) (pn : Nat) : ∀ (M : List Nat) (c : Nat), cmS tp it pn M c ≤ pn * M.length
  | [], c => by unfold cmS; omega
  | q :: M, c => by
    have h1 := cmS_le tp it pn M (c + 1)
    have h2 := cnt_le (wrB tp (it c) q) pn 0
    unfold cmS
    rw [List.length_cons, Nat.mul_add, Nat.mul_one]
    omega
theorem c_wrongSigns {h : HH} {ln so it : Nat → Int32} {tu : Nat → Int32} {ws : Int32} (h0 : gA h 0 = aO 7) (h1 : gF h 0 0 = .ref 1) (h5 : gF h 0 5 = .ref P) (hS : ShX h ln so it) (hP : P = 7 ∨ P = 18) (hs : StX h P tx rl lk tm wi lo hi tu sz ws pnI nl) (hz : sz ≤ 400) (hn : pn ≤ 8) {f : Nat} {Ls : List Nat} (hb : blk rl lk tm wi f 6 0 sz Ls) (h12 : gF h P 12 = .int (nI Ls.length)) (hLs : Ls.length ≤ 100000) (hl : ∀ s, s ∈ Ls → LnP tx lk lo hi tp pn s) {A N : Nat} (hA : A < 8) (hN : so A = nI N) (hN1 : 0 < N) (hN2 : N ≤ 100) : CT mX7_wrongSigns 3 0 0 [.ref 0, .int (nI A)] h (fun r h' => r = some (.int (nI (cmS tp (fun c => it (100 * A + c % N)) pn (Ls.map (lkP lk)) 0))) ∧ (∃ L2, WkS P tx rl lk tm wi lo hi sz pnI nl L2 h') ∧ FrW P h h') := by
  obtain ⟨e1, e2, e3, e4, e5, e6, e7⟩ := id hS
  have aP := hs.1
  refine CT.go [.ref 0, .int (nI A), hU, hU] (by decide +kernel) rfl rfl (fun Q' hQ => ?_)
  generalize hzz : cmS tp (fun c => it (100 * A + c % N)) pn (Ls.map (lkP lk)) 0 = z at hQ
  have key : ∀ (L : List Nat) (c acc : Nat) (h2 : HH), WkS P tx rl lk tm wi lo hi sz pnI nl L h2 → FrW P h h2 → c + L.length = Ls.length → (∀ s, s ∈ L → LnP tx lk lo hi tp pn s) → acc + cmS tp (fun c => it (100 * A + c % N)) pn (L.map (lkP lk)) c = z → GG (EM mX7_wrongSigns 3 0 0 Q') 0 0 11 [.ref 0, .int (nI A), .int (nI acc), .int (nI c)] [] h2 := by
    intro L
    induction L with
    | nil =>
      intro c acc h2 hw hfr hcl hll he
      rw [List.length_nil] at hcl
      obtain rfl : acc = z := he
      have k0 := (hfr.1 0 (by omega)).trans h0
      have k5 := (hfr.2 0 5 (by omega)).trans h5
      have k12 := (hfr.2 P 12 (by omega)).trans h12
      obtain ⟨tu2, K2, a2, f2, L2, R2, hs2, hrest⟩ := id hw
      have aP2 := hs2.1
      refine g_iload_n (i := 3) dX7_wrongSigns_11 rfl rfl ?_
      refine g_aload_n (i := 0) dX7_wrongSigns_12 rfl rfl ?_
      refine g_get dX7_wrongSigns_13 fl_X7_37 (by repeat' (first | assumption | exact rF_eq | refine rF_ne (by decide) ?_ | refine rF_a ?_ | exact rA_eq | refine rA_ne (by decide) ?_ | refine rA_f ?_)) (by repeat' (first | assumption | exact rF_eq | refine rF_ne (by decide) ?_ | refine rF_a ?_ | exact rA_eq | refine rA_ne (by decide) ?_ | refine rA_f ?_)) ?_
      refine g_get dX7_wrongSigns_16 fl_X7_149 (by repeat' (first | assumption | exact rF_eq | refine rF_ne (by decide) ?_ | refine rF_a ?_ | exact rA_eq | refine rA_ne (by decide) ?_ | refine rA_f ?_)) (by repeat' (first | assumption | exact rF_eq | refine rF_ne (by decide) ?_ | refine rF_a ?_ | exact rA_eq | refine rA_ne (by decide) ?_ | refine rA_f ?_)) ?_
      refine g_icmp_ge (tgt := 40) dX7_wrongSigns_19 (by decide) (fun hc19 => ?_) (fun hc19 => ?_)
      · (try simp (disch := omega) only [nT, t_m1000100, t_m1000010, t_m1000003, t_m1000002, t_m1000001, t_m1000000, t_m65535, t_m1000, t_m3, t_m1, t_0, t_1, t_2, t_3, t_4, t_5, t_6, t_7, t_8, t_9, t_10, t_11, t_12, t_13, t_15, t_16, t_20, t_21, t_22, t_32, t_40, t_41, t_48, t_49, t_57, t_59, t_60, t_63, t_72, t_76, t_88, t_100, t_144, t_200, t_255, t_288, t_400, t_800, t_999, t_1000, t_1024, t_1200, t_1600, t_3200, t_100000, t_200000, t_252645135, t_858993459, t_1431655765, u_m1000002, u_m1000001, u_m1000, u_m3, u_m1, u_0, u_1, u_2, u_3, u_4, u_5, u_7, u_8, u_10, u_11, u_15, u_60, u_100, u_255, u_999, u_1000, u_100000, u_4294967295] at hc19)
        refine g_iload_n (i := 2) dX7_wrongSigns_40 rfl rfl ?_
        refine g_iret dX7_wrongSigns_41 rfl (rfl) (hQ _ _ ?_)
        exact ⟨rfl, ⟨_, hw⟩, hfr⟩
      · (try simp (disch := omega) only [nT, t_m1000100, t_m1000010, t_m1000003, t_m1000002, t_m1000001, t_m1000000, t_m65535, t_m1000, t_m3, t_m1, t_0, t_1, t_2, t_3, t_4, t_5, t_6, t_7, t_8, t_9, t_10, t_11, t_12, t_13, t_15, t_16, t_20, t_21, t_22, t_32, t_40, t_41, t_48, t_49, t_57, t_59, t_60, t_63, t_72, t_76, t_88, t_100, t_144, t_200, t_255, t_288, t_400, t_800, t_999, t_1000, t_1024, t_1200, t_1600, t_3200, t_100000, t_200000, t_252645135, t_858993459, t_1431655765, u_m1000002, u_m1000001, u_m1000, u_m3, u_m1, u_0, u_1, u_2, u_3, u_4, u_5, u_7, u_8, u_10, u_11, u_15, u_60, u_100, u_255, u_999, u_1000, u_100000, u_4294967295] at hc19); omega
    | cons s L ih =>
      intro c acc h2 hw hfr hcl hll he
      rw [List.length_cons] at hcl
      rw [List.map_cons] at he
      have k0 := (hfr.1 0 (by omega)).trans h0
      have k1 := (hfr.2 0 0 (by omega)).trans h1
      have k5 := (hfr.2 0 5 (by omega)).trans h5
      have k12 := (hfr.2 P 12 (by omega)).trans h12
      have kS := shx_fw hP hS hfr
      obtain ⟨tu2, K2, a2, f2, L2, R2, hs2, hrest⟩ := id hw
      have aP2 := hs2.1
      have hgl := gB_lt (wrB tp (it (100 * A + c % N)) (lkP lk s)) pn
      have h28 : 2 ^ pn ≤ 2 ^ 8 := Nat.pow_le_pow_right (by omega) hn
      have h256 : (2 : Nat) ^ 8 = 256 := by decide
      refine g_iload_n (i := 3) dX7_wrongSigns_11 rfl rfl ?_
      refine g_aload_n (i := 0) dX7_wrongSigns_12 rfl rfl ?_
      refine g_get dX7_wrongSigns_13 fl_X7_37 (by repeat' (first | assumption | exact rF_eq | refine rF_ne (by decide) ?_ | refine rF_a ?_ | exact rA_eq | refine rA_ne (by decide) ?_ | refine rA_f ?_)) (by repeat' (first | assumption | exact rF_eq | refine rF_ne (by decide) ?_ | refine rF_a ?_ | exact rA_eq | refine rA_ne (by decide) ?_ | refine rA_f ?_)) ?_
      refine g_get dX7_wrongSigns_16 fl_X7_149 (by repeat' (first | assumption | exact rF_eq | refine rF_ne (by decide) ?_ | refine rF_a ?_ | exact rA_eq | refine rA_ne (by decide) ?_ | refine rA_f ?_)) (by repeat' (first | assumption | exact rF_eq | refine rF_ne (by decide) ?_ | refine rF_a ?_ | exact rA_eq | refine rA_ne (by decide) ?_ | refine rA_f ?_)) ?_
      refine g_icmp_ge (tgt := 40) dX7_wrongSigns_19 (by decide) (fun hc19 => ?_) (fun hc19 => ?_)
      · (try simp (disch := omega) only [nT, t_m1000100, t_m1000010, t_m1000003, t_m1000002, t_m1000001, t_m1000000, t_m65535, t_m1000, t_m3, t_m1, t_0, t_1, t_2, t_3, t_4, t_5, t_6, t_7, t_8, t_9, t_10, t_11, t_12, t_13, t_15, t_16, t_20, t_21, t_22, t_32, t_40, t_41, t_48, t_49, t_57, t_59, t_60, t_63, t_72, t_76, t_88, t_100, t_144, t_200, t_255, t_288, t_400, t_800, t_999, t_1000, t_1024, t_1200, t_1600, t_3200, t_100000, t_200000, t_252645135, t_858993459, t_1431655765, u_m1000002, u_m1000001, u_m1000, u_m3, u_m1, u_0, u_1, u_2, u_3, u_4, u_5, u_7, u_8, u_10, u_11, u_15, u_60, u_100, u_255, u_999, u_1000, u_100000, u_4294967295] at hc19); omega
      · (try simp (disch := omega) only [nT, t_m1000100, t_m1000010, t_m1000003, t_m1000002, t_m1000001, t_m1000000, t_m65535, t_m1000, t_m3, t_m1, t_0, t_1, t_2, t_3, t_4, t_5, t_6, t_7, t_8, t_9, t_10, t_11, t_12, t_13, t_15, t_16, t_20, t_21, t_22, t_32, t_40, t_41, t_48, t_49, t_57, t_59, t_60, t_63, t_72, t_76, t_88, t_100, t_144, t_200, t_255, t_288, t_400, t_800, t_999, t_1000, t_1024, t_1200, t_1600, t_3200, t_100000, t_200000, t_252645135, t_858993459, t_1431655765, u_m1000002, u_m1000001, u_m1000, u_m3, u_m1, u_0, u_1, u_2, u_3, u_4, u_5, u_7, u_8, u_10, u_11, u_15, u_60, u_100, u_255, u_999, u_1000, u_100000, u_4294967295] at hc19)
        refine g_iload_n (i := 2) dX7_wrongSigns_22 rfl rfl ?_
        refine g_aload_n (i := 0) dX7_wrongSigns_23 rfl rfl ?_
        refine g_iload_n (i := 1) dX7_wrongSigns_24 rfl rfl ?_
        refine g_iload_n (i := 3) dX7_wrongSigns_25 rfl rfl ?_
        refine g_callV (M' := mX7_wrongPinsNext) dX7_wrongSigns_26 lc_X7_wrongPinsNext ml_X7_173 (c_wrongPinsNext k0 k1 k5 kS hP hz hn hw (hll s List.mem_cons_self) hA hN hN1 hN2 (by omega)) rfl rfl (by repeat' (first | assumption | exact rF_eq | refine rF_ne (by decide) ?_ | refine rF_a ?_ | exact rA_eq | refine rA_ne (by decide) ?_ | refine rA_f ?_)) rfl ⟨Nat.le_of_ble_eq_true rfl, Nat.le_of_ble_eq_true rfl, Nat.le_of_ble_eq_true rfl, Nat.le_of_ble_eq_true rfl⟩ (Nat.le_of_ble_eq_true rfl) ?_
        intro r_ h_ q_; obtain ⟨rfl, hw2, hf2⟩ := q_
        refine g_callS (M' := mJ6_bitCount_0f7a4) dX7_wrongSigns_29 lc_J6_bitCount_0f7a4 ml_X7_179 (c_bitCount _ (by omega)) rfl rfl ⟨Nat.le_of_ble_eq_true rfl, Nat.le_of_ble_eq_true rfl, Nat.le_of_ble_eq_true rfl, Nat.le_of_ble_eq_true rfl⟩ (Nat.le_of_ble_eq_true rfl) ?_
        intro r_ h_ q_; obtain ⟨q1_, q2_⟩ := q_; have q2_ := q2_.symm; subst q1_; subst q2_
        rw [cnt_g _ hn]
        refine g_iadd dX7_wrongSigns_32 ?_
        rw [ni_add]
        refine g_istore_n (i := 2) dX7_wrongSigns_33 rfl (Nat.le_of_ble_eq_true rfl) rfl ?_
        refine g_iinc dX7_wrongSigns_34 rfl (Nat.le_of_ble_eq_true rfl) rfl ?_
        refine g_goto (tgt := 11) dX7_wrongSigns_37 (by decide) ?_
        rw [ni_incO]
        exact ih (c + 1) _ _ hw2 (fw_tr hfr hf2) (by omega) (fun q hq => hll q (List.mem_cons_of_mem _ hq)) (by rw [Nat.add_assoc]; exact he)
  refine g_iconst (v := 0) dX7_wrongSigns_0 (by decide) ?_
  refine g_istore_n (i := 2) dX7_wrongSigns_1 rfl (Nat.le_of_ble_eq_true rfl) rfl ?_
  refine g_aload_n (i := 0) dX7_wrongSigns_2 rfl rfl ?_
  refine g_get dX7_wrongSigns_3 fl_X7_37 (by repeat' (first | assumption | exact rF_eq | refine rF_ne (by decide) ?_ | refine rF_a ?_ | exact rA_eq | refine rA_ne (by decide) ?_ | refine rA_f ?_)) (by repeat' (first | assumption | exact rF_eq | refine rF_ne (by decide) ?_ | refine rF_a ?_ | exact rA_eq | refine rA_ne (by decide) ?_ | refine rA_f ?_)) ?_
  refine g_callV (M' := mX2_startWalk) dX7_wrongSigns_6 lc_X2_startWalk ml_X7_170 (c_startWalk hs) rfl rfl (by repeat' (first | assumption | exact rF_eq | refine rF_ne (by decide) ?_ | refine rF_a ?_ | exact rA_eq | refine rA_ne (by decide) ?_ | refine rA_f ?_)) rfl ⟨Nat.le_of_ble_eq_true rfl, Nat.le_of_ble_eq_true rfl, Nat.le_of_ble_eq_true rfl, Nat.le_of_ble_eq_true rfl⟩ (Nat.le_of_ble_eq_true rfl) ?_
  intro r_ h_ q_; obtain ⟨q1_, q2_⟩ := q_; have q2_ := q2_.symm; subst q1_; subst q2_
  refine g_iconst (v := 0) dX7_wrongSigns_9 (by decide) ?_
  refine g_istore_n (i := 3) dX7_wrongSigns_10 rfl (Nat.le_of_ble_eq_true rfl) rfl ?_
  exact key Ls 0 0 _ (wk_0 hs hb) (fw_F fw_rf) (by omega) hl (by rw [Nat.zero_add]; exact hzz)
end CmpX
theorem gq_fw {P I : Nat} {pt : PT} {fl : Int32} {h h' : HH} (hPI : P = 7 ∧ I = 18 ∨ P = 18 ∧ I = 7) (e0 : gA h 0 = aO 7) (q4 : gF h 0 4 = .ref 6) (q6 : gF h 0 6 = .int fl) (q5 : gF h 0 5 = .ref P) (hsp : SpX I h) (hp : PatX P pt h') (f : FrW P h h') : GQX pt fl h' := by
  refine ⟨(f.1 0 (by omega)).trans e0, (f.2 0 4 (by omega)).trans q4, (f.2 0 6 (by omega)).trans q6, P, I, hPI, (f.2 0 5 (by omega)).trans q5, hp, ?_⟩
  obtain ⟨hI, r1, r2, r6, r7, ⟨cn, bg, r8, r9⟩, tx, rl, lk, tm, wi, lo, hi, tu, sz, ws, pn, nl, hs⟩ := hsp
  exact ⟨hI, (f.1 6 (by omega)).trans r1, (f.2 6 0 (by omega)).trans r2, (f.2 6 5 (by omega)).trans r6, (f.2 6 6 (by omega)).trans r7, ⟨cn, bg, (f.1 16 (by omega)).trans r8, (f.1 17 (by omega)).trans r9⟩, tx, rl, lk, tm, wi, lo, hi, tu, sz, ws, pn, nl, stx_fr hs (fun k _ _ => f.1 k (by omega)) (fun j => f.2 I j (by omega))⟩
theorem gq_1 {pt : PT} {fl : Int32} {h : HH} (g : GQX pt fl h) (v : Value) : GQX pt fl (sF h 0 1 v) := by
  obtain ⟨e0, q4, q6, P, I, hPI, q5, hp, hsp⟩ := g
  exact ⟨e0, q4, q6, P, I, hPI, q5, patx_fr hp (fun k _ _ => rfl) (fun j => by rw [gF_sF, if_neg (by omega)]), spx_fr hsp (fun k _ _ => rfl) (fun k j _ _ => by rw [gF_sF, if_neg (by omega)])⟩
abbrev sfCmp : List (Nat × Nat) := [(0, 1), (7, 9), (18, 9)]
theorem fw_fr {P : Nat} {h h' : HH} (hP : P = 7 ∨ P = 18) (f : FrW P h h') : Fr [15, 26] sfCmp h h' := by
  refine ⟨fun k hk => f.1 k (fun q => hk ?_), fun k j hk => f.2 k j (fun q => hk ?_)⟩
  · subst q; rcases hP with rfl | rfl <;> decide
  · obtain ⟨rfl, rfl⟩ := q; rcases hP with rfl | rfl <;> decide
theorem x_compare {w : SH} {pt : PT} {fl : Int32} (hw : WfS w) (hp : WfP pt) {h : HH} (hg : GSX w h) (gq : GQX pt fl h) (s a : Int32) : CT mX7_compare 4 0 0 [.ref 0, .int s, .int a] h (fun r h' => r = some (.int (opCmp w pt s a).1) ∧ GSX ((opCmp w pt s a).2, w.2) h' ∧ GQX pt fl h' ∧ Fr [15, 26] sfCmp h h') := by
  obtain ⟨st, ln, so, it⟩ := w
  obtain ⟨⟨h0, h1, h2⟩, hs⟩ := id hg
  have hs0 := hs
  obtain ⟨e1, e2, e3, e4, e5, e6, e7⟩ := hs
  dsimp only at h2 e5 e6 e7 hs0
  obtain ⟨-, q4, q6, P, I, hPI, q5, hpat, hsp⟩ := id gq
  obtain ⟨tx, rl, lk, tm, wi, lo, hi, tu, sz, ws, Ls, f, hst, h12, hsz, hb, hM, hl⟩ := id hpat
  obtain ⟨w1, w2, w3⟩ := id hp
  have hP : P = 7 ∨ P = 18 := by omega
  have aP := hst.1
  have hlen : pt.2.2.1.length = Ls.length := by rw [hM, List.length_map]
  have hLn : ∀ s, s ∈ Ls → LnP tx lk lo hi pt.2.2.2 pt.2.1 s := fun s hs => by
    have hm := blk_mem _ _ _ _ _ hb s hs
    obtain ⟨q, k1, k2, k3, k4, k5⟩ := hl s hm.2.1 hm.2.2
    have hq : lkP lk s = q := by unfold lkP; rw [k1, nTN (by omega)]
    exact ⟨by omega, by rw [hq]; exact k3, by rw [hq]; exact k4, by rw [hq]; exact k5⟩
  have fin : ∀ (h2 : HH) (L2 : List Nat), WkS P tx rl lk tm wi lo hi sz (nI pt.2.1) (nI pt.1) L2 h2 → FrW P h h2 → GSX (0, ln, so, it) (sF h2 0 1 (.int 0)) ∧ GQX pt fl (sF h2 0 1 (.int 0)) ∧ Fr [15, 26] sfCmp h (sF h2 0 1 (.int 0)) := by
    intro h2 L2 hw2 hf2
    obtain ⟨tu2, K2, a2, f2, L3, R2, hs2, -⟩ := id hw2
    obtain ⟨z1, z2, z3, z4, z5, z6, z7⟩ := shx_fw hP hs0 hf2
    refine ⟨⟨⟨(hf2.1 0 (by omega)).trans h0, (hf2.2 0 0 (by omega)).trans h1, rfl⟩, ⟨z1, z2, z3, z4, z5, z6, z7⟩⟩, gq_1 (gq_fw hPI h0 q4 q6 q5 hsp ?_ hf2) _, fr_sF (by decide) (fw_fr hP hf2)⟩
    exact ⟨tx, rl, lk, tm, wi, lo, hi, tu2, sz, _, Ls, f, hs2, (hf2.2 P 12 (by omega)).trans h12, hsz, hb, hM, hl⟩
  refine CT.go [.ref 0, .int s, .int a] (by decide +kernel) rfl rfl (fun Q' hQ => ?_)
  refine g_iload_n (i := 1) dX7_compare_0 rfl rfl ?_
  refine g_bipush (v := 8) dX7_compare_1 (by decide) ?_
  refine g_callS (M' := mX7_isWithin) dX7_compare_3 lc_X7_isWithin ml_X7_90 (c_isWithin h s 8 8 rfl) rfl rfl ⟨Nat.le_of_ble_eq_true rfl, Nat.le_of_ble_eq_true rfl, Nat.le_of_ble_eq_true rfl, Nat.le_of_ble_eq_true rfl⟩ (Nat.le_of_ble_eq_true rfl) ?_
  intro r_ h_ q_; obtain ⟨q1_, q2_⟩ := q_; have q2_ := q2_.symm; subst q1_; subst q2_
  refine g_if_eq (tgt := 17) dX7_compare_6 (by decide) (fun hc6 => ?_) (fun hc6 => ?_)
  · replace hc6 := bI_0.mp hc6
    (try simp (disch := omega) only [nT, t_m1000100, t_m1000010, t_m1000003, t_m1000002, t_m1000001, t_m1000000, t_m65535, t_m1000, t_m3, t_m1, t_0, t_1, t_2, t_3, t_4, t_5, t_6, t_7, t_8, t_9, t_10, t_11, t_12, t_13, t_15, t_16, t_20, t_21, t_22, t_32, t_40, t_41, t_48, t_49, t_57, t_59, t_60, t_63, t_72, t_76, t_88, t_100, t_144, t_200, t_255, t_288, t_400, t_800, t_999, t_1000, t_1024, t_1200, t_1600, t_3200, t_100000, t_200000, t_252645135, t_858993459, t_1431655765, u_m1000002, u_m1000001, u_m1000, u_m3, u_m1, u_0, u_1, u_2, u_3, u_4, u_5, u_7, u_8, u_10, u_11, u_15, u_60, u_100, u_255, u_999, u_1000, u_100000, u_4294967295] at hc6)
    refine g_ldc dX7_compare_17 kc_X7_94 ?_
    refine g_iret dX7_compare_19 rfl (rfl) (hQ _ _ ?_)
    have e : opCmp (st, ln, so, it) pt s a = _ := if_pos (by omega)
    rw [e]; exact ⟨rfl, hg, gq, fr_rf⟩
  · replace hc6 := bI_n0.mp hc6
    (try simp (disch := omega) only [nT, t_m1000100, t_m1000010, t_m1000003, t_m1000002, t_m1000001, t_m1000000, t_m65535, t_m1000, t_m3, t_m1, t_0, t_1, t_2, t_3, t_4, t_5, t_6, t_7, t_8, t_9, t_10, t_11, t_12, t_13, t_15, t_16, t_20, t_21, t_22, t_32, t_40, t_41, t_48, t_49, t_57, t_59, t_60, t_63, t_72, t_76, t_88, t_100, t_144, t_200, t_255, t_288, t_400, t_800, t_999, t_1000, t_1024, t_1200, t_1600, t_3200, t_100000, t_200000, t_252645135, t_858993459, t_1431655765, u_m1000002, u_m1000001, u_m1000, u_m3, u_m1, u_0, u_1, u_2, u_3, u_4, u_5, u_7, u_8, u_10, u_11, u_15, u_60, u_100, u_255, u_999, u_1000, u_100000, u_4294967295] at hc6)
    refine g_iload_n (i := 2) dX7_compare_9 rfl rfl ?_
    refine g_iconst (v := 3) dX7_compare_10 (by decide) ?_
    refine g_callS (M' := mX7_isWithin) dX7_compare_11 lc_X7_isWithin ml_X7_90 (c_isWithin h a 3 3 rfl) rfl rfl ⟨Nat.le_of_ble_eq_true rfl, Nat.le_of_ble_eq_true rfl, Nat.le_of_ble_eq_true rfl, Nat.le_of_ble_eq_true rfl⟩ (Nat.le_of_ble_eq_true rfl) ?_
    intro r_ h_ q_; obtain ⟨q1_, q2_⟩ := q_; have q2_ := q2_.symm; subst q1_; subst q2_
    refine g_if_ne (tgt := 20) dX7_compare_14 (by decide) (fun hc14 => ?_) (fun hc14 => ?_)
    · replace hc14 := bI_n0.mp hc14
      (try simp (disch := omega) only [nT, t_m1000100, t_m1000010, t_m1000003, t_m1000002, t_m1000001, t_m1000000, t_m65535, t_m1000, t_m3, t_m1, t_0, t_1, t_2, t_3, t_4, t_5, t_6, t_7, t_8, t_9, t_10, t_11, t_12, t_13, t_15, t_16, t_20, t_21, t_22, t_32, t_40, t_41, t_48, t_49, t_57, t_59, t_60, t_63, t_72, t_76, t_88, t_100, t_144, t_200, t_255, t_288, t_400, t_800, t_999, t_1000, t_1024, t_1200, t_1600, t_3200, t_100000, t_200000, t_252645135, t_858993459, t_1431655765, u_m1000002, u_m1000001, u_m1000, u_m3, u_m1, u_0, u_1, u_2, u_3, u_4, u_5, u_7, u_8, u_10, u_11, u_15, u_60, u_100, u_255, u_999, u_1000, u_100000, u_4294967295] at hc14)
      refine g_aload_n (i := 0) dX7_compare_20 rfl rfl ?_
      refine g_get dX7_compare_21 fl_X7_37 (by repeat' (first | assumption | exact rF_eq | refine rF_ne (by decide) ?_ | refine rF_a ?_ | exact rA_eq | refine rA_ne (by decide) ?_ | refine rA_f ?_)) (by repeat' (first | assumption | exact rF_eq | refine rF_ne (by decide) ?_ | refine rF_a ?_ | exact rA_eq | refine rA_ne (by decide) ?_ | refine rA_f ?_)) ?_
      refine g_get dX7_compare_24 fl_X7_149 (by repeat' (first | assumption | exact rF_eq | refine rF_ne (by decide) ?_ | refine rF_a ?_ | exact rA_eq | refine rA_ne (by decide) ?_ | refine rA_f ?_)) (by repeat' (first | assumption | exact rF_eq | refine rF_ne (by decide) ?_ | refine rF_a ?_ | exact rA_eq | refine rA_ne (by decide) ?_ | refine rA_f ?_)) ?_
      refine g_if_ne (tgt := 33) dX7_compare_27 (by decide) (fun hc27 => ?_) (fun hc27 => ?_)
      · have hd27 := mt i_eq.mpr hc27; (try simp (disch := omega) only [nT, t_m1000100, t_m1000010, t_m1000003, t_m1000002, t_m1000001, t_m1000000, t_m65535, t_m1000, t_m3, t_m1, t_0, t_1, t_2, t_3, t_4, t_5, t_6, t_7, t_8, t_9, t_10, t_11, t_12, t_13, t_15, t_16, t_20, t_21, t_22, t_32, t_40, t_41, t_48, t_49, t_57, t_59, t_60, t_63, t_72, t_76, t_88, t_100, t_144, t_200, t_255, t_288, t_400, t_800, t_999, t_1000, t_1024, t_1200, t_1600, t_3200, t_100000, t_200000, t_252645135, t_858993459, t_1431655765, u_m1000002, u_m1000001, u_m1000, u_m3, u_m1, u_0, u_1, u_2, u_3, u_4, u_5, u_7, u_8, u_10, u_11, u_15, u_60, u_100, u_255, u_999, u_1000, u_100000, u_4294967295] at hd27)
        obtain ⟨A, hA, rfl, hta⟩ := n_of (n := 8) (x := s) (by omega) (by omega)
        have hwa := hw A hA
        dsimp only at hwa
        have en : ∀ x, opCmp (st, ln, so, it) pt (nI A) a = x ↔ _ = x := fun x => by rw [show opCmp (st, ln, so, it) pt (nI A) a = _ from (if_neg (by omega)).trans (if_neg (by omega)), nTN (by omega)]
        dsimp only at en
        refine g_aload_n (i := 0) dX7_compare_33 rfl rfl ?_
        refine g_get dX7_compare_34 fl_X7_10 (by repeat' (first | assumption | exact rF_eq | refine rF_ne (by decide) ?_ | refine rF_a ?_ | exact rA_eq | refine rA_ne (by decide) ?_ | refine rA_f ?_)) (by repeat' (first | assumption | exact rF_eq | refine rF_ne (by decide) ?_ | refine rF_a ?_ | exact rA_eq | refine rA_ne (by decide) ?_ | refine rA_f ?_)) ?_
        refine g_iload_n (i := 1) dX7_compare_37 rfl rfl ?_
        refine g_callV (M' := mX3_isMissing) dX7_compare_38 lc_X3_isMissing ml_X7_106 (c_isMissing hs0 hta hA (by omega)) rfl rfl (by repeat' (first | assumption | exact rF_eq | refine rF_ne (by decide) ?_ | refine rF_a ?_ | exact rA_eq | refine rA_ne (by decide) ?_ | refine rA_f ?_)) rfl ⟨Nat.le_of_ble_eq_true rfl, Nat.le_of_ble_eq_true rfl, Nat.le_of_ble_eq_true rfl, Nat.le_of_ble_eq_true rfl⟩ (Nat.le_of_ble_eq_true rfl) ?_
        intro r_ h_ q_; obtain ⟨q1_, q2_⟩ := q_; have q2_ := q2_.symm; subst q1_; subst q2_
        refine g_if_eq (tgt := 50) dX7_compare_41 (by decide) (fun hc41 => ?_) (fun hc41 => ?_)
        · replace hc41 := bI_0.mp hc41
          (try simp (disch := omega) only [nT, t_m1000100, t_m1000010, t_m1000003, t_m1000002, t_m1000001, t_m1000000, t_m65535, t_m1000, t_m3, t_m1, t_0, t_1, t_2, t_3, t_4, t_5, t_6, t_7, t_8, t_9, t_10, t_11, t_12, t_13, t_15, t_16, t_20, t_21, t_22, t_32, t_40, t_41, t_48, t_49, t_57, t_59, t_60, t_63, t_72, t_76, t_88, t_100, t_144, t_200, t_255, t_288, t_400, t_800, t_999, t_1000, t_1024, t_1200, t_1600, t_3200, t_100000, t_200000, t_252645135, t_858993459, t_1431655765, u_m1000002, u_m1000001, u_m1000, u_m3, u_m1, u_0, u_1, u_2, u_3, u_4, u_5, u_7, u_8, u_10, u_11, u_15, u_60, u_100, u_255, u_999, u_1000, u_100000, u_4294967295] at hc41)
          refine g_aload_n (i := 0) dX7_compare_50 rfl rfl ?_
          refine g_get dX7_compare_51 fl_X7_10 (by repeat' (first | assumption | exact rF_eq | refine rF_ne (by decide) ?_ | refine rF_a ?_ | exact rA_eq | refine rA_ne (by decide) ?_ | refine rA_f ?_)) (by repeat' (first | assumption | exact rF_eq | refine rF_ne (by decide) ?_ | refine rF_a ?_ | exact rA_eq | refine rA_ne (by decide) ?_ | refine rA_f ?_)) ?_
          refine g_get dX7_compare_54 fl_X7_134 (by repeat' (first | assumption | exact rF_eq | refine rF_ne (by decide) ?_ | refine rF_a ?_ | exact rA_eq | refine rA_ne (by decide) ?_ | refine rA_f ?_)) (by repeat' (first | assumption | exact rF_eq | refine rF_ne (by decide) ?_ | refine rF_a ?_ | exact rA_eq | refine rA_ne (by decide) ?_ | refine rA_f ?_)) ?_
          refine g_iload_n (i := 1) dX7_compare_57 rfl rfl ?_
          refine g_iald dX7_compare_58 (by repeat' (first | assumption | exact rF_eq | refine rF_ne (by decide) ?_ | refine rF_a ?_ | exact rA_eq | refine rA_ne (by decide) ?_ | refine rA_f ?_)) (hta) (hA) ?_
          refine g_if_ne (tgt := 68) dX7_compare_59 (by decide) (fun hc59 => ?_) (fun hc59 => ?_)
          · have hd59 := mt i_eq.mpr hc59; (try simp (disch := omega) only [nT, t_m1000100, t_m1000010, t_m1000003, t_m1000002, t_m1000001, t_m1000000, t_m65535, t_m1000, t_m3, t_m1, t_0, t_1, t_2, t_3, t_4, t_5, t_6, t_7, t_8, t_9, t_10, t_11, t_12, t_13, t_15, t_16, t_20, t_21, t_22, t_32, t_40, t_41, t_48, t_49, t_57, t_59, t_60, t_63, t_72, t_76, t_88, t_100, t_144, t_200, t_255, t_288, t_400, t_800, t_999, t_1000, t_1024, t_1200, t_1600, t_3200, t_100000, t_200000, t_252645135, t_858993459, t_1431655765, u_m1000002, u_m1000001, u_m1000, u_m3, u_m1, u_0, u_1, u_2, u_3, u_4, u_5, u_7, u_8, u_10, u_11, u_15, u_60, u_100, u_255, u_999, u_1000, u_100000, u_4294967295] at hd59)
            have e := (en _).mpr ((if_neg (by omega)).trans (if_neg (by omega)))
            obtain ⟨N, hN, hsN, htN⟩ := n_of (n := 101) (x := so A) (by omega) (by omega)
            rw [htN, Int.toNat_natCast, hM] at e
            have hN1 : 0 < N := by omega
            rw [hlen] at h12
            refine g_aload_n (i := 0) dX7_compare_68 rfl rfl ?_
            refine g_iload_n (i := 2) dX7_compare_69 rfl rfl ?_
            refine g_iconst (v := 2) dX7_compare_70 (by decide) ?_
            refine g_icmp_ne (tgt := 82) dX7_compare_71 (by decide) (fun hc71 => ?_) (fun hc71 => ?_)
            · have hd71 := mt i_eq.mpr hc71; (try simp (disch := omega) only [nT, t_m1000100, t_m1000010, t_m1000003, t_m1000002, t_m1000001, t_m1000000, t_m65535, t_m1000, t_m3, t_m1, t_0, t_1, t_2, t_3, t_4, t_5, t_6, t_7, t_8, t_9, t_10, t_11, t_12, t_13, t_15, t_16, t_20, t_21, t_22, t_32, t_40, t_41, t_48, t_49, t_57, t_59, t_60, t_63, t_72, t_76, t_88, t_100, t_144, t_200, t_255, t_288, t_400, t_800, t_999, t_1000, t_1024, t_1200, t_1600, t_3200, t_100000, t_200000, t_252645135, t_858993459, t_1431655765, u_m1000002, u_m1000001, u_m1000, u_m3, u_m1, u_0, u_1, u_2, u_3, u_4, u_5, u_7, u_8, u_10, u_11, u_15, u_60, u_100, u_255, u_999, u_1000, u_100000, u_4294967295] at hd71)
              refine g_aload_n (i := 0) dX7_compare_82 rfl rfl ?_
              refine g_iload_n (i := 1) dX7_compare_83 rfl rfl ?_
              refine g_iload_n (i := 2) dX7_compare_84 rfl rfl ?_
              refine g_iconst (v := 1) dX7_compare_85 (by decide) ?_
              refine g_icmp_ne (tgt := 93) dX7_compare_86 (by decide) (fun hc86 => ?_) (fun hc86 => ?_)
              · have hd86 := mt i_eq.mpr hc86; (try simp (disch := omega) only [nT, t_m1000100, t_m1000010, t_m1000003, t_m1000002, t_m1000001, t_m1000000, t_m65535, t_m1000, t_m3, t_m1, t_0, t_1, t_2, t_3, t_4, t_5, t_6, t_7, t_8, t_9, t_10, t_11, t_12, t_13, t_15, t_16, t_20, t_21, t_22, t_32, t_40, t_41, t_48, t_49, t_57, t_59, t_60, t_63, t_72, t_76, t_88, t_100, t_144, t_200, t_255, t_288, t_400, t_800, t_999, t_1000, t_1024, t_1200, t_1600, t_3200, t_100000, t_200000, t_252645135, t_858993459, t_1431655765, u_m1000002, u_m1000001, u_m1000, u_m3, u_m1, u_0, u_1, u_2, u_3, u_4, u_5, u_7, u_8, u_10, u_11, u_15, u_60, u_100, u_255, u_999, u_1000, u_100000, u_4294967295] at hd86)
                refine g_iconst (v := 0) dX7_compare_93 (by decide) ?_
                first
                | (have hbb : (1 : Int32) = bI (decide (a.toInt = 1) = true) := (bI_t (decide_eq_true (by omega))).symm
                   rw [hbb])
                | (have hbb : (0 : Int32) = bI (decide (a.toInt = 1) = true) := (bI_f (fun q => absurd (of_decide_eq_true q) (by omega))).symm
                   rw [hbb])
                refine g_callV (M' := mX7_firstWrong) dX7_compare_94 lc_X7_firstWrong ml_X7_166 (c_firstWrong (tp := pt.2.2.2) h0 h1 q5 hs0 hP hst hsz w1 hb h12 (by omega) hLn hA hsN hN1 (by omega) (decide (a.toInt = 1))) rfl rfl (by repeat' (first | assumption | exact rF_eq | refine rF_ne (by decide) ?_ | refine rF_a ?_ | exact rA_eq | refine rA_ne (by decide) ?_ | refine rA_f ?_)) rfl ⟨Nat.le_of_ble_eq_true rfl, Nat.le_of_ble_eq_true rfl, Nat.le_of_ble_eq_true rfl, Nat.le_of_ble_eq_true rfl⟩ (Nat.le_of_ble_eq_true rfl) ?_
                intro r_ h_ q_; obtain ⟨rfl, ⟨L2, hw2⟩, hf2⟩ := q_
                have k0 := (hf2.1 0 (by omega)).trans h0
                refine g_callV (M' := mX7_fine) dX7_compare_97 lc_X7_fine ml_X7_103 (c_fine k0 _) rfl rfl (by repeat' (first | assumption | exact rF_eq | refine rF_ne (by decide) ?_ | refine rF_a ?_ | exact rA_eq | refine rA_ne (by decide) ?_ | refine rA_f ?_)) rfl ⟨Nat.le_of_ble_eq_true rfl, Nat.le_of_ble_eq_true rfl, Nat.le_of_ble_eq_true rfl, Nat.le_of_ble_eq_true rfl⟩ (Nat.le_of_ble_eq_true rfl) ?_
                intro r_ h_ q_; obtain ⟨q1_, q2_⟩ := q_; have q2_ := q2_.symm; subst q1_; subst q2_
                refine g_iret dX7_compare_100 rfl (rfl) (hQ _ _ ?_)
                rw [e]
                dsimp only
                first
                | (rw [if_pos (by omega)]; exact ⟨rfl, fin _ _ hw2 hf2⟩)
                | (rw [if_neg (by omega)]; exact ⟨rfl, fin _ _ hw2 hf2⟩)
              · have hd86 := i_eq.mp hc86; (try simp (disch := omega) only [nT, t_m1000100, t_m1000010, t_m1000003, t_m1000002, t_m1000001, t_m1000000, t_m65535, t_m1000, t_m3, t_m1, t_0, t_1, t_2, t_3, t_4, t_5, t_6, t_7, t_8, t_9, t_10, t_11, t_12, t_13, t_15, t_16, t_20, t_21, t_22, t_32, t_40, t_41, t_48, t_49, t_57, t_59, t_60, t_63, t_72, t_76, t_88, t_100, t_144, t_200, t_255, t_288, t_400, t_800, t_999, t_1000, t_1024, t_1200, t_1600, t_3200, t_100000, t_200000, t_252645135, t_858993459, t_1431655765, u_m1000002, u_m1000001, u_m1000, u_m3, u_m1, u_0, u_1, u_2, u_3, u_4, u_5, u_7, u_8, u_10, u_11, u_15, u_60, u_100, u_255, u_999, u_1000, u_100000, u_4294967295] at hd86)
                refine g_iconst (v := 1) dX7_compare_89 (by decide) ?_
                refine g_goto (tgt := 94) dX7_compare_90 (by decide) ?_
                first
                | (have hbb : (1 : Int32) = bI (decide (a.toInt = 1) = true) := (bI_t (decide_eq_true (by omega))).symm
                   rw [hbb])
                | (have hbb : (0 : Int32) = bI (decide (a.toInt = 1) = true) := (bI_f (fun q => absurd (of_decide_eq_true q) (by omega))).symm
                   rw [hbb])
                refine g_callV (M' := mX7_firstWrong) dX7_compare_94 lc_X7_firstWrong ml_X7_166 (c_firstWrong (tp := pt.2.2.2) h0 h1 q5 hs0 hP hst hsz w1 hb h12 (by omega) hLn hA hsN hN1 (by omega) (decide (a.toInt = 1))) rfl rfl (by repeat' (first | assumption | exact rF_eq | refine rF_ne (by decide) ?_ | refine rF_a ?_ | exact rA_eq | refine rA_ne (by decide) ?_ | refine rA_f ?_)) rfl ⟨Nat.le_of_ble_eq_true rfl, Nat.le_of_ble_eq_true rfl, Nat.le_of_ble_eq_true rfl, Nat.le_of_ble_eq_true rfl⟩ (Nat.le_of_ble_eq_true rfl) ?_
                intro r_ h_ q_; obtain ⟨rfl, ⟨L2, hw2⟩, hf2⟩ := q_
                have k0 := (hf2.1 0 (by omega)).trans h0
                refine g_callV (M' := mX7_fine) dX7_compare_97 lc_X7_fine ml_X7_103 (c_fine k0 _) rfl rfl (by repeat' (first | assumption | exact rF_eq | refine rF_ne (by decide) ?_ | refine rF_a ?_ | exact rA_eq | refine rA_ne (by decide) ?_ | refine rA_f ?_)) rfl ⟨Nat.le_of_ble_eq_true rfl, Nat.le_of_ble_eq_true rfl, Nat.le_of_ble_eq_true rfl, Nat.le_of_ble_eq_true rfl⟩ (Nat.le_of_ble_eq_true rfl) ?_
                intro r_ h_ q_; obtain ⟨q1_, q2_⟩ := q_; have q2_ := q2_.symm; subst q1_; subst q2_
                refine g_iret dX7_compare_100 rfl (rfl) (hQ _ _ ?_)
                rw [e]
                dsimp only
                first
                | (rw [if_pos (by omega)]; exact ⟨rfl, fin _ _ hw2 hf2⟩)
                | (rw [if_neg (by omega)]; exact ⟨rfl, fin _ _ hw2 hf2⟩)
            · have hd71 := i_eq.mp hc71; (try simp (disch := omega) only [nT, t_m1000100, t_m1000010, t_m1000003, t_m1000002, t_m1000001, t_m1000000, t_m65535, t_m1000, t_m3, t_m1, t_0, t_1, t_2, t_3, t_4, t_5, t_6, t_7, t_8, t_9, t_10, t_11, t_12, t_13, t_15, t_16, t_20, t_21, t_22, t_32, t_40, t_41, t_48, t_49, t_57, t_59, t_60, t_63, t_72, t_76, t_88, t_100, t_144, t_200, t_255, t_288, t_400, t_800, t_999, t_1000, t_1024, t_1200, t_1600, t_3200, t_100000, t_200000, t_252645135, t_858993459, t_1431655765, u_m1000002, u_m1000001, u_m1000, u_m3, u_m1, u_0, u_1, u_2, u_3, u_4, u_5, u_7, u_8, u_10, u_11, u_15, u_60, u_100, u_255, u_999, u_1000, u_100000, u_4294967295] at hd71)
              refine g_aload_n (i := 0) dX7_compare_74 rfl rfl ?_
              refine g_iload_n (i := 1) dX7_compare_75 rfl rfl ?_
              refine g_callV (M' := mX7_wrongSigns) dX7_compare_76 lc_X7_wrongSigns ml_X7_163 (c_wrongSigns (tp := pt.2.2.2) h0 h1 q5 hs0 hP hst hsz w1 hb h12 (by omega) hLn hA hsN hN1 (by omega)) rfl rfl (by repeat' (first | assumption | exact rF_eq | refine rF_ne (by decide) ?_ | refine rF_a ?_ | exact rA_eq | refine rA_ne (by decide) ?_ | refine rA_f ?_)) rfl ⟨Nat.le_of_ble_eq_true rfl, Nat.le_of_ble_eq_true rfl, Nat.le_of_ble_eq_true rfl, Nat.le_of_ble_eq_true rfl⟩ (Nat.le_of_ble_eq_true rfl) ?_
              intro r_ h_ q_; obtain ⟨rfl, ⟨L2, hw2⟩, hf2⟩ := q_
              have k0 := (hf2.1 0 (by omega)).trans h0
              refine g_goto (tgt := 97) dX7_compare_79 (by decide) ?_
              refine g_callV (M' := mX7_fine) dX7_compare_97 lc_X7_fine ml_X7_103 (c_fine k0 _) rfl rfl (by repeat' (first | assumption | exact rF_eq | refine rF_ne (by decide) ?_ | refine rF_a ?_ | exact rA_eq | refine rA_ne (by decide) ?_ | refine rA_f ?_)) rfl ⟨Nat.le_of_ble_eq_true rfl, Nat.le_of_ble_eq_true rfl, Nat.le_of_ble_eq_true rfl, Nat.le_of_ble_eq_true rfl⟩ (Nat.le_of_ble_eq_true rfl) ?_
              intro r_ h_ q_; obtain ⟨q1_, q2_⟩ := q_; have q2_ := q2_.symm; subst q1_; subst q2_
              refine g_iret dX7_compare_100 rfl (rfl) (hQ _ _ ?_)
              rw [e]
              dsimp only
              first
              | (rw [if_pos (by omega)]; exact ⟨rfl, fin _ _ hw2 hf2⟩)
              | (rw [if_neg (by omega)]; exact ⟨rfl, fin _ _ hw2 hf2⟩)
          · have hd59 := i_eq.mp hc59; (try simp (disch := omega) only [nT, t_m1000100, t_m1000010, t_m1000003, t_m1000002, t_m1000001, t_m1000000, t_m65535, t_m1000, t_m3, t_m1, t_0, t_1, t_2, t_3, t_4, t_5, t_6, t_7, t_8, t_9, t_10, t_11, t_12, t_13, t_15, t_16, t_20, t_21, t_22, t_32, t_40, t_41, t_48, t_49, t_57, t_59, t_60, t_63, t_72, t_76, t_88, t_100, t_144, t_200, t_255, t_288, t_400, t_800, t_999, t_1000, t_1024, t_1200, t_1600, t_3200, t_100000, t_200000, t_252645135, t_858993459, t_1431655765, u_m1000002, u_m1000001, u_m1000, u_m3, u_m1, u_0, u_1, u_2, u_3, u_4, u_5, u_7, u_8, u_10, u_11, u_15, u_60, u_100, u_255, u_999, u_1000, u_100000, u_4294967295] at hd59)
            refine g_aload_n (i := 0) dX7_compare_62 rfl rfl ?_
            refine g_iconst (v := 2) dX7_compare_63 (by decide) ?_
            refine g_callV (M' := mX7_found) dX7_compare_64 lc_X7_found ml_X7_95 (c_found h0 2) rfl rfl (by repeat' (first | assumption | exact rF_eq | refine rF_ne (by decide) ?_ | refine rF_a ?_ | exact rA_eq | refine rA_ne (by decide) ?_ | refine rA_f ?_)) rfl ⟨Nat.le_of_ble_eq_true rfl, Nat.le_of_ble_eq_true rfl, Nat.le_of_ble_eq_true rfl, Nat.le_of_ble_eq_true rfl⟩ (Nat.le_of_ble_eq_true rfl) ?_
            intro r_ h_ q_; obtain ⟨q1_, q2_⟩ := q_; have q2_ := q2_.symm; subst q1_; subst q2_
            refine g_iret dX7_compare_67 rfl (rfl) (hQ _ _ ?_)
            have e := (en _).mpr ((if_neg (by omega)).trans (if_pos (by omega)))
            rw [e]; exact ⟨rfl, ⟨⟨h0, h1, rfl⟩, hs0⟩, gq_1 gq _, fr_sF (by decide) fr_rf⟩
        · replace hc41 := bI_n0.mp hc41
          (try simp (disch := omega) only [nT, t_m1000100, t_m1000010, t_m1000003, t_m1000002, t_m1000001, t_m1000000, t_m65535, t_m1000, t_m3, t_m1, t_0, t_1, t_2, t_3, t_4, t_5, t_6, t_7, t_8, t_9, t_10, t_11, t_12, t_13, t_15, t_16, t_20, t_21, t_22, t_32, t_40, t_41, t_48, t_49, t_57, t_59, t_60, t_63, t_72, t_76, t_88, t_100, t_144, t_200, t_255, t_288, t_400, t_800, t_999, t_1000, t_1024, t_1200, t_1600, t_3200, t_100000, t_200000, t_252645135, t_858993459, t_1431655765, u_m1000002, u_m1000001, u_m1000, u_m3, u_m1, u_0, u_1, u_2, u_3, u_4, u_5, u_7, u_8, u_10, u_11, u_15, u_60, u_100, u_255, u_999, u_1000, u_100000, u_4294967295] at hc41)
          refine g_aload_n (i := 0) dX7_compare_44 rfl rfl ?_
          refine g_iconst (v := 1) dX7_compare_45 (by decide) ?_
          refine g_callV (M' := mX7_found) dX7_compare_46 lc_X7_found ml_X7_95 (c_found h0 1) rfl rfl (by repeat' (first | assumption | exact rF_eq | refine rF_ne (by decide) ?_ | refine rF_a ?_ | exact rA_eq | refine rA_ne (by decide) ?_ | refine rA_f ?_)) rfl ⟨Nat.le_of_ble_eq_true rfl, Nat.le_of_ble_eq_true rfl, Nat.le_of_ble_eq_true rfl, Nat.le_of_ble_eq_true rfl⟩ (Nat.le_of_ble_eq_true rfl) ?_
          intro r_ h_ q_; obtain ⟨q1_, q2_⟩ := q_; have q2_ := q2_.symm; subst q1_; subst q2_
          refine g_iret dX7_compare_49 rfl (rfl) (hQ _ _ ?_)
          have e := (en _).mpr (if_pos (by omega))
          rw [e]; exact ⟨rfl, ⟨⟨h0, h1, rfl⟩, hs0⟩, gq_1 gq _, fr_sF (by decide) fr_rf⟩
      · have hd27 := i_eq.mp hc27; (try simp (disch := omega) only [nT, t_m1000100, t_m1000010, t_m1000003, t_m1000002, t_m1000001, t_m1000000, t_m65535, t_m1000, t_m3, t_m1, t_0, t_1, t_2, t_3, t_4, t_5, t_6, t_7, t_8, t_9, t_10, t_11, t_12, t_13, t_15, t_16, t_20, t_21, t_22, t_32, t_40, t_41, t_48, t_49, t_57, t_59, t_60, t_63, t_72, t_76, t_88, t_100, t_144, t_200, t_255, t_288, t_400, t_800, t_999, t_1000, t_1024, t_1200, t_1600, t_3200, t_100000, t_200000, t_252645135, t_858993459, t_1431655765, u_m1000002, u_m1000001, u_m1000, u_m3, u_m1, u_0, u_1, u_2, u_3, u_4, u_5, u_7, u_8, u_10, u_11, u_15, u_60, u_100, u_255, u_999, u_1000, u_100000, u_4294967295] at hd27)
        refine g_ldc dX7_compare_30 kc_X7_162 ?_
        refine g_iret dX7_compare_32 rfl (rfl) (hQ _ _ ?_)
        have e : opCmp (st, ln, so, it) pt s a = _ := (if_neg (by omega)).trans (if_pos (by omega))
        rw [e]; exact ⟨rfl, hg, gq, fr_rf⟩
    · replace hc14 := bI_0.mp hc14
      (try simp (disch := omega) only [nT, t_m1000100, t_m1000010, t_m1000003, t_m1000002, t_m1000001, t_m1000000, t_m65535, t_m1000, t_m3, t_m1, t_0, t_1, t_2, t_3, t_4, t_5, t_6, t_7, t_8, t_9, t_10, t_11, t_12, t_13, t_15, t_16, t_20, t_21, t_22, t_32, t_40, t_41, t_48, t_49, t_57, t_59, t_60, t_63, t_72, t_76, t_88, t_100, t_144, t_200, t_255, t_288, t_400, t_800, t_999, t_1000, t_1024, t_1200, t_1600, t_3200, t_100000, t_200000, t_252645135, t_858993459, t_1431655765, u_m1000002, u_m1000001, u_m1000, u_m3, u_m1, u_0, u_1, u_2, u_3, u_4, u_5, u_7, u_8, u_10, u_11, u_15, u_60, u_100, u_255, u_999, u_1000, u_100000, u_4294967295] at hc14)
      refine g_ldc dX7_compare_17 kc_X7_94 ?_
      refine g_iret dX7_compare_19 rfl (rfl) (hQ _ _ ?_)
      have e : opCmp (st, ln, so, it) pt s a = _ := if_pos (by omega)
      rw [e]; exact ⟨rfl, hg, gq, fr_rf⟩
