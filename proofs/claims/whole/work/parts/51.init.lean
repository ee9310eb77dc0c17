/-! the constructors -/
theorem cv_def (ty : FieldType) (g : GP) : defaultValue ty = cv g (defaultValue ty) := by cases ty <;> rfl
def VX0 : Nat → Value := fun k => defaultValue (tyX0 k)
theorem hVX0 : ∀ k, k < 3 → ∀ g : GP, defaultValue (tyX0 k) = cv g (VX0 k) := fun k _ g => cv_def (tyX0 k) g
def VX1 : Nat → Value := fun k => defaultValue (tyX1 k)
theorem hVX1 : ∀ k, k < 3 → ∀ g : GP, defaultValue (tyX1 k) = cv g (VX1 k) := fun k _ g => cv_def (tyX1 k) g
def VX2 : Nat → Value := fun k => defaultValue (tyX2 k)
theorem hVX2 : ∀ k, k < 13 → ∀ g : GP, defaultValue (tyX2 k) = cv g (VX2 k) := fun k _ g => cv_def (tyX2 k) g
def VX3 : Nat → Value := fun k => defaultValue (tyX3 k)
theorem hVX3 : ∀ k, k < 3 → ∀ g : GP, defaultValue (tyX3 k) = cv g (VX3 k) := fun k _ g => cv_def (tyX3 k) g
def VX4 : Nat → Value := fun k => defaultValue (tyX4 k)
theorem hVX4 : ∀ k, k < 7 → ∀ g : GP, defaultValue (tyX4 k) = cv g (VX4 k) := fun k _ g => cv_def (tyX4 k) g
def VX5 : Nat → Value := fun k => defaultValue (tyX5 k)
theorem hVX5 : ∀ k, k < 7 → ∀ g : GP, defaultValue (tyX5 k) = cv g (VX5 k) := fun k _ g => cv_def (tyX5 k) g
def VX6 : Nat → Value := fun k => defaultValue (tyX6 k)
theorem hVX6 : ∀ k, k < 1 → ∀ g : GP, defaultValue (tyX6 k) = cv g (VX6 k) := fun k _ g => cv_def (tyX6 k) g
def VX7 : Nat → Value := fun k => defaultValue (tyX7 k)
theorem hVX7 : ∀ k, k < 16 → ∀ g : GP, defaultValue (tyX7 k) = cv g (VX7 k) := fun k _ g => cv_def (tyX7 k) g
def VX8 : Nat → Value := fun k => defaultValue (tyX8 k)
theorem hVX8 : ∀ k, k < 48 → ∀ g : GP, defaultValue (tyX8 k) = cv g (VX8 k) := fun k _ g => cv_def (tyX8 k) g
def fil (n : Nat) (v : Int32) (f : Nat → Int32) (k : Nat) : Nat → Int32 := fun j => if j < k then v else f j
theorem fil_s (n : Nat) (v : Int32) (f : Nat → Int32) (k : Nat) : upd (fil n v f k) k v = fil n v f (k + 1) := by
  funext j
  unfold upd fil
  by_cases h1 : j = k
  · rw [if_pos h1, if_pos (by omega)]
  · rw [if_neg h1]
    by_cases h2 : j < k
    · rw [if_pos h2, if_pos (by omega)]
    · rw [if_neg h2, if_neg (by omega)]
theorem g_ext {E : EE} {cs sl pc : Nat} {L st : List Value} {h : HH} {k n : Nat} {f f' : Nat → Int32} (ha : gA h k = aI n f) (hf : ∀ j, j < n → f j = f' j) (K : GG E cs sl pc L st (sA h k (aI n f'))) : GG E cs sl pc L st h := fun g p l e s m args below meth c C X H locs ls hR hS hL => by
  refine K g p l e s m args below meth c C X H locs ls ⟨hR.1, fun i => ?_⟩ hS hL
  by_cases hi : i = k
  · subst hi
    have h1 := hR.i ha
    unfold AT
    rw [gA_sA, if_pos rfl]
    show H[g.1 + i]? = some (arrV g.2.2.2.1 n (fun j => .int (f' j)))
    rw [h1]
    show some (arrV g.2.2.2.1 n (fun j => .int (f j))) = _
    congr 1
    unfold arrV
    congr 1
    apply Array.ext
    · simp
    · intro i h1 h2
      simp only [Array.getElem_ofFn]
      rw [hf _ (by simpa using h1)]
  · exact (hR.2 i).keep (fun _ => rfl) (by rw [gA_sA, if_neg hi]) (fun j => rfl)
theorem c_fill {h : HH} {q n : Nat} {f : Nat → Int32} (ha : gA h q = aI n f) (hn : n < 2147483648) (v : Int32) : CT mJ7_fill_53178 0 0 0 [.ref q, .int v] h (fun r h' => r = none ∧ h' = sA h q (aI n (fun _ => v))) := by
  refine CT.go [.ref q, .int v, hU, hU] (by decide +kernel) rfl rfl (fun Q' hQ => ?_)
  have hT := @nT n hn
  have key : ∀ m k : Nat, k + m = n → GG (EM mJ7_fill_53178 0 0 0 Q') 0 0 5 [.ref q, .int v, .int (nI k), .int (nI n)] [] (sA h q (aI n (fil n v f k))) := by
    intro m
    induction m with
    | zero =>
      intro k hk
      obtain rfl : k = n := by omega
      refine g_iload_n (i := 2) dJ7_fill_53178_5 rfl rfl ?_
      refine g_iload_n (i := 3) dJ7_fill_53178_6 rfl rfl ?_
      refine g_icmp_ge (tgt := 20) dJ7_fill_53178_7 (by decide) (fun hc7 => ?_) (fun hc7 => ?_)
      · (try simp (disch := omega) only [nT, t_m1000100, t_m1000010, t_m1000003, t_m1000002, t_m1000001, t_m1000000, t_m65535, t_m1000, t_m3, t_m1, t_0, t_1, t_2, t_3, t_4, t_5, t_6, t_7, t_8, t_9, t_10, t_11, t_12, t_13, t_15, t_16, t_20, t_21, t_22, t_32, t_40, t_41, t_48, t_49, t_57, t_59, t_60, t_63, t_72, t_76, t_88, t_100, t_144, t_200, t_255, t_288, t_400, t_800, t_999, t_1000, t_1024, t_1200, t_1600, t_3200, t_100000, t_200000, t_252645135, t_858993459, t_1431655765, u_m1000002, u_m1000001, u_m1000, u_m3, u_m1, u_0, u_1, u_2, u_3, u_4, u_5, u_7, u_8, u_10, u_11, u_15, u_60, u_100, u_255, u_999, u_1000, u_100000, u_4294967295] at hc7)
        refine g_ext (k := q) (n := k) (f := fil k v f k) (f' := fun _ => v) rA_eq (fun j hj => if_pos hj) ?_
        rw [sA_sA]
        refine g_vret dJ7_fill_53178_20 rfl (hQ _ _ ?_)
        exact ⟨rfl, rfl⟩
      · (try simp (disch := omega) only [nT, t_m1000100, t_m1000010, t_m1000003, t_m1000002, t_m1000001, t_m1000000, t_m65535, t_m1000, t_m3, t_m1, t_0, t_1, t_2, t_3, t_4, t_5, t_6, t_7, t_8, t_9, t_10, t_11, t_12, t_13, t_15, t_16, t_20, t_21, t_22, t_32, t_40, t_41, t_48, t_49, t_57, t_59, t_60, t_63, t_72, t_76, t_88, t_100, t_144, t_200, t_255, t_288, t_400, t_800, t_999, t_1000, t_1024, t_1200, t_1600, t_3200, t_100000, t_200000, t_252645135, t_858993459, t_1431655765, u_m1000002, u_m1000001, u_m1000, u_m3, u_m1, u_0, u_1, u_2, u_3, u_4, u_5, u_7, u_8, u_10, u_11, u_15, u_60, u_100, u_255, u_999, u_1000, u_100000, u_4294967295] at hc7); omega
    | succ m ih =>
      intro k hk
      refine g_iload_n (i := 2) dJ7_fill_53178_5 rfl rfl ?_
      refine g_iload_n (i := 3) dJ7_fill_53178_6 rfl rfl ?_
      refine g_icmp_ge (tgt := 20) dJ7_fill_53178_7 (by decide) (fun hc7 => ?_) (fun hc7 => ?_)
      · (try simp (disch := omega) only [nT, t_m1000100, t_m1000010, t_m1000003, t_m1000002, t_m1000001, t_m1000000, t_m65535, t_m1000, t_m3, t_m1, t_0, t_1, t_2, t_3, t_4, t_5, t_6, t_7, t_8, t_9, t_10, t_11, t_12, t_13, t_15, t_16, t_20, t_21, t_22, t_32, t_40, t_41, t_48, t_49, t_57, t_59, t_60, t_63, t_72, t_76, t_88, t_100, t_144, t_200, t_255, t_288, t_400, t_800, t_999, t_1000, t_1024, t_1200, t_1600, t_3200, t_100000, t_200000, t_252645135, t_858993459, t_1431655765, u_m1000002, u_m1000001, u_m1000, u_m3, u_m1, u_0, u_1, u_2, u_3, u_4, u_5, u_7, u_8, u_10, u_11, u_15, u_60, u_100, u_255, u_999, u_1000, u_100000, u_4294967295] at hc7); omega
      · (try simp (disch := omega) only [nT, t_m1000100, t_m1000010, t_m1000003, t_m1000002, t_m1000001, t_m1000000, t_m65535, t_m1000, t_m3, t_m1, t_0, t_1, t_2, t_3, t_4, t_5, t_6, t_7, t_8, t_9, t_10, t_11, t_12, t_13, t_15, t_16, t_20, t_21, t_22, t_32, t_40, t_41, t_48, t_49, t_57, t_59, t_60, t_63, t_72, t_76, t_88, t_100, t_144, t_200, t_255, t_288, t_400, t_800, t_999, t_1000, t_1024, t_1200, t_1600, t_3200, t_100000, t_200000, t_252645135, t_858993459, t_1431655765, u_m1000002, u_m1000001, u_m1000, u_m3, u_m1, u_0, u_1, u_2, u_3, u_4, u_5, u_7, u_8, u_10, u_11, u_15, u_60, u_100, u_255, u_999, u_1000, u_100000, u_4294967295] at hc7)
        refine g_aload_n (i := 0) dJ7_fill_53178_10 rfl rfl ?_
        refine g_iload_n (i := 2) dJ7_fill_53178_11 rfl rfl ?_
        refine g_iload_n (i := 1) dJ7_fill_53178_12 rfl rfl ?_
        refine g_iast dJ7_fill_53178_13 (by repeat' (first | assumption | exact rF_eq | refine rF_ne (by decide) ?_ | refine rF_a ?_ | exact rA_eq | refine rA_ne (by decide) ?_ | refine rA_f ?_)) (nT (by omega)) (by omega) ?_
        refine g_iinc dJ7_fill_53178_14 rfl (Nat.le_of_ble_eq_true rfl) rfl ?_
        refine g_goto (tgt := 5) dJ7_fill_53178_17 (by decide) ?_
        rw [sA_sA, fil_s, ni_incO]
        exact ih (k + 1) (by omega)
  refine g_iconst (v := 0) dJ7_fill_53178_0 (by decide) ?_
  refine g_istore_n (i := 2) dJ7_fill_53178_1 rfl (Nat.le_of_ble_eq_true rfl) rfl ?_
  refine g_aload_n (i := 0) dJ7_fill_53178_2 rfl rfl ?_
  refine g_alen dJ7_fill_53178_3 (by repeat' (first | assumption | exact rF_eq | refine rF_ne (by decide) ?_ | refine rF_a ?_ | exact rA_eq | refine rA_ne (by decide) ?_ | refine rA_f ?_)) rfl ?_
  refine g_istore_n (i := 3) dJ7_fill_53178_4 rfl (Nat.le_of_ble_eq_true rfl) rfl ?_
  have k0 := key n 0 (by omega)
  rw [show fil n v f 0 = f from funext fun j => if_neg (by omega), sA_self ha] at k0
  exact k0
def eX3_init_1 (h : HH) : HH := (sA (sF (nA (sF (nA (sF (nA h (aI 8 (fun _ => 0))) 1 0 (.ref 2)) (aI 8 (fun _ => 0))) 1 1 (.ref 3)) (aI 800 (fun _ => 0))) 1 2 (.ref 4)) 2 (aI 8 (fun _ => -1)))
theorem c_X3_init_1 (h : HH) (hn : gN h = 1) : CT mX3_init 1 3 816 [.ref 1] (nO h 3 VX3) (fun r h' => r = none ∧ h' = eX3_init_1 (nO h 3 VX3)) := by
  obtain ⟨a, b, c⟩ := h
  obtain rfl : c = 1 := hn
  refine CT.go [.ref 1] (by decide +kernel) rfl rfl (fun Q' hQ => ?_)
  refine g_aload_n (i := 0) dX3_init_0 rfl rfl ?_
  refine g_objInit dX3_init_1 ml_X3_3 oi_inst oi_code ⟨Nat.le_of_ble_eq_true rfl, Nat.le_of_ble_eq_true rfl⟩ ?_
  refine g_aload_n (i := 0) dX3_init_4 rfl rfl ?_
  refine g_bipush (v := 8) dX3_init_5 (by decide) ?_
  refine g_newI (n := 8) dX3_init_7 (by decide) (by decide) ka_int ⟨Nat.le_of_ble_eq_true rfl, Nat.le_of_ble_eq_true rfl⟩ ?_
  refine g_putF dX3_init_9 ql_X3_9 rfl (by exact rfl) (fun _ => ⟨rfl, rfl⟩) ?_
  refine g_aload_n (i := 0) dX3_init_12 rfl rfl ?_
  refine g_bipush (v := 8) dX3_init_13 (by decide) ?_
  refine g_newI (n := 8) dX3_init_15 (by decide) (by decide) ka_int ⟨Nat.le_of_ble_eq_true rfl, Nat.le_of_ble_eq_true rfl⟩ ?_
  refine g_putF dX3_init_17 ql_X3_15 rfl (by exact rfl) (fun _ => ⟨rfl, rfl⟩) ?_
  refine g_aload_n (i := 0) dX3_init_20 rfl rfl ?_
  refine g_sipush (v := 800) dX3_init_21 (by decide) ?_
  refine g_newI (n := 800) dX3_init_24 (by decide) (by decide) ka_int ⟨Nat.le_of_ble_eq_true rfl, Nat.le_of_ble_eq_true rfl⟩ ?_
  refine g_putF dX3_init_26 ql_X3_18 rfl (by exact rfl) (fun _ => ⟨rfl, rfl⟩) ?_
  refine g_aload_n (i := 0) dX3_init_29 rfl rfl ?_
  refine g_get dX3_init_30 fl_X3_9 (by exact rfl) (by exact rfl) ?_
  refine g_iconst (v := (-1)) dX3_init_33 (by decide) ?_
  refine g_callS (M' := mJ7_fill_53178) dX3_init_34 lc_J7_fill_53178 ml_X3_21 (c_fill (n := 8) (f := (fun _ => 0)) rfl (by decide) (-1)) rfl rfl ⟨Nat.le_of_ble_eq_true rfl, Nat.le_of_ble_eq_true rfl, Nat.le_of_ble_eq_true rfl, Nat.le_of_ble_eq_true rfl⟩ (Nat.le_of_ble_eq_true rfl) ?_
  intro r_ h_ q_; obtain ⟨q1_, q2_⟩ := q_; have q2_ := q2_.symm; subst q1_; subst q2_
  refine g_vret dX3_init_37 rfl (hQ _ _ ?_)
  exact ⟨rfl, rfl⟩
def eX2_init_7 (h : HH) : HH := (sF (sF (sF (sF (sF (sF (nA (sF (nA (sF (nA (sF (nA (sF (nA (sF (nA (sF (nA (sF (nA h (aI 400 (fun _ => 0))) 7 0 (.ref 8)) (aI 400 (fun _ => 0))) 7 1 (.ref 9)) (aI 400 (fun _ => 0))) 7 2 (.ref 10)) (aI 400 (fun _ => 0))) 7 3 (.ref 11)) (aI 400 (fun _ => 0))) 7 4 (.ref 12)) (aI 400 (fun _ => 0))) 7 5 (.ref 13)) (aI 400 (fun _ => 0))) 7 6 (.ref 14)) (aI 400 (fun _ => 0))) 7 7 (.ref 15)) 7 8 (.int 0)) 7 9 (.int 0)) 7 10 (.int 0)) 7 11 (.int 0)) 7 12 (.int 0))
theorem c_X2_init_7 (h : HH) (hn : gN h = 7) : CT mX2_init 1 8 3200 [.ref 7] (nO h 2 VX2) (fun r h' => r = none ∧ h' = eX2_init_7 (nO h 2 VX2)) := by
  obtain ⟨a, b, c⟩ := h
  obtain rfl : c = 7 := hn
  refine CT.go [.ref 7] (by decide +kernel) rfl rfl (fun Q' hQ => ?_)
  refine g_aload_n (i := 0) dX2_init_0 rfl rfl ?_
  refine g_objInit dX2_init_1 ml_X2_3 oi_inst oi_code ⟨Nat.le_of_ble_eq_true rfl, Nat.le_of_ble_eq_true rfl⟩ ?_
  refine g_aload_n (i := 0) dX2_init_4 rfl rfl ?_
  refine g_sipush (v := 400) dX2_init_5 (by decide) ?_
  refine g_newI (n := 400) dX2_init_8 (by decide) (by decide) ka_int ⟨Nat.le_of_ble_eq_true rfl, Nat.le_of_ble_eq_true rfl⟩ ?_
  refine g_putF dX2_init_10 ql_X2_9 rfl (by exact rfl) (fun _ => ⟨rfl, rfl⟩) ?_
  refine g_aload_n (i := 0) dX2_init_13 rfl rfl ?_
  refine g_sipush (v := 400) dX2_init_14 (by decide) ?_
  refine g_newI (n := 400) dX2_init_17 (by decide) (by decide) ka_int ⟨Nat.le_of_ble_eq_true rfl, Nat.le_of_ble_eq_true rfl⟩ ?_
  refine g_putF dX2_init_19 ql_X2_15 rfl (by exact rfl) (fun _ => ⟨rfl, rfl⟩) ?_
  refine g_aload_n (i := 0) dX2_init_22 rfl rfl ?_
  refine g_sipush (v := 400) dX2_init_23 (by decide) ?_
  refine g_newI (n := 400) dX2_init_26 (by decide) (by decide) ka_int ⟨Nat.le_of_ble_eq_true rfl, Nat.le_of_ble_eq_true rfl⟩ ?_
  refine g_putF dX2_init_28 ql_X2_18 rfl (by exact rfl) (fun _ => ⟨rfl, rfl⟩) ?_
  refine g_aload_n (i := 0) dX2_init_31 rfl rfl ?_
  refine g_sipush (v := 400) dX2_init_32 (by decide) ?_
  refine g_newI (n := 400) dX2_init_35 (by decide) (by decide) ka_int ⟨Nat.le_of_ble_eq_true rfl, Nat.le_of_ble_eq_true rfl⟩ ?_
  refine g_putF dX2_init_37 ql_X2_21 rfl (by exact rfl) (fun _ => ⟨rfl, rfl⟩) ?_
  refine g_aload_n (i := 0) dX2_init_40 rfl rfl ?_
  refine g_sipush (v := 400) dX2_init_41 (by decide) ?_
  refine g_newI (n := 400) dX2_init_44 (by decide) (by decide) ka_int ⟨Nat.le_of_ble_eq_true rfl, Nat.le_of_ble_eq_true rfl⟩ ?_
  refine g_putF dX2_init_46 ql_X2_24 rfl (by exact rfl) (fun _ => ⟨rfl, rfl⟩) ?_
  refine g_aload_n (i := 0) dX2_init_49 rfl rfl ?_
  refine g_sipush (v := 400) dX2_init_50 (by decide) ?_
  refine g_newI (n := 400) dX2_init_53 (by decide) (by decide) ka_int ⟨Nat.le_of_ble_eq_true rfl, Nat.le_of_ble_eq_true rfl⟩ ?_
  refine g_putF dX2_init_55 ql_X2_27 rfl (by exact rfl) (fun _ => ⟨rfl, rfl⟩) ?_
  refine g_aload_n (i := 0) dX2_init_58 rfl rfl ?_
  refine g_sipush (v := 400) dX2_init_59 (by decide) ?_
  refine g_newI (n := 400) dX2_init_62 (by decide) (by decide) ka_int ⟨Nat.le_of_ble_eq_true rfl, Nat.le_of_ble_eq_true rfl⟩ ?_
  refine g_putF dX2_init_64 ql_X2_30 rfl (by exact rfl) (fun _ => ⟨rfl, rfl⟩) ?_
  refine g_aload_n (i := 0) dX2_init_67 rfl rfl ?_
  refine g_sipush (v := 400) dX2_init_68 (by decide) ?_
  refine g_newI (n := 400) dX2_init_71 (by decide) (by decide) ka_int ⟨Nat.le_of_ble_eq_true rfl, Nat.le_of_ble_eq_true rfl⟩ ?_
  refine g_putF dX2_init_73 ql_X2_33 rfl (by exact rfl) (fun _ => ⟨rfl, rfl⟩) ?_
  refine g_aload_n (i := 0) dX2_init_76 rfl rfl ?_
  refine g_iconst (v := 0) dX2_init_77 (by decide) ?_
  refine g_put dX2_init_78 pl_X2_36 (by exact rfl) (fun _ => ⟨rfl, rfl⟩) ?_
  refine g_aload_n (i := 0) dX2_init_81 rfl rfl ?_
  refine g_iconst (v := 0) dX2_init_82 (by decide) ?_
  refine g_put dX2_init_83 pl_X2_40 (by exact rfl) (fun _ => ⟨rfl, rfl⟩) ?_
  refine g_aload_n (i := 0) dX2_init_86 rfl rfl ?_
  refine g_iconst (v := 0) dX2_init_87 (by decide) ?_
  refine g_put dX2_init_88 pl_X2_43 (by exact rfl) (fun _ => ⟨rfl, rfl⟩) ?_
  refine g_aload_n (i := 0) dX2_init_91 rfl rfl ?_
  refine g_iconst (v := 0) dX2_init_92 (by decide) ?_
  refine g_put dX2_init_93 pl_X2_46 (by exact rfl) (fun _ => ⟨rfl, rfl⟩) ?_
  refine g_aload_n (i := 0) dX2_init_96 rfl rfl ?_
  refine g_iconst (v := 0) dX2_init_97 (by decide) ?_
  refine g_put dX2_init_98 pl_X2_49 (by exact rfl) (fun _ => ⟨rfl, rfl⟩) ?_
  refine g_vret dX2_init_101 rfl (hQ _ _ ?_)
  exact ⟨rfl, rfl⟩
def eX4_init_6 (h : HH) : HH := (sF (nA (sF (nA (sF (sF (sF (sF (sF (eX2_init_7 (nO h 2 VX2)) 6 0 (.ref 7)) 6 1 (.int 0)) 6 2 (.int 0)) 6 3 (.int 0)) 6 4 (.int 0)) (aI 7 (fun _ => 0))) 6 5 (.ref 16)) (aI 7 (fun _ => 0))) 6 6 (.ref 17))
theorem c_X4_init_6 (h : HH) (hn : gN h = 6) : CT mX4_init 2 11 3227 [.ref 6] (nO h 4 VX4) (fun r h' => r = none ∧ h' = eX4_init_6 (nO h 4 VX4)) := by
  obtain ⟨a, b, c⟩ := h
  obtain rfl : c = 6 := hn
  refine CT.go [.ref 6] (by decide +kernel) rfl rfl (fun Q' hQ => ?_)
  refine g_aload_n (i := 0) dX4_init_0 rfl rfl ?_
  refine g_objInit dX4_init_1 ml_X4_3 oi_inst oi_code ⟨Nat.le_of_ble_eq_true rfl, Nat.le_of_ble_eq_true rfl⟩ ?_
  refine g_aload_n (i := 0) dX4_init_4 rfl rfl ?_
  refine g_new (c := 2) (V := VX2) tyX2 dX4_init_5 rfl tyX2_ok hVX2 kl_X4_9 ki_X2 kn_X2 ⟨Nat.le_of_ble_eq_true rfl, Nat.le_of_ble_eq_true rfl⟩ ?_
  refine g_dup dX4_init_8 rfl ?_
  refine g_callIN dX4_init_9 lc_X2_init rfl nl_X4_11 (c_X2_init_7 _ rfl) rfl rfl ⟨Nat.le_of_ble_eq_true rfl, Nat.le_of_ble_eq_true rfl, Nat.le_of_ble_eq_true rfl, Nat.le_of_ble_eq_true rfl⟩ (Nat.le_of_ble_eq_true rfl) ?_
  intro r_ h_ q_; obtain ⟨q1_, q2_⟩ := q_; have q2_ := q2_.symm; subst q1_; subst q2_
  refine g_put dX4_init_12 pl_X4_12 (by exact rfl) (fun _ => ⟨rfl, rfl⟩) ?_
  refine g_aload_n (i := 0) dX4_init_15 rfl rfl ?_
  refine g_iconst (v := 0) dX4_init_16 (by decide) ?_
  refine g_put dX4_init_17 pl_X4_18 (by exact rfl) (fun _ => ⟨rfl, rfl⟩) ?_
  refine g_aload_n (i := 0) dX4_init_20 rfl rfl ?_
  refine g_iconst (v := 0) dX4_init_21 (by decide) ?_
  refine g_put dX4_init_22 pl_X4_22 (by exact rfl) (fun _ => ⟨rfl, rfl⟩) ?_
  refine g_aload_n (i := 0) dX4_init_25 rfl rfl ?_
  refine g_iconst (v := 0) dX4_init_26 (by decide) ?_
  refine g_put dX4_init_27 pl_X4_25 (by exact rfl) (fun _ => ⟨rfl, rfl⟩) ?_
  refine g_aload_n (i := 0) dX4_init_30 rfl rfl ?_
  refine g_iconst (v := 0) dX4_init_31 (by decide) ?_
  refine g_put dX4_init_32 pl_X4_28 (by exact rfl) (fun _ => ⟨rfl, rfl⟩) ?_
  refine g_aload_n (i := 0) dX4_init_35 rfl rfl ?_
  refine g_bipush (v := 7) dX4_init_36 (by decide) ?_
  refine g_newI (n := 7) dX4_init_38 (by decide) (by decide) ka_int ⟨Nat.le_of_ble_eq_true rfl, Nat.le_of_ble_eq_true rfl⟩ ?_
  refine g_putF dX4_init_40 ql_X4_31 rfl (by exact rfl) (fun _ => ⟨rfl, rfl⟩) ?_
  refine g_aload_n (i := 0) dX4_init_43 rfl rfl ?_
  refine g_bipush (v := 7) dX4_init_44 (by decide) ?_
  refine g_newI (n := 7) dX4_init_46 (by decide) (by decide) ka_int ⟨Nat.le_of_ble_eq_true rfl, Nat.le_of_ble_eq_true rfl⟩ ?_
  refine g_putF dX4_init_48 ql_X4_35 rfl (by exact rfl) (fun _ => ⟨rfl, rfl⟩) ?_
  refine g_vret dX4_init_51 rfl (hQ _ _ ?_)
  exact ⟨rfl, rfl⟩
def eX2_init_18 (h : HH) : HH := (sF (sF (sF (sF (sF (sF (nA (sF (nA (sF (nA (sF (nA (sF (nA (sF (nA (sF (nA (sF (nA h (aI 400 (fun _ => 0))) 18 0 (.ref 19)) (aI 400 (fun _ => 0))) 18 1 (.ref 20)) (aI 400 (fun _ => 0))) 18 2 (.ref 21)) (aI 400 (fun _ => 0))) 18 3 (.ref 22)) (aI 400 (fun _ => 0))) 18 4 (.ref 23)) (aI 400 (fun _ => 0))) 18 5 (.ref 24)) (aI 400 (fun _ => 0))) 18 6 (.ref 25)) (aI 400 (fun _ => 0))) 18 7 (.ref 26)) 18 8 (.int 0)) 18 9 (.int 0)) 18 10 (.int 0)) 18 11 (.int 0)) 18 12 (.int 0))
theorem c_X2_init_18 (h : HH) (hn : gN h = 18) : CT mX2_init 1 8 3200 [.ref 18] (nO h 2 VX2) (fun r h' => r = none ∧ h' = eX2_init_18 (nO h 2 VX2)) := by
  obtain ⟨a, b, c⟩ := h
  obtain rfl : c = 18 := hn
  refine CT.go [.ref 18] (by decide +kernel) rfl rfl (fun Q' hQ => ?_)
  refine g_aload_n (i := 0) dX2_init_0 rfl rfl ?_
  refine g_objInit dX2_init_1 ml_X2_3 oi_inst oi_code ⟨Nat.le_of_ble_eq_true rfl, Nat.le_of_ble_eq_true rfl⟩ ?_
  refine g_aload_n (i := 0) dX2_init_4 rfl rfl ?_
  refine g_sipush (v := 400) dX2_init_5 (by decide) ?_
  refine g_newI (n := 400) dX2_init_8 (by decide) (by decide) ka_int ⟨Nat.le_of_ble_eq_true rfl, Nat.le_of_ble_eq_true rfl⟩ ?_
  refine g_putF dX2_init_10 ql_X2_9 rfl (by exact rfl) (fun _ => ⟨rfl, rfl⟩) ?_
  refine g_aload_n (i := 0) dX2_init_13 rfl rfl ?_
  refine g_sipush (v := 400) dX2_init_14 (by decide) ?_
  refine g_newI (n := 400) dX2_init_17 (by decide) (by decide) ka_int ⟨Nat.le_of_ble_eq_true rfl, Nat.le_of_ble_eq_true rfl⟩ ?_
  refine g_putF dX2_init_19 ql_X2_15 rfl (by exact rfl) (fun _ => ⟨rfl, rfl⟩) ?_
  refine g_aload_n (i := 0) dX2_init_22 rfl rfl ?_
  refine g_sipush (v := 400) dX2_init_23 (by decide) ?_
  refine g_newI (n := 400) dX2_init_26 (by decide) (by decide) ka_int ⟨Nat.le_of_ble_eq_true rfl, Nat.le_of_ble_eq_true rfl⟩ ?_
  refine g_putF dX2_init_28 ql_X2_18 rfl (by exact rfl) (fun _ => ⟨rfl, rfl⟩) ?_
  refine g_aload_n (i := 0) dX2_init_31 rfl rfl ?_
  refine g_sipush (v := 400) dX2_init_32 (by decide) ?_
  refine g_newI (n := 400) dX2_init_35 (by decide) (by decide) ka_int ⟨Nat.le_of_ble_eq_true rfl, Nat.le_of_ble_eq_true rfl⟩ ?_
  refine g_putF dX2_init_37 ql_X2_21 rfl (by exact rfl) (fun _ => ⟨rfl, rfl⟩) ?_
  refine g_aload_n (i := 0) dX2_init_40 rfl rfl ?_
  refine g_sipush (v := 400) dX2_init_41 (by decide) ?_
  refine g_newI (n := 400) dX2_init_44 (by decide) (by decide) ka_int ⟨Nat.le_of_ble_eq_true rfl, Nat.le_of_ble_eq_true rfl⟩ ?_
  refine g_putF dX2_init_46 ql_X2_24 rfl (by exact rfl) (fun _ => ⟨rfl, rfl⟩) ?_
  refine g_aload_n (i := 0) dX2_init_49 rfl rfl ?_
  refine g_sipush (v := 400) dX2_init_50 (by decide) ?_
  refine g_newI (n := 400) dX2_init_53 (by decide) (by decide) ka_int ⟨Nat.le_of_ble_eq_true rfl, Nat.le_of_ble_eq_true rfl⟩ ?_
  refine g_putF dX2_init_55 ql_X2_27 rfl (by exact rfl) (fun _ => ⟨rfl, rfl⟩) ?_
  refine g_aload_n (i := 0) dX2_init_58 rfl rfl ?_
  refine g_sipush (v := 400) dX2_init_59 (by decide) ?_
  refine g_newI (n := 400) dX2_init_62 (by decide) (by decide) ka_int ⟨Nat.le_of_ble_eq_true rfl, Nat.le_of_ble_eq_true rfl⟩ ?_
  refine g_putF dX2_init_64 ql_X2_30 rfl (by exact rfl) (fun _ => ⟨rfl, rfl⟩) ?_
  refine g_aload_n (i := 0) dX2_init_67 rfl rfl ?_
  refine g_sipush (v := 400) dX2_init_68 (by decide) ?_
  refine g_newI (n := 400) dX2_init_71 (by decide) (by decide) ka_int ⟨Nat.le_of_ble_eq_true rfl, Nat.le_of_ble_eq_true rfl⟩ ?_
  refine g_putF dX2_init_73 ql_X2_33 rfl (by exact rfl) (fun _ => ⟨rfl, rfl⟩) ?_
  refine g_aload_n (i := 0) dX2_init_76 rfl rfl ?_
  refine g_iconst (v := 0) dX2_init_77 (by decide) ?_
  refine g_put dX2_init_78 pl_X2_36 (by exact rfl) (fun _ => ⟨rfl, rfl⟩) ?_
  refine g_aload_n (i := 0) dX2_init_81 rfl rfl ?_
  refine g_iconst (v := 0) dX2_init_82 (by decide) ?_
  refine g_put dX2_init_83 pl_X2_40 (by exact rfl) (fun _ => ⟨rfl, rfl⟩) ?_
  refine g_aload_n (i := 0) dX2_init_86 rfl rfl ?_
  refine g_iconst (v := 0) dX2_init_87 (by decide) ?_
  refine g_put dX2_init_88 pl_X2_43 (by exact rfl) (fun _ => ⟨rfl, rfl⟩) ?_
  refine g_aload_n (i := 0) dX2_init_91 rfl rfl ?_
  refine g_iconst (v := 0) dX2_init_92 (by decide) ?_
  refine g_put dX2_init_93 pl_X2_46 (by exact rfl) (fun _ => ⟨rfl, rfl⟩) ?_
  refine g_aload_n (i := 0) dX2_init_96 rfl rfl ?_
  refine g_iconst (v := 0) dX2_init_97 (by decide) ?_
  refine g_put dX2_init_98 pl_X2_49 (by exact rfl) (fun _ => ⟨rfl, rfl⟩) ?_
  refine g_vret dX2_init_101 rfl (hQ _ _ ?_)
  exact ⟨rfl, rfl⟩
def eX5_init_27 (h : HH) : HH := (sF (nA (sF (nA (sF (nA (sF (nA (sF (nA (sF (nA (sF h 27 0 (.int 0)) (aI 10 (fun _ => 0))) 27 1 (.ref 28)) (aI 10 (fun _ => 0))) 27 2 (.ref 29)) (aI 10 (fun _ => 0))) 27 3 (.ref 30)) (aI 10 (fun _ => 0))) 27 4 (.ref 31)) (aI 10 (fun _ => 0))) 27 5 (.ref 32)) (aI 10 (fun _ => 0))) 27 6 (.ref 33))
theorem c_X5_init_27 (h : HH) (hn : gN h = 27) : CT mX5_init 1 6 60 [.ref 27] (nO h 5 VX5) (fun r h' => r = none ∧ h' = eX5_init_27 (nO h 5 VX5)) := by
  obtain ⟨a, b, c⟩ := h
  obtain rfl : c = 27 := hn
  refine CT.go [.ref 27] (by decide +kernel) rfl rfl (fun Q' hQ => ?_)
  refine g_aload_n (i := 0) dX5_init_0 rfl rfl ?_
  refine g_objInit dX5_init_1 ml_X5_3 oi_inst oi_code ⟨Nat.le_of_ble_eq_true rfl, Nat.le_of_ble_eq_true rfl⟩ ?_
  refine g_aload_n (i := 0) dX5_init_4 rfl rfl ?_
  refine g_iconst (v := 0) dX5_init_5 (by decide) ?_
  refine g_put dX5_init_6 pl_X5_9 (by exact rfl) (fun _ => ⟨rfl, rfl⟩) ?_
  refine g_aload_n (i := 0) dX5_init_9 rfl rfl ?_
  refine g_bipush (v := 10) dX5_init_10 (by decide) ?_
  refine g_newI (n := 10) dX5_init_12 (by decide) (by decide) ka_int ⟨Nat.le_of_ble_eq_true rfl, Nat.le_of_ble_eq_true rfl⟩ ?_
  refine g_putF dX5_init_14 ql_X5_15 rfl (by exact rfl) (fun _ => ⟨rfl, rfl⟩) ?_
  refine g_aload_n (i := 0) dX5_init_17 rfl rfl ?_
  refine g_bipush (v := 10) dX5_init_18 (by decide) ?_
  refine g_newI (n := 10) dX5_init_20 (by decide) (by decide) ka_int ⟨Nat.le_of_ble_eq_true rfl, Nat.le_of_ble_eq_true rfl⟩ ?_
  refine g_putF dX5_init_22 ql_X5_19 rfl (by exact rfl) (fun _ => ⟨rfl, rfl⟩) ?_
  refine g_aload_n (i := 0) dX5_init_25 rfl rfl ?_
  refine g_bipush (v := 10) dX5_init_26 (by decide) ?_
  refine g_newI (n := 10) dX5_init_28 (by decide) (by decide) ka_int ⟨Nat.le_of_ble_eq_true rfl, Nat.le_of_ble_eq_true rfl⟩ ?_
  refine g_putF dX5_init_30 ql_X5_22 rfl (by exact rfl) (fun _ => ⟨rfl, rfl⟩) ?_
  refine g_aload_n (i := 0) dX5_init_33 rfl rfl ?_
  refine g_bipush (v := 10) dX5_init_34 (by decide) ?_
  refine g_newI (n := 10) dX5_init_36 (by decide) (by decide) ka_int ⟨Nat.le_of_ble_eq_true rfl, Nat.le_of_ble_eq_true rfl⟩ ?_
  refine g_putF dX5_init_38 ql_X5_25 rfl (by exact rfl) (fun _ => ⟨rfl, rfl⟩) ?_
  refine g_aload_n (i := 0) dX5_init_41 rfl rfl ?_
  refine g_bipush (v := 10) dX5_init_42 (by decide) ?_
  refine g_newI (n := 10) dX5_init_44 (by decide) (by decide) ka_int ⟨Nat.le_of_ble_eq_true rfl, Nat.le_of_ble_eq_true rfl⟩ ?_
  refine g_putF dX5_init_46 ql_X5_28 rfl (by exact rfl) (fun _ => ⟨rfl, rfl⟩) ?_
  refine g_aload_n (i := 0) dX5_init_49 rfl rfl ?_
  refine g_bipush (v := 10) dX5_init_50 (by decide) ?_
  refine g_newI (n := 10) dX5_init_52 (by decide) (by decide) ka_int ⟨Nat.le_of_ble_eq_true rfl, Nat.le_of_ble_eq_true rfl⟩ ?_
  refine g_putF dX5_init_54 ql_X5_31 rfl (by exact rfl) (fun _ => ⟨rfl, rfl⟩) ?_
  refine g_vret dX5_init_57 rfl (hQ _ _ ?_)
  exact ⟨rfl, rfl⟩
def eX0_init_34 (h : HH) : HH := (sF (sF (sF (nA h (aI 16 (fun _ => 0))) 34 1 (.ref 35)) 34 2 (.int 0)) 34 0 (.ref 27))
theorem c_X0_init_34 (h : HH) (hn : gN h = 34) : CT mX0_init 1 1 16 [.ref 34, .ref 27] (nO h 0 VX0) (fun r h' => r = none ∧ h' = eX0_init_34 (nO h 0 VX0)) := by
  obtain ⟨a, b, c⟩ := h
  obtain rfl : c = 34 := hn
  refine CT.go [.ref 34, .ref 27] (by decide +kernel) rfl rfl (fun Q' hQ => ?_)
  refine g_aload_n (i := 0) dX0_init_0 rfl rfl ?_
  refine g_objInit dX0_init_1 ml_X0_3 oi_inst oi_code ⟨Nat.le_of_ble_eq_true rfl, Nat.le_of_ble_eq_true rfl⟩ ?_
  refine g_aload_n (i := 0) dX0_init_4 rfl rfl ?_
  refine g_bipush (v := 16) dX0_init_5 (by decide) ?_
  refine g_newI (n := 16) dX0_init_7 (by decide) (by decide) ka_int ⟨Nat.le_of_ble_eq_true rfl, Nat.le_of_ble_eq_true rfl⟩ ?_
  refine g_putF dX0_init_9 ql_X0_9 rfl (by exact rfl) (fun _ => ⟨rfl, rfl⟩) ?_
  refine g_aload_n (i := 0) dX0_init_12 rfl rfl ?_
  refine g_iconst (v := 0) dX0_init_13 (by decide) ?_
  refine g_put dX0_init_14 pl_X0_15 (by exact rfl) (fun _ => ⟨rfl, rfl⟩) ?_
  refine g_aload_n (i := 0) dX0_init_17 rfl rfl ?_
  refine g_aload_n (i := 1) dX0_init_18 rfl rfl ?_
  refine g_putF dX0_init_19 ql_X0_19 rfl (by exact rfl) (fun _ => ⟨rfl, rfl⟩) ?_
  refine g_vret dX0_init_22 rfl (hQ _ _ ?_)
  exact ⟨rfl, rfl⟩
def eX1_init_38 (h : HH) : HH := (sF (sF (sF (nA h (aI 1200 (fun _ => 0))) 38 0 (.ref 39)) 38 1 (.int 0)) 38 2 (.int 0))
theorem c_X1_init_38 (h : HH) (hn : gN h = 38) : CT mX1_init 1 1 1200 [.ref 38] (nO h 1 VX1) (fun r h' => r = none ∧ h' = eX1_init_38 (nO h 1 VX1)) := by
  obtain ⟨a, b, c⟩ := h
  obtain rfl : c = 38 := hn
  refine CT.go [.ref 38] (by decide +kernel) rfl rfl (fun Q' hQ => ?_)
  refine g_aload_n (i := 0) dX1_init_0 rfl rfl ?_
  refine g_objInit dX1_init_1 ml_X1_3 oi_inst oi_code ⟨Nat.le_of_ble_eq_true rfl, Nat.le_of_ble_eq_true rfl⟩ ?_
  refine g_aload_n (i := 0) dX1_init_4 rfl rfl ?_
  refine g_sipush (v := 1200) dX1_init_5 (by decide) ?_
  refine g_newI (n := 1200) dX1_init_8 (by decide) (by decide) ka_int ⟨Nat.le_of_ble_eq_true rfl, Nat.le_of_ble_eq_true rfl⟩ ?_
  refine g_putF dX1_init_10 ql_X1_9 rfl (by exact rfl) (fun _ => ⟨rfl, rfl⟩) ?_
  refine g_aload_n (i := 0) dX1_init_13 rfl rfl ?_
  refine g_iconst (v := 0) dX1_init_14 (by decide) ?_
  refine g_put dX1_init_15 pl_X1_15 (by exact rfl) (fun _ => ⟨rfl, rfl⟩) ?_
  refine g_aload_n (i := 0) dX1_init_18 rfl rfl ?_
  refine g_iconst (v := 0) dX1_init_19 (by decide) ?_
  refine g_put dX1_init_20 pl_X1_19 (by exact rfl) (fun _ => ⟨rfl, rfl⟩) ?_
  refine g_vret dX1_init_23 rfl (hQ _ _ ?_)
  exact ⟨rfl, rfl⟩
def eX6_init_40 (h : HH) : HH := (sA (sF (nA h (aI 144 (fun _ => 0))) 40 0 (.ref 41)) 41 (aI 144 (fun _ => -1000000)))
theorem c_X6_init_40 (h : HH) (hn : gN h = 40) : CT mX6_init 1 1 144 [.ref 40] (nO h 6 VX6) (fun r h' => r = none ∧ h' = eX6_init_40 (nO h 6 VX6)) := by
  obtain ⟨a, b, c⟩ := h
  obtain rfl : c = 40 := hn
  refine CT.go [.ref 40] (by decide +kernel) rfl rfl (fun Q' hQ => ?_)
  refine g_aload_n (i := 0) dX6_init_0 rfl rfl ?_
  refine g_objInit dX6_init_1 ml_X6_3 oi_inst oi_code ⟨Nat.le_of_ble_eq_true rfl, Nat.le_of_ble_eq_true rfl⟩ ?_
  refine g_aload_n (i := 0) dX6_init_4 rfl rfl ?_
  refine g_sipush (v := 144) dX6_init_5 (by decide) ?_
  refine g_newI (n := 144) dX6_init_8 (by decide) (by decide) ka_int ⟨Nat.le_of_ble_eq_true rfl, Nat.le_of_ble_eq_true rfl⟩ ?_
  refine g_putF dX6_init_10 ql_X6_9 rfl (by exact rfl) (fun _ => ⟨rfl, rfl⟩) ?_
  refine g_aload_n (i := 0) dX6_init_13 rfl rfl ?_
  refine g_get dX6_init_14 fl_X6_9 (by exact rfl) (by exact rfl) ?_
  refine g_ldc dX6_init_17 kc_X6_15 ?_
  refine g_callS (M' := mJ7_fill_53178) dX6_init_19 lc_J7_fill_53178 ml_X6_16 (c_fill (n := 144) (f := (fun _ => 0)) rfl (by decide) (-1000000)) rfl rfl ⟨Nat.le_of_ble_eq_true rfl, Nat.le_of_ble_eq_true rfl, Nat.le_of_ble_eq_true rfl, Nat.le_of_ble_eq_true rfl⟩ (Nat.le_of_ble_eq_true rfl) ?_
  intro r_ h_ q_; obtain ⟨q1_, q2_⟩ := q_; have q2_ := q2_.symm; subst q1_; subst q2_
  refine g_vret dX6_init_22 rfl (hQ _ _ ?_)
  exact ⟨rfl, rfl⟩
def eX6_init_42 (h : HH) : HH := (sA (sF (nA h (aI 144 (fun _ => 0))) 42 0 (.ref 43)) 43 (aI 144 (fun _ => -1000000)))
theorem c_X6_init_42 (h : HH) (hn : gN h = 42) : CT mX6_init 1 1 144 [.ref 42] (nO h 6 VX6) (fun r h' => r = none ∧ h' = eX6_init_42 (nO h 6 VX6)) := by
  obtain ⟨a, b, c⟩ := h
  obtain rfl : c = 42 := hn
  refine CT.go [.ref 42] (by decide +kernel) rfl rfl (fun Q' hQ => ?_)
  refine g_aload_n (i := 0) dX6_init_0 rfl rfl ?_
  refine g_objInit dX6_init_1 ml_X6_3 oi_inst oi_code ⟨Nat.le_of_ble_eq_true rfl, Nat.le_of_ble_eq_true rfl⟩ ?_
  refine g_aload_n (i := 0) dX6_init_4 rfl rfl ?_
  refine g_sipush (v := 144) dX6_init_5 (by decide) ?_
  refine g_newI (n := 144) dX6_init_8 (by decide) (by decide) ka_int ⟨Nat.le_of_ble_eq_true rfl, Nat.le_of_ble_eq_true rfl⟩ ?_
  refine g_putF dX6_init_10 ql_X6_9 rfl (by exact rfl) (fun _ => ⟨rfl, rfl⟩) ?_
  refine g_aload_n (i := 0) dX6_init_13 rfl rfl ?_
  refine g_get dX6_init_14 fl_X6_9 (by exact rfl) (by exact rfl) ?_
  refine g_ldc dX6_init_17 kc_X6_15 ?_
  refine g_callS (M' := mJ7_fill_53178) dX6_init_19 lc_J7_fill_53178 ml_X6_16 (c_fill (n := 144) (f := (fun _ => 0)) rfl (by decide) (-1000000)) rfl rfl ⟨Nat.le_of_ble_eq_true rfl, Nat.le_of_ble_eq_true rfl, Nat.le_of_ble_eq_true rfl, Nat.le_of_ble_eq_true rfl⟩ (Nat.le_of_ble_eq_true rfl) ?_
  intro r_ h_ q_; obtain ⟨q1_, q2_⟩ := q_; have q2_ := q2_.symm; subst q1_; subst q2_
  refine g_vret dX6_init_22 rfl (hQ _ _ ?_)
  exact ⟨rfl, rfl⟩
def eX7_init_0 (h : HH) : HH := (sF (eX6_init_42 (nO (sF (eX6_init_40 (nO (sF (eX1_init_38 (nO (sF (sF (sF (nA (sF (nA (sF (eX0_init_34 (nO (sF (eX5_init_27 (nO (sF (sF (eX2_init_18 (nO (sF (eX4_init_6 (nO (sF (sF (nA (sF (sF (eX3_init_1 (nO h 3 VX3)) 0 0 (.ref 1)) 0 1 (.int 0)) (aI 400 (fun _ => 0))) 0 2 (.ref 5)) 0 3 (.int 0)) 4 VX4)) 0 4 (.ref 6)) 2 VX2)) 0 5 (.ref 18)) 0 6 (.int 0)) 5 VX5)) 0 7 (.ref 27)) 0 VX0)) 0 8 (.ref 34)) (aI 8 (fun _ => 0))) 0 9 (.ref 36)) (aZ 8 (fun _ => 0))) 0 10 (.ref 37)) 0 11 (.int 0)) 0 12 (.int 1)) 1 VX1)) 0 13 (.ref 38)) 6 VX6)) 0 14 (.ref 40)) 6 VX6)) 0 15 (.ref 42))
theorem c_X7_init_0 (h : HH) (hn : gN h = 0) : CT mX7_init 3 43 9261 [.ref 0] (nO h 7 VX7) (fun r h' => r = none ∧ h' = eX7_init_0 (nO h 7 VX7)) := by
  obtain ⟨a, b, c⟩ := h
  obtain rfl : c = 0 := hn
  refine CT.go [.ref 0] (by decide +kernel) rfl rfl (fun Q' hQ => ?_)
  refine g_aload_n (i := 0) dX7_init_0 rfl rfl ?_
  refine g_objInit dX7_init_1 ml_X7_1 oi_inst oi_code ⟨Nat.le_of_ble_eq_true rfl, Nat.le_of_ble_eq_true rfl⟩ ?_
  refine g_aload_n (i := 0) dX7_init_4 rfl rfl ?_
  refine g_new (c := 3) (V := VX3) tyX3 dX7_init_5 rfl tyX3_ok hVX3 kl_X7_7 ki_X3 kn_X3 ⟨Nat.le_of_ble_eq_true rfl, Nat.le_of_ble_eq_true rfl⟩ ?_
  refine g_dup dX7_init_8 rfl ?_
  refine g_callI dX7_init_9 lc_X3_init rfl ml_X7_9 (c_X3_init_1 _ rfl) rfl rfl ⟨Nat.le_of_ble_eq_true rfl, Nat.le_of_ble_eq_true rfl, Nat.le_of_ble_eq_true rfl, Nat.le_of_ble_eq_true rfl⟩ (Nat.le_of_ble_eq_true rfl) ?_
  intro r_ h_ q_; obtain ⟨q1_, q2_⟩ := q_; have q2_ := q2_.symm; subst q1_; subst q2_
  refine g_putF dX7_init_12 ql_X7_10 rfl (by exact rfl) (fun _ => ⟨rfl, rfl⟩) ?_
  refine g_aload_n (i := 0) dX7_init_15 rfl rfl ?_
  refine g_iconst (v := 0) dX7_init_16 (by decide) ?_
  refine g_put dX7_init_17 pl_X7_16 (by exact rfl) (fun _ => ⟨rfl, rfl⟩) ?_
  refine g_aload_n (i := 0) dX7_init_20 rfl rfl ?_
  refine g_sipush (v := 400) dX7_init_21 (by decide) ?_
  refine g_newI (n := 400) dX7_init_24 (by decide) (by decide) ka_int ⟨Nat.le_of_ble_eq_true rfl, Nat.le_of_ble_eq_true rfl⟩ ?_
  refine g_putF dX7_init_26 ql_X7_20 rfl (by exact rfl) (fun _ => ⟨rfl, rfl⟩) ?_
  refine g_aload_n (i := 0) dX7_init_29 rfl rfl ?_
  refine g_iconst (v := 0) dX7_init_30 (by decide) ?_
  refine g_put dX7_init_31 pl_X7_24 (by exact rfl) (fun _ => ⟨rfl, rfl⟩) ?_
  refine g_aload_n (i := 0) dX7_init_34 rfl rfl ?_
  refine g_new (c := 4) (V := VX4) tyX4 dX7_init_35 rfl tyX4_ok hVX4 kl_X7_27 ki_X4 kn_X4 ⟨Nat.le_of_ble_eq_true rfl, Nat.le_of_ble_eq_true rfl⟩ ?_
  refine g_dup dX7_init_38 rfl ?_
  refine g_callIN dX7_init_39 lc_X4_init rfl nl_X7_29 (c_X4_init_6 _ rfl) rfl rfl ⟨Nat.le_of_ble_eq_true rfl, Nat.le_of_ble_eq_true rfl, Nat.le_of_ble_eq_true rfl, Nat.le_of_ble_eq_true rfl⟩ (Nat.le_of_ble_eq_true rfl) ?_
  intro r_ h_ q_; obtain ⟨q1_, q2_⟩ := q_; have q2_ := q2_.symm; subst q1_; subst q2_
  refine g_putF dX7_init_42 ql_X7_30 rfl (by exact rfl) (fun _ => ⟨rfl, rfl⟩) ?_
  refine g_aload_n (i := 0) dX7_init_45 rfl rfl ?_
  refine g_new (c := 2) (V := VX2) tyX2 dX7_init_46 rfl tyX2_ok hVX2 kl_X7_34 ki_X2 kn_X2 ⟨Nat.le_of_ble_eq_true rfl, Nat.le_of_ble_eq_true rfl⟩ ?_
  refine g_dup dX7_init_49 rfl ?_
  refine g_callIN dX7_init_50 lc_X2_init rfl nl_X7_36 (c_X2_init_18 _ rfl) rfl rfl ⟨Nat.le_of_ble_eq_true rfl, Nat.le_of_ble_eq_true rfl, Nat.le_of_ble_eq_true rfl, Nat.le_of_ble_eq_true rfl⟩ (Nat.le_of_ble_eq_true rfl) ?_
  intro r_ h_ q_; obtain ⟨q1_, q2_⟩ := q_; have q2_ := q2_.symm; subst q1_; subst q2_
  refine g_put dX7_init_53 pl_X7_37 (by exact rfl) (fun _ => ⟨rfl, rfl⟩) ?_
  refine g_aload_n (i := 0) dX7_init_56 rfl rfl ?_
  refine g_iconst (v := 0) dX7_init_57 (by decide) ?_
  refine g_put dX7_init_58 pl_X7_41 (by exact rfl) (fun _ => ⟨rfl, rfl⟩) ?_
  refine g_aload_n (i := 0) dX7_init_61 rfl rfl ?_
  refine g_new (c := 5) (V := VX5) tyX5 dX7_init_62 rfl tyX5_ok hVX5 kl_X7_44 ki_X5 kn_X5 ⟨Nat.le_of_ble_eq_true rfl, Nat.le_of_ble_eq_true rfl⟩ ?_
  refine g_dup dX7_init_65 rfl ?_
  refine g_callIN dX7_init_66 lc_X5_init rfl nl_X7_46 (c_X5_init_27 _ rfl) rfl rfl ⟨Nat.le_of_ble_eq_true rfl, Nat.le_of_ble_eq_true rfl, Nat.le_of_ble_eq_true rfl, Nat.le_of_ble_eq_true rfl⟩ (Nat.le_of_ble_eq_true rfl) ?_
  intro r_ h_ q_; obtain ⟨q1_, q2_⟩ := q_; have q2_ := q2_.symm; subst q1_; subst q2_
  refine g_putF dX7_init_69 ql_X7_47 rfl (by exact rfl) (fun _ => ⟨rfl, rfl⟩) ?_
  refine g_aload_n (i := 0) dX7_init_72 rfl rfl ?_
  refine g_new (c := 0) (V := VX0) tyX0 dX7_init_73 rfl tyX0_ok hVX0 kl_X7_51 ki_X0 kn_X0 ⟨Nat.le_of_ble_eq_true rfl, Nat.le_of_ble_eq_true rfl⟩ ?_
  refine g_dup dX7_init_76 rfl ?_
  refine g_aload_n (i := 0) dX7_init_77 rfl rfl ?_
  refine g_get dX7_init_78 fl_X7_47 (by exact rfl) (by exact rfl) ?_
  refine g_callI dX7_init_81 lc_X0_init rfl ml_X7_53 (c_X0_init_34 _ rfl) rfl rfl ⟨Nat.le_of_ble_eq_true rfl, Nat.le_of_ble_eq_true rfl, Nat.le_of_ble_eq_true rfl, Nat.le_of_ble_eq_true rfl⟩ (Nat.le_of_ble_eq_true rfl) ?_
  intro r_ h_ q_; obtain ⟨q1_, q2_⟩ := q_; have q2_ := q2_.symm; subst q1_; subst q2_
  refine g_putF dX7_init_84 ql_X7_56 rfl (by exact rfl) (fun _ => ⟨rfl, rfl⟩) ?_
  refine g_aload_n (i := 0) dX7_init_87 rfl rfl ?_
  refine g_bipush (v := 8) dX7_init_88 (by decide) ?_
  refine g_newI (n := 8) dX7_init_90 (by decide) (by decide) ka_int ⟨Nat.le_of_ble_eq_true rfl, Nat.le_of_ble_eq_true rfl⟩ ?_
  refine g_putF dX7_init_92 ql_X7_60 rfl (by exact rfl) (fun _ => ⟨rfl, rfl⟩) ?_
  refine g_aload_n (i := 0) dX7_init_95 rfl rfl ?_
  refine g_bipush (v := 8) dX7_init_96 (by decide) ?_
  refine g_newZ (n := 8) dX7_init_98 (by decide) (by decide) ka_boolean ⟨Nat.le_of_ble_eq_true rfl, Nat.le_of_ble_eq_true rfl⟩ ?_
  refine g_putF dX7_init_100 ql_X7_63 rfl (by exact rfl) (fun _ => ⟨rfl, rfl⟩) ?_
  refine g_aload_n (i := 0) dX7_init_103 rfl rfl ?_
  refine g_iconst (v := 0) dX7_init_104 (by decide) ?_
  refine g_put dX7_init_105 pl_X7_67 (by exact rfl) (fun _ => ⟨rfl, rfl⟩) ?_
  refine g_aload_n (i := 0) dX7_init_108 rfl rfl ?_
  refine g_iconst (v := 1) dX7_init_109 (by decide) ?_
  refine g_put dX7_init_110 pl_X7_70 (by exact rfl) (fun _ => ⟨rfl, rfl⟩) ?_
  refine g_aload_n (i := 0) dX7_init_113 rfl rfl ?_
  refine g_new (c := 1) (V := VX1) tyX1 dX7_init_114 rfl tyX1_ok hVX1 kl_X7_73 ki_X1 kn_X1 ⟨Nat.le_of_ble_eq_true rfl, Nat.le_of_ble_eq_true rfl⟩ ?_
  refine g_dup dX7_init_117 rfl ?_
  refine g_callIN dX7_init_118 lc_X1_init rfl nl_X7_75 (c_X1_init_38 _ rfl) rfl rfl ⟨Nat.le_of_ble_eq_true rfl, Nat.le_of_ble_eq_true rfl, Nat.le_of_ble_eq_true rfl, Nat.le_of_ble_eq_true rfl⟩ (Nat.le_of_ble_eq_true rfl) ?_
  intro r_ h_ q_; obtain ⟨q1_, q2_⟩ := q_; have q2_ := q2_.symm; subst q1_; subst q2_
  refine g_putF dX7_init_121 ql_X7_76 rfl (by exact rfl) (fun _ => ⟨rfl, rfl⟩) ?_
  refine g_aload_n (i := 0) dX7_init_124 rfl rfl ?_
  refine g_new (c := 6) (V := VX6) tyX6 dX7_init_125 rfl tyX6_ok hVX6 kl_X7_80 ki_X6 kn_X6 ⟨Nat.le_of_ble_eq_true rfl, Nat.le_of_ble_eq_true rfl⟩ ?_
  refine g_dup dX7_init_128 rfl ?_
  refine g_callI dX7_init_129 lc_X6_init rfl ml_X7_82 (c_X6_init_40 _ rfl) rfl rfl ⟨Nat.le_of_ble_eq_true rfl, Nat.le_of_ble_eq_true rfl, Nat.le_of_ble_eq_true rfl, Nat.le_of_ble_eq_true rfl⟩ (Nat.le_of_ble_eq_true rfl) ?_
  intro r_ h_ q_; obtain ⟨q1_, q2_⟩ := q_; have q2_ := q2_.symm; subst q1_; subst q2_
  refine g_putF dX7_init_132 ql_X7_83 rfl (by exact rfl) (fun _ => ⟨rfl, rfl⟩) ?_
  refine g_aload_n (i := 0) dX7_init_135 rfl rfl ?_
  refine g_new (c := 6) (V := VX6) tyX6 dX7_init_136 rfl tyX6_ok hVX6 kl_X7_80 ki_X6 kn_X6 ⟨Nat.le_of_ble_eq_true rfl, Nat.le_of_ble_eq_true rfl⟩ ?_
  refine g_dup dX7_init_139 rfl ?_
  refine g_callI dX7_init_140 lc_X6_init rfl ml_X7_82 (c_X6_init_42 _ rfl) rfl rfl ⟨Nat.le_of_ble_eq_true rfl, Nat.le_of_ble_eq_true rfl, Nat.le_of_ble_eq_true rfl, Nat.le_of_ble_eq_true rfl⟩ (Nat.le_of_ble_eq_true rfl) ?_
  intro r_ h_ q_; obtain ⟨q1_, q2_⟩ := q_; have q2_ := q2_.symm; subst q1_; subst q2_
  refine g_putF dX7_init_143 ql_X7_87 rfl (by exact rfl) (fun _ => ⟨rfl, rfl⟩) ?_
  refine g_vret dX7_init_146 rfl (hQ _ _ ?_)
  exact ⟨rfl, rfl⟩
def eX8_init_44 (h : HH) : HH := (sF (nA (sF (nA (sF (nA (sF (nA (sF (nA (sF (nA (sF (nA (sF (nA (sF (nA (sF (sF (nA (sF (nA (sF (nA (sF (nA (sF (nA (sF (nA (sF (nA (sF (nA (sF (nA (sF (nA (sF (nA (sF (nA (sF (nA (sF (nA (sF (nA (sF (nA (sF (nA (sF (nA (sF (nA (sF (nA (sF (sA (sA (sA (sA (sA (sA (sA (sA (nA h (aI 8 (fun _ => 0))) 45 (aI 8 (upd (fun _ => 0) 0 (-1)))) 45 (aI 8 (upd (upd (fun _ => 0) 0 (-1)) 1 (-1)))) 45 (aI 8 (upd (upd (upd (fun _ => 0) 0 (-1)) 1 (-1)) 2 (-1)))) 45 (aI 8 (upd (upd (upd (upd (fun _ => 0) 0 (-1)) 1 (-1)) 2 (-1)) 3 (-1)))) 45 (aI 8 (upd (upd (upd (upd (upd (fun _ => 0) 0 (-1)) 1 (-1)) 2 (-1)) 3 (-1)) 4 (-1)))) 45 (aI 8 (upd (upd (upd (upd (upd (upd (fun _ => 0) 0 (-1)) 1 (-1)) 2 (-1)) 3 (-1)) 4 (-1)) 5 (-1)))) 45 (aI 8 (upd (upd (upd (upd (upd (upd (upd (fun _ => 0) 0 (-1)) 1 (-1)) 2 (-1)) 3 (-1)) 4 (-1)) 5 (-1)) 6 (-1)))) 45 (aI 8 (upd (upd (upd (upd (upd (upd (upd (upd (fun _ => 0) 0 (-1)) 1 (-1)) 2 (-1)) 3 (-1)) 4 (-1)) 5 (-1)) 6 (-1)) 7 (-1)))) 44 2 (.ref 45)) (aI 8 (fun _ => 0))) 44 3 (.ref 46)) (aI 800 (fun _ => 0))) 44 4 (.ref 47)) (aI 400 (fun _ => 0))) 44 5 (.ref 48)) (aI 2 (fun _ => 0))) 44 14 (.ref 49)) (aI 2 (fun _ => 0))) 44 15 (.ref 50)) (aI 2 (fun _ => 0))) 44 16 (.ref 51)) (aI 3200 (fun _ => 0))) 44 17 (.ref 52)) (aI 200000 (fun _ => 0))) 44 18 (.ref 53)) (aI 7 (fun _ => 0))) 44 19 (.ref 54)) (aI 7 (fun _ => 0))) 44 20 (.ref 55)) (aI 7 (fun _ => 0))) 44 21 (.ref 56)) (aI 10 (fun _ => 0))) 44 24 (.ref 57)) (aI 10 (fun _ => 0))) 44 25 (.ref 58)) (aI 10 (fun _ => 0))) 44 26 (.ref 59)) (aI 10 (fun _ => 0))) 44 27 (.ref 60)) (aI 10 (fun _ => 0))) 44 28 (.ref 61)) (aI 10 (fun _ => 0))) 44 29 (.ref 62)) (aI 16 (fun _ => 0))) 44 30 (.ref 63)) (aI 8 (fun _ => 0))) 44 32 (.ref 64)) (aZ 8 (fun _ => 0))) 44 33 (.ref 65)) 44 35 (.int 1)) (aI 200 (fun _ => 0))) 44 37 (.ref 66)) (aI 200 (fun _ => 0))) 44 38 (.ref 67)) (aI 200 (fun _ => 0))) 44 39 (.ref 68)) (aI 200 (fun _ => 0))) 44 40 (.ref 69)) (aI 200 (fun _ => 0))) 44 41 (.ref 70)) (aI 200 (fun _ => 0))) 44 42 (.ref 71)) (aJ 1024 (fun _ => 0))) 44 45 (.ref 72)) (aI 288 (fun _ => 0))) 44 46 (.ref 73)) (aI 4 (fun _ => 0))) 44 47 (.ref 74))
theorem c_X8_init_44 (h : HH) (hn : gN h = 44) : CT mX8_init 1 30 207051 [.ref 44] (nO h 8 VX8) (fun r h' => r = none ∧ h' = eX8_init_44 (nO h 8 VX8)) := by
  obtain ⟨a, b, c⟩ := h
  obtain rfl : c = 44 := hn
  refine CT.go [.ref 44] (by decide +kernel) rfl rfl (fun Q' hQ => ?_)
  refine g_aload_n (i := 0) dX8_init_0 rfl rfl ?_
  refine g_objInit dX8_init_1 ml_X8_1 oi_inst oi_code ⟨Nat.le_of_ble_eq_true rfl, Nat.le_of_ble_eq_true rfl⟩ ?_
  refine g_aload_n (i := 0) dX8_init_4 rfl rfl ?_
  refine g_bipush (v := 8) dX8_init_5 (by decide) ?_
  refine g_newI (n := 8) dX8_init_7 (by decide) (by decide) ka_int ⟨Nat.le_of_ble_eq_true rfl, Nat.le_of_ble_eq_true rfl⟩ ?_
  refine g_dup dX8_init_9 rfl ?_
  refine g_iconst (v := 0) dX8_init_10 (by decide) ?_
  refine g_iconst (v := (-1)) dX8_init_11 (by decide) ?_
  refine g_iast dX8_init_12 (by exact rfl) (show (0 : Int32).toInt = ((0 : Nat) : Int) from by decide) (by decide) ?_
  refine g_dup dX8_init_13 rfl ?_
  refine g_iconst (v := 1) dX8_init_14 (by decide) ?_
  refine g_iconst (v := (-1)) dX8_init_15 (by decide) ?_
  refine g_iast dX8_init_16 (by exact rfl) (show (1 : Int32).toInt = ((1 : Nat) : Int) from by decide) (by decide) ?_
  refine g_dup dX8_init_17 rfl ?_
  refine g_iconst (v := 2) dX8_init_18 (by decide) ?_
  refine g_iconst (v := (-1)) dX8_init_19 (by decide) ?_
  refine g_iast dX8_init_20 (by exact rfl) (show (2 : Int32).toInt = ((2 : Nat) : Int) from by decide) (by decide) ?_
  refine g_dup dX8_init_21 rfl ?_
  refine g_iconst (v := 3) dX8_init_22 (by decide) ?_
  refine g_iconst (v := (-1)) dX8_init_23 (by decide) ?_
  refine g_iast dX8_init_24 (by exact rfl) (show (3 : Int32).toInt = ((3 : Nat) : Int) from by decide) (by decide) ?_
  refine g_dup dX8_init_25 rfl ?_
  refine g_iconst (v := 4) dX8_init_26 (by decide) ?_
  refine g_iconst (v := (-1)) dX8_init_27 (by decide) ?_
  refine g_iast dX8_init_28 (by exact rfl) (show (4 : Int32).toInt = ((4 : Nat) : Int) from by decide) (by decide) ?_
  refine g_dup dX8_init_29 rfl ?_
  refine g_iconst (v := 5) dX8_init_30 (by decide) ?_
  refine g_iconst (v := (-1)) dX8_init_31 (by decide) ?_
  refine g_iast dX8_init_32 (by exact rfl) (show (5 : Int32).toInt = ((5 : Nat) : Int) from by decide) (by decide) ?_
  refine g_dup dX8_init_33 rfl ?_
  refine g_bipush (v := 6) dX8_init_34 (by decide) ?_
  refine g_iconst (v := (-1)) dX8_init_36 (by decide) ?_
  refine g_iast dX8_init_37 (by exact rfl) (show (6 : Int32).toInt = ((6 : Nat) : Int) from by decide) (by decide) ?_
  refine g_dup dX8_init_38 rfl ?_
  refine g_bipush (v := 7) dX8_init_39 (by decide) ?_
  refine g_iconst (v := (-1)) dX8_init_41 (by decide) ?_
  refine g_iast dX8_init_42 (by exact rfl) (show (7 : Int32).toInt = ((7 : Nat) : Int) from by decide) (by decide) ?_
  refine g_putF dX8_init_43 ql_X8_7 rfl (by exact rfl) (fun _ => ⟨rfl, rfl⟩) ?_
  refine g_aload_n (i := 0) dX8_init_46 rfl rfl ?_
  refine g_bipush (v := 8) dX8_init_47 (by decide) ?_
  refine g_newI (n := 8) dX8_init_49 (by decide) (by decide) ka_int ⟨Nat.le_of_ble_eq_true rfl, Nat.le_of_ble_eq_true rfl⟩ ?_
  refine g_putF dX8_init_51 ql_X8_13 rfl (by exact rfl) (fun _ => ⟨rfl, rfl⟩) ?_
  refine g_aload_n (i := 0) dX8_init_54 rfl rfl ?_
  refine g_sipush (v := 800) dX8_init_55 (by decide) ?_
  refine g_newI (n := 800) dX8_init_58 (by decide) (by decide) ka_int ⟨Nat.le_of_ble_eq_true rfl, Nat.le_of_ble_eq_true rfl⟩ ?_
  refine g_putF dX8_init_60 ql_X8_16 rfl (by exact rfl) (fun _ => ⟨rfl, rfl⟩) ?_
  refine g_aload_n (i := 0) dX8_init_63 rfl rfl ?_
  refine g_sipush (v := 400) dX8_init_64 (by decide) ?_
  refine g_newI (n := 400) dX8_init_67 (by decide) (by decide) ka_int ⟨Nat.le_of_ble_eq_true rfl, Nat.le_of_ble_eq_true rfl⟩ ?_
  refine g_putF dX8_init_69 ql_X8_19 rfl (by exact rfl) (fun _ => ⟨rfl, rfl⟩) ?_
  refine g_aload_n (i := 0) dX8_init_72 rfl rfl ?_
  refine g_iconst (v := 2) dX8_init_73 (by decide) ?_
  refine g_newI (n := 2) dX8_init_74 (by decide) (by decide) ka_int ⟨Nat.le_of_ble_eq_true rfl, Nat.le_of_ble_eq_true rfl⟩ ?_
  refine g_putF dX8_init_76 ql_X8_22 rfl (by exact rfl) (fun _ => ⟨rfl, rfl⟩) ?_
  refine g_aload_n (i := 0) dX8_init_79 rfl rfl ?_
  refine g_iconst (v := 2) dX8_init_80 (by decide) ?_
  refine g_newI (n := 2) dX8_init_81 (by decide) (by decide) ka_int ⟨Nat.le_of_ble_eq_true rfl, Nat.le_of_ble_eq_true rfl⟩ ?_
  refine g_putF dX8_init_83 ql_X8_25 rfl (by exact rfl) (fun _ => ⟨rfl, rfl⟩) ?_
  refine g_aload_n (i := 0) dX8_init_86 rfl rfl ?_
  refine g_iconst (v := 2) dX8_init_87 (by decide) ?_
  refine g_newI (n := 2) dX8_init_88 (by decide) (by decide) ka_int ⟨Nat.le_of_ble_eq_true rfl, Nat.le_of_ble_eq_true rfl⟩ ?_
  refine g_putF dX8_init_90 ql_X8_28 rfl (by exact rfl) (fun _ => ⟨rfl, rfl⟩) ?_
  refine g_aload_n (i := 0) dX8_init_93 rfl rfl ?_
  refine g_sipush (v := 3200) dX8_init_94 (by decide) ?_
  refine g_newI (n := 3200) dX8_init_97 (by decide) (by decide) ka_int ⟨Nat.le_of_ble_eq_true rfl, Nat.le_of_ble_eq_true rfl⟩ ?_
  refine g_putF dX8_init_99 ql_X8_31 rfl (by exact rfl) (fun _ => ⟨rfl, rfl⟩) ?_
  refine g_aload_n (i := 0) dX8_init_102 rfl rfl ?_
  refine g_ldc dX8_init_103 kc_X8_34 ?_
  refine g_newI (n := 200000) dX8_init_105 (by decide) (by decide) ka_int ⟨Nat.le_of_ble_eq_true rfl, Nat.le_of_ble_eq_true rfl⟩ ?_
  refine g_putF dX8_init_107 ql_X8_35 rfl (by exact rfl) (fun _ => ⟨rfl, rfl⟩) ?_
  refine g_aload_n (i := 0) dX8_init_110 rfl rfl ?_
  refine g_bipush (v := 7) dX8_init_111 (by decide) ?_
  refine g_newI (n := 7) dX8_init_113 (by decide) (by decide) ka_int ⟨Nat.le_of_ble_eq_true rfl, Nat.le_of_ble_eq_true rfl⟩ ?_
  refine g_putF dX8_init_115 ql_X8_38 rfl (by exact rfl) (fun _ => ⟨rfl, rfl⟩) ?_
  refine g_aload_n (i := 0) dX8_init_118 rfl rfl ?_
  refine g_bipush (v := 7) dX8_init_119 (by decide) ?_
  refine g_newI (n := 7) dX8_init_121 (by decide) (by decide) ka_int ⟨Nat.le_of_ble_eq_true rfl, Nat.le_of_ble_eq_true rfl⟩ ?_
  refine g_putF dX8_init_123 ql_X8_41 rfl (by exact rfl) (fun _ => ⟨rfl, rfl⟩) ?_
  refine g_aload_n (i := 0) dX8_init_126 rfl rfl ?_
  refine g_bipush (v := 7) dX8_init_127 (by decide) ?_
  refine g_newI (n := 7) dX8_init_129 (by decide) (by decide) ka_int ⟨Nat.le_of_ble_eq_true rfl, Nat.le_of_ble_eq_true rfl⟩ ?_
  refine g_putF dX8_init_131 ql_X8_44 rfl (by exact rfl) (fun _ => ⟨rfl, rfl⟩) ?_
  refine g_aload_n (i := 0) dX8_init_134 rfl rfl ?_
  refine g_bipush (v := 10) dX8_init_135 (by decide) ?_
  refine g_newI (n := 10) dX8_init_137 (by decide) (by decide) ka_int ⟨Nat.le_of_ble_eq_true rfl, Nat.le_of_ble_eq_true rfl⟩ ?_
  refine g_putF dX8_init_139 ql_X8_47 rfl (by exact rfl) (fun _ => ⟨rfl, rfl⟩) ?_
  refine g_aload_n (i := 0) dX8_init_142 rfl rfl ?_
  refine g_bipush (v := 10) dX8_init_143 (by decide) ?_
  refine g_newI (n := 10) dX8_init_145 (by decide) (by decide) ka_int ⟨Nat.le_of_ble_eq_true rfl, Nat.le_of_ble_eq_true rfl⟩ ?_
  refine g_putF dX8_init_147 ql_X8_50 rfl (by exact rfl) (fun _ => ⟨rfl, rfl⟩) ?_
  refine g_aload_n (i := 0) dX8_init_150 rfl rfl ?_
  refine g_bipush (v := 10) dX8_init_151 (by decide) ?_
  refine g_newI (n := 10) dX8_init_153 (by decide) (by decide) ka_int ⟨Nat.le_of_ble_eq_true rfl, Nat.le_of_ble_eq_true rfl⟩ ?_
  refine g_putF dX8_init_155 ql_X8_53 rfl (by exact rfl) (fun _ => ⟨rfl, rfl⟩) ?_
  refine g_aload_n (i := 0) dX8_init_158 rfl rfl ?_
  refine g_bipush (v := 10) dX8_init_159 (by decide) ?_
  refine g_newI (n := 10) dX8_init_161 (by decide) (by decide) ka_int ⟨Nat.le_of_ble_eq_true rfl, Nat.le_of_ble_eq_true rfl⟩ ?_
  refine g_putF dX8_init_163 ql_X8_56 rfl (by exact rfl) (fun _ => ⟨rfl, rfl⟩) ?_
  refine g_aload_n (i := 0) dX8_init_166 rfl rfl ?_
  refine g_bipush (v := 10) dX8_init_167 (by decide) ?_
  refine g_newI (n := 10) dX8_init_169 (by decide) (by decide) ka_int ⟨Nat.le_of_ble_eq_true rfl, Nat.le_of_ble_eq_true rfl⟩ ?_
  refine g_putF dX8_init_171 ql_X8_59 rfl (by exact rfl) (fun _ => ⟨rfl, rfl⟩) ?_
  refine g_aload_n (i := 0) dX8_init_174 rfl rfl ?_
  refine g_bipush (v := 10) dX8_init_175 (by decide) ?_
  refine g_newI (n := 10) dX8_init_177 (by decide) (by decide) ka_int ⟨Nat.le_of_ble_eq_true rfl, Nat.le_of_ble_eq_true rfl⟩ ?_
  refine g_putF dX8_init_179 ql_X8_62 rfl (by exact rfl) (fun _ => ⟨rfl, rfl⟩) ?_
  refine g_aload_n (i := 0) dX8_init_182 rfl rfl ?_
  refine g_bipush (v := 16) dX8_init_183 (by decide) ?_
  refine g_newI (n := 16) dX8_init_185 (by decide) (by decide) ka_int ⟨Nat.le_of_ble_eq_true rfl, Nat.le_of_ble_eq_true rfl⟩ ?_
  refine g_putF dX8_init_187 ql_X8_65 rfl (by exact rfl) (fun _ => ⟨rfl, rfl⟩) ?_
  refine g_aload_n (i := 0) dX8_init_190 rfl rfl ?_
  refine g_bipush (v := 8) dX8_init_191 (by decide) ?_
  refine g_newI (n := 8) dX8_init_193 (by decide) (by decide) ka_int ⟨Nat.le_of_ble_eq_true rfl, Nat.le_of_ble_eq_true rfl⟩ ?_
  refine g_putF dX8_init_195 ql_X8_68 rfl (by exact rfl) (fun _ => ⟨rfl, rfl⟩) ?_
  refine g_aload_n (i := 0) dX8_init_198 rfl rfl ?_
  refine g_bipush (v := 8) dX8_init_199 (by decide) ?_
  refine g_newZ (n := 8) dX8_init_201 (by decide) (by decide) ka_boolean ⟨Nat.le_of_ble_eq_true rfl, Nat.le_of_ble_eq_true rfl⟩ ?_
  refine g_putF dX8_init_203 ql_X8_71 rfl (by exact rfl) (fun _ => ⟨rfl, rfl⟩) ?_
  refine g_aload_n (i := 0) dX8_init_206 rfl rfl ?_
  refine g_iconst (v := 1) dX8_init_207 (by decide) ?_
  refine g_put dX8_init_208 pl_X8_75 (by exact rfl) (fun _ => ⟨rfl, rfl⟩) ?_
  refine g_aload_n (i := 0) dX8_init_211 rfl rfl ?_
  refine g_sipush (v := 200) dX8_init_212 (by decide) ?_
  refine g_newI (n := 200) dX8_init_215 (by decide) (by decide) ka_int ⟨Nat.le_of_ble_eq_true rfl, Nat.le_of_ble_eq_true rfl⟩ ?_
  refine g_putF dX8_init_217 ql_X8_79 rfl (by exact rfl) (fun _ => ⟨rfl, rfl⟩) ?_
  refine g_aload_n (i := 0) dX8_init_220 rfl rfl ?_
  refine g_sipush (v := 200) dX8_init_221 (by decide) ?_
  refine g_newI (n := 200) dX8_init_224 (by decide) (by decide) ka_int ⟨Nat.le_of_ble_eq_true rfl, Nat.le_of_ble_eq_true rfl⟩ ?_
  refine g_putF dX8_init_226 ql_X8_82 rfl (by exact rfl) (fun _ => ⟨rfl, rfl⟩) ?_
  refine g_aload_n (i := 0) dX8_init_229 rfl rfl ?_
  refine g_sipush (v := 200) dX8_init_230 (by decide) ?_
  refine g_newI (n := 200) dX8_init_233 (by decide) (by decide) ka_int ⟨Nat.le_of_ble_eq_true rfl, Nat.le_of_ble_eq_true rfl⟩ ?_
  refine g_putF dX8_init_235 ql_X8_85 rfl (by exact rfl) (fun _ => ⟨rfl, rfl⟩) ?_
  refine g_aload_n (i := 0) dX8_init_238 rfl rfl ?_
  refine g_sipush (v := 200) dX8_init_239 (by decide) ?_
  refine g_newI (n := 200) dX8_init_242 (by decide) (by decide) ka_int ⟨Nat.le_of_ble_eq_true rfl, Nat.le_of_ble_eq_true rfl⟩ ?_
  refine g_putF dX8_init_244 ql_X8_88 rfl (by exact rfl) (fun _ => ⟨rfl, rfl⟩) ?_
  refine g_aload_n (i := 0) dX8_init_247 rfl rfl ?_
  refine g_sipush (v := 200) dX8_init_248 (by decide) ?_
  refine g_newI (n := 200) dX8_init_251 (by decide) (by decide) ka_int ⟨Nat.le_of_ble_eq_true rfl, Nat.le_of_ble_eq_true rfl⟩ ?_
  refine g_putF dX8_init_253 ql_X8_91 rfl (by exact rfl) (fun _ => ⟨rfl, rfl⟩) ?_
  refine g_aload_n (i := 0) dX8_init_256 rfl rfl ?_
  refine g_sipush (v := 200) dX8_init_257 (by decide) ?_
  refine g_newI (n := 200) dX8_init_260 (by decide) (by decide) ka_int ⟨Nat.le_of_ble_eq_true rfl, Nat.le_of_ble_eq_true rfl⟩ ?_
  refine g_putF dX8_init_262 ql_X8_94 rfl (by exact rfl) (fun _ => ⟨rfl, rfl⟩) ?_
  refine g_aload_n (i := 0) dX8_init_265 rfl rfl ?_
  refine g_sipush (v := 1024) dX8_init_266 (by decide) ?_
  refine g_newJ (n := 1024) dX8_init_269 (by decide) (by decide) ka_long ⟨Nat.le_of_ble_eq_true rfl, Nat.le_of_ble_eq_true rfl⟩ ?_
  refine g_putF dX8_init_271 ql_X8_97 rfl (by exact rfl) (fun _ => ⟨rfl, rfl⟩) ?_
  refine g_aload_n (i := 0) dX8_init_274 rfl rfl ?_
  refine g_sipush (v := 288) dX8_init_275 (by decide) ?_
  refine g_newI (n := 288) dX8_init_278 (by decide) (by decide) ka_int ⟨Nat.le_of_ble_eq_true rfl, Nat.le_of_ble_eq_true rfl⟩ ?_
  refine g_putF dX8_init_280 ql_X8_101 rfl (by exact rfl) (fun _ => ⟨rfl, rfl⟩) ?_
  refine g_aload_n (i := 0) dX8_init_283 rfl rfl ?_
  refine g_iconst (v := 4) dX8_init_284 (by decide) ?_
  refine g_newI (n := 4) dX8_init_285 (by decide) (by decide) ka_int ⟨Nat.le_of_ble_eq_true rfl, Nat.le_of_ble_eq_true rfl⟩ ?_
  refine g_putF dX8_init_287 ql_X8_104 rfl (by exact rfl) (fun _ => ⟨rfl, rfl⟩) ?_
  refine g_vret dX8_init_290 rfl (hQ _ _ ?_)
  exact ⟨rfl, rfl⟩
