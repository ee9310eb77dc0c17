/-! compare: bits, the walk from CYCLE to CYCLE -/
def bitI (v : Int32) (p : Nat) : Int32 := (v >>> (nI p &&& 31)) &&& 1
theorem sh_31 : ∀ p, p < 8 → (((nI p &&& 31).toBitVec.smod 32)).toNat = p := by decide +kernel
theorem bitI_e {v : Int32} {p : Nat} (hp : p < 8) : bitI v p = if v.toBitVec.getLsbD p = true then 1 else 0 := by
  unfold bitI
  apply Int32.toBitVec_inj.mp
  apply BitVec.eq_of_getLsbD_eq
  intro i hi
  rw [Int32.toBitVec_and, BitVec.getLsbD_and]
  have e : (v >>> (nI p &&& 31)).toBitVec = v.toBitVec.sshiftRight p := by
    show v.toBitVec.sshiftRight ((nI p &&& 31).toBitVec.smod 32).toNat = _
    rw [sh_31 p hp]
  rw [e, BitVec.getLsbD_sshiftRight]
  have h1 : (1 : Int32).toBitVec.getLsbD i = decide (i = 0) := by
    show (1#32).getLsbD i = _
    rw [BitVec.getLsbD_one]
    simp
  rw [h1]
  by_cases h0 : i = 0
  · subst h0
    rw [Nat.add_zero, if_pos (by omega)]
    cases v.toBitVec.getLsbD p
    · simp
    · simp
  · rw [decide_eq_false h0, Bool.and_false]
    split
    · exact (show (1#32).getLsbD i = false by rw [BitVec.getLsbD_one]; simp [h0]).symm
    · exact (show (0#32).getLsbD i = false by simp).symm
theorem bitI_1 {v : Int32} {p : Nat} (hp : p < 8) : bitI v p = 1 ↔ v.toBitVec.getLsbD p = true := by
  rw [bitI_e hp]
  split
  · rename_i q; exact ⟨fun _ => q, fun _ => rfl⟩
  · rename_i q; exact ⟨fun z => absurd z (by decide), fun z => absurd z q⟩
theorem bitI_0 {v : Int32} {p : Nat} (hp : p < 8) : bitI v p = 0 ↔ v.toBitVec.getLsbD p = false := by
  rw [bitI_e hp]
  split
  · rename_i q; exact ⟨fun z => absurd z (by decide), fun z => by rw [q] at z; cases z⟩
  · rename_i q; exact ⟨fun _ => Bool.eq_false_iff.mpr q, fun _ => rfl⟩
def wrB (tx : Nat → Int32) (v : Int32) (q p : Nat) : Bool := decide ((tx (q + p) = 76 ∧ bitI v p = 1) ∨ (tx (q + p) = 72 ∧ bitI v p = 0))
def gB (P : Nat → Bool) : Nat → Nat
  | 0 => 0
  | m + 1 => if P m = true then gB P m + 2 ^ m else gB P m
theorem gB_lt (P : Nat → Bool) : ∀ m, gB P m < 2 ^ m
  | 0 => by unfold gB; omega
  | m + 1 => by
    have := gB_lt P m
    unfold gB
    rw [Nat.pow_succ]
    split <;> omega
theorem gB_bit (P : Nat → Bool) : ∀ m i, (gB P m).testBit i = (decide (i < m) && P i)
  | 0, i => by unfold gB; simp
  | m + 1, i => by
    have ih := gB_bit P m i
    have hl := gB_lt P m
    unfold gB
    by_cases hm : P m = true
    · rw [if_pos hm, Nat.add_comm]
      by_cases h1 : i < m
      · rw [Nat.testBit_two_pow_add_gt h1, ih]
        simp [h1, show i < m + 1 by omega]
      · by_cases h2 : i = m
        · subst h2
          rw [Nat.testBit_two_pow_add_eq, ih]
          simp [hm]
        · have h3 : 2 ^ (m + 1) ≤ 2 ^ i := Nat.pow_le_pow_right (by omega) (by omega)
          rw [Nat.testBit_lt_two_pow (by rw [Nat.pow_succ] at h3; omega)]
          simp [show ¬ i < m + 1 by omega]
    · rw [if_neg hm, ih]
      by_cases h2 : i = m
      · subst h2; simp [hm]
      · by_cases h1 : i < m
        · simp [h1, show i < m + 1 by omega]
        · simp [h1, show ¬ i < m + 1 by omega]
theorem pwB_g (c : Int32) (tx : Nat → Int32) (q : Nat) : ∀ m, pwB c tx q m = gB (fun i => decide (tx (q + i) = c)) m
  | 0 => rfl
  | m + 1 => by
    unfold pwB gB
    rw [pwB_g c tx q m]
    by_cases h : tx (q + m) = c
    · rw [if_pos h, if_pos (decide_eq_true h)]
    · rw [if_neg h, if_neg (by simp [h])]
theorem nI_bit {n i : Nat} (hi : i < 32) : (nI n).toBitVec.getLsbD i = n.testBit i := by
  show (BitVec.ofNat 32 n).getLsbD i = _
  rw [BitVec.getLsbD_ofNat]
  simp [hi]
theorem mask_e (tx : Nat → Int32) (v : Int32) (q : Nat) {n : Nat} (hn : n ≤ 8) : (v &&& nI (pwB 76 tx q n)) ||| ((v ^^^ -1) &&& nI (pwB 72 tx q n)) = nI (gB (wrB tx v q) n) := by
  apply Int32.toBitVec_inj.mp
  apply BitVec.eq_of_getLsbD_eq
  intro i hi
  rw [Int32.toBitVec_or, BitVec.getLsbD_or, Int32.toBitVec_and, BitVec.getLsbD_and, Int32.toBitVec_and, BitVec.getLsbD_and, Int32.toBitVec_xor, BitVec.getLsbD_xor, nI_bit hi, nI_bit hi, nI_bit hi, pwB_g, pwB_g, gB_bit, gB_bit, gB_bit]
  have hm : (-1 : Int32).toBitVec.getLsbD i = true := by
    show (BitVec.allOnes 32).getLsbD i = true
    rw [BitVec.getLsbD_allOnes]
    exact decide_eq_true hi
  rw [hm]
  by_cases h1 : i < n
  · have b1 := @bitI_1 v i (by omega)
    have b0 := @bitI_0 v i (by omega)
    unfold wrB
    cases hv : v.toBitVec.getLsbD i
    · rw [hv] at b1 b0
      have c0 := b0.mpr rfl
      have c1 : ¬ bitI v i = 1 := fun z => absurd (b1.mp z) (by decide)
      simp [h1, c0]
    · rw [hv] at b1 b0
      have c1 := b1.mpr rfl
      simp [h1, c1]
  · simp [h1]
def fsB (P : Nat → Bool) : Nat → Nat → Option Nat
  | 0, _ => none
  | n + 1, k => if P k = true then some k else fsB P n (k + 1)
theorem fsB_t {P : Nat → Bool} {n k : Nat} (h : P k = true) : fsB P (n + 1) k = some k := by rw [fsB, if_pos h]
theorem fsB_f {P : Nat → Bool} {n k : Nat} (h : ¬ P k = true) : fsB P (n + 1) k = fsB P n (k + 1) := by rw [fsB, if_neg h]
theorem fsB_z {P : Nat → Bool} : ∀ n k, (∀ i, k ≤ i → i < k + n → ¬ P i = true) → fsB P n k = none
  | 0, _, _ => rfl
  | n + 1, k, h => by rw [fsB_f (h k (by omega) (by omega))]; exact fsB_z n (k + 1) (fun i h1 h2 => h i (by omega) (by omega))
theorem fsB_ext {P Q : Nat → Bool} : ∀ n k r, (∀ i, k ≤ i → i < k + n → Q i = P i) → (∀ i, k + n ≤ i → i < k + n + r → ¬ Q i = true) → fsB Q (n + r) k = fsB P n k
  | 0, k, r, h, hz => by rw [Nat.zero_add]; exact fsB_z r k (fun i h1 h2 => hz i (by omega) (by omega))
  | n + 1, k, r, h, hz => by
    rw [show n + 1 + r = (n + r) + 1 by omega]
    have hk := h k (by omega) (by omega)
    by_cases q : P k = true
    · rw [fsB_t (by rw [hk]; exact q), fsB_t q]
    · rw [fsB_f (by rw [hk]; exact q), fsB_f q]
      exact fsB_ext n (k + 1) r (fun i h1 h2 => h i (by omega) (by omega)) (fun i h1 h2 => hz i (by omega) (by omega))
theorem cnt_ext {P Q : Nat → Bool} : ∀ n k r, (∀ i, k ≤ i → i < k + n → Q i = P i) → (∀ i, k + n ≤ i → i < k + n + r → ¬ Q i = true) → cnt Q (n + r) k = cnt P n k
  | 0, k, r, h, hz => by rw [Nat.zero_add]; exact cnt_z r k (fun i h1 h2 => hz i (by omega) (by omega))
  | n + 1, k, r, h, hz => by
    rw [show n + 1 + r = (n + r) + 1 by omega]
    have hk := h k (by omega) (by omega)
    have ih := cnt_ext n (k + 1) r (fun i h1 h2 => h i (by omega) (by omega)) (fun i h1 h2 => hz i (by omega) (by omega))
    by_cases q : P k = true
    · rw [cnt_t (by rw [hk]; exact q), cnt_t q, ih]
    · rw [cnt_f (by rw [hk]; exact q), cnt_f q, ih]
theorem fsB_g (P : Nat → Bool) {n : Nat} (hn : n ≤ 8) : fsB (gB P n).testBit 8 0 = fsB P n 0 := by
  have := fsB_ext (P := P) (Q := (gB P n).testBit) n 0 (8 - n) (fun i h1 h2 => by rw [gB_bit]; simp [show i < n by omega]) (fun i h1 h2 => by rw [gB_bit]; simp [show ¬ i < n by omega])
  rw [show n + (8 - n) = 8 by omega] at this
  exact this
theorem cnt_g (P : Nat → Bool) {n : Nat} (hn : n ≤ 8) : cnt (gB P n).testBit 8 0 = cnt P n 0 := by
  have := cnt_ext (P := P) (Q := (gB P n).testBit) n 0 (8 - n) (fun i h1 h2 => by rw [gB_bit]; simp [show i < n by omega]) (fun i h1 h2 => by rw [gB_bit]; simp [show ¬ i < n by omega])
  rw [show n + (8 - n) = 8 by omega] at this
  exact this
theorem gB_0 (P : Nat → Bool) : ∀ n, gB P n = 0 → ∀ i, i < n → ¬ P i = true := by
  intro n h i hi hP
  have := gB_bit P n i
  rw [h, hP, decide_eq_true hi] at this
  simp at this
theorem gB_n0 (P : Nat → Bool) {n : Nat} (h : ¬ gB P n = 0) : ∃ i, i < n ∧ P i = true := by
  apply Classical.byContradiction
  intro hc
  apply h
  apply Nat.eq_of_testBit_eq
  intro i
  rw [gB_bit, Nat.zero_testBit]
  by_cases hi : i < n
  · by_cases hP : P i = true
    · exact absurd ⟨i, hi, hP⟩ hc
    · simp [hP]
  · simp [hi]
theorem fsB_s {P : Nat → Bool} : ∀ n k i, k ≤ i → i < k + n → P i = true → ∃ j, fsB P n k = some j ∧ j < k + n
  | 0, k, i, h1, h2, _ => by omega
  | n + 1, k, i, h1, h2, h3 => by
    by_cases q : P k = true
    · exact ⟨k, fsB_t q, by omega⟩
    · rw [fsB_f q]
      obtain ⟨j, j1, j2⟩ := fsB_s n (k + 1) i (by
        by_cases z : i = k
        · rw [z] at h3; exact absurd h3 q
        · omega) (by omega) h3
      exact ⟨j, j1, by omega⟩
def uS (x y : Int32) : Int32 := (x.toUInt32 >>> (y.toUInt32 &&& Int32.toUInt32 31)).toInt32
def bcA (x : Int32) : Int32 := x - (uS x 1 &&& 1431655765)
def bcB (x : Int32) : Int32 := (x &&& 858993459) + (uS x 2 &&& 858993459)
def bcC (x : Int32) : Int32 := (x + uS x 4) &&& 252645135
def bcD (x : Int32) : Int32 := x + uS x 8
def bcE (x : Int32) : Int32 := (x + uS x 16) &&& 63
theorem bc_ok : ∀ x, x < 256 → bcE (bcD (bcC (bcB (bcA (nI x))))) = nI (cnt x.testBit 8 0) := by decide +kernel
theorem c_bitCount (h : HH) {x : Nat} (hx : x < 256) : CT mJ6_bitCount_0f7a4 0 0 0 [.int (nI x)] h (fun r h' => r = some (.int (nI (cnt x.testBit 8 0))) ∧ h' = h) := by
  rw [← bc_ok x hx]
  refine CT.go [.int (nI x)] (by decide +kernel) rfl rfl (fun Q' hQ => ?_)
  refine g_iload_n (i := 0) dJ6_bitCount_0f7a4_0 rfl rfl ?_
  refine g_iload_n (i := 0) dJ6_bitCount_0f7a4_1 rfl rfl ?_
  refine g_iconst (v := 1) dJ6_bitCount_0f7a4_2 (by decide) ?_
  refine g_iushr dJ6_bitCount_0f7a4_3 ?_
  refine g_ldcw dJ6_bitCount_0f7a4_4 kc_J6_265 ?_
  refine g_iand dJ6_bitCount_0f7a4_7 ?_
  refine g_isub dJ6_bitCount_0f7a4_8 ?_
  refine g_istore_n (i := 0) dJ6_bitCount_0f7a4_9 rfl (Nat.le_of_ble_eq_true rfl) rfl ?_
  show GG _ _ _ _ [.int (bcA (nI x))] [] h
  refine g_iload_n (i := 0) dJ6_bitCount_0f7a4_10 rfl rfl ?_
  refine g_ldcw dJ6_bitCount_0f7a4_11 kc_J6_266 ?_
  refine g_iand dJ6_bitCount_0f7a4_14 ?_
  refine g_iload_n (i := 0) dJ6_bitCount_0f7a4_15 rfl rfl ?_
  refine g_iconst (v := 2) dJ6_bitCount_0f7a4_16 (by decide) ?_
  refine g_iushr dJ6_bitCount_0f7a4_17 ?_
  refine g_ldcw dJ6_bitCount_0f7a4_18 kc_J6_266 ?_
  refine g_iand dJ6_bitCount_0f7a4_21 ?_
  refine g_iadd dJ6_bitCount_0f7a4_22 ?_
  refine g_istore_n (i := 0) dJ6_bitCount_0f7a4_23 rfl (Nat.le_of_ble_eq_true rfl) rfl ?_
  show GG _ _ _ _ [.int (bcB (bcA (nI x)))] [] h
  refine g_iload_n (i := 0) dJ6_bitCount_0f7a4_24 rfl rfl ?_
  refine g_iload_n (i := 0) dJ6_bitCount_0f7a4_25 rfl rfl ?_
  refine g_iconst (v := 4) dJ6_bitCount_0f7a4_26 (by decide) ?_
  refine g_iushr dJ6_bitCount_0f7a4_27 ?_
  refine g_iadd dJ6_bitCount_0f7a4_28 ?_
  refine g_ldcw dJ6_bitCount_0f7a4_29 kc_J6_267 ?_
  refine g_iand dJ6_bitCount_0f7a4_32 ?_
  refine g_istore_n (i := 0) dJ6_bitCount_0f7a4_33 rfl (Nat.le_of_ble_eq_true rfl) rfl ?_
  show GG _ _ _ _ [.int (bcC (bcB (bcA (nI x))))] [] h
  refine g_iload_n (i := 0) dJ6_bitCount_0f7a4_34 rfl rfl ?_
  refine g_iload_n (i := 0) dJ6_bitCount_0f7a4_35 rfl rfl ?_
  refine g_bipush (v := 8) dJ6_bitCount_0f7a4_36 (by decide) ?_
  refine g_iushr dJ6_bitCount_0f7a4_38 ?_
  refine g_iadd dJ6_bitCount_0f7a4_39 ?_
  refine g_istore_n (i := 0) dJ6_bitCount_0f7a4_40 rfl (Nat.le_of_ble_eq_true rfl) rfl ?_
  show GG _ _ _ _ [.int (bcD (bcC (bcB (bcA (nI x)))))] [] h
  refine g_iload_n (i := 0) dJ6_bitCount_0f7a4_41 rfl rfl ?_
  refine g_iload_n (i := 0) dJ6_bitCount_0f7a4_42 rfl rfl ?_
  refine g_bipush (v := 16) dJ6_bitCount_0f7a4_43 (by decide) ?_
  refine g_iushr dJ6_bitCount_0f7a4_45 ?_
  refine g_iadd dJ6_bitCount_0f7a4_46 ?_
  refine g_istore_n (i := 0) dJ6_bitCount_0f7a4_47 rfl (Nat.le_of_ble_eq_true rfl) rfl ?_
  refine g_iload_n (i := 0) dJ6_bitCount_0f7a4_48 rfl rfl ?_
  refine g_bipush (v := 63) dJ6_bitCount_0f7a4_49 (by decide) ?_
  refine g_iand dJ6_bitCount_0f7a4_51 ?_
  refine g_iret dJ6_bitCount_0f7a4_52 rfl (rfl) (hQ _ _ ?_)
  exact ⟨rfl, rfl⟩
theorem lb_bit : ∀ x, x < 256 → ∀ p, p < 8 → ((nI x >>> (nI p &&& 31)) &&& 1) = (if x.testBit p = true then 1 else 0) := by decide +kernel
theorem c_lowestBit (h : HH) {x : Nat} (hx : x < 256) : CT mX7_lowestBit 0 0 0 [.int (nI x)] h (fun r h' => r = some (.int (oV (fsB x.testBit 8 0))) ∧ h' = h) := by
  refine CT.go [.int (nI x), hU] (by decide +kernel) rfl rfl (fun Q' hQ => ?_)
  generalize hz : fsB x.testBit 8 0 = z at hQ
  have key : ∀ m k : Nat, k + m = 8 → fsB x.testBit m k = z → GG (EM mX7_lowestBit 0 0 0 Q') 0 0 2 [.int (nI x), .int (nI k)] [] h := by
    intro m
    induction m with
    | zero =>
      intro k hk he
      obtain rfl : none = z := he
      refine g_iload_n (i := 1) dX7_lowestBit_2 rfl rfl ?_
      refine g_bipush (v := 8) dX7_lowestBit_3 (by decide) ?_
      refine g_icmp_ge (tgt := 25) dX7_lowestBit_5 (by decide) (fun hc5 => ?_) (fun hc5 => ?_)
      · (try simp (disch := omega) only [nT, t_m1000100, t_m1000010, t_m1000003, t_m1000002, t_m1000001, t_m1000000, t_m65535, t_m1000, t_m3, t_m1, t_0, t_1, t_2, t_3, t_4, t_5, t_6, t_7, t_8, t_9, t_10, t_11, t_12, t_13, t_15, t_16, t_20, t_21, t_22, t_32, t_40, t_41, t_48, t_49, t_57, t_59, t_60, t_63, t_72, t_76, t_88, t_100, t_144, t_200, t_255, t_288, t_400, t_800, t_999, t_1000, t_1024, t_1200, t_1600, t_3200, t_100000, t_200000, t_252645135, t_858993459, t_1431655765, u_m1000002, u_m1000001, u_m1000, u_m3, u_m1, u_0, u_1, u_2, u_3, u_4, u_5, u_7, u_8, u_10, u_11, u_15, u_60, u_100, u_255, u_999, u_1000, u_100000, u_4294967295] at hc5)
        refine g_ldc dX7_lowestBit_25 kc_X7_155 ?_
        refine g_iret dX7_lowestBit_27 rfl (rfl) (hQ _ _ ?_)
        exact ⟨rfl, rfl⟩
      · (try simp (disch := omega) only [nT, t_m1000100, t_m1000010, t_m1000003, t_m1000002, t_m1000001, t_m1000000, t_m65535, t_m1000, t_m3, t_m1, t_0, t_1, t_2, t_3, t_4, t_5, t_6, t_7, t_8, t_9, t_10, t_11, t_12, t_13, t_15, t_16, t_20, t_21, t_22, t_32, t_40, t_41, t_48, t_49, t_57, t_59, t_60, t_63, t_72, t_76, t_88, t_100, t_144, t_200, t_255, t_288, t_400, t_800, t_999, t_1000, t_1024, t_1200, t_1600, t_3200, t_100000, t_200000, t_252645135, t_858993459, t_1431655765, u_m1000002, u_m1000001, u_m1000, u_m3, u_m1, u_0, u_1, u_2, u_3, u_4, u_5, u_7, u_8, u_10, u_11, u_15, u_60, u_100, u_255, u_999, u_1000, u_100000, u_4294967295] at hc5); omega
    | succ m ih =>
      intro k hk he
      have hb := lb_bit x hx k (by omega)
      by_cases hk1 : x.testBit k = true
      · rw [fsB_t hk1] at he
        rw [if_pos hk1] at hb
        subst he
        refine g_iload_n (i := 1) dX7_lowestBit_2 rfl rfl ?_
        refine g_bipush (v := 8) dX7_lowestBit_3 (by decide) ?_
        refine g_icmp_ge (tgt := 25) dX7_lowestBit_5 (by decide) (fun hc5 => ?_) (fun hc5 => ?_)
        · (try simp (disch := omega) only [nT, t_m1000100, t_m1000010, t_m1000003, t_m1000002, t_m1000001, t_m1000000, t_m65535, t_m1000, t_m3, t_m1, t_0, t_1, t_2, t_3, t_4, t_5, t_6, t_7, t_8, t_9, t_10, t_11, t_12, t_13, t_15, t_16, t_20, t_21, t_22, t_32, t_40, t_41, t_48, t_49, t_57, t_59, t_60, t_63, t_72, t_76, t_88, t_100, t_144, t_200, t_255, t_288, t_400, t_800, t_999, t_1000, t_1024, t_1200, t_1600, t_3200, t_100000, t_200000, t_252645135, t_858993459, t_1431655765, u_m1000002, u_m1000001, u_m1000, u_m3, u_m1, u_0, u_1, u_2, u_3, u_4, u_5, u_7, u_8, u_10, u_11, u_15, u_60, u_100, u_255, u_999, u_1000, u_100000, u_4294967295] at hc5); omega
        · (try simp (disch := omega) only [nT, t_m1000100, t_m1000010, t_m1000003, t_m1000002, t_m1000001, t_m1000000, t_m65535, t_m1000, t_m3, t_m1, t_0, t_1, t_2, t_3, t_4, t_5, t_6, t_7, t_8, t_9, t_10, t_11, t_12, t_13, t_15, t_16, t_20, t_21, t_22, t_32, t_40, t_41, t_48, t_49, t_57, t_59, t_60, t_63, t_72, t_76, t_88, t_100, t_144, t_200, t_255, t_288, t_400, t_800, t_999, t_1000, t_1024, t_1200, t_1600, t_3200, t_100000, t_200000, t_252645135, t_858993459, t_1431655765, u_m1000002, u_m1000001, u_m1000, u_m3, u_m1, u_0, u_1, u_2, u_3, u_4, u_5, u_7, u_8, u_10, u_11, u_15, u_60, u_100, u_255, u_999, u_1000, u_100000, u_4294967295] at hc5)
          refine g_iload_n (i := 0) dX7_lowestBit_8 rfl rfl ?_
          refine g_iload_n (i := 1) dX7_lowestBit_9 rfl rfl ?_
          refine g_ishr dX7_lowestBit_10 ?_
          refine g_iconst (v := 1) dX7_lowestBit_11 (by decide) ?_
          refine g_iand dX7_lowestBit_12 ?_
          rw [hb]
          refine g_iconst (v := 1) dX7_lowestBit_13 (by decide) ?_
          refine g_icmp_ne (tgt := 19) dX7_lowestBit_14 (by decide) (fun hc14 => ?_) (fun hc14 => ?_)
          · have hd14 := mt i_eq.mpr hc14; (try simp (disch := omega) only [nT, t_m1000100, t_m1000010, t_m1000003, t_m1000002, t_m1000001, t_m1000000, t_m65535, t_m1000, t_m3, t_m1, t_0, t_1, t_2, t_3, t_4, t_5, t_6, t_7, t_8, t_9, t_10, t_11, t_12, t_13, t_15, t_16, t_20, t_21, t_22, t_32, t_40, t_41, t_48, t_49, t_57, t_59, t_60, t_63, t_72, t_76, t_88, t_100, t_144, t_200, t_255, t_288, t_400, t_800, t_999, t_1000, t_1024, t_1200, t_1600, t_3200, t_100000, t_200000, t_252645135, t_858993459, t_1431655765, u_m1000002, u_m1000001, u_m1000, u_m3, u_m1, u_0, u_1, u_2, u_3, u_4, u_5, u_7, u_8, u_10, u_11, u_15, u_60, u_100, u_255, u_999, u_1000, u_100000, u_4294967295] at hd14); exact absurd rfl hc14
          · have hd14 := i_eq.mp hc14; (try simp (disch := omega) only [nT, t_m1000100, t_m1000010, t_m1000003, t_m1000002, t_m1000001, t_m1000000, t_m65535, t_m1000, t_m3, t_m1, t_0, t_1, t_2, t_3, t_4, t_5, t_6, t_7, t_8, t_9, t_10, t_11, t_12, t_13, t_15, t_16, t_20, t_21, t_22, t_32, t_40, t_41, t_48, t_49, t_57, t_59, t_60, t_63, t_72, t_76, t_88, t_100, t_144, t_200, t_255, t_288, t_400, t_800, t_999, t_1000, t_1024, t_1200, t_1600, t_3200, t_100000, t_200000, t_252645135, t_858993459, t_1431655765, u_m1000002, u_m1000001, u_m1000, u_m3, u_m1, u_0, u_1, u_2, u_3, u_4, u_5, u_7, u_8, u_10, u_11, u_15, u_60, u_100, u_255, u_999, u_1000, u_100000, u_4294967295] at hd14)
            refine g_iload_n (i := 1) dX7_lowestBit_17 rfl rfl ?_
            refine g_iret dX7_lowestBit_18 rfl (rfl) (hQ _ _ ?_)
            exact ⟨rfl, rfl⟩
      · rw [fsB_f hk1] at he
        rw [if_neg hk1] at hb
        refine g_iload_n (i := 1) dX7_lowestBit_2 rfl rfl ?_
        refine g_bipush (v := 8) dX7_lowestBit_3 (by decide) ?_
        refine g_icmp_ge (tgt := 25) dX7_lowestBit_5 (by decide) (fun hc5 => ?_) (fun hc5 => ?_)
        · (try simp (disch := omega) only [nT, t_m1000100, t_m1000010, t_m1000003, t_m1000002, t_m1000001, t_m1000000, t_m65535, t_m1000, t_m3, t_m1, t_0, t_1, t_2, t_3, t_4, t_5, t_6, t_7, t_8, t_9, t_10, t_11, t_12, t_13, t_15, t_16, t_20, t_21, t_22, t_32, t_40, t_41, t_48, t_49, t_57, t_59, t_60, t_63, t_72, t_76, t_88, t_100, t_144, t_200, t_255, t_288, t_400, t_800, t_999, t_1000, t_1024, t_1200, t_1600, t_3200, t_100000, t_200000, t_252645135, t_858993459, t_1431655765, u_m1000002, u_m1000001, u_m1000, u_m3, u_m1, u_0, u_1, u_2, u_3, u_4, u_5, u_7, u_8, u_10, u_11, u_15, u_60, u_100, u_255, u_999, u_1000, u_100000, u_4294967295] at hc5); omega
        · (try simp (disch := omega) only [nT, t_m1000100, t_m1000010, t_m1000003, t_m1000002, t_m1000001, t_m1000000, t_m65535, t_m1000, t_m3, t_m1, t_0, t_1, t_2, t_3, t_4, t_5, t_6, t_7, t_8, t_9, t_10, t_11, t_12, t_13, t_15, t_16, t_20, t_21, t_22, t_32, t_40, t_41, t_48, t_49, t_57, t_59, t_60, t_63, t_72, t_76, t_88, t_100, t_144, t_200, t_255, t_288, t_400, t_800, t_999, t_1000, t_1024, t_1200, t_1600, t_3200, t_100000, t_200000, t_252645135, t_858993459, t_1431655765, u_m1000002, u_m1000001, u_m1000, u_m3, u_m1, u_0, u_1, u_2, u_3, u_4, u_5, u_7, u_8, u_10, u_11, u_15, u_60, u_100, u_255, u_999, u_1000, u_100000, u_4294967295] at hc5)
          refine g_iload_n (i := 0) dX7_lowestBit_8 rfl rfl ?_
          refine g_iload_n (i := 1) dX7_lowestBit_9 rfl rfl ?_
          refine g_ishr dX7_lowestBit_10 ?_
          refine g_iconst (v := 1) dX7_lowestBit_11 (by decide) ?_
          refine g_iand dX7_lowestBit_12 ?_
          rw [hb]
          refine g_iconst (v := 1) dX7_lowestBit_13 (by decide) ?_
          refine g_icmp_ne (tgt := 19) dX7_lowestBit_14 (by decide) (fun hc14 => ?_) (fun hc14 => ?_)
          · have hd14 := mt i_eq.mpr hc14; (try simp (disch := omega) only [nT, t_m1000100, t_m1000010, t_m1000003, t_m1000002, t_m1000001, t_m1000000, t_m65535, t_m1000, t_m3, t_m1, t_0, t_1, t_2, t_3, t_4, t_5, t_6, t_7, t_8, t_9, t_10, t_11, t_12, t_13, t_15, t_16, t_20, t_21, t_22, t_32, t_40, t_41, t_48, t_49, t_57, t_59, t_60, t_63, t_72, t_76, t_88, t_100, t_144, t_200, t_255, t_288, t_400, t_800, t_999, t_1000, t_1024, t_1200, t_1600, t_3200, t_100000, t_200000, t_252645135, t_858993459, t_1431655765, u_m1000002, u_m1000001, u_m1000, u_m3, u_m1, u_0, u_1, u_2, u_3, u_4, u_5, u_7, u_8, u_10, u_11, u_15, u_60, u_100, u_255, u_999, u_1000, u_100000, u_4294967295] at hd14)
            refine g_iinc dX7_lowestBit_19 rfl (Nat.le_of_ble_eq_true rfl) rfl ?_
            refine g_goto (tgt := 2) dX7_lowestBit_22 (by decide) ?_
            rw [ni_incO]; exact ih (k + 1) (by omega) he
          · have hd14 := i_eq.mp hc14; (try simp (disch := omega) only [nT, t_m1000100, t_m1000010, t_m1000003, t_m1000002, t_m1000001, t_m1000000, t_m65535, t_m1000, t_m3, t_m1, t_0, t_1, t_2, t_3, t_4, t_5, t_6, t_7, t_8, t_9, t_10, t_11, t_12, t_13, t_15, t_16, t_20, t_21, t_22, t_32, t_40, t_41, t_48, t_49, t_57, t_59, t_60, t_63, t_72, t_76, t_88, t_100, t_144, t_200, t_255, t_288, t_400, t_800, t_999, t_1000, t_1024, t_1200, t_1600, t_3200, t_100000, t_200000, t_252645135, t_858993459, t_1431655765, u_m1000002, u_m1000001, u_m1000, u_m3, u_m1, u_0, u_1, u_2, u_3, u_4, u_5, u_7, u_8, u_10, u_11, u_15, u_60, u_100, u_255, u_999, u_1000, u_100000, u_4294967295] at hd14); exact absurd hc14 (by decide)
  refine g_iconst (v := 0) dX7_lowestBit_0 (by decide) ?_
  refine g_istore_n (i := 1) dX7_lowestBit_1 rfl (Nat.le_of_ble_eq_true rfl) rfl ?_
  exact key 8 0 (by omega) hz
/-! from LINE to LINE -/
def enK (sz : Nat) : List (Nat × Nat) → Nat
  | [] => sz
  | q :: _ => q.2
def rsK (rl lk tm wi tu : Nat → Int32) (sz : Nat) : List (Nat × Nat) → List Nat → Prop
  | [], R => R = []
  | q :: K, R => ∃ (f t u : Nat) (X L2 R' : List Nat), rl q.2 = 2 ∧ lk q.2 = nI q.1 ∧ tm q.1 = nI t ∧ tu q.1 = nI u ∧ u ≤ t ∧ t ≤ 999 ∧ X ≠ [] ∧ q.1 < q.2 ∧ (q.2 < sz ∧ enK sz K ≤ sz) ∧ (∀ z, z ∈ K → z.1 < q.1) ∧ blk rl lk tm wi f (6 - (K.length + 1)) (q.1 + 1) q.2 X ∧ blk rl lk tm wi f (6 - K.length) (q.2 + 1) (enK sz K) L2 ∧ R = repL (t - u) X ++ (L2 ++ R') ∧ rsK rl lk tm wi tu sz K R'
section WalkS
variable {rl lk tm wi tu : Nat → Int32} {sz : Nat}
theorem rsK_c {tu' : Nat → Int32} : ∀ (K : List (Nat × Nat)) (R : List Nat), (∀ z, z ∈ K → tu' z.1 = tu z.1) → rsK rl lk tm wi tu sz K R → rsK rl lk tm wi tu' sz K R
  | [], R, _, h => h
  | q :: K, R, hc, h => by
    obtain ⟨f, t, u, X, L2, R', h1, h2, h3, h4, h5, h6, h7, h8, h9, h10, h11, h12, h13, h14⟩ := h
    exact ⟨f, t, u, X, L2, R', h1, h2, h3, by rw [hc q List.mem_cons_self]; exact h4, h5, h6, h7, h8, h9, h10, h11, h12, h13, rsK_c K R' (fun z hz => hc z (List.mem_cons_of_mem _ hz)) h14⟩
theorem blk_e : ∀ (f d a b : Nat), blk rl lk tm wi f d a b [] → a = b
  | 0, _, _, _, h => h.1
  | f + 1, d, a, b, h => by
    rcases h with h | ⟨h1, h2, L', h3, h4⟩ | ⟨h1, d', e, t, X, L', h2, h3, h4, h5, h6, h7, h8, h9, h10, h11, h12, h13, h14, h15⟩
    · exact h.1
    · cases h3
    · obtain ⟨y, rfl⟩ : ∃ y, t = y + 1 := ⟨t - 1, by omega⟩
      rw [repL_s] at h14
      exact absurd (List.append_eq_nil_iff.mp (List.append_eq_nil_iff.mp h14.symm).1).1 h12
end WalkS
/-- the walk's state at object P: what is still to come is L -/
def WkS (P : Nat) (tx rl lk tm wi lo hi : Nat → Int32) (sz : Nat) (pn nl : Int32) (L : List Nat) (h : HH) : Prop := ∃ (tu : Nat → Int32) (K : List (Nat × Nat)) (a f : Nat) (L1 R : List Nat), StX h P tx rl lk tm wi lo hi tu sz (nI a) pn nl ∧ K.length ≤ 6 ∧ blk rl lk tm wi f (6 - K.length) a (enK sz K) L1 ∧ L = L1 ++ R ∧ rsK rl lk tm wi tu sz K R ∧ (∀ z, z ∈ K → z.1 < a) ∧ enK sz K ≤ sz
def FrW (P : Nat) (h h' : HH) : Prop := (∀ k, ¬ k = P + 8 → gA h' k = gA h k) ∧ ∀ k j, ¬ (k = P ∧ j = 9) → gF h' k j = gF h k j
theorem fw_rf {P : Nat} {h : HH} : FrW P h h := ⟨fun _ _ => rfl, fun _ _ _ => rfl⟩
theorem fw_A {P : Nat} {h h' : HH} {a : AE} (f : FrW P h h') : FrW P h (sA h' (P + 8) a) := ⟨fun i hi => by rw [gA_sA, if_neg hi]; exact f.1 i hi, fun i j hij => f.2 i j hij⟩
theorem fw_F {P : Nat} {h h' : HH} {v : Value} (f : FrW P h h') : FrW P h (sF h' P 9 v) := ⟨fun i hi => f.1 i hi, fun i i' hij => by rw [gF_sF, if_neg hij]; exact f.2 i i' hij⟩
theorem fw_tr {P : Nat} {h h' h'' : HH} (f : FrW P h h') (g : FrW P h' h'') : FrW P h h'' := ⟨fun k hk => (g.1 k hk).trans (f.1 k hk), fun k j hk => (g.2 k j hk).trans (f.2 k j hk)⟩
theorem stx_ws {h : HH} {I sz : Nat} {ws pn nl : Int32} {tx rl lk tm wi lo hi tu : Nat → Int32} (hs : StX h I tx rl lk tm wi lo hi tu sz ws pn nl) (w2 : Int32) : StX (sF h I 9 (.int w2)) I tx rl lk tm wi lo hi tu sz w2 pn nl := by
  obtain ⟨e0, e1, e2, e3, e4, e5, e6, e7, e8, a1, a2, a3, a4, a5, a6, a7, a8, f8, f9, f10, f11⟩ := hs
  refine ⟨e0, ?_, ?_, ?_, ?_, ?_, ?_, ?_, ?_, a1, a2, a3, a4, a5, a6, a7, a8, ?_, rF_eq, ?_, ?_⟩
  all_goals (refine rF_nj (by decide) ?_; assumption)
theorem stx_tu {h : HH} {I sz : Nat} {ws pn nl : Int32} {tx rl lk tm wi lo hi tu : Nat → Int32} (hs : StX h I tx rl lk tm wi lo hi tu sz ws pn nl) (t2 : Nat → Int32) : StX (sA h (I + 8) (aI 400 t2)) I tx rl lk tm wi lo hi t2 sz ws pn nl := by
  obtain ⟨e0, e1, e2, e3, e4, e5, e6, e7, e8, a1, a2, a3, a4, a5, a6, a7, a8, f8, f9, f10, f11⟩ := hs
  refine ⟨rA_ne (by omega) e0, e1, e2, e3, e4, e5, e6, e7, e8, rA_ne (by omega) a1, rA_ne (by omega) a2, rA_ne (by omega) a3, rA_ne (by omega) a4, rA_ne (by omega) a5, rA_ne (by omega) a6, rA_ne (by omega) a7, rA_eq, f8, f9, f10, f11⟩
theorem c_nextLine {h : HH} {P sz : Nat} {tx rl lk tm wi lo hi : Nat → Int32} {pn nl : Int32} {s : Nat} {L : List Nat} (hz : sz ≤ 400) (hw : WkS P tx rl lk tm wi lo hi sz pn nl (s :: L) h) : CT mX2_nextLine 0 0 0 [.ref P] h (fun r h' => r = some (.int (nI s)) ∧ WkS P tx rl lk tm wi lo hi sz pn nl L h' ∧ FrW P h h') := by
  refine CT.go [.ref P, hU, hU] (by decide +kernel) rfl rfl (fun Q' hQ => ?_)
  have keyD : ∀ (d : Nat) (K : List (Nat × Nat)) (tu : Nat → Int32) (h2 : HH) (i a f : Nat) (L1 R : List Nat) (v2 : Value), StX h2 P tx rl lk tm wi lo hi tu sz (nI a) pn nl → FrW P h h2 → d + K.length = 6 → i + d ≤ 12 → blk rl lk tm wi f d a (enK sz K) L1 → L1 ++ R = s :: L → L1 ≠ [] → rsK rl lk tm wi tu sz K R → (∀ z, z ∈ K → z.1 < a) → enK sz K ≤ sz → GG (EM mX2_nextLine 0 0 0 Q') 0 0 2 [.ref P, .int (nI i), v2] [] h2 := by
    intro d
    induction d with
    | zero =>
      intro K tu h2 i a f L1 R v2 hs hfr hd hi hb hL hne hrs hK hen
      obtain ⟨e0, e1, e2, e3, e4, e5, e6, e7, e8, a1, a2, a3, a4, a5, a6, a7, a8, f8, f9, f10, f11⟩ := id hs
      cases f with
      | zero => exact absurd hb.2 hne
      | succ f =>
        rcases hb with ⟨-, h2⟩ | ⟨h1, h2, L', h3, h4⟩ | ⟨h1, d', e, t, X, L', h2, -⟩
        · exact absurd h2 hne
        · subst h3
          rw [List.cons_append] at hL
          obtain ⟨rfl, rfl⟩ := List.cons.inj hL
          refine g_iload_n (i := 1) dX2_nextLine_2 rfl rfl ?_
          refine g_bipush (v := 12) dX2_nextLine_3 (by decide) ?_
          refine g_icmp_gt (tgt := 123) dX2_nextLine_5 (by decide) (fun hc5 => ?_) (fun hc5 => ?_)
          · (try simp (disch := omega) only [nT, t_m1000100, t_m1000010, t_m1000003, t_m1000002, t_m1000001, t_m1000000, t_m65535, t_m1000, t_m3, t_m1, t_0, t_1, t_2, t_3, t_4, t_5, t_6, t_7, t_8, t_9, t_10, t_11, t_12, t_13, t_15, t_16, t_20, t_21, t_22, t_32, t_40, t_41, t_48, t_49, t_57, t_59, t_60, t_63, t_72, t_76, t_88, t_100, t_144, t_200, t_255, t_288, t_400, t_800, t_999, t_1000, t_1024, t_1200, t_1600, t_3200, t_100000, t_200000, t_252645135, t_858993459, t_1431655765, u_m1000002, u_m1000001, u_m1000, u_m3, u_m1, u_0, u_1, u_2, u_3, u_4, u_5, u_7, u_8, u_10, u_11, u_15, u_60, u_100, u_255, u_999, u_1000, u_100000, u_4294967295] at hc5); omega
          · (try simp (disch := omega) only [nT, t_m1000100, t_m1000010, t_m1000003, t_m1000002, t_m1000001, t_m1000000, t_m65535, t_m1000, t_m3, t_m1, t_0, t_1, t_2, t_3, t_4, t_5, t_6, t_7, t_8, t_9, t_10, t_11, t_12, t_13, t_15, t_16, t_20, t_21, t_22, t_32, t_40, t_41, t_48, t_49, t_57, t_59, t_60, t_63, t_72, t_76, t_88, t_100, t_144, t_200, t_255, t_288, t_400, t_800, t_999, t_1000, t_1024, t_1200, t_1600, t_3200, t_100000, t_200000, t_252645135, t_858993459, t_1431655765, u_m1000002, u_m1000001, u_m1000, u_m3, u_m1, u_0, u_1, u_2, u_3, u_4, u_5, u_7, u_8, u_10, u_11, u_15, u_60, u_100, u_255, u_999, u_1000, u_100000, u_4294967295] at hc5)
            refine g_aload_n (i := 0) dX2_nextLine_8 rfl rfl ?_
            refine g_get dX2_nextLine_9 fl_X2_40 (by repeat' (first | assumption | exact rF_eq | (apply rF_nj; focus decide) | (apply rF_nk; focus omega) | refine rF_a ?_ | exact rA_eq | refine rA_ne (by omega) ?_ | refine rA_f ?_)) (by repeat' (first | assumption | exact rF_eq | (apply rF_nj; focus decide) | (apply rF_nk; focus omega) | refine rF_a ?_ | exact rA_eq | refine rA_ne (by omega) ?_ | refine rA_f ?_)) ?_
            refine g_aload_n (i := 0) dX2_nextLine_12 rfl rfl ?_
            refine g_get dX2_nextLine_13 fl_X2_36 (by repeat' (first | assumption | exact rF_eq | (apply rF_nj; focus decide) | (apply rF_nk; focus omega) | refine rF_a ?_ | exact rA_eq | refine rA_ne (by omega) ?_ | refine rA_f ?_)) (by repeat' (first | assumption | exact rF_eq | (apply rF_nj; focus decide) | (apply rF_nk; focus omega) | refine rF_a ?_ | exact rA_eq | refine rA_ne (by omega) ?_ | refine rA_f ?_)) ?_
            refine g_icmp_ge (tgt := 123) dX2_nextLine_16 (by decide) (fun hc16 => ?_) (fun hc16 => ?_)
            · (try simp (disch := omega) only [nT, t_m1000100, t_m1000010, t_m1000003, t_m1000002, t_m1000001, t_m1000000, t_m65535, t_m1000, t_m3, t_m1, t_0, t_1, t_2, t_3, t_4, t_5, t_6, t_7, t_8, t_9, t_10, t_11, t_12, t_13, t_15, t_16, t_20, t_21, t_22, t_32, t_40, t_41, t_48, t_49, t_57, t_59, t_60, t_63, t_72, t_76, t_88, t_100, t_144, t_200, t_255, t_288, t_400, t_800, t_999, t_1000, t_1024, t_1200, t_1600, t_3200, t_100000, t_200000, t_252645135, t_858993459, t_1431655765, u_m1000002, u_m1000001, u_m1000, u_m3, u_m1, u_0, u_1, u_2, u_3, u_4, u_5, u_7, u_8, u_10, u_11, u_15, u_60, u_100, u_255, u_999, u_1000, u_100000, u_4294967295] at hc16); omega
            · (try simp (disch := omega) only [nT, t_m1000100, t_m1000010, t_m1000003, t_m1000002, t_m1000001, t_m1000000, t_m65535, t_m1000, t_m3, t_m1, t_0, t_1, t_2, t_3, t_4, t_5, t_6, t_7, t_8, t_9, t_10, t_11, t_12, t_13, t_15, t_16, t_20, t_21, t_22, t_32, t_40, t_41, t_48, t_49, t_57, t_59, t_60, t_63, t_72, t_76, t_88, t_100, t_144, t_200, t_255, t_288, t_400, t_800, t_999, t_1000, t_1024, t_1200, t_1600, t_3200, t_100000, t_200000, t_252645135, t_858993459, t_1431655765, u_m1000002, u_m1000001, u_m1000, u_m3, u_m1, u_0, u_1, u_2, u_3, u_4, u_5, u_7, u_8, u_10, u_11, u_15, u_60, u_100, u_255, u_999, u_1000, u_100000, u_4294967295] at hc16)
              refine g_aload_n (i := 0) dX2_nextLine_19 rfl rfl ?_
              refine g_get dX2_nextLine_20 fl_X2_40 (by repeat' (first | assumption | exact rF_eq | (apply rF_nj; focus decide) | (apply rF_nk; focus omega) | refine rF_a ?_ | exact rA_eq | refine rA_ne (by omega) ?_ | refine rA_f ?_)) (by repeat' (first | assumption | exact rF_eq | (apply rF_nj; focus decide) | (apply rF_nk; focus omega) | refine rF_a ?_ | exact rA_eq | refine rA_ne (by omega) ?_ | refine rA_f ?_)) ?_
              refine g_istore_n (i := 2) dX2_nextLine_23 rfl (Nat.le_of_ble_eq_true rfl) rfl ?_
              refine g_aload_n (i := 0) dX2_nextLine_24 rfl rfl ?_
              refine g_dup dX2_nextLine_25 rfl ?_
              refine g_get dX2_nextLine_26 fl_X2_40 (by repeat' (first | assumption | exact rF_eq | (apply rF_nj; focus decide) | (apply rF_nk; focus omega) | refine rF_a ?_ | exact rA_eq | refine rA_ne (by omega) ?_ | refine rA_f ?_)) (by repeat' (first | assumption | exact rF_eq | (apply rF_nj; focus decide) | (apply rF_nk; focus omega) | refine rF_a ?_ | exact rA_eq | refine rA_ne (by omega) ?_ | refine rA_f ?_)) ?_
              refine g_iconst (v := 1) dX2_nextLine_29 (by decide) ?_
              refine g_iadd dX2_nextLine_30 ?_
              rw [ni_inc]
              refine g_put dX2_nextLine_31 pl_X2_40 (by repeat' (first | assumption | exact rF_eq | (apply rF_nj; focus decide) | (apply rF_nk; focus omega) | refine rF_a ?_ | exact rA_eq | refine rA_ne (by omega) ?_ | refine rA_f ?_)) (fun _ => ⟨rfl, rfl⟩) ?_
              refine g_aload_n (i := 0) dX2_nextLine_34 rfl rfl ?_
              refine g_get dX2_nextLine_35 fl_X2_15 (by repeat' (first | assumption | exact rF_eq | (apply rF_nj; focus decide) | (apply rF_nk; focus omega) | refine rF_a ?_ | exact rA_eq | refine rA_ne (by omega) ?_ | refine rA_f ?_)) (by repeat' (first | assumption | exact rF_eq | (apply rF_nj; focus decide) | (apply rF_nk; focus omega) | refine rF_a ?_ | exact rA_eq | refine rA_ne (by omega) ?_ | refine rA_f ?_)) ?_
              refine g_iload_n (i := 2) dX2_nextLine_38 rfl rfl ?_
              refine g_iald dX2_nextLine_39 (by repeat' (first | assumption | exact rF_eq | (apply rF_nj; focus decide) | (apply rF_nk; focus omega) | refine rF_a ?_ | exact rA_eq | refine rA_ne (by omega) ?_ | refine rA_f ?_)) (nT (by omega)) (by omega) ?_
              rw [h2]
              refine g_if_ne (tgt := 45) dX2_nextLine_40 (by decide) (fun hc40 => ?_) (fun hc40 => ?_)
              · have hd40 := mt i_eq.mpr hc40; (try simp (disch := omega) only [nT, t_m1000100, t_m1000010, t_m1000003, t_m1000002, t_m1000001, t_m1000000, t_m65535, t_m1000, t_m3, t_m1, t_0, t_1, t_2, t_3, t_4, t_5, t_6, t_7, t_8, t_9, t_10, t_11, t_12, t_13, t_15, t_16, t_20, t_21, t_22, t_32, t_40, t_41, t_48, t_49, t_57, t_59, t_60, t_63, t_72, t_76, t_88, t_100, t_144, t_200, t_255, t_288, t_400, t_800, t_999, t_1000, t_1024, t_1200, t_1600, t_3200, t_100000, t_200000, t_252645135, t_858993459, t_1431655765, u_m1000002, u_m1000001, u_m1000, u_m3, u_m1, u_0, u_1, u_2, u_3, u_4, u_5, u_7, u_8, u_10, u_11, u_15, u_60, u_100, u_255, u_999, u_1000, u_100000, u_4294967295] at hd40); exact absurd rfl hc40
              · have hd40 := i_eq.mp hc40; (try simp (disch := omega) only [nT, t_m1000100, t_m1000010, t_m1000003, t_m1000002, t_m1000001, t_m1000000, t_m65535, t_m1000, t_m3, t_m1, t_0, t_1, t_2, t_3, t_4, t_5, t_6, t_7, t_8, t_9, t_10, t_11, t_12, t_13, t_15, t_16, t_20, t_21, t_22, t_32, t_40, t_41, t_48, t_49, t_57, t_59, t_60, t_63, t_72, t_76, t_88, t_100, t_144, t_200, t_255, t_288, t_400, t_800, t_999, t_1000, t_1024, t_1200, t_1600, t_3200, t_100000, t_200000, t_252645135, t_858993459, t_1431655765, u_m1000002, u_m1000001, u_m1000, u_m3, u_m1, u_0, u_1, u_2, u_3, u_4, u_5, u_7, u_8, u_10, u_11, u_15, u_60, u_100, u_255, u_999, u_1000, u_100000, u_4294967295] at hd40)
                refine g_iload_n (i := 2) dX2_nextLine_43 rfl rfl ?_
                refine g_iret dX2_nextLine_44 rfl (rfl) (hQ _ _ ?_)
                exact ⟨rfl, ⟨tu, K, a + 1, f, L', R, stx_ws hs _, by omega, by rw [show 6 - K.length = 0 by omega]; exact h4, rfl, hrs, fun z hz => by have := hK z hz; omega, hen⟩, fw_F hfr⟩
        · omega
    | succ d ih =>
      intro K tu h2 i a f L1 R v2 hs hfr hd hi hb hL hne hrs hK hen
      obtain ⟨e0, e1, e2, e3, e4, e5, e6, e7, e8, a1, a2, a3, a4, a5, a6, a7, a8, f8, f9, f10, f11⟩ := id hs
      cases f with
      | zero => exact absurd hb.2 hne
      | succ f =>
        rcases hb with ⟨-, h2⟩ | ⟨h1, h2, L', h3, h4⟩ | ⟨h1, d', e, t, X, L', h2, h3, h4, h5, h6, h7, h8, h9, h10, h11, h12, h13, h14, h15⟩
        · exact absurd h2 hne
        · subst h3
          rw [List.cons_append] at hL
          obtain ⟨rfl, rfl⟩ := List.cons.inj hL
          refine g_iload_n (i := 1) dX2_nextLine_2 rfl rfl ?_
          refine g_bipush (v := 12) dX2_nextLine_3 (by decide) ?_
          refine g_icmp_gt (tgt := 123) dX2_nextLine_5 (by decide) (fun hc5 => ?_) (fun hc5 => ?_)
          · (try simp (disch := omega) only [nT, t_m1000100, t_m1000010, t_m1000003, t_m1000002, t_m1000001, t_m1000000, t_m65535, t_m1000, t_m3, t_m1, t_0, t_1, t_2, t_3, t_4, t_5, t_6, t_7, t_8, t_9, t_10, t_11, t_12, t_13, t_15, t_16, t_20, t_21, t_22, t_32, t_40, t_41, t_48, t_49, t_57, t_59, t_60, t_63, t_72, t_76, t_88, t_100, t_144, t_200, t_255, t_288, t_400, t_800, t_999, t_1000, t_1024, t_1200, t_1600, t_3200, t_100000, t_200000, t_252645135, t_858993459, t_1431655765, u_m1000002, u_m1000001, u_m1000, u_m3, u_m1, u_0, u_1, u_2, u_3, u_4, u_5, u_7, u_8, u_10, u_11, u_15, u_60, u_100, u_255, u_999, u_1000, u_100000, u_4294967295] at hc5); omega
          · (try simp (disch := omega) only [nT, t_m1000100, t_m1000010, t_m1000003, t_m1000002, t_m1000001, t_m1000000, t_m65535, t_m1000, t_m3, t_m1, t_0, t_1, t_2, t_3, t_4, t_5, t_6, t_7, t_8, t_9, t_10, t_11, t_12, t_13, t_15, t_16, t_20, t_21, t_22, t_32, t_40, t_41, t_48, t_49, t_57, t_59, t_60, t_63, t_72, t_76, t_88, t_100, t_144, t_200, t_255, t_288, t_400, t_800, t_999, t_1000, t_1024, t_1200, t_1600, t_3200, t_100000, t_200000, t_252645135, t_858993459, t_1431655765, u_m1000002, u_m1000001, u_m1000, u_m3, u_m1, u_0, u_1, u_2, u_3, u_4, u_5, u_7, u_8, u_10, u_11, u_15, u_60, u_100, u_255, u_999, u_1000, u_100000, u_4294967295] at hc5)
            refine g_aload_n (i := 0) dX2_nextLine_8 rfl rfl ?_
            refine g_get dX2_nextLine_9 fl_X2_40 (by repeat' (first | assumption | exact rF_eq | (apply rF_nj; focus decide) | (apply rF_nk; focus omega) | refine rF_a ?_ | exact rA_eq | refine rA_ne (by omega) ?_ | refine rA_f ?_)) (by repeat' (first | assumption | exact rF_eq | (apply rF_nj; focus decide) | (apply rF_nk; focus omega) | refine rF_a ?_ | exact rA_eq | refine rA_ne (by omega) ?_ | refine rA_f ?_)) ?_
            refine g_aload_n (i := 0) dX2_nextLine_12 rfl rfl ?_
            refine g_get dX2_nextLine_13 fl_X2_36 (by repeat' (first | assumption | exact rF_eq | (apply rF_nj; focus decide) | (apply rF_nk; focus omega) | refine rF_a ?_ | exact rA_eq | refine rA_ne (by omega) ?_ | refine rA_f ?_)) (by repeat' (first | assumption | exact rF_eq | (apply rF_nj; focus decide) | (apply rF_nk; focus omega) | refine rF_a ?_ | exact rA_eq | refine rA_ne (by omega) ?_ | refine rA_f ?_)) ?_
            refine g_icmp_ge (tgt := 123) dX2_nextLine_16 (by decide) (fun hc16 => ?_) (fun hc16 => ?_)
            · (try simp (disch := omega) only [nT, t_m1000100, t_m1000010, t_m1000003, t_m1000002, t_m1000001, t_m1000000, t_m65535, t_m1000, t_m3, t_m1, t_0, t_1, t_2, t_3, t_4, t_5, t_6, t_7, t_8, t_9, t_10, t_11, t_12, t_13, t_15, t_16, t_20, t_21, t_22, t_32, t_40, t_41, t_48, t_49, t_57, t_59, t_60, t_63, t_72, t_76, t_88, t_100, t_144, t_200, t_255, t_288, t_400, t_800, t_999, t_1000, t_1024, t_1200, t_1600, t_3200, t_100000, t_200000, t_252645135, t_858993459, t_1431655765, u_m1000002, u_m1000001, u_m1000, u_m3, u_m1, u_0, u_1, u_2, u_3, u_4, u_5, u_7, u_8, u_10, u_11, u_15, u_60, u_100, u_255, u_999, u_1000, u_100000, u_4294967295] at hc16); omega
            · (try simp (disch := omega) only [nT, t_m1000100, t_m1000010, t_m1000003, t_m1000002, t_m1000001, t_m1000000, t_m65535, t_m1000, t_m3, t_m1, t_0, t_1, t_2, t_3, t_4, t_5, t_6, t_7, t_8, t_9, t_10, t_11, t_12, t_13, t_15, t_16, t_20, t_21, t_22, t_32, t_40, t_41, t_48, t_49, t_57, t_59, t_60, t_63, t_72, t_76, t_88, t_100, t_144, t_200, t_255, t_288, t_400, t_800, t_999, t_1000, t_1024, t_1200, t_1600, t_3200, t_100000, t_200000, t_252645135, t_858993459, t_1431655765, u_m1000002, u_m1000001, u_m1000, u_m3, u_m1, u_0, u_1, u_2, u_3, u_4, u_5, u_7, u_8, u_10, u_11, u_15, u_60, u_100, u_255, u_999, u_1000, u_100000, u_4294967295] at hc16)
              refine g_aload_n (i := 0) dX2_nextLine_19 rfl rfl ?_
              refine g_get dX2_nextLine_20 fl_X2_40 (by repeat' (first | assumption | exact rF_eq | (apply rF_nj; focus decide) | (apply rF_nk; focus omega) | refine rF_a ?_ | exact rA_eq | refine rA_ne (by omega) ?_ | refine rA_f ?_)) (by repeat' (first | assumption | exact rF_eq | (apply rF_nj; focus decide) | (apply rF_nk; focus omega) | refine rF_a ?_ | exact rA_eq | refine rA_ne (by omega) ?_ | refine rA_f ?_)) ?_
              refine g_istore_n (i := 2) dX2_nextLine_23 rfl (Nat.le_of_ble_eq_true rfl) rfl ?_
              refine g_aload_n (i := 0) dX2_nextLine_24 rfl rfl ?_
              refine g_dup dX2_nextLine_25 rfl ?_
              refine g_get dX2_nextLine_26 fl_X2_40 (by repeat' (first | assumption | exact rF_eq | (apply rF_nj; focus decide) | (apply rF_nk; focus omega) | refine rF_a ?_ | exact rA_eq | refine rA_ne (by omega) ?_ | refine rA_f ?_)) (by repeat' (first | assumption | exact rF_eq | (apply rF_nj; focus decide) | (apply rF_nk; focus omega) | refine rF_a ?_ | exact rA_eq | refine rA_ne (by omega) ?_ | refine rA_f ?_)) ?_
              refine g_iconst (v := 1) dX2_nextLine_29 (by decide) ?_
              refine g_iadd dX2_nextLine_30 ?_
              rw [ni_inc]
              refine g_put dX2_nextLine_31 pl_X2_40 (by repeat' (first | assumption | exact rF_eq | (apply rF_nj; focus decide) | (apply rF_nk; focus omega) | refine rF_a ?_ | exact rA_eq | refine rA_ne (by omega) ?_ | refine rA_f ?_)) (fun _ => ⟨rfl, rfl⟩) ?_
              refine g_aload_n (i := 0) dX2_nextLine_34 rfl rfl ?_
              refine g_get dX2_nextLine_35 fl_X2_15 (by repeat' (first | assumption | exact rF_eq | (apply rF_nj; focus decide) | (apply rF_nk; focus omega) | refine rF_a ?_ | exact rA_eq | refine rA_ne (by omega) ?_ | refine rA_f ?_)) (by repeat' (first | assumption | exact rF_eq | (apply rF_nj; focus decide) | (apply rF_nk; focus omega) | refine rF_a ?_ | exact rA_eq | refine rA_ne (by omega) ?_ | refine rA_f ?_)) ?_
              refine g_iload_n (i := 2) dX2_nextLine_38 rfl rfl ?_
              refine g_iald dX2_nextLine_39 (by repeat' (first | assumption | exact rF_eq | (apply rF_nj; focus decide) | (apply rF_nk; focus omega) | refine rF_a ?_ | exact rA_eq | refine rA_ne (by omega) ?_ | refine rA_f ?_)) (nT (by omega)) (by omega) ?_
              rw [h2]
              refine g_if_ne (tgt := 45) dX2_nextLine_40 (by decide) (fun hc40 => ?_) (fun hc40 => ?_)
              · have hd40 := mt i_eq.mpr hc40; (try simp (disch := omega) only [nT, t_m1000100, t_m1000010, t_m1000003, t_m1000002, t_m1000001, t_m1000000, t_m65535, t_m1000, t_m3, t_m1, t_0, t_1, t_2, t_3, t_4, t_5, t_6, t_7, t_8, t_9, t_10, t_11, t_12, t_13, t_15, t_16, t_20, t_21, t_22, t_32, t_40, t_41, t_48, t_49, t_57, t_59, t_60, t_63, t_72, t_76, t_88, t_100, t_144, t_200, t_255, t_288, t_400, t_800, t_999, t_1000, t_1024, t_1200, t_1600, t_3200, t_100000, t_200000, t_252645135, t_858993459, t_1431655765, u_m1000002, u_m1000001, u_m1000, u_m3, u_m1, u_0, u_1, u_2, u_3, u_4, u_5, u_7, u_8, u_10, u_11, u_15, u_60, u_100, u_255, u_999, u_1000, u_100000, u_4294967295] at hd40); exact absurd rfl hc40
              · have hd40 := i_eq.mp hc40; (try simp (disch := omega) only [nT, t_m1000100, t_m1000010, t_m1000003, t_m1000002, t_m1000001, t_m1000000, t_m65535, t_m1000, t_m3, t_m1, t_0, t_1, t_2, t_3, t_4, t_5, t_6, t_7, t_8, t_9, t_10, t_11, t_12, t_13, t_15, t_16, t_20, t_21, t_22, t_32, t_40, t_41, t_48, t_49, t_57, t_59, t_60, t_63, t_72, t_76, t_88, t_100, t_144, t_200, t_255, t_288, t_400, t_800, t_999, t_1000, t_1024, t_1200, t_1600, t_3200, t_100000, t_200000, t_252645135, t_858993459, t_1431655765, u_m1000002, u_m1000001, u_m1000, u_m3, u_m1, u_0, u_1, u_2, u_3, u_4, u_5, u_7, u_8, u_10, u_11, u_15, u_60, u_100, u_255, u_999, u_1000, u_100000, u_4294967295] at hd40)
                refine g_iload_n (i := 2) dX2_nextLine_43 rfl rfl ?_
                refine g_iret dX2_nextLine_44 rfl (rfl) (hQ _ _ ?_)
                exact ⟨rfl, ⟨tu, K, a + 1, f, L', R, stx_ws hs _, by omega, by rw [show 6 - K.length = d + 1 by omega]; exact h4, rfl, hrs, fun z hz => by have := hK z hz; omega, hen⟩, fw_F hfr⟩
        · obtain rfl : d' = d := by omega
          have hbe := blk_le _ _ _ _ _ h15
          refine g_iload_n (i := 1) dX2_nextLine_2 rfl rfl ?_
          refine g_bipush (v := 12) dX2_nextLine_3 (by decide) ?_
          refine g_icmp_gt (tgt := 123) dX2_nextLine_5 (by decide) (fun hc5 => ?_) (fun hc5 => ?_)
          · (try simp (disch := omega) only [nT, t_m1000100, t_m1000010, t_m1000003, t_m1000002, t_m1000001, t_m1000000, t_m65535, t_m1000, t_m3, t_m1, t_0, t_1, t_2, t_3, t_4, t_5, t_6, t_7, t_8, t_9, t_10, t_11, t_12, t_13, t_15, t_16, t_20, t_21, t_22, t_32, t_40, t_41, t_48, t_49, t_57, t_59, t_60, t_63, t_72, t_76, t_88, t_100, t_144, t_200, t_255, t_288, t_400, t_800, t_999, t_1000, t_1024, t_1200, t_1600, t_3200, t_100000, t_200000, t_252645135, t_858993459, t_1431655765, u_m1000002, u_m1000001, u_m1000, u_m3, u_m1, u_0, u_1, u_2, u_3, u_4, u_5, u_7, u_8, u_10, u_11, u_15, u_60, u_100, u_255, u_999, u_1000, u_100000, u_4294967295] at hc5); omega
          · (try simp (disch := omega) only [nT, t_m1000100, t_m1000010, t_m1000003, t_m1000002, t_m1000001, t_m1000000, t_m65535, t_m1000, t_m3, t_m1, t_0, t_1, t_2, t_3, t_4, t_5, t_6, t_7, t_8, t_9, t_10, t_11, t_12, t_13, t_15, t_16, t_20, t_21, t_22, t_32, t_40, t_41, t_48, t_49, t_57, t_59, t_60, t_63, t_72, t_76, t_88, t_100, t_144, t_200, t_255, t_288, t_400, t_800, t_999, t_1000, t_1024, t_1200, t_1600, t_3200, t_100000, t_200000, t_252645135, t_858993459, t_1431655765, u_m1000002, u_m1000001, u_m1000, u_m3, u_m1, u_0, u_1, u_2, u_3, u_4, u_5, u_7, u_8, u_10, u_11, u_15, u_60, u_100, u_255, u_999, u_1000, u_100000, u_4294967295] at hc5)
            refine g_aload_n (i := 0) dX2_nextLine_8 rfl rfl ?_
            refine g_get dX2_nextLine_9 fl_X2_40 (by repeat' (first | assumption | exact rF_eq | (apply rF_nj; focus decide) | (apply rF_nk; focus omega) | refine rF_a ?_ | exact rA_eq | refine rA_ne (by omega) ?_ | refine rA_f ?_)) (by repeat' (first | assumption | exact rF_eq | (apply rF_nj; focus decide) | (apply rF_nk; focus omega) | refine rF_a ?_ | exact rA_eq | refine rA_ne (by omega) ?_ | refine rA_f ?_)) ?_
            refine g_aload_n (i := 0) dX2_nextLine_12 rfl rfl ?_
            refine g_get dX2_nextLine_13 fl_X2_36 (by repeat' (first | assumption | exact rF_eq | (apply rF_nj; focus decide) | (apply rF_nk; focus omega) | refine rF_a ?_ | exact rA_eq | refine rA_ne (by omega) ?_ | refine rA_f ?_)) (by repeat' (first | assumption | exact rF_eq | (apply rF_nj; focus decide) | (apply rF_nk; focus omega) | refine rF_a ?_ | exact rA_eq | refine rA_ne (by omega) ?_ | refine rA_f ?_)) ?_
            refine g_icmp_ge (tgt := 123) dX2_nextLine_16 (by decide) (fun hc16 => ?_) (fun hc16 => ?_)
            · (try simp (disch := omega) only [nT, t_m1000100, t_m1000010, t_m1000003, t_m1000002, t_m1000001, t_m1000000, t_m65535, t_m1000, t_m3, t_m1, t_0, t_1, t_2, t_3, t_4, t_5, t_6, t_7, t_8, t_9, t_10, t_11, t_12, t_13, t_15, t_16, t_20, t_21, t_22, t_32, t_40, t_41, t_48, t_49, t_57, t_59, t_60, t_63, t_72, t_76, t_88, t_100, t_144, t_200, t_255, t_288, t_400, t_800, t_999, t_1000, t_1024, t_1200, t_1600, t_3200, t_100000, t_200000, t_252645135, t_858993459, t_1431655765, u_m1000002, u_m1000001, u_m1000, u_m3, u_m1, u_0, u_1, u_2, u_3, u_4, u_5, u_7, u_8, u_10, u_11, u_15, u_60, u_100, u_255, u_999, u_1000, u_100000, u_4294967295] at hc16); omega
            · (try simp (disch := omega) only [nT, t_m1000100, t_m1000010, t_m1000003, t_m1000002, t_m1000001, t_m1000000, t_m65535, t_m1000, t_m3, t_m1, t_0, t_1, t_2, t_3, t_4, t_5, t_6, t_7, t_8, t_9, t_10, t_11, t_12, t_13, t_15, t_16, t_20, t_21, t_22, t_32, t_40, t_41, t_48, t_49, t_57, t_59, t_60, t_63, t_72, t_76, t_88, t_100, t_144, t_200, t_255, t_288, t_400, t_800, t_999, t_1000, t_1024, t_1200, t_1600, t_3200, t_100000, t_200000, t_252645135, t_858993459, t_1431655765, u_m1000002, u_m1000001, u_m1000, u_m3, u_m1, u_0, u_1, u_2, u_3, u_4, u_5, u_7, u_8, u_10, u_11, u_15, u_60, u_100, u_255, u_999, u_1000, u_100000, u_4294967295] at hc16)
              refine g_aload_n (i := 0) dX2_nextLine_19 rfl rfl ?_
              refine g_get dX2_nextLine_20 fl_X2_40 (by repeat' (first | assumption | exact rF_eq | (apply rF_nj; focus decide) | (apply rF_nk; focus omega) | refine rF_a ?_ | exact rA_eq | refine rA_ne (by omega) ?_ | refine rA_f ?_)) (by repeat' (first | assumption | exact rF_eq | (apply rF_nj; focus decide) | (apply rF_nk; focus omega) | refine rF_a ?_ | exact rA_eq | refine rA_ne (by omega) ?_ | refine rA_f ?_)) ?_
              refine g_istore_n (i := 2) dX2_nextLine_23 rfl (Nat.le_of_ble_eq_true rfl) rfl ?_
              refine g_aload_n (i := 0) dX2_nextLine_24 rfl rfl ?_
              refine g_dup dX2_nextLine_25 rfl ?_
              refine g_get dX2_nextLine_26 fl_X2_40 (by repeat' (first | assumption | exact rF_eq | (apply rF_nj; focus decide) | (apply rF_nk; focus omega) | refine rF_a ?_ | exact rA_eq | refine rA_ne (by omega) ?_ | refine rA_f ?_)) (by repeat' (first | assumption | exact rF_eq | (apply rF_nj; focus decide) | (apply rF_nk; focus omega) | refine rF_a ?_ | exact rA_eq | refine rA_ne (by omega) ?_ | refine rA_f ?_)) ?_
              refine g_iconst (v := 1) dX2_nextLine_29 (by decide) ?_
              refine g_iadd dX2_nextLine_30 ?_
              rw [ni_inc]
              refine g_put dX2_nextLine_31 pl_X2_40 (by repeat' (first | assumption | exact rF_eq | (apply rF_nj; focus decide) | (apply rF_nk; focus omega) | refine rF_a ?_ | exact rA_eq | refine rA_ne (by omega) ?_ | refine rA_f ?_)) (fun _ => ⟨rfl, rfl⟩) ?_
              refine g_aload_n (i := 0) dX2_nextLine_34 rfl rfl ?_
              refine g_get dX2_nextLine_35 fl_X2_15 (by repeat' (first | assumption | exact rF_eq | (apply rF_nj; focus decide) | (apply rF_nk; focus omega) | refine rF_a ?_ | exact rA_eq | refine rA_ne (by omega) ?_ | refine rA_f ?_)) (by repeat' (first | assumption | exact rF_eq | (apply rF_nj; focus decide) | (apply rF_nk; focus omega) | refine rF_a ?_ | exact rA_eq | refine rA_ne (by omega) ?_ | refine rA_f ?_)) ?_
              refine g_iload_n (i := 2) dX2_nextLine_38 rfl rfl ?_
              refine g_iald dX2_nextLine_39 (by repeat' (first | assumption | exact rF_eq | (apply rF_nj; focus decide) | (apply rF_nk; focus omega) | refine rF_a ?_ | exact rA_eq | refine rA_ne (by omega) ?_ | refine rA_f ?_)) (nT (by omega)) (by omega) ?_
              rw [h1]
              refine g_if_ne (tgt := 45) dX2_nextLine_40 (by decide) (fun hc40 => ?_) (fun hc40 => ?_)
              · have hd40 := mt i_eq.mpr hc40; (try simp (disch := omega) only [nT, t_m1000100, t_m1000010, t_m1000003, t_m1000002, t_m1000001, t_m1000000, t_m65535, t_m1000, t_m3, t_m1, t_0, t_1, t_2, t_3, t_4, t_5, t_6, t_7, t_8, t_9, t_10, t_11, t_12, t_13, t_15, t_16, t_20, t_21, t_22, t_32, t_40, t_41, t_48, t_49, t_57, t_59, t_60, t_63, t_72, t_76, t_88, t_100, t_144, t_200, t_255, t_288, t_400, t_800, t_999, t_1000, t_1024, t_1200, t_1600, t_3200, t_100000, t_200000, t_252645135, t_858993459, t_1431655765, u_m1000002, u_m1000001, u_m1000, u_m3, u_m1, u_0, u_1, u_2, u_3, u_4, u_5, u_7, u_8, u_10, u_11, u_15, u_60, u_100, u_255, u_999, u_1000, u_100000, u_4294967295] at hd40)
                refine g_aload_n (i := 0) dX2_nextLine_45 rfl rfl ?_
                refine g_get dX2_nextLine_46 fl_X2_15 (by repeat' (first | assumption | exact rF_eq | (apply rF_nj; focus decide) | (apply rF_nk; focus omega) | refine rF_a ?_ | exact rA_eq | refine rA_ne (by omega) ?_ | refine rA_f ?_)) (by repeat' (first | assumption | exact rF_eq | (apply rF_nj; focus decide) | (apply rF_nk; focus omega) | refine rF_a ?_ | exact rA_eq | refine rA_ne (by omega) ?_ | refine rA_f ?_)) ?_
                refine g_iload_n (i := 2) dX2_nextLine_49 rfl rfl ?_
                refine g_iald dX2_nextLine_50 (by repeat' (first | assumption | exact rF_eq | (apply rF_nj; focus decide) | (apply rF_nk; focus omega) | refine rF_a ?_ | exact rA_eq | refine rA_ne (by omega) ?_ | refine rA_f ?_)) (nT (by omega)) (by omega) ?_
                rw [h1]
                refine g_iconst (v := 1) dX2_nextLine_51 (by decide) ?_
                refine g_icmp_ne (tgt := 65) dX2_nextLine_52 (by decide) (fun hc52 => ?_) (fun hc52 => ?_)
                · have hd52 := mt i_eq.mpr hc52; (try simp (disch := omega) only [nT, t_m1000100, t_m1000010, t_m1000003, t_m1000002, t_m1000001, t_m1000000, t_m65535, t_m1000, t_m3, t_m1, t_0, t_1, t_2, t_3, t_4, t_5, t_6, t_7, t_8, t_9, t_10, t_11, t_12, t_13, t_15, t_16, t_20, t_21, t_22, t_32, t_40, t_41, t_48, t_49, t_57, t_59, t_60, t_63, t_72, t_76, t_88, t_100, t_144, t_200, t_255, t_288, t_400, t_800, t_999, t_1000, t_1024, t_1200, t_1600, t_3200, t_100000, t_200000, t_252645135, t_858993459, t_1431655765, u_m1000002, u_m1000001, u_m1000, u_m3, u_m1, u_0, u_1, u_2, u_3, u_4, u_5, u_7, u_8, u_10, u_11, u_15, u_60, u_100, u_255, u_999, u_1000, u_100000, u_4294967295] at hd52); exact absurd rfl hc52
                · have hd52 := i_eq.mp hc52; (try simp (disch := omega) only [nT, t_m1000100, t_m1000010, t_m1000003, t_m1000002, t_m1000001, t_m1000000, t_m65535, t_m1000, t_m3, t_m1, t_0, t_1, t_2, t_3, t_4, t_5, t_6, t_7, t_8, t_9, t_10, t_11, t_12, t_13, t_15, t_16, t_20, t_21, t_22, t_32, t_40, t_41, t_48, t_49, t_57, t_59, t_60, t_63, t_72, t_76, t_88, t_100, t_144, t_200, t_255, t_288, t_400, t_800, t_999, t_1000, t_1024, t_1200, t_1600, t_3200, t_100000, t_200000, t_252645135, t_858993459, t_1431655765, u_m1000002, u_m1000001, u_m1000, u_m3, u_m1, u_0, u_1, u_2, u_3, u_4, u_5, u_7, u_8, u_10, u_11, u_15, u_60, u_100, u_255, u_999, u_1000, u_100000, u_4294967295] at hd52)
                  refine g_aload_n (i := 0) dX2_nextLine_55 rfl rfl ?_
                  refine g_get dX2_nextLine_56 fl_X2_33 (by repeat' (first | assumption | exact rF_eq | (apply rF_nj; focus decide) | (apply rF_nk; focus omega) | refine rF_a ?_ | exact rA_eq | refine rA_ne (by omega) ?_ | refine rA_f ?_)) (by repeat' (first | assumption | exact rF_eq | (apply rF_nj; focus decide) | (apply rF_nk; focus omega) | refine rF_a ?_ | exact rA_eq | refine rA_ne (by omega) ?_ | refine rA_f ?_)) ?_
                  refine g_iload_n (i := 2) dX2_nextLine_59 rfl rfl ?_
                  refine g_iconst (v := 1) dX2_nextLine_60 (by decide) ?_
                  refine g_iast dX2_nextLine_61 (by repeat' (first | assumption | exact rF_eq | (apply rF_nj; focus decide) | (apply rF_nk; focus omega) | refine rF_a ?_ | exact rA_eq | refine rA_ne (by omega) ?_ | refine rA_f ?_)) (nT (by omega)) (by omega) ?_
                  refine g_goto (tgt := 117) dX2_nextLine_62 (by decide) ?_
                  refine g_iinc dX2_nextLine_117 rfl (Nat.le_of_ble_eq_true rfl) rfl ?_
                  refine g_goto (tgt := 2) dX2_nextLine_120 (by decide) ?_
                  rw [ni_incO]
                  obtain ⟨y, rfl⟩ : ∃ y, t = y + 1 := ⟨t - 1, by omega⟩
                  refine ih ((a, e) :: K) (upd tu a 1) _ (i + 1) (a + 1) f X (repL y X ++ (L' ++ R)) _ (stx_tu (stx_ws hs _) _) (fw_A (fw_F hfr)) (by rw [List.length_cons]; omega) (by omega) h13 ?_ h12 ?_ ?_ (by show e ≤ sz; omega)
                  · rw [← hL, h14, repL_s, List.append_assoc, List.append_assoc]
                  · refine ⟨f, y + 1, 1, X, L', R, h5, h7, h8, upd_s, by omega, h10, h12, by show a < e; omega, ⟨by show e < sz; omega, hen⟩, hK, ?_, ?_, rfl, rsK_c K R (fun z hz => upd_n (by have := hK z hz; omega)) hrs⟩
                    · rw [show 6 - (K.length + 1) = d' by omega]; exact h13
                    · rw [show 6 - K.length = d' + 1 by omega]; exact h15
                  · intro z hz
                    rcases List.mem_cons.mp hz with rfl | hz
                    · show a < a + 1; omega
                    · have := hK z hz; omega
              · have hd40 := i_eq.mp hc40; (try simp (disch := omega) only [nT, t_m1000100, t_m1000010, t_m1000003, t_m1000002, t_m1000001, t_m1000000, t_m65535, t_m1000, t_m3, t_m1, t_0, t_1, t_2, t_3, t_4, t_5, t_6, t_7, t_8, t_9, t_10, t_11, t_12, t_13, t_15, t_16, t_20, t_21, t_22, t_32, t_40, t_41, t_48, t_49, t_57, t_59, t_60, t_63, t_72, t_76, t_88, t_100, t_144, t_200, t_255, t_288, t_400, t_800, t_999, t_1000, t_1024, t_1200, t_1600, t_3200, t_100000, t_200000, t_252645135, t_858993459, t_1431655765, u_m1000002, u_m1000001, u_m1000, u_m3, u_m1, u_0, u_1, u_2, u_3, u_4, u_5, u_7, u_8, u_10, u_11, u_15, u_60, u_100, u_255, u_999, u_1000, u_100000, u_4294967295] at hd40); exact absurd hc40 (by decide)
  have keyA : ∀ (K : List (Nat × Nat)) (tu : Nat → Int32) (h2 : HH) (i a f : Nat) (L1 R : List Nat) (v2 : Value), StX h2 P tx rl lk tm wi lo hi tu sz (nI a) pn nl → FrW P h h2 → i + K.length ≤ 6 → blk rl lk tm wi f (6 - K.length) a (enK sz K) L1 → L1 ++ R = s :: L → rsK rl lk tm wi tu sz K R → (∀ z, z ∈ K → z.1 < a) → enK sz K ≤ sz → GG (EM mX2_nextLine 0 0 0 Q') 0 0 2 [.ref P, .int (nI i), v2] [] h2 := by
    intro K
    induction K with
    | nil =>
      intro tu h2 i a f L1 R v2 hs hfr hi hb hL hrs hK hen
      have hR : R = [] := hrs
      subst hR
      rw [List.append_nil] at hL
      exact keyD 6 [] tu h2 i a f L1 [] v2 hs hfr rfl (by rw [List.length_nil] at hi; omega) hb (by rw [List.append_nil]; exact hL) (by rw [hL]; simp) rfl hK hen
    | cons q K ih =>
      intro tu h2 i a f L1 R v2 hs hfr hi hb hL hrs hK hen
      rw [List.length_cons] at hi hb
      by_cases hne : L1 = []
      · subst hne
        have hae := blk_e _ _ _ _ hb
        rw [show enK sz (q :: K) = q.2 from rfl] at hae
        subst hae
        rw [List.nil_append] at hL
        obtain ⟨f', t, u, X, L2, R', h1, h2', h3, h4, h5, h6, h7, h8, ⟨h9, h9b⟩, h10, h11, h12, h13, h14⟩ := hrs
        obtain ⟨e0, e1, e2, e3, e4, e5, e6, e7, e8, a1, a2, a3, a4, a5, a6, a7, a8, f8, f9, f10, f11⟩ := id hs
        have hbe := blk_le _ _ _ _ _ h12
        by_cases hut : u < t
        · refine g_iload_n (i := 1) dX2_nextLine_2 rfl rfl ?_
          refine g_bipush (v := 12) dX2_nextLine_3 (by decide) ?_
          refine g_icmp_gt (tgt := 123) dX2_nextLine_5 (by decide) (fun hc5 => ?_) (fun hc5 => ?_)
          · (try simp (disch := omega) only [nT, t_m1000100, t_m1000010, t_m1000003, t_m1000002, t_m1000001, t_m1000000, t_m65535, t_m1000, t_m3, t_m1, t_0, t_1, t_2, t_3, t_4, t_5, t_6, t_7, t_8, t_9, t_10, t_11, t_12, t_13, t_15, t_16, t_20, t_21, t_22, t_32, t_40, t_41, t_48, t_49, t_57, t_59, t_60, t_63, t_72, t_76, t_88, t_100, t_144, t_200, t_255, t_288, t_400, t_800, t_999, t_1000, t_1024, t_1200, t_1600, t_3200, t_100000, t_200000, t_252645135, t_858993459, t_1431655765, u_m1000002, u_m1000001, u_m1000, u_m3, u_m1, u_0, u_1, u_2, u_3, u_4, u_5, u_7, u_8, u_10, u_11, u_15, u_60, u_100, u_255, u_999, u_1000, u_100000, u_4294967295] at hc5); omega
          · (try simp (disch := omega) only [nT, t_m1000100, t_m1000010, t_m1000003, t_m1000002, t_m1000001, t_m1000000, t_m65535, t_m1000, t_m3, t_m1, t_0, t_1, t_2, t_3, t_4, t_5, t_6, t_7, t_8, t_9, t_10, t_11, t_12, t_13, t_15, t_16, t_20, t_21, t_22, t_32, t_40, t_41, t_48, t_49, t_57, t_59, t_60, t_63, t_72, t_76, t_88, t_100, t_144, t_200, t_255, t_288, t_400, t_800, t_999, t_1000, t_1024, t_1200, t_1600, t_3200, t_100000, t_200000, t_252645135, t_858993459, t_1431655765, u_m1000002, u_m1000001, u_m1000, u_m3, u_m1, u_0, u_1, u_2, u_3, u_4, u_5, u_7, u_8, u_10, u_11, u_15, u_60, u_100, u_255, u_999, u_1000, u_100000, u_4294967295] at hc5)
            refine g_aload_n (i := 0) dX2_nextLine_8 rfl rfl ?_
            refine g_get dX2_nextLine_9 fl_X2_40 (by repeat' (first | assumption | exact rF_eq | (apply rF_nj; focus decide) | (apply rF_nk; focus omega) | refine rF_a ?_ | exact rA_eq | refine rA_ne (by omega) ?_ | refine rA_f ?_)) (by repeat' (first | assumption | exact rF_eq | (apply rF_nj; focus decide) | (apply rF_nk; focus omega) | refine rF_a ?_ | exact rA_eq | refine rA_ne (by omega) ?_ | refine rA_f ?_)) ?_
            refine g_aload_n (i := 0) dX2_nextLine_12 rfl rfl ?_
            refine g_get dX2_nextLine_13 fl_X2_36 (by repeat' (first | assumption | exact rF_eq | (apply rF_nj; focus decide) | (apply rF_nk; focus omega) | refine rF_a ?_ | exact rA_eq | refine rA_ne (by omega) ?_ | refine rA_f ?_)) (by repeat' (first | assumption | exact rF_eq | (apply rF_nj; focus decide) | (apply rF_nk; focus omega) | refine rF_a ?_ | exact rA_eq | refine rA_ne (by omega) ?_ | refine rA_f ?_)) ?_
            refine g_icmp_ge (tgt := 123) dX2_nextLine_16 (by decide) (fun hc16 => ?_) (fun hc16 => ?_)
            · (try simp (disch := omega) only [nT, t_m1000100, t_m1000010, t_m1000003, t_m1000002, t_m1000001, t_m1000000, t_m65535, t_m1000, t_m3, t_m1, t_0, t_1, t_2, t_3, t_4, t_5, t_6, t_7, t_8, t_9, t_10, t_11, t_12, t_13, t_15, t_16, t_20, t_21, t_22, t_32, t_40, t_41, t_48, t_49, t_57, t_59, t_60, t_63, t_72, t_76, t_88, t_100, t_144, t_200, t_255, t_288, t_400, t_800, t_999, t_1000, t_1024, t_1200, t_1600, t_3200, t_100000, t_200000, t_252645135, t_858993459, t_1431655765, u_m1000002, u_m1000001, u_m1000, u_m3, u_m1, u_0, u_1, u_2, u_3, u_4, u_5, u_7, u_8, u_10, u_11, u_15, u_60, u_100, u_255, u_999, u_1000, u_100000, u_4294967295] at hc16); omega
            · (try simp (disch := omega) only [nT, t_m1000100, t_m1000010, t_m1000003, t_m1000002, t_m1000001, t_m1000000, t_m65535, t_m1000, t_m3, t_m1, t_0, t_1, t_2, t_3, t_4, t_5, t_6, t_7, t_8, t_9, t_10, t_11, t_12, t_13, t_15, t_16, t_20, t_21, t_22, t_32, t_40, t_41, t_48, t_49, t_57, t_59, t_60, t_63, t_72, t_76, t_88, t_100, t_144, t_200, t_255, t_288, t_400, t_800, t_999, t_1000, t_1024, t_1200, t_1600, t_3200, t_100000, t_200000, t_252645135, t_858993459, t_1431655765, u_m1000002, u_m1000001, u_m1000, u_m3, u_m1, u_0, u_1, u_2, u_3, u_4, u_5, u_7, u_8, u_10, u_11, u_15, u_60, u_100, u_255, u_999, u_1000, u_100000, u_4294967295] at hc16)
              refine g_aload_n (i := 0) dX2_nextLine_19 rfl rfl ?_
              refine g_get dX2_nextLine_20 fl_X2_40 (by repeat' (first | assumption | exact rF_eq | (apply rF_nj; focus decide) | (apply rF_nk; focus omega) | refine rF_a ?_ | exact rA_eq | refine rA_ne (by omega) ?_ | refine rA_f ?_)) (by repeat' (first | assumption | exact rF_eq | (apply rF_nj; focus decide) | (apply rF_nk; focus omega) | refine rF_a ?_ | exact rA_eq | refine rA_ne (by omega) ?_ | refine rA_f ?_)) ?_
              refine g_istore_n (i := 2) dX2_nextLine_23 rfl (Nat.le_of_ble_eq_true rfl) rfl ?_
              refine g_aload_n (i := 0) dX2_nextLine_24 rfl rfl ?_
              refine g_dup dX2_nextLine_25 rfl ?_
              refine g_get dX2_nextLine_26 fl_X2_40 (by repeat' (first | assumption | exact rF_eq | (apply rF_nj; focus decide) | (apply rF_nk; focus omega) | refine rF_a ?_ | exact rA_eq | refine rA_ne (by omega) ?_ | refine rA_f ?_)) (by repeat' (first | assumption | exact rF_eq | (apply rF_nj; focus decide) | (apply rF_nk; focus omega) | refine rF_a ?_ | exact rA_eq | refine rA_ne (by omega) ?_ | refine rA_f ?_)) ?_
              refine g_iconst (v := 1) dX2_nextLine_29 (by decide) ?_
              refine g_iadd dX2_nextLine_30 ?_
              rw [ni_inc]
              refine g_put dX2_nextLine_31 pl_X2_40 (by repeat' (first | assumption | exact rF_eq | (apply rF_nj; focus decide) | (apply rF_nk; focus omega) | refine rF_a ?_ | exact rA_eq | refine rA_ne (by omega) ?_ | refine rA_f ?_)) (fun _ => ⟨rfl, rfl⟩) ?_
              refine g_aload_n (i := 0) dX2_nextLine_34 rfl rfl ?_
              refine g_get dX2_nextLine_35 fl_X2_15 (by repeat' (first | assumption | exact rF_eq | (apply rF_nj; focus decide) | (apply rF_nk; focus omega) | refine rF_a ?_ | exact rA_eq | refine rA_ne (by omega) ?_ | refine rA_f ?_)) (by repeat' (first | assumption | exact rF_eq | (apply rF_nj; focus decide) | (apply rF_nk; focus omega) | refine rF_a ?_ | exact rA_eq | refine rA_ne (by omega) ?_ | refine rA_f ?_)) ?_
              refine g_iload_n (i := 2) dX2_nextLine_38 rfl rfl ?_
              refine g_iald dX2_nextLine_39 (by repeat' (first | assumption | exact rF_eq | (apply rF_nj; focus decide) | (apply rF_nk; focus omega) | refine rF_a ?_ | exact rA_eq | refine rA_ne (by omega) ?_ | refine rA_f ?_)) (nT (by omega)) (by omega) ?_
              rw [h1]
              refine g_if_ne (tgt := 45) dX2_nextLine_40 (by decide) (fun hc40 => ?_) (fun hc40 => ?_)
              · have hd40 := mt i_eq.mpr hc40; (try simp (disch := omega) only [nT, t_m1000100, t_m1000010, t_m1000003, t_m1000002, t_m1000001, t_m1000000, t_m65535, t_m1000, t_m3, t_m1, t_0, t_1, t_2, t_3, t_4, t_5, t_6, t_7, t_8, t_9, t_10, t_11, t_12, t_13, t_15, t_16, t_20, t_21, t_22, t_32, t_40, t_41, t_48, t_49, t_57, t_59, t_60, t_63, t_72, t_76, t_88, t_100, t_144, t_200, t_255, t_288, t_400, t_800, t_999, t_1000, t_1024, t_1200, t_1600, t_3200, t_100000, t_200000, t_252645135, t_858993459, t_1431655765, u_m1000002, u_m1000001, u_m1000, u_m3, u_m1, u_0, u_1, u_2, u_3, u_4, u_5, u_7, u_8, u_10, u_11, u_15, u_60, u_100, u_255, u_999, u_1000, u_100000, u_4294967295] at hd40)
                refine g_aload_n (i := 0) dX2_nextLine_45 rfl rfl ?_
                refine g_get dX2_nextLine_46 fl_X2_15 (by repeat' (first | assumption | exact rF_eq | (apply rF_nj; focus decide) | (apply rF_nk; focus omega) | refine rF_a ?_ | exact rA_eq | refine rA_ne (by omega) ?_ | refine rA_f ?_)) (by repeat' (first | assumption | exact rF_eq | (apply rF_nj; focus decide) | (apply rF_nk; focus omega) | refine rF_a ?_ | exact rA_eq | refine rA_ne (by omega) ?_ | refine rA_f ?_)) ?_
                refine g_iload_n (i := 2) dX2_nextLine_49 rfl rfl ?_
                refine g_iald dX2_nextLine_50 (by repeat' (first | assumption | exact rF_eq | (apply rF_nj; focus decide) | (apply rF_nk; focus omega) | refine rF_a ?_ | exact rA_eq | refine rA_ne (by omega) ?_ | refine rA_f ?_)) (nT (by omega)) (by omega) ?_
                rw [h1]
                refine g_iconst (v := 1) dX2_nextLine_51 (by decide) ?_
                refine g_icmp_ne (tgt := 65) dX2_nextLine_52 (by decide) (fun hc52 => ?_) (fun hc52 => ?_)
                · have hd52 := mt i_eq.mpr hc52; (try simp (disch := omega) only [nT, t_m1000100, t_m1000010, t_m1000003, t_m1000002, t_m1000001, t_m1000000, t_m65535, t_m1000, t_m3, t_m1, t_0, t_1, t_2, t_3, t_4, t_5, t_6, t_7, t_8, t_9, t_10, t_11, t_12, t_13, t_15, t_16, t_20, t_21, t_22, t_32, t_40, t_41, t_48, t_49, t_57, t_59, t_60, t_63, t_72, t_76, t_88, t_100, t_144, t_200, t_255, t_288, t_400, t_800, t_999, t_1000, t_1024, t_1200, t_1600, t_3200, t_100000, t_200000, t_252645135, t_858993459, t_1431655765, u_m1000002, u_m1000001, u_m1000, u_m3, u_m1, u_0, u_1, u_2, u_3, u_4, u_5, u_7, u_8, u_10, u_11, u_15, u_60, u_100, u_255, u_999, u_1000, u_100000, u_4294967295] at hd52)
                  refine g_aload_n (i := 0) dX2_nextLine_65 rfl rfl ?_
                  refine g_get dX2_nextLine_66 fl_X2_33 (by repeat' (first | assumption | exact rF_eq | (apply rF_nj; focus decide) | (apply rF_nk; focus omega) | refine rF_a ?_ | exact rA_eq | refine rA_ne (by omega) ?_ | refine rA_f ?_)) (by repeat' (first | assumption | exact rF_eq | (apply rF_nj; focus decide) | (apply rF_nk; focus omega) | refine rF_a ?_ | exact rA_eq | refine rA_ne (by omega) ?_ | refine rA_f ?_)) ?_
                  refine g_aload_n (i := 0) dX2_nextLine_69 rfl rfl ?_
                  refine g_get dX2_nextLine_70 fl_X2_18 (by repeat' (first | assumption | exact rF_eq | (apply rF_nj; focus decide) | (apply rF_nk; focus omega) | refine rF_a ?_ | exact rA_eq | refine rA_ne (by omega) ?_ | refine rA_f ?_)) (by repeat' (first | assumption | exact rF_eq | (apply rF_nj; focus decide) | (apply rF_nk; focus omega) | refine rF_a ?_ | exact rA_eq | refine rA_ne (by omega) ?_ | refine rA_f ?_)) ?_
                  refine g_iload_n (i := 2) dX2_nextLine_73 rfl rfl ?_
                  refine g_iald dX2_nextLine_74 (by repeat' (first | assumption | exact rF_eq | (apply rF_nj; focus decide) | (apply rF_nk; focus omega) | refine rF_a ?_ | exact rA_eq | refine rA_ne (by omega) ?_ | refine rA_f ?_)) (nT (by omega)) (by omega) ?_
                  rw [h2']
                  refine g_iald dX2_nextLine_75 (by repeat' (first | assumption | exact rF_eq | (apply rF_nj; focus decide) | (apply rF_nk; focus omega) | refine rF_a ?_ | exact rA_eq | refine rA_ne (by omega) ?_ | refine rA_f ?_)) (nT (by omega)) (by omega) ?_
                  rw [h4]
                  refine g_aload_n (i := 0) dX2_nextLine_76 rfl rfl ?_
                  refine g_get dX2_nextLine_77 fl_X2_21 (by repeat' (first | assumption | exact rF_eq | (apply rF_nj; focus decide) | (apply rF_nk; focus omega) | refine rF_a ?_ | exact rA_eq | refine rA_ne (by omega) ?_ | refine rA_f ?_)) (by repeat' (first | assumption | exact rF_eq | (apply rF_nj; focus decide) | (apply rF_nk; focus omega) | refine rF_a ?_ | exact rA_eq | refine rA_ne (by omega) ?_ | refine rA_f ?_)) ?_
                  refine g_aload_n (i := 0) dX2_nextLine_80 rfl rfl ?_
                  refine g_get dX2_nextLine_81 fl_X2_18 (by repeat' (first | assumption | exact rF_eq | (apply rF_nj; focus decide) | (apply rF_nk; focus omega) | refine rF_a ?_ | exact rA_eq | refine rA_ne (by omega) ?_ | refine rA_f ?_)) (by repeat' (first | assumption | exact rF_eq | (apply rF_nj; focus decide) | (apply rF_nk; focus omega) | refine rF_a ?_ | exact rA_eq | refine rA_ne (by omega) ?_ | refine rA_f ?_)) ?_
                  refine g_iload_n (i := 2) dX2_nextLine_84 rfl rfl ?_
                  refine g_iald dX2_nextLine_85 (by repeat' (first | assumption | exact rF_eq | (apply rF_nj; focus decide) | (apply rF_nk; focus omega) | refine rF_a ?_ | exact rA_eq | refine rA_ne (by omega) ?_ | refine rA_f ?_)) (nT (by omega)) (by omega) ?_
                  rw [h2']
                  refine g_iald dX2_nextLine_86 (by repeat' (first | assumption | exact rF_eq | (apply rF_nj; focus decide) | (apply rF_nk; focus omega) | refine rF_a ?_ | exact rA_eq | refine rA_ne (by omega) ?_ | refine rA_f ?_)) (nT (by omega)) (by omega) ?_
                  rw [h3]
                  refine g_icmp_ge (tgt := 117) dX2_nextLine_87 (by decide) (fun hc87 => ?_) (fun hc87 => ?_)
                  · (try simp (disch := omega) only [nT, t_m1000100, t_m1000010, t_m1000003, t_m1000002, t_m1000001, t_m1000000, t_m65535, t_m1000, t_m3, t_m1, t_0, t_1, t_2, t_3, t_4, t_5, t_6, t_7, t_8, t_9, t_10, t_11, t_12, t_13, t_15, t_16, t_20, t_21, t_22, t_32, t_40, t_41, t_48, t_49, t_57, t_59, t_60, t_63, t_72, t_76, t_88, t_100, t_144, t_200, t_255, t_288, t_400, t_800, t_999, t_1000, t_1024, t_1200, t_1600, t_3200, t_100000, t_200000, t_252645135, t_858993459, t_1431655765, u_m1000002, u_m1000001, u_m1000, u_m3, u_m1, u_0, u_1, u_2, u_3, u_4, u_5, u_7, u_8, u_10, u_11, u_15, u_60, u_100, u_255, u_999, u_1000, u_100000, u_4294967295] at hc87); omega
                  · (try simp (disch := omega) only [nT, t_m1000100, t_m1000010, t_m1000003, t_m1000002, t_m1000001, t_m1000000, t_m65535, t_m1000, t_m3, t_m1, t_0, t_1, t_2, t_3, t_4, t_5, t_6, t_7, t_8, t_9, t_10, t_11, t_12, t_13, t_15, t_16, t_20, t_21, t_22, t_32, t_40, t_41, t_48, t_49, t_57, t_59, t_60, t_63, t_72, t_76, t_88, t_100, t_144, t_200, t_255, t_288, t_400, t_800, t_999, t_1000, t_1024, t_1200, t_1600, t_3200, t_100000, t_200000, t_252645135, t_858993459, t_1431655765, u_m1000002, u_m1000001, u_m1000, u_m3, u_m1, u_0, u_1, u_2, u_3, u_4, u_5, u_7, u_8, u_10, u_11, u_15, u_60, u_100, u_255, u_999, u_1000, u_100000, u_4294967295] at hc87)
                    refine g_aload_n (i := 0) dX2_nextLine_90 rfl rfl ?_
                    refine g_get dX2_nextLine_91 fl_X2_33 (by repeat' (first | assumption | exact rF_eq | (apply rF_nj; focus decide) | (apply rF_nk; focus omega) | refine rF_a ?_ | exact rA_eq | refine rA_ne (by omega) ?_ | refine rA_f ?_)) (by repeat' (first | assumption | exact rF_eq | (apply rF_nj; focus decide) | (apply rF_nk; focus omega) | refine rF_a ?_ | exact rA_eq | refine rA_ne (by omega) ?_ | refine rA_f ?_)) ?_
                    refine g_aload_n (i := 0) dX2_nextLine_94 rfl rfl ?_
                    refine g_get dX2_nextLine_95 fl_X2_18 (by repeat' (first | assumption | exact rF_eq | (apply rF_nj; focus decide) | (apply rF_nk; focus omega) | refine rF_a ?_ | exact rA_eq | refine rA_ne (by omega) ?_ | refine rA_f ?_)) (by repeat' (first | assumption | exact rF_eq | (apply rF_nj; focus decide) | (apply rF_nk; focus omega) | refine rF_a ?_ | exact rA_eq | refine rA_ne (by omega) ?_ | refine rA_f ?_)) ?_
                    refine g_iload_n (i := 2) dX2_nextLine_98 rfl rfl ?_
                    refine g_iald dX2_nextLine_99 (by repeat' (first | assumption | exact rF_eq | (apply rF_nj; focus decide) | (apply rF_nk; focus omega) | refine rF_a ?_ | exact rA_eq | refine rA_ne (by omega) ?_ | refine rA_f ?_)) (nT (by omega)) (by omega) ?_
                    rw [h2']
                    refine g_dup2 dX2_nextLine_100 rfl rfl ?_
                    refine g_iald dX2_nextLine_101 (by repeat' (first | assumption | exact rF_eq | (apply rF_nj; focus decide) | (apply rF_nk; focus omega) | refine rF_a ?_ | exact rA_eq | refine rA_ne (by omega) ?_ | refine rA_f ?_)) (nT (by omega)) (by omega) ?_
                    rw [h4]
                    refine g_iconst (v := 1) dX2_nextLine_102 (by decide) ?_
                    refine g_iadd dX2_nextLine_103 ?_
                    rw [ni_inc]
                    refine g_iast dX2_nextLine_104 (by repeat' (first | assumption | exact rF_eq | (apply rF_nj; focus decide) | (apply rF_nk; focus omega) | refine rF_a ?_ | exact rA_eq | refine rA_ne (by omega) ?_ | refine rA_f ?_)) (nT (by omega)) (by omega) ?_
                    refine g_aload_n (i := 0) dX2_nextLine_105 rfl rfl ?_
                    refine g_aload_n (i := 0) dX2_nextLine_106 rfl rfl ?_
                    refine g_get dX2_nextLine_107 fl_X2_18 (by repeat' (first | assumption | exact rF_eq | (apply rF_nj; focus decide) | (apply rF_nk; focus omega) | refine rF_a ?_ | exact rA_eq | refine rA_ne (by omega) ?_ | refine rA_f ?_)) (by repeat' (first | assumption | exact rF_eq | (apply rF_nj; focus decide) | (apply rF_nk; focus omega) | refine rF_a ?_ | exact rA_eq | refine rA_ne (by omega) ?_ | refine rA_f ?_)) ?_
                    refine g_iload_n (i := 2) dX2_nextLine_110 rfl rfl ?_
                    refine g_iald dX2_nextLine_111 (by repeat' (first | assumption | exact rF_eq | (apply rF_nj; focus decide) | (apply rF_nk; focus omega) | refine rF_a ?_ | exact rA_eq | refine rA_ne (by omega) ?_ | refine rA_f ?_)) (nT (by omega)) (by omega) ?_
                    rw [h2']
                    refine g_iconst (v := 1) dX2_nextLine_112 (by decide) ?_
                    refine g_iadd dX2_nextLine_113 ?_
                    rw [ni_inc]
                    refine g_put dX2_nextLine_114 pl_X2_40 (by repeat' (first | assumption | exact rF_eq | (apply rF_nj; focus decide) | (apply rF_nk; focus omega) | refine rF_a ?_ | exact rA_eq | refine rA_ne (by omega) ?_ | refine rA_f ?_)) (fun _ => ⟨rfl, rfl⟩) ?_
                    refine g_iinc dX2_nextLine_117 rfl (Nat.le_of_ble_eq_true rfl) rfl ?_
                    refine g_goto (tgt := 2) dX2_nextLine_120 (by decide) ?_
                    rw [ni_incO]
                    refine keyD (6 - (K.length + 1)) (q :: K) (upd tu q.1 (nI (u + 1))) _ (i + 1) (q.1 + 1) f' X (repL (t - (u + 1)) X ++ (L2 ++ R')) _ ?_ (fw_F (fw_A (fw_F hfr))) (by rw [List.length_cons]; omega) (by omega) h11 ?_ h7 ?_ ?_ (by show q.2 ≤ sz; omega)
                    · exact stx_ws (stx_tu (stx_ws hs _) _) _
                    · rw [← hL, h13, show t - u = (t - (u + 1)) + 1 by omega, repL_s, List.append_assoc]
                    · exact ⟨f', t, u + 1, X, L2, R', h1, h2', h3, upd_s, by omega, h6, h7, h8, ⟨h9, h9b⟩, h10, h11, h12, rfl, rsK_c K R' (fun z hz => upd_n (by have := h10 z hz; omega)) h14⟩
                    · intro z hz
                      rcases List.mem_cons.mp hz with rfl | hz
                      · omega
                      · have := h10 z hz; omega
                · have hd52 := i_eq.mp hc52; (try simp (disch := omega) only [nT, t_m1000100, t_m1000010, t_m1000003, t_m1000002, t_m1000001, t_m1000000, t_m65535, t_m1000, t_m3, t_m1, t_0, t_1, t_2, t_3, t_4, t_5, t_6, t_7, t_8, t_9, t_10, t_11, t_12, t_13, t_15, t_16, t_20, t_21, t_22, t_32, t_40, t_41, t_48, t_49, t_57, t_59, t_60, t_63, t_72, t_76, t_88, t_100, t_144, t_200, t_255, t_288, t_400, t_800, t_999, t_1000, t_1024, t_1200, t_1600, t_3200, t_100000, t_200000, t_252645135, t_858993459, t_1431655765, u_m1000002, u_m1000001, u_m1000, u_m3, u_m1, u_0, u_1, u_2, u_3, u_4, u_5, u_7, u_8, u_10, u_11, u_15, u_60, u_100, u_255, u_999, u_1000, u_100000, u_4294967295] at hd52); exact absurd hc52 (by decide)
              · have hd40 := i_eq.mp hc40; (try simp (disch := omega) only [nT, t_m1000100, t_m1000010, t_m1000003, t_m1000002, t_m1000001, t_m1000000, t_m65535, t_m1000, t_m3, t_m1, t_0, t_1, t_2, t_3, t_4, t_5, t_6, t_7, t_8, t_9, t_10, t_11, t_12, t_13, t_15, t_16, t_20, t_21, t_22, t_32, t_40, t_41, t_48, t_49, t_57, t_59, t_60, t_63, t_72, t_76, t_88, t_100, t_144, t_200, t_255, t_288, t_400, t_800, t_999, t_1000, t_1024, t_1200, t_1600, t_3200, t_100000, t_200000, t_252645135, t_858993459, t_1431655765, u_m1000002, u_m1000001, u_m1000, u_m3, u_m1, u_0, u_1, u_2, u_3, u_4, u_5, u_7, u_8, u_10, u_11, u_15, u_60, u_100, u_255, u_999, u_1000, u_100000, u_4294967295] at hd40); exact absurd hc40 (by decide)
        · refine g_iload_n (i := 1) dX2_nextLine_2 rfl rfl ?_
          refine g_bipush (v := 12) dX2_nextLine_3 (by decide) ?_
          refine g_icmp_gt (tgt := 123) dX2_nextLine_5 (by decide) (fun hc5 => ?_) (fun hc5 => ?_)
          · (try simp (disch := omega) only [nT, t_m1000100, t_m1000010, t_m1000003, t_m1000002, t_m1000001, t_m1000000, t_m65535, t_m1000, t_m3, t_m1, t_0, t_1, t_2, t_3, t_4, t_5, t_6, t_7, t_8, t_9, t_10, t_11, t_12, t_13, t_15, t_16, t_20, t_21, t_22, t_32, t_40, t_41, t_48, t_49, t_57, t_59, t_60, t_63, t_72, t_76, t_88, t_100, t_144, t_200, t_255, t_288, t_400, t_800, t_999, t_1000, t_1024, t_1200, t_1600, t_3200, t_100000, t_200000, t_252645135, t_858993459, t_1431655765, u_m1000002, u_m1000001, u_m1000, u_m3, u_m1, u_0, u_1, u_2, u_3, u_4, u_5, u_7, u_8, u_10, u_11, u_15, u_60, u_100, u_255, u_999, u_1000, u_100000, u_4294967295] at hc5); omega
          · (try simp (disch := omega) only [nT, t_m1000100, t_m1000010, t_m1000003, t_m1000002, t_m1000001, t_m1000000, t_m65535, t_m1000, t_m3, t_m1, t_0, t_1, t_2, t_3, t_4, t_5, t_6, t_7, t_8, t_9, t_10, t_11, t_12, t_13, t_15, t_16, t_20, t_21, t_22, t_32, t_40, t_41, t_48, t_49, t_57, t_59, t_60, t_63, t_72, t_76, t_88, t_100, t_144, t_200, t_255, t_288, t_400, t_800, t_999, t_1000, t_1024, t_1200, t_1600, t_3200, t_100000, t_200000, t_252645135, t_858993459, t_1431655765, u_m1000002, u_m1000001, u_m1000, u_m3, u_m1, u_0, u_1, u_2, u_3, u_4, u_5, u_7, u_8, u_10, u_11, u_15, u_60, u_100, u_255, u_999, u_1000, u_100000, u_4294967295] at hc5)
            refine g_aload_n (i := 0) dX2_nextLine_8 rfl rfl ?_
            refine g_get dX2_nextLine_9 fl_X2_40 (by repeat' (first | assumption | exact rF_eq | (apply rF_nj; focus decide) | (apply rF_nk; focus omega) | refine rF_a ?_ | exact rA_eq | refine rA_ne (by omega) ?_ | refine rA_f ?_)) (by repeat' (first | assumption | exact rF_eq | (apply rF_nj; focus decide) | (apply rF_nk; focus omega) | refine rF_a ?_ | exact rA_eq | refine rA_ne (by omega) ?_ | refine rA_f ?_)) ?_
            refine g_aload_n (i := 0) dX2_nextLine_12 rfl rfl ?_
            refine g_get dX2_nextLine_13 fl_X2_36 (by repeat' (first | assumption | exact rF_eq | (apply rF_nj; focus decide) | (apply rF_nk; focus omega) | refine rF_a ?_ | exact rA_eq | refine rA_ne (by omega) ?_ | refine rA_f ?_)) (by repeat' (first | assumption | exact rF_eq | (apply rF_nj; focus decide) | (apply rF_nk; focus omega) | refine rF_a ?_ | exact rA_eq | refine rA_ne (by omega) ?_ | refine rA_f ?_)) ?_
            refine g_icmp_ge (tgt := 123) dX2_nextLine_16 (by decide) (fun hc16 => ?_) (fun hc16 => ?_)
            · (try simp (disch := omega) only [nT, t_m1000100, t_m1000010, t_m1000003, t_m1000002, t_m1000001, t_m1000000, t_m65535, t_m1000, t_m3, t_m1, t_0, t_1, t_2, t_3, t_4, t_5, t_6, t_7, t_8, t_9, t_10, t_11, t_12, t_13, t_15, t_16, t_20, t_21, t_22, t_32, t_40, t_41, t_48, t_49, t_57, t_59, t_60, t_63, t_72, t_76, t_88, t_100, t_144, t_200, t_255, t_288, t_400, t_800, t_999, t_1000, t_1024, t_1200, t_1600, t_3200, t_100000, t_200000, t_252645135, t_858993459, t_1431655765, u_m1000002, u_m1000001, u_m1000, u_m3, u_m1, u_0, u_1, u_2, u_3, u_4, u_5, u_7, u_8, u_10, u_11, u_15, u_60, u_100, u_255, u_999, u_1000, u_100000, u_4294967295] at hc16); omega
            · (try simp (disch := omega) only [nT, t_m1000100, t_m1000010, t_m1000003, t_m1000002, t_m1000001, t_m1000000, t_m65535, t_m1000, t_m3, t_m1, t_0, t_1, t_2, t_3, t_4, t_5, t_6, t_7, t_8, t_9, t_10, t_11, t_12, t_13, t_15, t_16, t_20, t_21, t_22, t_32, t_40, t_41, t_48, t_49, t_57, t_59, t_60, t_63, t_72, t_76, t_88, t_100, t_144, t_200, t_255, t_288, t_400, t_800, t_999, t_1000, t_1024, t_1200, t_1600, t_3200, t_100000, t_200000, t_252645135, t_858993459, t_1431655765, u_m1000002, u_m1000001, u_m1000, u_m3, u_m1, u_0, u_1, u_2, u_3, u_4, u_5, u_7, u_8, u_10, u_11, u_15, u_60, u_100, u_255, u_999, u_1000, u_100000, u_4294967295] at hc16)
              refine g_aload_n (i := 0) dX2_nextLine_19 rfl rfl ?_
              refine g_get dX2_nextLine_20 fl_X2_40 (by repeat' (first | assumption | exact rF_eq | (apply rF_nj; focus decide) | (apply rF_nk; focus omega) | refine rF_a ?_ | exact rA_eq | refine rA_ne (by omega) ?_ | refine rA_f ?_)) (by repeat' (first | assumption | exact rF_eq | (apply rF_nj; focus decide) | (apply rF_nk; focus omega) | refine rF_a ?_ | exact rA_eq | refine rA_ne (by omega) ?_ | refine rA_f ?_)) ?_
              refine g_istore_n (i := 2) dX2_nextLine_23 rfl (Nat.le_of_ble_eq_true rfl) rfl ?_
              refine g_aload_n (i := 0) dX2_nextLine_24 rfl rfl ?_
              refine g_dup dX2_nextLine_25 rfl ?_
              refine g_get dX2_nextLine_26 fl_X2_40 (by repeat' (first | assumption | exact rF_eq | (apply rF_nj; focus decide) | (apply rF_nk; focus omega) | refine rF_a ?_ | exact rA_eq | refine rA_ne (by omega) ?_ | refine rA_f ?_)) (by repeat' (first | assumption | exact rF_eq | (apply rF_nj; focus decide) | (apply rF_nk; focus omega) | refine rF_a ?_ | exact rA_eq | refine rA_ne (by omega) ?_ | refine rA_f ?_)) ?_
              refine g_iconst (v := 1) dX2_nextLine_29 (by decide) ?_
              refine g_iadd dX2_nextLine_30 ?_
              rw [ni_inc]
              refine g_put dX2_nextLine_31 pl_X2_40 (by repeat' (first | assumption | exact rF_eq | (apply rF_nj; focus decide) | (apply rF_nk; focus omega) | refine rF_a ?_ | exact rA_eq | refine rA_ne (by omega) ?_ | refine rA_f ?_)) (fun _ => ⟨rfl, rfl⟩) ?_
              refine g_aload_n (i := 0) dX2_nextLine_34 rfl rfl ?_
              refine g_get dX2_nextLine_35 fl_X2_15 (by repeat' (first | assumption | exact rF_eq | (apply rF_nj; focus decide) | (apply rF_nk; focus omega) | refine rF_a ?_ | exact rA_eq | refine rA_ne (by omega) ?_ | refine rA_f ?_)) (by repeat' (first | assumption | exact rF_eq | (apply rF_nj; focus decide) | (apply rF_nk; focus omega) | refine rF_a ?_ | exact rA_eq | refine rA_ne (by omega) ?_ | refine rA_f ?_)) ?_
              refine g_iload_n (i := 2) dX2_nextLine_38 rfl rfl ?_
              refine g_iald dX2_nextLine_39 (by repeat' (first | assumption | exact rF_eq | (apply rF_nj; focus decide) | (apply rF_nk; focus omega) | refine rF_a ?_ | exact rA_eq | refine rA_ne (by omega) ?_ | refine rA_f ?_)) (nT (by omega)) (by omega) ?_
              rw [h1]
              refine g_if_ne (tgt := 45) dX2_nextLine_40 (by decide) (fun hc40 => ?_) (fun hc40 => ?_)
              · have hd40 := mt i_eq.mpr hc40; (try simp (disch := omega) only [nT, t_m1000100, t_m1000010, t_m1000003, t_m1000002, t_m1000001, t_m1000000, t_m65535, t_m1000, t_m3, t_m1, t_0, t_1, t_2, t_3, t_4, t_5, t_6, t_7, t_8, t_9, t_10, t_11, t_12, t_13, t_15, t_16, t_20, t_21, t_22, t_32, t_40, t_41, t_48, t_49, t_57, t_59, t_60, t_63, t_72, t_76, t_88, t_100, t_144, t_200, t_255, t_288, t_400, t_800, t_999, t_1000, t_1024, t_1200, t_1600, t_3200, t_100000, t_200000, t_252645135, t_858993459, t_1431655765, u_m1000002, u_m1000001, u_m1000, u_m3, u_m1, u_0, u_1, u_2, u_3, u_4, u_5, u_7, u_8, u_10, u_11, u_15, u_60, u_100, u_255, u_999, u_1000, u_100000, u_4294967295] at hd40)
                refine g_aload_n (i := 0) dX2_nextLine_45 rfl rfl ?_
                refine g_get dX2_nextLine_46 fl_X2_15 (by repeat' (first | assumption | exact rF_eq | (apply rF_nj; focus decide) | (apply rF_nk; focus omega) | refine rF_a ?_ | exact rA_eq | refine rA_ne (by omega) ?_ | refine rA_f ?_)) (by repeat' (first | assumption | exact rF_eq | (apply rF_nj; focus decide) | (apply rF_nk; focus omega) | refine rF_a ?_ | exact rA_eq | refine rA_ne (by omega) ?_ | refine rA_f ?_)) ?_
                refine g_iload_n (i := 2) dX2_nextLine_49 rfl rfl ?_
                refine g_iald dX2_nextLine_50 (by repeat' (first | assumption | exact rF_eq | (apply rF_nj; focus decide) | (apply rF_nk; focus omega) | refine rF_a ?_ | exact rA_eq | refine rA_ne (by omega) ?_ | refine rA_f ?_)) (nT (by omega)) (by omega) ?_
                rw [h1]
                refine g_iconst (v := 1) dX2_nextLine_51 (by decide) ?_
                refine g_icmp_ne (tgt := 65) dX2_nextLine_52 (by decide) (fun hc52 => ?_) (fun hc52 => ?_)
                · have hd52 := mt i_eq.mpr hc52; (try simp (disch := omega) only [nT, t_m1000100, t_m1000010, t_m1000003, t_m1000002, t_m1000001, t_m1000000, t_m65535, t_m1000, t_m3, t_m1, t_0, t_1, t_2, t_3, t_4, t_5, t_6, t_7, t_8, t_9, t_10, t_11, t_12, t_13, t_15, t_16, t_20, t_21, t_22, t_32, t_40, t_41, t_48, t_49, t_57, t_59, t_60, t_63, t_72, t_76, t_88, t_100, t_144, t_200, t_255, t_288, t_400, t_800, t_999, t_1000, t_1024, t_1200, t_1600, t_3200, t_100000, t_200000, t_252645135, t_858993459, t_1431655765, u_m1000002, u_m1000001, u_m1000, u_m3, u_m1, u_0, u_1, u_2, u_3, u_4, u_5, u_7, u_8, u_10, u_11, u_15, u_60, u_100, u_255, u_999, u_1000, u_100000, u_4294967295] at hd52)
                  refine g_aload_n (i := 0) dX2_nextLine_65 rfl rfl ?_
                  refine g_get dX2_nextLine_66 fl_X2_33 (by repeat' (first | assumption | exact rF_eq | (apply rF_nj; focus decide) | (apply rF_nk; focus omega) | refine rF_a ?_ | exact rA_eq | refine rA_ne (by omega) ?_ | refine rA_f ?_)) (by repeat' (first | assumption | exact rF_eq | (apply rF_nj; focus decide) | (apply rF_nk; focus omega) | refine rF_a ?_ | exact rA_eq | refine rA_ne (by omega) ?_ | refine rA_f ?_)) ?_
                  refine g_aload_n (i := 0) dX2_nextLine_69 rfl rfl ?_
                  refine g_get dX2_nextLine_70 fl_X2_18 (by repeat' (first | assumption | exact rF_eq | (apply rF_nj; focus decide) | (apply rF_nk; focus omega) | refine rF_a ?_ | exact rA_eq | refine rA_ne (by omega) ?_ | refine rA_f ?_)) (by repeat' (first | assumption | exact rF_eq | (apply rF_nj; focus decide) | (apply rF_nk; focus omega) | refine rF_a ?_ | exact rA_eq | refine rA_ne (by omega) ?_ | refine rA_f ?_)) ?_
                  refine g_iload_n (i := 2) dX2_nextLine_73 rfl rfl ?_
                  refine g_iald dX2_nextLine_74 (by repeat' (first | assumption | exact rF_eq | (apply rF_nj; focus decide) | (apply rF_nk; focus omega) | refine rF_a ?_ | exact rA_eq | refine rA_ne (by omega) ?_ | refine rA_f ?_)) (nT (by omega)) (by omega) ?_
                  rw [h2']
                  refine g_iald dX2_nextLine_75 (by repeat' (first | assumption | exact rF_eq | (apply rF_nj; focus decide) | (apply rF_nk; focus omega) | refine rF_a ?_ | exact rA_eq | refine rA_ne (by omega) ?_ | refine rA_f ?_)) (nT (by omega)) (by omega) ?_
                  rw [h4]
                  refine g_aload_n (i := 0) dX2_nextLine_76 rfl rfl ?_
                  refine g_get dX2_nextLine_77 fl_X2_21 (by repeat' (first | assumption | exact rF_eq | (apply rF_nj; focus decide) | (apply rF_nk; focus omega) | refine rF_a ?_ | exact rA_eq | refine rA_ne (by omega) ?_ | refine rA_f ?_)) (by repeat' (first | assumption | exact rF_eq | (apply rF_nj; focus decide) | (apply rF_nk; focus omega) | refine rF_a ?_ | exact rA_eq | refine rA_ne (by omega) ?_ | refine rA_f ?_)) ?_
                  refine g_aload_n (i := 0) dX2_nextLine_80 rfl rfl ?_
                  refine g_get dX2_nextLine_81 fl_X2_18 (by repeat' (first | assumption | exact rF_eq | (apply rF_nj; focus decide) | (apply rF_nk; focus omega) | refine rF_a ?_ | exact rA_eq | refine rA_ne (by omega) ?_ | refine rA_f ?_)) (by repeat' (first | assumption | exact rF_eq | (apply rF_nj; focus decide) | (apply rF_nk; focus omega) | refine rF_a ?_ | exact rA_eq | refine rA_ne (by omega) ?_ | refine rA_f ?_)) ?_
                  refine g_iload_n (i := 2) dX2_nextLine_84 rfl rfl ?_
                  refine g_iald dX2_nextLine_85 (by repeat' (first | assumption | exact rF_eq | (apply rF_nj; focus decide) | (apply rF_nk; focus omega) | refine rF_a ?_ | exact rA_eq | refine rA_ne (by omega) ?_ | refine rA_f ?_)) (nT (by omega)) (by omega) ?_
                  rw [h2']
                  refine g_iald dX2_nextLine_86 (by repeat' (first | assumption | exact rF_eq | (apply rF_nj; focus decide) | (apply rF_nk; focus omega) | refine rF_a ?_ | exact rA_eq | refine rA_ne (by omega) ?_ | refine rA_f ?_)) (nT (by omega)) (by omega) ?_
                  rw [h3]
                  refine g_icmp_ge (tgt := 117) dX2_nextLine_87 (by decide) (fun hc87 => ?_) (fun hc87 => ?_)
                  · (try simp (disch := omega) only [nT, t_m1000100, t_m1000010, t_m1000003, t_m1000002, t_m1000001, t_m1000000, t_m65535, t_m1000, t_m3, t_m1, t_0, t_1, t_2, t_3, t_4, t_5, t_6, t_7, t_8, t_9, t_10, t_11, t_12, t_13, t_15, t_16, t_20, t_21, t_22, t_32, t_40, t_41, t_48, t_49, t_57, t_59, t_60, t_63, t_72, t_76, t_88, t_100, t_144, t_200, t_255, t_288, t_400, t_800, t_999, t_1000, t_1024, t_1200, t_1600, t_3200, t_100000, t_200000, t_252645135, t_858993459, t_1431655765, u_m1000002, u_m1000001, u_m1000, u_m3, u_m1, u_0, u_1, u_2, u_3, u_4, u_5, u_7, u_8, u_10, u_11, u_15, u_60, u_100, u_255, u_999, u_1000, u_100000, u_4294967295] at hc87)
                    refine g_iinc dX2_nextLine_117 rfl (Nat.le_of_ble_eq_true rfl) rfl ?_
                    refine g_goto (tgt := 2) dX2_nextLine_120 (by decide) ?_
                    rw [ni_incO]
                    refine ih tu _ (i + 1) (q.2 + 1) f' L2 R' _ (stx_ws hs _) (fw_F hfr) (by omega) h12 ?_ h14 ?_ h9b
                    · rw [← hL, h13, show t - u = 0 by omega, repL_0, List.nil_append]
                    · intro z hz
                      have := h10 z hz; omega
                  · (try simp (disch := omega) only [nT, t_m1000100, t_m1000010, t_m1000003, t_m1000002, t_m1000001, t_m1000000, t_m65535, t_m1000, t_m3, t_m1, t_0, t_1, t_2, t_3, t_4, t_5, t_6, t_7, t_8, t_9, t_10, t_11, t_12, t_13, t_15, t_16, t_20, t_21, t_22, t_32, t_40, t_41, t_48, t_49, t_57, t_59, t_60, t_63, t_72, t_76, t_88, t_100, t_144, t_200, t_255, t_288, t_400, t_800, t_999, t_1000, t_1024, t_1200, t_1600, t_3200, t_100000, t_200000, t_252645135, t_858993459, t_1431655765, u_m1000002, u_m1000001, u_m1000, u_m3, u_m1, u_0, u_1, u_2, u_3, u_4, u_5, u_7, u_8, u_10, u_11, u_15, u_60, u_100, u_255, u_999, u_1000, u_100000, u_4294967295] at hc87); omega
                · have hd52 := i_eq.mp hc52; (try simp (disch := omega) only [nT, t_m1000100, t_m1000010, t_m1000003, t_m1000002, t_m1000001, t_m1000000, t_m65535, t_m1000, t_m3, t_m1, t_0, t_1, t_2, t_3, t_4, t_5, t_6, t_7, t_8, t_9, t_10, t_11, t_12, t_13, t_15, t_16, t_20, t_21, t_22, t_32, t_40, t_41, t_48, t_49, t_57, t_59, t_60, t_63, t_72, t_76, t_88, t_100, t_144, t_200, t_255, t_288, t_400, t_800, t_999, t_1000, t_1024, t_1200, t_1600, t_3200, t_100000, t_200000, t_252645135, t_858993459, t_1431655765, u_m1000002, u_m1000001, u_m1000, u_m3, u_m1, u_0, u_1, u_2, u_3, u_4, u_5, u_7, u_8, u_10, u_11, u_15, u_60, u_100, u_255, u_999, u_1000, u_100000, u_4294967295] at hd52); exact absurd hc52 (by decide)
              · have hd40 := i_eq.mp hc40; (try simp (disch := omega) only [nT, t_m1000100, t_m1000010, t_m1000003, t_m1000002, t_m1000001, t_m1000000, t_m65535, t_m1000, t_m3, t_m1, t_0, t_1, t_2, t_3, t_4, t_5, t_6, t_7, t_8, t_9, t_10, t_11, t_12, t_13, t_15, t_16, t_20, t_21, t_22, t_32, t_40, t_41, t_48, t_49, t_57, t_59, t_60, t_63, t_72, t_76, t_88, t_100, t_144, t_200, t_255, t_288, t_400, t_800, t_999, t_1000, t_1024, t_1200, t_1600, t_3200, t_100000, t_200000, t_252645135, t_858993459, t_1431655765, u_m1000002, u_m1000001, u_m1000, u_m3, u_m1, u_0, u_1, u_2, u_3, u_4, u_5, u_7, u_8, u_10, u_11, u_15, u_60, u_100, u_255, u_999, u_1000, u_100000, u_4294967295] at hd40); exact absurd hc40 (by decide)
      · exact keyD (6 - (K.length + 1)) (q :: K) tu h2 i a f L1 R v2 hs hfr (by rw [List.length_cons]; omega) (by omega) hb hL hne hrs hK hen
  obtain ⟨tu, K, a, f, L1, R, hs, hK6, hb, hL, hrs, hK, hen⟩ := hw
  refine g_iconst (v := 0) dX2_nextLine_0 (by decide) ?_
  refine g_istore_n (i := 1) dX2_nextLine_1 rfl (Nat.le_of_ble_eq_true rfl) rfl ?_
  exact keyA K tu h 0 a f L1 R _ hs fw_rf (by omega) hb hL.symm hrs hK hen
