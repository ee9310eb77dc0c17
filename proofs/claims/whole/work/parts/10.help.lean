/-! helpers of the walks -/
theorem CT.go {M : MM} {d mc ms : Nat} {as : List Value} {h : HH} {Q : Option Value → HH → Prop} (L : List Value) (hp : plainName M.1.cls = true) (hL : entL as ++ List.replicate (M.2.2.1 - (entL as).length) hU = L) (hn : Nat.ble (entL as).length M.2.2.1 = true) (K : ∀ Q' : Option Value → HH → Prop, (∀ r h', Q r h' → Q' r h') → GG (EM M d mc ms Q') 0 0 0 L [] h) : CT M d mc ms as h Q := CT.intro L hp (Nat.le_of_ble_eq_true hn) hL (K Q (fun _ _ q => q))
theorem Met.post {l : Launch} {y : MethodName} {ws : List Cond} {rm : Room} {Pc : Array Value → State → Prop} {Q1 Q2 : Array Value → State → Outcome → State → Prop} {mc ms : Nat} {free : Addr → Prop} (hM : Met l y ws rm Pc Q1 mc ms free) (hQ : ∀ a st o t, Q1 a st o t → Q2 a st o t) : Met l y ws rm Pc Q2 mc ms free := by
  intro p e ha hc hk s m args below h1 h2 h3 h4
  obtain ⟨k, o, g1, g2, g3, g4⟩ := hM p e ha hc hk s m args below h1 h2 h3 h4
  exact ⟨k, o, g1, g2, g3, hQ _ _ _ _ g4.1, g4.2⟩
theorem CT.mono {M : MM} {d mc ms : Nat} {as : List Value} {h : HH} {Q Q2 : Option Value → HH → Prop} (hC : CT M d mc ms as h Q) (hQ : ∀ r h', Q r h' → Q2 r h') : CT M d mc ms as h Q2 := fun g l => (hC g l).post (fun a st o t ⟨⟨r, h', e, q, z⟩, f⟩ => ⟨⟨r, h', e, hQ r h' q, z⟩, f⟩)
theorem rF_eq {h : HH} {k j : Nat} {v : Value} : gF (sF h k j v) k j = v := by rw [gF_sF, if_pos ⟨rfl, rfl⟩]
theorem rF_ne {h : HH} {k j q i : Nat} {v w : Value} (hne : ¬ (q = k ∧ i = j)) (e : gF h q i = w) : gF (sF h k j v) q i = w := by rw [gF_sF, if_neg hne]; exact e
theorem rF_a {h : HH} {k q i : Nat} {a : AE} {w : Value} (e : gF h q i = w) : gF (sA h k a) q i = w := e
theorem rA_eq {h : HH} {k : Nat} {a : AE} : gA (sA h k a) k = a := by rw [gA_sA, if_pos rfl]
theorem rA_ne {h : HH} {k q : Nat} {a w : AE} (hne : ¬ q = k) (e : gA h q = w) : gA (sA h k a) q = w := by rw [gA_sA, if_neg hne]; exact e
theorem rA_f {h : HH} {k j q : Nat} {v : Value} {w : AE} (e : gA h q = w) : gA (sF h k j v) q = w := e
theorem hh_ext {h h' : HH} (e1 : ∀ k, gA h k = gA h' k) (e2 : ∀ k j, gF h k j = gF h' k j) (e3 : gN h = gN h') : h = h' := by
  obtain ⟨a, b, c⟩ := h
  obtain ⟨a', b', c'⟩ := h'
  have h1 : a = a' := funext e1
  have h2 : b = b' := funext fun k => funext fun j => e2 k j
  have h3 : c = c' := e3
  rw [h1, h2, h3]
theorem sA_sA (h : HH) (k : Nat) (a b : AE) : sA (sA h k a) k b = sA h k b := hh_ext (fun i => by rw [gA_sA, gA_sA, gA_sA]; split <;> rfl) (fun _ _ => rfl) rfl
theorem sA_self {h : HH} {k : Nat} {a : AE} (e : gA h k = a) : sA h k a = h := hh_ext (fun i => by rw [gA_sA]; split <;> simp_all) (fun _ _ => rfl) rfl
theorem sF_sF (h : HH) (k j : Nat) (v w : Value) : sF (sF h k j v) k j w = sF h k j w := hh_ext (fun _ => rfl) (fun i i' => by rw [gF_sF, gF_sF, gF_sF]; split <;> rfl) rfl
theorem sF_self {h : HH} {k j : Nat} {v : Value} (e : gF h k j = v) : sF h k j v = h := hh_ext (fun _ => rfl) (fun i i' => by rw [gF_sF]; split <;> simp_all) rfl
theorem sA_comm (h : HH) {k i : Nat} (a b : AE) (hne : k ≠ i) : sA (sA h k a) i b = sA (sA h i b) k a := hh_ext (fun q => by rw [gA_sA, gA_sA, gA_sA, gA_sA]; by_cases h1 : q = i <;> by_cases h2 : q = k <;> simp_all) (fun _ _ => rfl) rfl
theorem sF_sA (h : HH) (k i j : Nat) (a : AE) (v : Value) : sF (sA h k a) i j v = sA (sF h i j v) k a := rfl
theorem sF_comm (h : HH) {k j i i' : Nat} (v w : Value) (hne : ¬ (k = i ∧ j = i')) : sF (sF h k j v) i i' w = sF (sF h i i' w) k j v := hh_ext (fun _ => rfl) (fun q q' => by
  rw [gF_sF, gF_sF, gF_sF, gF_sF]
  by_cases h1 : q = i ∧ q' = i'
  · rw [if_pos h1, if_pos h1, if_neg (fun z => hne ⟨z.1.symm.trans h1.1, z.2.symm.trans h1.2⟩)]
  · rw [if_neg h1, if_neg h1]) rfl
/-- a condition as an int -/
def bI (c : Prop) [Decidable c] : Int32 := if c then 1 else 0
theorem bI_0 {c : Prop} [Decidable c] : bI c = 0 ↔ ¬ c := by unfold bI; split <;> simp_all
theorem bI_n0 {c : Prop} [Decidable c] : ¬ bI c = 0 ↔ c := by unfold bI; split <;> simp_all
theorem bI_t {c : Prop} [Decidable c] (h : c) : bI c = 1 := if_pos h
theorem bI_f {c : Prop} [Decidable c] (h : ¬ c) : bI c = 0 := if_neg h
theorem bI_nar (c : Prop) [Decidable c] : narrow .boolean (.int (bI c)) = .int (bI c) := by unfold bI; split <;> rfl
theorem nx {x : Int32} (j : Nat) (e : x = nI j) (hj : j < 2147483648) : x.toInt = (j : Int) := by rw [e]; exact nI_toInt hj
theorem nT {j : Nat} (hj : j < 2147483648) : (nI j).toInt = (j : Int) := nI_toInt hj
theorem n_of {x : Int32} {n : Nat} (h0 : 0 ≤ x.toInt) (h1 : x.toInt < (n : Int)) : ∃ j : Nat, j < n ∧ x = nI j ∧ x.toInt = (j : Int) := by
  have hr := x.toInt_lt
  refine ⟨x.toInt.toNat, by omega, i_eq.mpr ?_, by omega⟩
  rw [nT (by omega)]
  omega
theorem ix100 (a b : Nat) : nI a * 100 + nI b = nI (100 * a + b) := by
  rw [show (100 : Int32) = nI 100 from rfl, pk_mul, nI_add, Nat.mul_comm]
theorem ni_add (a b : Nat) : nI a + nI b = nI (a + b) := nI_add a b
theorem ni_inc (a : Nat) : nI a + 1 = nI (a + 1) := nI_1 a
theorem ni_incO (a : Nat) : nI a + Int32.ofInt 1 = nI (a + 1) := nI_1 a
theorem upd_s {f : Nat → Int32} {k : Nat} {x : Int32} : upd f k x k = x := pk_us
theorem upd_n {f : Nat → Int32} {k j : Nat} {x : Int32} (h : j ≠ k) : upd f k x j = f j := pk_un h
theorem lc_gt {x y : Int64} : 0 < (lg_cmp x y).toInt ↔ y.toInt < x.toInt := by
  unfold lg_cmp
  have h1 : x > y ↔ y.toInt < x.toInt := Int64.lt_iff_toInt_lt
  have h2 : x = y ↔ x.toInt = y.toInt := Int64.toInt_inj.symm
  split
  · rename_i q; exact ⟨fun _ => h1.mp q, fun _ => by decide⟩
  · rename_i q
    split
    · exact ⟨fun z => absurd z (by decide), fun z => absurd (h1.mpr z) q⟩
    · exact ⟨fun z => absurd z (by decide), fun z => absurd (h1.mpr z) q⟩
theorem lc_lt {x y : Int64} : (lg_cmp x y).toInt < 0 ↔ x.toInt < y.toInt := by
  unfold lg_cmp
  have h1 : x > y ↔ y.toInt < x.toInt := Int64.lt_iff_toInt_lt
  have h2 : x = y ↔ x.toInt = y.toInt := Int64.toInt_inj.symm
  split
  · rename_i q; exact ⟨fun z => absurd z (by decide), fun z => by have := h1.mp q; omega⟩
  · rename_i q
    split
    · rename_i q2; exact ⟨fun z => absurd z (by decide), fun z => by have := h2.mp q2; omega⟩
    · rename_i q2; exact ⟨fun _ => by have := mt h1.mpr q; have := mt h2.mpr q2; omega, fun _ => by decide⟩
theorem lc_le {x y : Int64} : (lg_cmp x y).toInt ≤ 0 ↔ x.toInt ≤ y.toInt := by
  have := @lc_gt x y; omega
theorem lc_ge {x y : Int64} : 0 ≤ (lg_cmp x y).toInt ↔ y.toInt ≤ x.toInt := by
  have := @lc_lt x y; omega
theorem lc_eq {x y : Int64} : lg_cmp x y = 0 ↔ x.toInt = y.toInt := by
  have h1 := @lc_lt x y
  have h2 := @lc_gt x y
  rw [i_eq]
  have h0 : (0 : Int32).toInt = 0 := rfl
  omega
theorem lc_ne {x y : Int64} : ¬ lg_cmp x y = 0 ↔ ¬ x.toInt = y.toInt := by rw [lc_eq]
theorem l_i (x : Int32) : x.toInt64.toInt = x.toInt := Int32.toInt_toInt64 x
theorem l_add32 (x y : Int32) : (x.toInt64 + y.toInt64).toInt = x.toInt + y.toInt := by
  have h1 := x.toInt_lt
  have h2 := y.toInt_lt
  have h3 := x.le_toInt
  have h4 := y.le_toInt
  rw [Int64.toInt_add, l_i, l_i]
  exact Int.bmod_eq_of_le (by omega) (by omega)
theorem i_sub {x y : Int32} (h1 : -2147483648 ≤ x.toInt - y.toInt) (h2 : x.toInt - y.toInt < 2147483648) : (x - y).toInt = x.toInt - y.toInt := by
  rw [Int32.toInt_sub]; exact Int.bmod_eq_of_le (by omega) (by omega)
theorem i_add {x y : Int32} (h1 : -2147483648 ≤ x.toInt + y.toInt) (h2 : x.toInt + y.toInt < 2147483648) : (x + y).toInt = x.toInt + y.toInt := by
  rw [Int32.toInt_add]; exact Int.bmod_eq_of_le (by omega) (by omega)
theorem i_mul {x y : Int32} (h1 : -2147483648 ≤ x.toInt * y.toInt) (h2 : x.toInt * y.toInt < 2147483648) : (x * y).toInt = x.toInt * y.toInt := by
  rw [Int32.toInt_mul]; exact Int.bmod_eq_of_le (by omega) (by omega)
theorem i_sub1 {x : Int32} (h : 0 ≤ x.toInt) : (x - 1).toInt = x.toInt - 1 := by
  have h1 : (1 : Int32).toInt = 1 := rfl
  have h2 := x.toInt_lt
  rw [i_sub (by omega) (by omega), h1]
theorem ixm (a b : Nat) : (100 : Int32) * nI a + nI b = nI (100 * a + b) := by
  rw [show (100 : Int32) = nI 100 from rfl, pk_mul, nI_add]
theorem n_sub {a b : Nat} (h : b ≤ a) : nI a - nI b = nI (a - b) := pk_sub h
/-! literals -/
theorem t_m1000100 : (-1000100 : Int32).toInt = -1000100 := by decide
theorem t_m1000010 : (-1000010 : Int32).toInt = -1000010 := by decide
theorem t_m1000003 : (-1000003 : Int32).toInt = -1000003 := by decide
theorem t_m1000002 : (-1000002 : Int32).toInt = -1000002 := by decide
theorem t_m1000001 : (-1000001 : Int32).toInt = -1000001 := by decide
theorem t_m1000000 : (-1000000 : Int32).toInt = -1000000 := by decide
theorem t_m65535 : (-65535 : Int32).toInt = -65535 := by decide
theorem t_m1000 : (-1000 : Int32).toInt = -1000 := by decide
theorem t_m3 : (-3 : Int32).toInt = -3 := by decide
theorem t_m1 : (-1 : Int32).toInt = -1 := by decide
theorem t_0 : (0 : Int32).toInt = 0 := by decide
theorem t_1 : (1 : Int32).toInt = 1 := by decide
theorem t_2 : (2 : Int32).toInt = 2 := by decide
theorem t_3 : (3 : Int32).toInt = 3 := by decide
theorem t_4 : (4 : Int32).toInt = 4 := by decide
theorem t_5 : (5 : Int32).toInt = 5 := by decide
theorem t_6 : (6 : Int32).toInt = 6 := by decide
theorem t_7 : (7 : Int32).toInt = 7 := by decide
theorem t_8 : (8 : Int32).toInt = 8 := by decide
theorem t_9 : (9 : Int32).toInt = 9 := by decide
theorem t_10 : (10 : Int32).toInt = 10 := by decide
theorem t_11 : (11 : Int32).toInt = 11 := by decide
theorem t_12 : (12 : Int32).toInt = 12 := by decide
theorem t_13 : (13 : Int32).toInt = 13 := by decide
theorem t_15 : (15 : Int32).toInt = 15 := by decide
theorem t_16 : (16 : Int32).toInt = 16 := by decide
theorem t_20 : (20 : Int32).toInt = 20 := by decide
theorem t_21 : (21 : Int32).toInt = 21 := by decide
theorem t_22 : (22 : Int32).toInt = 22 := by decide
theorem t_32 : (32 : Int32).toInt = 32 := by decide
theorem t_40 : (40 : Int32).toInt = 40 := by decide
theorem t_41 : (41 : Int32).toInt = 41 := by decide
theorem t_48 : (48 : Int32).toInt = 48 := by decide
theorem t_49 : (49 : Int32).toInt = 49 := by decide
theorem t_57 : (57 : Int32).toInt = 57 := by decide
theorem t_59 : (59 : Int32).toInt = 59 := by decide
theorem t_60 : (60 : Int32).toInt = 60 := by decide
theorem t_63 : (63 : Int32).toInt = 63 := by decide
theorem t_72 : (72 : Int32).toInt = 72 := by decide
theorem t_76 : (76 : Int32).toInt = 76 := by decide
theorem t_88 : (88 : Int32).toInt = 88 := by decide
theorem t_100 : (100 : Int32).toInt = 100 := by decide
theorem t_144 : (144 : Int32).toInt = 144 := by decide
theorem t_200 : (200 : Int32).toInt = 200 := by decide
theorem t_255 : (255 : Int32).toInt = 255 := by decide
theorem t_288 : (288 : Int32).toInt = 288 := by decide
theorem t_400 : (400 : Int32).toInt = 400 := by decide
theorem t_800 : (800 : Int32).toInt = 800 := by decide
theorem t_999 : (999 : Int32).toInt = 999 := by decide
theorem t_1000 : (1000 : Int32).toInt = 1000 := by decide
theorem t_1024 : (1024 : Int32).toInt = 1024 := by decide
theorem t_1200 : (1200 : Int32).toInt = 1200 := by decide
theorem t_1600 : (1600 : Int32).toInt = 1600 := by decide
theorem t_3200 : (3200 : Int32).toInt = 3200 := by decide
theorem t_100000 : (100000 : Int32).toInt = 100000 := by decide
theorem t_200000 : (200000 : Int32).toInt = 200000 := by decide
theorem t_252645135 : (252645135 : Int32).toInt = 252645135 := by decide
theorem t_858993459 : (858993459 : Int32).toInt = 858993459 := by decide
theorem t_1431655765 : (1431655765 : Int32).toInt = 1431655765 := by decide
theorem u_m1000002 : (-1000002 : Int64).toInt = -1000002 := by decide
theorem u_m1000001 : (-1000001 : Int64).toInt = -1000001 := by decide
theorem u_m1000 : (-1000 : Int64).toInt = -1000 := by decide
theorem u_m3 : (-3 : Int64).toInt = -3 := by decide
theorem u_m1 : (-1 : Int64).toInt = -1 := by decide
theorem u_0 : (0 : Int64).toInt = 0 := by decide
theorem u_1 : (1 : Int64).toInt = 1 := by decide
theorem u_2 : (2 : Int64).toInt = 2 := by decide
theorem u_3 : (3 : Int64).toInt = 3 := by decide
theorem u_4 : (4 : Int64).toInt = 4 := by decide
theorem u_5 : (5 : Int64).toInt = 5 := by decide
theorem u_7 : (7 : Int64).toInt = 7 := by decide
theorem u_8 : (8 : Int64).toInt = 8 := by decide
theorem u_10 : (10 : Int64).toInt = 10 := by decide
theorem u_11 : (11 : Int64).toInt = 11 := by decide
theorem u_15 : (15 : Int64).toInt = 15 := by decide
theorem u_60 : (60 : Int64).toInt = 60 := by decide
theorem u_100 : (100 : Int64).toInt = 100 := by decide
theorem u_255 : (255 : Int64).toInt = 255 := by decide
theorem u_999 : (999 : Int64).toInt = 999 := by decide
theorem u_1000 : (1000 : Int64).toInt = 1000 := by decide
theorem u_100000 : (100000 : Int64).toInt = 100000 := by decide
theorem u_4294967295 : (4294967295 : Int64).toInt = 4294967295 := by decide
/-- what stays: outside of the listed cells and fields -/
def Fr (SA : List Nat) (SF : List (Nat × Nat)) (h h' : HH) : Prop := (∀ k, k ∉ SA → gA h' k = gA h k) ∧ ∀ k j, (k, j) ∉ SF → gF h' k j = gF h k j
theorem fr_rf {SA : List Nat} {SF : List (Nat × Nat)} {h : HH} : Fr SA SF h h := ⟨fun _ _ => rfl, fun _ _ _ => rfl⟩
theorem fr_sA {SA : List Nat} {SF : List (Nat × Nat)} {h h' : HH} {k : Nat} {a : AE} (hk : k ∈ SA) (f : Fr SA SF h h') : Fr SA SF h (sA h' k a) := ⟨fun i hi => by rw [gA_sA, if_neg (fun q : i = k => hi (by rw [q]; exact hk))]; exact f.1 i hi, fun i j hij => f.2 i j hij⟩
theorem fr_sF {SA : List Nat} {SF : List (Nat × Nat)} {h h' : HH} {k j : Nat} {v : Value} (hk : (k, j) ∈ SF) (f : Fr SA SF h h') : Fr SA SF h (sF h' k j v) := ⟨fun i hi => f.1 i hi, fun i i' hij => by rw [gF_sF, if_neg (fun q => hij (by rw [q.1, q.2]; exact hk))]; exact f.2 i i' hij⟩
theorem fr_tr {SA : List Nat} {SF : List (Nat × Nat)} {h h' h'' : HH} (f : Fr SA SF h h') (g : Fr SA SF h' h'') : Fr SA SF h h'' := ⟨fun k hk => (g.1 k hk).trans (f.1 k hk), fun k j hk => (g.2 k j hk).trans (f.2 k j hk)⟩
theorem fr_sub {SA SB : List Nat} {SF SG : List (Nat × Nat)} {h h' : HH} (f : Fr SA SF h h') (h1 : ∀ k, k ∈ SA → k ∈ SB) (h2 : ∀ q, q ∈ SF → q ∈ SG) : Fr SB SG h h' := ⟨fun k hk => f.1 k (fun q => hk (h1 k q)), fun k j hk => f.2 k j (fun q => hk (h2 _ q))⟩
