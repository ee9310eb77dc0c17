/-! PATTERN: the abstract reading of a tape -/
def isFg (c : Int32) : Bool := decide (48 ≤ c.toInt ∧ c.toInt ≤ 57)
def isSg (c : Int32) : Bool := decide (c.toInt = 48 ∨ c.toInt = 49 ∨ c.toInt = 76 ∨ c.toInt = 72 ∨ c.toInt = 88)
def isBl (c : Int32) : Bool := decide (c.toInt = 32 ∨ c.toInt = 10)
def isRw (c : Int32) : Bool := isFg c || isSg c
theorem isFg_t {c : Int32} : isFg c = true ↔ 48 ≤ c.toInt ∧ c.toInt ≤ 57 := decide_eq_true_iff
theorem isSg_t {c : Int32} : isSg c = true ↔ c.toInt = 48 ∨ c.toInt = 49 ∨ c.toInt = 76 ∨ c.toInt = 72 ∨ c.toInt = 88 := decide_eq_true_iff
theorem isBl_t {c : Int32} : isBl c = true ↔ c.toInt = 32 ∨ c.toInt = 10 := decide_eq_true_iff
theorem isRw_t {c : Int32} : isRw c = true ↔ isFg c = true ∨ isSg c = true := by unfold isRw; rw [Bool.or_eq_true]
def skB (q : Int32 → Bool) (tp : Nat → Int32) : Nat → Nat → Nat
  | 0, p => p
  | m + 1, p => if q (tp p) = true then skB q tp m (p + 1) else p
def fwd (q : Int32 → Bool) (L : Nat) (tp : Nat → Int32) (p : Nat) : Nat := skB q tp (L - p) p
theorem fwd_e {q : Int32 → Bool} {L : Nat} {tp : Nat → Int32} {p : Nat} (h : L ≤ p) : fwd q L tp p = p := by
  unfold fwd
  rw [show L - p = 0 by omega]
  rfl
theorem fwd_t {q : Int32 → Bool} {L : Nat} {tp : Nat → Int32} {p : Nat} (h : p < L) (hq : q (tp p) = true) : fwd q L tp p = fwd q L tp (p + 1) := by
  unfold fwd
  rw [show L - p = (L - (p + 1)) + 1 by omega, skB, if_pos hq]
theorem fwd_f {q : Int32 → Bool} {L : Nat} {tp : Nat → Int32} {p : Nat} (hq : ¬ q (tp p) = true) : fwd q L tp p = p := by
  unfold fwd
  cases L - p with
  | zero => rfl
  | succ m => rw [skB, if_neg hq]
theorem fwd_b {q : Int32 → Bool} {L : Nat} {tp : Nat → Int32} : ∀ m p : Nat, p + m = L → p ≤ fwd q L tp p ∧ fwd q L tp p ≤ L
  | 0, p, h => by rw [fwd_e (by omega)]; omega
  | m + 1, p, h => by
    by_cases hq : q (tp p) = true
    · rw [fwd_t (by omega) hq]
      have := fwd_b (q := q) (L := L) (tp := tp) m (p + 1) (by omega)
      omega
    · rw [fwd_f hq]; omega
theorem fwd_le {q : Int32 → Bool} {L : Nat} {tp : Nat → Int32} {p : Nat} (h : p ≤ L) : p ≤ fwd q L tp p ∧ fwd q L tp p ≤ L := fwd_b (L - p) p (by omega)
/-- at its end: the tape's end, or a sign that is not passed over -/
theorem fwd_at {q : Int32 → Bool} {L : Nat} {tp : Nat → Int32} : ∀ m p : Nat, p + m = L → fwd q L tp p = L ∨ ¬ q (tp (fwd q L tp p)) = true
  | 0, p, h => Or.inl (by rw [fwd_e (by omega)]; omega)
  | m + 1, p, h => by
    by_cases hq : q (tp p) = true
    · rw [fwd_t (by omega) hq]; exact fwd_at m (p + 1) (by omega)
    · rw [fwd_f hq]; exact Or.inr hq
theorem fwd_all {q : Int32 → Bool} {L : Nat} {tp : Nat → Int32} : ∀ m p : Nat, p + m = L → ∀ j, p ≤ j → j < fwd q L tp p → q (tp j) = true
  | 0, p, h, j, h1, h2 => by rw [fwd_e (by omega)] at h2; omega
  | m + 1, p, h, j, h1, h2 => by
    by_cases hq : q (tp p) = true
    · by_cases hj : j = p
      · rw [hj]; exact hq
      · rw [fwd_t (by omega) hq] at h2; exact fwd_all m (p + 1) (by omega) j (by omega) h2
    · rw [fwd_f hq] at h2; omega
def alB (q : Int32 → Bool) (tp : Nat → Int32) : Nat → Nat → Bool
  | 0, _ => true
  | m + 1, p => q (tp p) && alB q tp m (p + 1)
theorem alB_t {q : Int32 → Bool} {tp : Nat → Int32} : ∀ m p : Nat, alB q tp m p = true ↔ ∀ j, p ≤ j → j < p + m → q (tp j) = true
  | 0, p => ⟨fun _ j h1 h2 => by omega, fun _ => rfl⟩
  | m + 1, p => by
    unfold alB
    rw [Bool.and_eq_true, alB_t m (p + 1)]
    constructor
    · rintro ⟨h1, h2⟩ j h3 h4
      by_cases hj : j = p
      · rw [hj]; exact h1
      · exact h2 j (by omega) (by omega)
    · intro h
      exact ⟨h p (by omega) (by omega), fun j h1 h2 => h j (by omega) (by omega)⟩
def numB (tp : Nat → Int32) : Nat → Nat → Int32 → Int32
  | 0, _, v => v
  | m + 1, p, v => numB tp m (p + 1) (10 * v + tp p - 48)
theorem numB_b {tp : Nat → Int32} : ∀ m p a : Nat, alB isFg tp m p = true → (a + 1) * 10 ^ m ≤ 10000 → ∃ b, numB tp m p (nI a) = nI b ∧ b < (a + 1) * 10 ^ m
  | 0, p, a, _, _ => ⟨a, rfl, by rw [Nat.pow_zero]; omega⟩
  | m + 1, p, a, h, hb => by
    unfold alB at h
    obtain ⟨h1, h2⟩ := Bool.and_eq_true_iff.mp h
    have h3 := isFg_t.mp h1
    obtain ⟨c, hc, e, ht⟩ := n_of (n := 58) (x := tp p) (by omega) (by omega)
    have e2 : 10 * nI a + tp p - 48 = nI (10 * a + (c - 48)) := by
      rw [e, show (10 : Int32) = nI 10 from rfl, pk_mul, nI_add, show (48 : Int32) = nI 48 from rfl, n_sub (by omega)]
      congr 1
      omega
    have hp : (10 * a + (c - 48) + 1) * 10 ^ m ≤ (a + 1) * 10 ^ (m + 1) := by
      rw [Nat.pow_succ, Nat.mul_comm (10 ^ m) 10, ← Nat.mul_assoc]
      exact Nat.mul_le_mul_right _ (by omega)
    obtain ⟨b, b1, b2⟩ := numB_b m (p + 1) (10 * a + (c - 48)) h2 (by omega)
    exact ⟨b, by unfold numB; rw [e2]; exact b1, by omega⟩
def up {α : Type} (f : Nat → α) (k : Nat) (x : α) : Nat → α := fun j => if j = k then x else f j
theorem up_s {α : Type} {f : Nat → α} {k : Nat} {x : α} : up f k x k = x := if_pos rfl
theorem up_n {α : Type} {f : Nat → α} {k j : Nat} {x : α} (h : j ≠ k) : up f k x j = f j := if_neg h
def repL (t : Nat) (X : List Nat) : List Nat := (List.replicate t X).flatten
theorem repL_0 (X : List Nat) : repL 0 X = [] := rfl
theorem repL_s (t : Nat) (X : List Nat) : repL (t + 1) X = X ++ repL t X := by unfold repL; rw [List.replicate_succ, List.flatten_cons]
theorem repL_len (X : List Nat) : ∀ t : Nat, (repL t X).length = t * X.length
  | 0 => by rw [repL_0]; simp
  | t + 1 => by rw [repL_s, List.length_append, repL_len X t, Nat.succ_mul]; omega
theorem repL_nil : ∀ t : Nat, repL t [] = []
  | 0 => rfl
  | t + 1 => by rw [repL_s, repL_nil t]; rfl
theorem repL_map (g : Nat → Nat) (X : List Nat) : ∀ t : Nat, (repL t X).map g = repL t (X.map g)
  | 0 => rfl
  | t + 1 => by rw [repL_s, repL_s, List.map_append, repL_map g X t]
theorem repL_get (X : List Nat) : ∀ t i : Nat, i < t * X.length → (repL t X)[i]? = X[i % X.length]?
  | 0, i, h => by rw [Nat.zero_mul] at h; omega
  | t + 1, i, h => by
    rw [repL_s]
    by_cases hi : i < X.length
    · rw [List.getElem?_append_left hi, Nat.mod_eq_of_lt hi]
    · rw [List.getElem?_append_right (by omega), repL_get X t (i - X.length) (by rw [Nat.succ_mul] at h; omega), ← Nat.mod_eq_sub_mod (by omega)]
/-- a state of the reading: how deep, CYCLES (their LINES' places) of each level, its times, LINES, PINS -/
abbrev PS : Type := Nat × (Nat → List Nat) × (Nat → Nat) × Nat × Nat
def tokB (L : Nat) (tp : Nat → Int32) (s : PS) (p : Nat) : (Nat × Nat) ⊕ (PS × Nat) :=
  if (tp p).toInt = 41 then
    if s.1 = 0 then .inl (1, p)
    else if 100000 < (s.2.1 (s.1 - 1)).length + s.2.2.1 s.1 * (s.2.1 s.1).length then .inl (4, p)
    else .inr ((s.1 - 1, up s.2.1 (s.1 - 1) (s.2.1 (s.1 - 1) ++ repL (s.2.2.1 s.1) (s.2.1 s.1)), s.2.2.1, s.2.2.2.1, s.2.2.2.2), p + 1)
  else if fwd isRw L tp p = p then .inl (1, p)
  else if fwd isRw L tp p < L ∧ (tp (fwd isRw L tp p)).toInt = 59 then
    if 8 < fwd isRw L tp p - p ∨ ¬ alB isSg tp (fwd isRw L tp p - p) p = true then .inl (1, p)
    else if 0 < s.2.2.2.1 ∧ fwd isRw L tp p - p ≠ s.2.2.2.2 then .inl (2, p)
    else if 100000 < (s.2.1 s.1).length + 1 then .inl (4, p)
    else .inr ((s.1, up s.2.1 s.1 (s.2.1 s.1 ++ [p]), s.2.2.1, s.2.2.2.1 + 1, fwd isRw L tp p - p), fwd isRw L tp p + 1)
  else if 3 < fwd isRw L tp p - p ∨ ¬ alB isFg tp (fwd isRw L tp p - p) p = true ∨ ¬ (fwd isBl L tp (fwd isRw L tp p) < L ∧ (tp (fwd isBl L tp (fwd isRw L tp p))).toInt = 40) then .inl (1, p)
  else if (numB tp (fwd isRw L tp p - p) p 0).toInt = 0 then .inl (3, p)
  else if s.1 = 6 then .inl (4, p)
  else .inr ((s.1 + 1, up s.2.1 (s.1 + 1) [], up s.2.2.1 (s.1 + 1) (numB tp (fwd isRw L tp p - p) p 0).toInt.toNat, s.2.2.2.1, s.2.2.2.2), fwd isBl L tp (fwd isRw L tp p) + 1)
def prsB (L : Nat) (tp : Nat → Int32) : Nat → PS → Nat → (Nat × Nat) ⊕ PS
  | 0, s, _ => .inr s
  | m + 1, s, p => if p < L then (match tokB L tp s p with
      | .inl f => .inl f
      | .inr q => prsB L tp m q.1 (fwd isBl L tp q.2))
    else if 0 < s.1 then .inl (1, L) else .inr s
section TokB
variable {L : Nat} {tp : Nat → Int32} {d : Nat} {M : Nat → List Nat} {T : Nat → Nat} {nl pn p e b : Nat}
theorem tok_c1 (h1 : (tp p).toInt = 41) (h2 : d = 0) : tokB L tp (d, M, T, nl, pn) p = .inl (1, p) := by unfold tokB; rw [if_pos h1, if_pos h2]
theorem tok_c4 (h1 : (tp p).toInt = 41) (h2 : ¬ d = 0) (h3 : 100000 < (M (d - 1)).length + T d * (M d).length) : tokB L tp (d, M, T, nl, pn) p = .inl (4, p) := by unfold tokB; rw [if_pos h1, if_neg h2, if_pos h3]
theorem tok_c (h1 : (tp p).toInt = 41) (h2 : ¬ d = 0) (h3 : ¬ 100000 < (M (d - 1)).length + T d * (M d).length) : tokB L tp (d, M, T, nl, pn) p = .inr ((d - 1, up M (d - 1) (M (d - 1) ++ repL (T d) (M d)), T, nl, pn), p + 1) := by unfold tokB; rw [if_pos h1, if_neg h2, if_neg h3]
theorem tok_0 (he : fwd isRw L tp p = e) (h1 : ¬ (tp p).toInt = 41) (h2 : e = p) : tokB L tp (d, M, T, nl, pn) p = .inl (1, p) := by
  subst he
  unfold tokB; rw [if_neg h1, if_pos h2]
theorem tok_l1 (he : fwd isRw L tp p = e) (h1 : ¬ (tp p).toInt = 41) (h2 : ¬ e = p) (h3 : e < L ∧ (tp (e)).toInt = 59) (h4 : 8 < e - p ∨ ¬ alB isSg tp (e - p) p = true) : tokB L tp (d, M, T, nl, pn) p = .inl (1, p) := by
  subst he
  unfold tokB; rw [if_neg h1, if_neg h2, if_pos h3, if_pos h4]
theorem tok_l2 (he : fwd isRw L tp p = e) (h1 : ¬ (tp p).toInt = 41) (h2 : ¬ e = p) (h3 : e < L ∧ (tp (e)).toInt = 59) (h4 : ¬ (8 < e - p ∨ ¬ alB isSg tp (e - p) p = true)) (h5 : 0 < nl ∧ e - p ≠ pn) : tokB L tp (d, M, T, nl, pn) p = .inl (2, p) := by
  subst he
  unfold tokB; rw [if_neg h1, if_neg h2, if_pos h3, if_neg h4, if_pos h5]
theorem tok_l4 (he : fwd isRw L tp p = e) (h1 : ¬ (tp p).toInt = 41) (h2 : ¬ e = p) (h3 : e < L ∧ (tp (e)).toInt = 59) (h4 : ¬ (8 < e - p ∨ ¬ alB isSg tp (e - p) p = true)) (h5 : ¬ (0 < nl ∧ e - p ≠ pn)) (h6 : 100000 < (M d).length + 1) : tokB L tp (d, M, T, nl, pn) p = .inl (4, p) := by
  subst he
  unfold tokB; rw [if_neg h1, if_neg h2, if_pos h3, if_neg h4, if_neg h5, if_pos h6]
theorem tok_l (he : fwd isRw L tp p = e) (h1 : ¬ (tp p).toInt = 41) (h2 : ¬ e = p) (h3 : e < L ∧ (tp (e)).toInt = 59) (h4 : ¬ (8 < e - p ∨ ¬ alB isSg tp (e - p) p = true)) (h5 : ¬ (0 < nl ∧ e - p ≠ pn)) (h6 : ¬ 100000 < (M d).length + 1) : tokB L tp (d, M, T, nl, pn) p = .inr ((d, up M d (M d ++ [p]), T, nl + 1, e - p), e + 1) := by
  subst he
  unfold tokB; rw [if_neg h1, if_neg h2, if_pos h3, if_neg h4, if_neg h5, if_neg h6]
theorem tok_n1 (he : fwd isRw L tp p = e) (hb : fwd isBl L tp e = b) (h1 : ¬ (tp p).toInt = 41) (h2 : ¬ e = p) (h3 : ¬ (e < L ∧ (tp (e)).toInt = 59)) (h4 : 3 < e - p ∨ ¬ alB isFg tp (e - p) p = true ∨ ¬ (b < L ∧ (tp (b)).toInt = 40)) : tokB L tp (d, M, T, nl, pn) p = .inl (1, p) := by
  subst he; subst hb
  unfold tokB; rw [if_neg h1, if_neg h2, if_neg h3, if_pos h4]
theorem tok_n3 (he : fwd isRw L tp p = e) (hb : fwd isBl L tp e = b) (h1 : ¬ (tp p).toInt = 41) (h2 : ¬ e = p) (h3 : ¬ (e < L ∧ (tp (e)).toInt = 59)) (h4 : ¬ (3 < e - p ∨ ¬ alB isFg tp (e - p) p = true ∨ ¬ (b < L ∧ (tp (b)).toInt = 40))) (h5 : (numB tp (e - p) p 0).toInt = 0) : tokB L tp (d, M, T, nl, pn) p = .inl (3, p) := by
  subst he; subst hb
  unfold tokB; rw [if_neg h1, if_neg h2, if_neg h3, if_neg h4, if_pos h5]
theorem tok_n4 (he : fwd isRw L tp p = e) (hb : fwd isBl L tp e = b) (h1 : ¬ (tp p).toInt = 41) (h2 : ¬ e = p) (h3 : ¬ (e < L ∧ (tp (e)).toInt = 59)) (h4 : ¬ (3 < e - p ∨ ¬ alB isFg tp (e - p) p = true ∨ ¬ (b < L ∧ (tp (b)).toInt = 40))) (h5 : ¬ (numB tp (e - p) p 0).toInt = 0) (h6 : d = 6) : tokB L tp (d, M, T, nl, pn) p = .inl (4, p) := by
  subst he; subst hb
  unfold tokB; rw [if_neg h1, if_neg h2, if_neg h3, if_neg h4, if_neg h5, if_pos h6]
theorem tok_n (he : fwd isRw L tp p = e) (hb : fwd isBl L tp e = b) (h1 : ¬ (tp p).toInt = 41) (h2 : ¬ e = p) (h3 : ¬ (e < L ∧ (tp (e)).toInt = 59)) (h4 : ¬ (3 < e - p ∨ ¬ alB isFg tp (e - p) p = true ∨ ¬ (b < L ∧ (tp (b)).toInt = 40))) (h5 : ¬ (numB tp (e - p) p 0).toInt = 0) (h6 : ¬ d = 6) : tokB L tp (d, M, T, nl, pn) p = .inr ((d + 1, up M (d + 1) [], up T (d + 1) (numB tp (e - p) p 0).toInt.toNat, nl, pn), b + 1) := by
  subst he; subst hb
  unfold tokB; rw [if_neg h1, if_neg h2, if_neg h3, if_neg h4, if_neg h5, if_neg h6]
end TokB
/-! the steps of the class, spread out -/
def blk (rl lk tm wi : Nat → Int32) : Nat → Nat → Nat → Nat → List Nat → Prop
  | 0, _, a, b, L => a = b ∧ L = []
  | f + 1, d, a, b, L => (a = b ∧ L = []) ∨ (a < b ∧ rl a = 0 ∧ ∃ L', L = a :: L' ∧ blk rl lk tm wi f d (a + 1) b L')
    ∨ (rl a = 1 ∧ ∃ (d' e t : Nat) (X L' : List Nat), d = d' + 1 ∧ a + 1 < e ∧ e < b ∧ rl e = 2 ∧ lk a = nI e ∧ lk e = nI a ∧ tm a = nI t ∧ 1 ≤ t ∧ t ≤ 999 ∧ wi a = nI X.length ∧ X ≠ [] ∧ blk rl lk tm wi f d' (a + 1) e X ∧ L = repL t X ++ L' ∧ blk rl lk tm wi f d (e + 1) b L')
section Blk
variable {rl lk tm wi : Nat → Int32}
theorem blk_nil {f d a : Nat} : blk rl lk tm wi f d a a [] := by
  cases f with
  | zero => exact ⟨rfl, rfl⟩
  | succ f => exact Or.inl ⟨rfl, rfl⟩
theorem blk_up : ∀ (k f d a b : Nat) (L : List Nat), blk rl lk tm wi f d a b L → blk rl lk tm wi (f + k) d a b L
  | k, 0, d, a, b, L, h => by
    obtain ⟨rfl, rfl⟩ := h
    exact blk_nil
  | k, f + 1, d, a, b, L, h => by
    rw [show f + 1 + k = (f + k) + 1 by omega]
    rcases h with h | ⟨h1, h2, L', h3, h4⟩ | ⟨h1, d', e, t, X, L', h2, h3, h4, h5, h6, h7, h8, h9, h10, h11, h12, h13, h14, h15⟩
    · exact Or.inl h
    · exact Or.inr (Or.inl ⟨h1, h2, L', h3, blk_up k f d _ _ _ h4⟩)
    · exact Or.inr (Or.inr ⟨h1, d', e, t, X, L', h2, h3, h4, h5, h6, h7, h8, h9, h10, h11, h12, blk_up k f d' _ _ _ h13, h14, blk_up k f d _ _ _ h15⟩)
theorem blk_le : ∀ (f d a b : Nat) (L : List Nat), blk rl lk tm wi f d a b L → a ≤ b
  | 0, d, a, b, L, h => by have := h.1; omega
  | f + 1, d, a, b, L, h => by
    rcases h with h | ⟨h1, -⟩ | ⟨h1, d', e, t, X, L', h2, h3, h4, -⟩
    · have := h.1; omega
    · omega
    · omega
theorem blk_line {b : Nat} (hb : rl b = 0) : ∀ (f d a : Nat) (L : List Nat), blk rl lk tm wi f d a b L → blk rl lk tm wi (f + 1) d a (b + 1) (L ++ [b])
  | 0, d, a, L, h => by
    obtain ⟨rfl, rfl⟩ := h
    exact Or.inr (Or.inl ⟨by omega, hb, [], rfl, rfl, rfl⟩)
  | f + 1, d, a, L, h => by
    rcases h with ⟨rfl, rfl⟩ | ⟨h1, h2, L', h3, h4⟩ | ⟨h1, d', e, t, X, L', h2, h3, h4, h5, h6, h7, h8, h9, h10, h11, h12, h13, h14, h15⟩
    · exact Or.inr (Or.inl ⟨by omega, hb, [], rfl, blk_nil⟩)
    · exact Or.inr (Or.inl ⟨by omega, h2, L' ++ [b], by rw [h3]; rfl, blk_line hb f d _ _ h4⟩)
    · exact Or.inr (Or.inr ⟨h1, d', e, t, X, L' ++ [b], h2, h3, by omega, h5, h6, h7, h8, h9, h10, h11, h12, blk_up 1 f d' _ _ _ h13, by rw [h14, List.append_assoc], blk_line hb f d _ _ h15⟩)
theorem blk_loop {b e t g d' : Nat} {X : List Nat} (k1 : b + 1 < e) (k2 : rl b = 1) (k3 : rl e = 2) (k4 : lk b = nI e) (k5 : lk e = nI b) (k6 : tm b = nI t) (k7 : 1 ≤ t) (k8 : t ≤ 999) (k9 : wi b = nI X.length) (k10 : X ≠ []) (k11 : blk rl lk tm wi g d' (b + 1) e X) : ∀ (f a : Nat) (L : List Nat), blk rl lk tm wi f (d' + 1) a b L → blk rl lk tm wi (f + g + 1) (d' + 1) a (e + 1) (L ++ repL t X)
  | 0, a, L, h => by
    obtain ⟨rfl, rfl⟩ := h
    rw [Nat.zero_add]
    exact Or.inr (Or.inr ⟨k2, d', e, t, X, [], rfl, k1, by omega, k3, k4, k5, k6, k7, k8, k9, k10, k11, by simp, blk_nil⟩)
  | f + 1, a, L, h => by
    rw [show f + 1 + g + 1 = (f + g + 1) + 1 by omega]
    rcases h with ⟨rfl, rfl⟩ | ⟨h1, h2, L', h3, h4⟩ | ⟨h1, d2, e2, t2, X2, L', h2, h3, h4, h5, h6, h7, h8, h9, h10, h11, h12, h13, h14, h15⟩
    · exact Or.inr (Or.inr ⟨k2, d', e, t, X, [], rfl, k1, by omega, k3, k4, k5, k6, k7, k8, k9, k10, by have := blk_up (f + 1) _ _ _ _ _ k11; rw [show g + (f + 1) = f + g + 1 by omega] at this; exact this, by simp, blk_nil⟩)
    · exact Or.inr (Or.inl ⟨by omega, h2, L' ++ repL t X, by rw [h3]; rfl, blk_loop k1 k2 k3 k4 k5 k6 k7 k8 k9 k10 k11 f _ _ h4⟩)
    · exact Or.inr (Or.inr ⟨h1, d2, e2, t2, X2, L' ++ repL t X, h2, h3, by omega, h5, h6, h7, h8, h9, h10, h11, h12, by have := blk_up (g + 1) _ _ _ _ _ h13; rw [show f + (g + 1) = f + g + 1 by omega] at this; exact this, by rw [h14, List.append_assoc], blk_loop k1 k2 k3 k4 k5 k6 k7 k8 k9 k10 k11 f _ _ h15⟩)
theorem blk_cong {rl' lk' tm' wi' : Nat → Int32} : ∀ (f d a b : Nat) (L : List Nat), (∀ i, a ≤ i → i < b → rl' i = rl i ∧ lk' i = lk i ∧ tm' i = tm i ∧ wi' i = wi i) → blk rl lk tm wi f d a b L → blk rl' lk' tm' wi' f d a b L
  | 0, d, a, b, L, hc, h => h
  | f + 1, d, a, b, L, hc, h => by
    rcases h with h | ⟨h1, h2, L', h3, h4⟩ | ⟨h1, d', e, t, X, L', h2, h3, h4, h5, h6, h7, h8, h9, h10, h11, h12, h13, h14, h15⟩
    · exact Or.inl h
    · obtain ⟨c1, -⟩ := hc a (by omega) (by omega)
      exact Or.inr (Or.inl ⟨h1, by rw [c1]; exact h2, L', h3, blk_cong f d _ _ _ (fun i q1 q2 => hc i (by omega) q2) h4⟩)
    · obtain ⟨c1, c2, c3, c4⟩ := hc a (by omega) (by omega)
      obtain ⟨e1, e2, -⟩ := hc e (by omega) (by omega)
      exact Or.inr (Or.inr ⟨by rw [c1]; exact h1, d', e, t, X, L', h2, h3, h4, by rw [e1]; exact h5, by rw [c2]; exact h6, by rw [e2]; exact h7, by rw [c3]; exact h8, h9, h10, by rw [c4]; exact h11, h12, blk_cong f d' _ _ _ (fun i q1 q2 => hc i (by omega) (by omega)) h13, h14, blk_cong f d _ _ _ (fun i q1 q2 => hc i (by omega) q2) h15⟩)
theorem blk_mem : ∀ (f d a b : Nat) (L : List Nat), blk rl lk tm wi f d a b L → ∀ s, s ∈ L → a ≤ s ∧ s < b ∧ rl s = 0
  | 0, d, a, b, L, h, s, hs => by rw [h.2] at hs; cases hs
  | f + 1, d, a, b, L, h, s, hs => by
    rcases h with h | ⟨h1, h2, L', h3, h4⟩ | ⟨h1, d', e, t, X, L', h2, h3, h4, h5, h6, h7, h8, h9, h10, h11, h12, h13, h14, h15⟩
    · rw [h.2] at hs; cases hs
    · rw [h3] at hs
      rcases List.mem_cons.mp hs with rfl | hs
      · exact ⟨by omega, h1, h2⟩
      · have := blk_mem f d _ _ _ h4 s hs
        exact ⟨by omega, this.2⟩
    · rw [h14] at hs
      rcases List.mem_append.mp hs with hs | hs
      · unfold repL at hs
        obtain ⟨Y, hY, hs⟩ := List.mem_flatten.mp hs
        rw [List.eq_of_mem_replicate hY] at hs
        have := blk_mem f d' _ _ _ h13 s hs
        exact ⟨by omega, by omega, this.2.2⟩
      · have := blk_mem f d _ _ _ h15 s hs
        exact ⟨by omega, this.2⟩
end Blk
theorem rF_nj {h : HH} {k j q i : Nat} {v w : Value} (hne : ¬ i = j) (e : gF h q i = w) : gF (sF h k j v) q i = w := rF_ne (fun z => hne z.2) e
theorem rF_nk {h : HH} {k j q i : Nat} {v w : Value} (hne : ¬ q = k) (e : gF h q i = w) : gF (sF h k j v) q i = w := rF_ne (fun z => hne z.1) e
