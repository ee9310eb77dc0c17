/-! sums, joins -/
def sm (f : Nat → Nat) : Nat → Nat
  | 0 => 0
  | n + 1 => sm f n + f n
theorem sm_c {f g : Nat → Nat} : ∀ n, (∀ i, i < n → f i = g i) → sm f n = sm g n
  | 0, _ => rfl
  | n + 1, h => by rw [sm, sm, sm_c n (fun i hi => h i (by omega)), h n (by omega)]
theorem sm_add (f g : Nat → Nat) : ∀ n, sm (fun i => f i + g i) n = sm f n + sm g n
  | 0 => rfl
  | n + 1 => by rw [sm, sm, sm, sm_add f g n]; omega
theorem sm_0 : ∀ n, sm (fun _ => 0) n = 0
  | 0 => rfl
  | n + 1 => by rw [sm, sm_0 n]
theorem sm_fub (f : Nat → Nat → Nat) (m : Nat) : ∀ n, sm (fun i => sm (f i) m) n = sm (fun j => sm (fun i => f i j) n) m
  | 0 => (sm_0 m).symm
  | n + 1 => by
    rw [sm, sm_fub f m n, ← sm_add]
    exact sm_c m (fun j _ => rfl)
theorem sm_hit {q0 v : Nat} : ∀ n, sm (fun q => if q = q0 then v else 0) n = if q0 < n then v else 0
  | 0 => rfl
  | n + 1 => by
    rw [sm, sm_hit n]
    by_cases h1 : n = q0
    · rw [if_pos h1, if_neg (by omega), if_pos (by omega)]; omega
    · rw [if_neg h1]
      by_cases h2 : q0 < n
      · rw [if_pos h2, if_pos (by omega)]; rfl
      · rw [if_neg h2, if_neg (by omega)]
theorem sm_cnt (p : Nat → Bool) : ∀ n k, sm (fun i => if p (k + i) = true then 1 else 0) n = cnt p n k
  | 0, k => rfl
  | n + 1, k => by
    rw [cnt, ← sm_cnt p n (k + 1)]
    clear sm_cnt
    induction n with
    | zero => rw [sm, sm, sm]; rw [Nat.zero_add]; rfl
    | succ n ih =>
      rw [sm, ih, sm, Nat.add_assoc, show k + 1 + n = k + (n + 1) by omega]
theorem cnt_sm (p : Nat → Bool) (n : Nat) : cnt p n 0 = sm (fun i => if p i = true then 1 else 0) n := by
  rw [← sm_cnt p n 0]
  exact sm_c n (fun i _ => by rw [Nat.zero_add])
theorem cnt_add {p q r : Nat → Bool} : ∀ n k, (∀ i, k ≤ i → i < k + n → (if p i = true then 1 else 0) = (if q i = true then 1 else 0) + (if r i = true then 1 else (0 : Nat))) → cnt p n k = cnt q n k + cnt r n k
  | 0, _, _ => rfl
  | n + 1, k, h => by
    rw [cnt, cnt, cnt, cnt_add n (k + 1) (fun i h1 h2 => h i (by omega) (by omega)), h k (by omega) (by omega)]
    omega
/-- a match of two grids, seen from either one -/
theorem cnt_shift (S F : Nat → Nat) (g : Nat → Nat → Bool) (hg : ∀ a b, g a b = true → 0 < a ∧ 0 < b) (dx dy : Int) :
    cnt (fun p => g (S p) (atW F (((p % 12 : Nat) : Int) + dx) (((p / 12 : Nat) : Int) + dy))) 144 0 = cnt (fun p => g (atW S (((p % 12 : Nat) : Int) - dx) (((p / 12 : Nat) : Int) - dy)) (F p)) 144 0 := by
  rw [cnt_sm, cnt_sm]
  let M : Nat → Nat → Nat := fun p q => if ((p % 12 : Nat) : Int) + dx = ((q % 12 : Nat) : Int) ∧ ((p / 12 : Nat) : Int) + dy = ((q / 12 : Nat) : Int) ∧ g (S p) (F q) = true then 1 else 0
  have h1 : ∀ p, p < 144 → (if g (S p) (atW F (((p % 12 : Nat) : Int) + dx) (((p / 12 : Nat) : Int) + dy)) = true then 1 else 0) = sm (M p) 144 := by
    intro p hp
    by_cases hin : (0 ≤ ((p % 12 : Nat) : Int) + dx ∧ ((p % 12 : Nat) : Int) + dx < 12) ∧ 0 ≤ ((p / 12 : Nat) : Int) + dy ∧ ((p / 12 : Nat) : Int) + dy < 12
    · have e : atW F (((p % 12 : Nat) : Int) + dx) (((p / 12 : Nat) : Int) + dy) = _ := if_pos hin
      obtain ⟨x', hx'⟩ : ∃ n : Nat, ((p % 12 : Nat) : Int) + dx = (n : Int) := ⟨(((p % 12 : Nat) : Int) + dx).toNat, by omega⟩
      obtain ⟨y', hy'⟩ : ∃ n : Nat, ((p / 12 : Nat) : Int) + dy = (n : Int) := ⟨(((p / 12 : Nat) : Int) + dy).toNat, by omega⟩
      rw [hx', hy'] at hin e ⊢
      rw [e, Int.toNat_natCast, Int.toNat_natCast]
      have h2 : sm (M p) 144 = sm (fun q => if q = 12 * y' + x' then (if g (S p) (F (12 * y' + x')) = true then 1 else 0) else 0) 144 := by
        refine sm_c 144 (fun q hq => ?_)
        show (if _ then 1 else 0) = _
        by_cases hqe : q = 12 * y' + x'
        · rw [if_pos hqe, hqe]
          by_cases hgg : g (S p) (F (12 * y' + x')) = true
          · rw [if_pos hgg, if_pos ⟨by omega, by omega, hgg⟩]
          · rw [if_neg hgg, if_neg (fun z => hgg z.2.2)]
        · rw [if_neg hqe, if_neg (fun z => hqe (by omega))]
      rw [h2, sm_hit]; exact (if_pos (show 12 * y' + x' < 144 by omega)).symm
    · have e : atW F (((p % 12 : Nat) : Int) + dx) (((p / 12 : Nat) : Int) + dy) = _ := if_neg hin
      rw [e, if_neg (fun z => absurd (hg _ _ z).2 (by omega))]
      refine ((sm_c 144 (fun q hq => ?_)).trans (sm_0 144)).symm
      exact if_neg (fun z => hin (by omega))
  have h2 : ∀ q, q < 144 → (if g (atW S (((q % 12 : Nat) : Int) - dx) (((q / 12 : Nat) : Int) - dy)) (F q) = true then 1 else 0) = sm (fun p => M p q) 144 := by
    intro q hq
    by_cases hin : (0 ≤ ((q % 12 : Nat) : Int) - dx ∧ ((q % 12 : Nat) : Int) - dx < 12) ∧ 0 ≤ ((q / 12 : Nat) : Int) - dy ∧ ((q / 12 : Nat) : Int) - dy < 12
    · have e : atW S (((q % 12 : Nat) : Int) - dx) (((q / 12 : Nat) : Int) - dy) = _ := if_pos hin
      obtain ⟨x', hx'⟩ : ∃ n : Nat, ((q % 12 : Nat) : Int) - dx = (n : Int) := ⟨(((q % 12 : Nat) : Int) - dx).toNat, by omega⟩
      obtain ⟨y', hy'⟩ : ∃ n : Nat, ((q / 12 : Nat) : Int) - dy = (n : Int) := ⟨(((q / 12 : Nat) : Int) - dy).toNat, by omega⟩
      rw [hx', hy'] at hin e ⊢
      rw [e, Int.toNat_natCast, Int.toNat_natCast]
      have h2 : sm (fun p => M p q) 144 = sm (fun p => if p = 12 * y' + x' then (if g (S (12 * y' + x')) (F q) = true then 1 else 0) else 0) 144 := by
        refine sm_c 144 (fun p hp => ?_)
        show (if _ then 1 else 0) = _
        by_cases hqe : p = 12 * y' + x'
        · rw [if_pos hqe, hqe]
          by_cases hgg : g (S (12 * y' + x')) (F q) = true
          · rw [if_pos hgg, if_pos ⟨by omega, by omega, hgg⟩]
          · rw [if_neg hgg, if_neg (fun z => hgg z.2.2)]
        · rw [if_neg hqe, if_neg (fun z => hqe (by omega))]
      rw [h2, sm_hit]; exact (if_pos (show 12 * y' + x' < 144 by omega)).symm
    · have e : atW S (((q % 12 : Nat) : Int) - dx) (((q / 12 : Nat) : Int) - dy) = _ := if_neg hin
      rw [e, if_neg (fun z => absurd (hg _ _ z).1 (by omega))]
      refine ((sm_c 144 (fun p hp => ?_)).trans (sm_0 144)).symm
      exact if_neg (fun z => hin (by omega))
  rw [sm_c 144 h1, sm_c 144 h2]
  exact sm_fub M 144 144
abbrev atB (d : Nat → Nat) (p : Nat) (dx dy : Int) : Nat := atW d (((p % 12 : Nat) : Int) + dx) (((p / 12 : Nat) : Int) + dy)
abbrev atC (d : Nat → Nat) (p : Nat) (dx dy : Int) : Nat := atW d (((p % 12 : Nat) : Int) - dx) (((p / 12 : Nat) : Int) - dy)
def tT (W : WA) (dx dy : Int) : Nat → Bool := fun p => decide (0 < W.2 p ∧ 0 < atB W.1 p dx dy)
def tS (W : WA) (dx dy : Int) : Nat → Bool := fun p => decide (0 < W.2 p ∧ 0 < atB W.1 p dx dy ∧ atB W.1 p dx dy = W.2 p)
def j0 (W : WA) (dx dy : Int) : Nat → Bool := fun p => decide (0 < W.1 p ∧ 0 < atC W.2 p dx dy)
def j1 (W : WA) (dx dy : Int) : Nat → Bool := fun p => decide (0 < W.1 p ∧ atC W.2 p dx dy = W.1 p)
def j2 (W : WA) (dx dy : Int) : Nat → Bool := fun p => decide (0 < W.1 p ∧ atC W.2 p dx dy = 0)
def j3 (W : WA) (dx dy : Int) : Nat → Bool := fun p => decide (0 < W.2 p ∧ atB W.1 p dx dy = 0)
theorem j_T (W : WA) (dx dy : Int) : cnt (tT W dx dy) 144 0 = cnt (j0 W dx dy) 144 0 := by
  refine (cnt_shift W.2 W.1 (fun a b => decide (0 < a ∧ 0 < b)) (fun a b z => of_decide_eq_true z) dx dy).trans ?_
  exact cnt_c 144 0 (fun p _ _ => decide_eq_decide.mpr ⟨fun z => ⟨z.2, z.1⟩, fun z => ⟨z.2, z.1⟩⟩)
theorem j_S (W : WA) (dx dy : Int) : cnt (tS W dx dy) 144 0 = cnt (j1 W dx dy) 144 0 := by
  refine (cnt_shift W.2 W.1 (fun a b => decide (0 < a ∧ 0 < b ∧ b = a)) (fun a b z => ⟨(of_decide_eq_true z).1, (of_decide_eq_true z).2.1⟩) dx dy).trans ?_
  exact cnt_c 144 0 (fun p _ _ => decide_eq_decide.mpr ⟨fun z => ⟨z.2.1, z.2.2.symm⟩, fun z => ⟨Nat.lt_of_lt_of_eq z.1 z.2.symm, z.1, z.2.symm⟩⟩)
theorem j_F (W : WA) (dx dy : Int) : cnt (fun p => decide (0 < W.1 p)) 144 0 = cnt (tT W dx dy) 144 0 + cnt (j2 W dx dy) 144 0 := by
  rw [j_T]
  refine cnt_add 144 0 (fun p _ _ => ?_)
  unfold j0 j2
  by_cases h1 : 0 < W.1 p <;> by_cases h2 : 0 < atC W.2 p dx dy <;> simp [h1, h2] <;> omega
theorem j_G (W : WA) (dx dy : Int) : cnt (fun p => decide (0 < W.2 p)) 144 0 = cnt (tT W dx dy) 144 0 + cnt (j3 W dx dy) 144 0 := by
  refine cnt_add 144 0 (fun p _ _ => ?_)
  unfold tT j3
  by_cases h1 : 0 < W.2 p <;> by_cases h2 : 0 < atB W.1 p dx dy <;> simp [h1, h2] <;> omega
