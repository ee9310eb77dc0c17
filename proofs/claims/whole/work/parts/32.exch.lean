/-! the exchange of neighbours in an order -/
def mno (v : Nat → Nat) (p : Nat → Bool) : Nat → Nat → Option Nat → Option Nat
  | 0, _, b => b
  | m + 1, k, b => mno v p m (k + 1) (if p k = true then (match b with | none => some (v k) | some x => if v k < x then some (v k) else some x) else b)
theorem mno_p (v : Nat → Nat) (p : Nat → Bool) : ∀ m k b, (∀ x, mno v p m k b = some x → (∀ t, k ≤ t → t < k + m → p t = true → x ≤ v t) ∧ (∀ y, b = some y → x ≤ y) ∧ ((∃ t, k ≤ t ∧ t < k + m ∧ p t = true ∧ x = v t) ∨ b = some x)) ∧ (mno v p m k b = none → b = none ∧ ∀ t, k ≤ t → t < k + m → ¬ p t = true)
  | 0, k, b => ⟨fun x h => ⟨fun t h1 h2 => by omega, fun y hy => by rw [show b = some x from h] at hy; cases hy; exact Nat.le_refl _, Or.inr h⟩, fun h => ⟨h, fun t h1 h2 => by omega⟩⟩
  | m + 1, k, b => by
    have ih := mno_p v p m (k + 1) (if p k = true then (match b with | none => some (v k) | some x => if v k < x then some (v k) else some x) else b)
    unfold mno
    by_cases hp : p k = true
    · rw [if_pos hp] at ih ⊢
      constructor
      · intro x hx
        obtain ⟨i1, i2, i3⟩ := ih.1 x hx
        rcases b with _ | y
        · have h1 := i2 (v k) rfl
          refine ⟨fun t h3 h4 h5 => ?_, (fun y hy => by cases hy), ?_⟩
          · by_cases q : t = k
            · rw [q]; exact h1
            · exact i1 t (by omega) (by omega) h5
          · rcases i3 with ⟨t, h3, h4, h5, h6⟩ | h3
            · exact Or.inl ⟨t, by omega, by omega, h5, h6⟩
            · exact Or.inl ⟨k, by omega, by omega, hp, by cases h3; rfl⟩
        · dsimp only at i2 i3
          by_cases q2 : v k < y
          · rw [if_pos q2] at i2 i3
            have h1 := i2 (v k) rfl
            refine ⟨fun t h3 h4 h5 => ?_, (fun y' hy => by cases hy; omega), ?_⟩
            · by_cases q : t = k
              · rw [q]; exact h1
              · exact i1 t (by omega) (by omega) h5
            · rcases i3 with ⟨t, h3, h4, h5, h6⟩ | h3
              · exact Or.inl ⟨t, by omega, by omega, h5, h6⟩
              · exact Or.inl ⟨k, by omega, by omega, hp, by cases h3; rfl⟩
          · rw [if_neg q2] at i2 i3
            have h1 := i2 y rfl
            refine ⟨fun t h3 h4 h5 => ?_, (fun y' hy => by cases hy; omega), ?_⟩
            · by_cases q : t = k
              · rw [q]; omega
              · exact i1 t (by omega) (by omega) h5
            · rcases i3 with ⟨t, h3, h4, h5, h6⟩ | h3
              · exact Or.inl ⟨t, by omega, by omega, h5, h6⟩
              · exact Or.inr h3
      · intro hx
        have h1 := (ih.2 hx).1
        rcases b with _ | y
        · cases h1
        · dsimp only at h1
          split at h1 <;> cases h1
    · rw [if_neg hp] at ih ⊢
      constructor
      · intro x hx
        obtain ⟨i1, i2, i3⟩ := ih.1 x hx
        refine ⟨fun t h3 h4 h5 => ?_, i2, ?_⟩
        · by_cases q : t = k
          · exact absurd (q ▸ h5) hp
          · exact i1 t (by omega) (by omega) h5
        · rcases i3 with ⟨t, h3, h4, h5, h6⟩ | h3
          · exact Or.inl ⟨t, by omega, by omega, h5, h6⟩
          · exact Or.inr h3
      · intro hx
        obtain ⟨h1, h2⟩ := ih.2 hx
        refine ⟨h1, fun t h3 h4 h5 => ?_⟩
        by_cases q : t = k
        · exact hp (q ▸ h5)
        · exact h2 t (by omega) (by omega) h5
def dlt (p : Nat → Bool) (t : Nat) : Nat → Bool := fun u => p u && !(u == t)
theorem dlt_t {p : Nat → Bool} {t u : Nat} : dlt p t u = true ↔ p u = true ∧ ¬ u = t := by
  unfold dlt
  simp
theorem dlt_c (p : Nat → Bool) (t u : Nat) : dlt (dlt p t) u = dlt (dlt p u) t := by
  funext x
  unfold dlt
  rw [Bool.and_assoc, Bool.and_assoc, Bool.and_comm (!(x == t))]
theorem cnt_dlt {p : Nat → Bool} {t : Nat} (ht : p t = true) : ∀ m k, (k ≤ t ∧ t < k + m → cnt p m k = cnt (dlt p t) m k + 1) ∧ (¬ (k ≤ t ∧ t < k + m) → cnt p m k = cnt (dlt p t) m k)
  | 0, k => ⟨fun h => by omega, fun _ => rfl⟩
  | m + 1, k => by
    obtain ⟨i1, i2⟩ := cnt_dlt ht m (k + 1)
    by_cases q : t = k
    · subst q
      have h1 : ¬ dlt p t t = true := fun z => (dlt_t.mp z).2 rfl
      rw [cnt_t ht, cnt_f h1]
      exact ⟨fun _ => by rw [i2 (by omega)]; omega, fun h => by omega⟩
    · have h1 : dlt p t k = true ↔ p k = true := ⟨fun z => (dlt_t.mp z).1, fun z => dlt_t.mpr ⟨z, fun z2 => q z2.symm⟩⟩
      by_cases hp : p k = true
      · rw [cnt_t hp, cnt_t (h1.mpr hp)]
        exact ⟨fun h => by rw [i1 (by omega)]; omega, fun h => by rw [i2 (by omega)]⟩
      · rw [cnt_f hp, cnt_f (fun z => hp (h1.mp z))]
        exact ⟨fun h => i1 (by omega), fun h => i2 (by omega)⟩
theorem cnt_pos {p : Nat → Bool} : ∀ m k, 0 < cnt p m k → ∃ t, k ≤ t ∧ t < k + m ∧ p t = true
  | 0, k, h => absurd h (by unfold cnt; omega)
  | m + 1, k, h => by
    by_cases hp : p k = true
    · exact ⟨k, by omega, by omega, hp⟩
    · rw [cnt_f hp] at h
      obtain ⟨t, h1, h2, h3⟩ := cnt_pos m (k + 1) h
      exact ⟨t, by omega, by omega, h3⟩
/-- the least scaled mean of the TESTS p, c of them -/
def lst (n : Nat) (tt ss : Nat → Nat) : Nat → (Nat → Bool) → Nat
  | 0, _ => 0
  | c + 1, p => (mno (fun t => tt t * 10 ^ (c + 1) + (10 - ss t) * lst n tt ss c (dlt p t)) p n 0 none).getD 0
def wfs (n : Nat) (tt ss : Nat → Nat) (c : Nat) (p : Nat → Bool) (t : Nat) : Nat := tt t * 10 ^ (c + 1) + (10 - ss t) * lst n tt ss c (dlt p t)
def bes (n : Nat) (tt ss : Nat → Nat) (p : Nat → Bool) (t : Nat) : Prop := ∀ u, u < n → p u = true → tt t * ss u ≤ tt u * ss t
theorem lst_p {n : Nat} {tt ss : Nat → Nat} {c : Nat} {p : Nat → Bool} (hp : 0 < cnt p n 0) : (∀ t, t < n → p t = true → lst n tt ss (c + 1) p ≤ wfs n tt ss c p t) ∧ ∃ t, t < n ∧ p t = true ∧ lst n tt ss (c + 1) p = wfs n tt ss c p t := by
  have h := mno_p (fun t => tt t * 10 ^ (c + 1) + (10 - ss t) * lst n tt ss c (dlt p t)) p n 0 none
  unfold lst
  rcases hm : mno (fun t => tt t * 10 ^ (c + 1) + (10 - ss t) * lst n tt ss c (dlt p t)) p n 0 none with _ | x
  · obtain ⟨t, h1, h2, h3⟩ := cnt_pos n 0 hp
    exact absurd h3 ((h.2 hm).2 t h1 h2)
  · obtain ⟨i1, i2, i3⟩ := h.1 x hm
    refine ⟨fun t h1 h2 => i1 t (by omega) (by omega) h2, ?_⟩
    rcases i3 with ⟨t, h3, h4, h5, h6⟩ | h3
    · exact ⟨t, by omega, h5, h6⟩
    · cases h3
theorem bes_tr {tt ss : Nat → Nat} {a b c : Nat} (hb : 0 < tt b) (h1 : tt a * ss b ≤ tt b * ss a) (h2 : tt b * ss c ≤ tt c * ss b) : tt a * ss c ≤ tt c * ss a := by
  refine Nat.le_of_mul_le_mul_left ?_ hb
  calc tt b * (tt a * ss c) = tt a * (tt b * ss c) := Nat.mul_left_comm _ _ _
    _ ≤ tt a * (tt c * ss b) := Nat.mul_le_mul_left _ h2
    _ = tt c * (tt a * ss b) := Nat.mul_left_comm _ _ _
    _ ≤ tt c * (tt b * ss a) := Nat.mul_le_mul_left _ h1
    _ = tt b * (tt c * ss a) := Nat.mul_left_comm _ _ _
theorem bes_ex {tt ss : Nat → Nat} (h0 : ∀ t, 0 < tt t) {p : Nat → Bool} : ∀ n, (∃ t, t < n ∧ p t = true) → ∃ u, u < n ∧ p u = true ∧ bes n tt ss p u
  | 0, ⟨t, h, _⟩ => absurd h (by omega)
  | n + 1, h => by
    by_cases hp : p n = true
    · by_cases he : ∃ t, t < n ∧ p t = true
      · obtain ⟨u, h1, h2, h3⟩ := bes_ex h0 n he
        by_cases q : tt u * ss n ≤ tt n * ss u
        · refine ⟨u, by omega, h2, fun x hx hpx => ?_⟩
          by_cases qx : x = n
          · rw [qx]; exact q
          · exact h3 x (by omega) hpx
        · refine ⟨n, by omega, hp, fun x hx hpx => ?_⟩
          by_cases qx : x = n
          · rw [qx]; exact Nat.le_refl _
          · exact bes_tr (h0 u) (by omega) (h3 x (by omega) hpx)
      · refine ⟨n, by omega, hp, fun x hx hpx => ?_⟩
        by_cases qx : x = n
        · rw [qx]; exact Nat.le_refl _
        · exact absurd ⟨x, by omega, hpx⟩ he
    · obtain ⟨t, h1, h2⟩ := h
      have hn : ¬ t = n := fun q => hp (q ▸ h2)
      obtain ⟨u, h3, h4, h5⟩ := bes_ex h0 n ⟨t, by omega, h2⟩
      refine ⟨u, by omega, h4, fun x hx hpx => ?_⟩
      have hxn : ¬ x = n := fun q => hp (q ▸ hpx)
      exact h5 x (by omega) hpx
theorem exch (T U x a y b P R : Nat) (h1 : x + a = 10) (h2 : y + b = 10) : T * (10 * P) + a * (U * P + b * R) + P * (U * x) = U * (10 * P) + b * (T * P + a * R) + P * (T * y) := by
  have e1 : T * (10 * P) = T * (y * P) + T * (b * P) := by rw [← h2, Nat.add_mul, Nat.mul_add]
  have e2 : U * (10 * P) = U * (x * P) + U * (a * P) := by rw [← h1, Nat.add_mul, Nat.mul_add]
  have e3 : a * (U * P + b * R) = U * (a * P) + a * (b * R) := by rw [Nat.mul_add, Nat.mul_left_comm]
  have e4 : b * (T * P + a * R) = T * (b * P) + a * (b * R) := by rw [Nat.mul_add, Nat.mul_left_comm, Nat.mul_left_comm b a R]
  have e5 : P * (U * x) = U * (x * P) := by rw [Nat.mul_left_comm, Nat.mul_comm P x]
  have e6 : P * (T * y) = T * (y * P) := by rw [Nat.mul_left_comm, Nat.mul_comm P y]
  omega
theorem bes_d {n : Nat} {tt ss : Nat → Nat} {p : Nat → Bool} {t u : Nat} (h : bes n tt ss p u) : bes n tt ss (dlt p t) u := fun x hx hp => h x hx (dlt_t.mp hp).1
theorem best_iff {n : Nat} {tt ss : Nat → Nat} (h0 : ∀ t, 0 < tt t) (h10 : ∀ t, ss t ≤ 10) : ∀ c p, cnt p n 0 = c + 1 → ∀ t, t < n → p t = true → (bes n tt ss p t → wfs n tt ss c p t = lst n tt ss (c + 1) p) ∧ (¬ bes n tt ss p t → lst n tt ss (c + 1) p < wfs n tt ss c p t) := by
  intro c
  induction c with
  | zero =>
    intro p hc t ht hp
    have one : ∀ u, u < n → p u = true → u = t := fun u hu hpu => by
      refine Decidable.byContradiction (fun q => ?_)
      have h1 := (cnt_dlt hp n 0).1 (by omega)
      have h2 := (cnt_dlt (p := dlt p t) (dlt_t.mpr ⟨hpu, q⟩) n 0).1 (by omega)
      omega
    refine ⟨fun _ => ?_, fun h => absurd (fun u hu hpu => by rw [one u hu hpu]; exact Nat.le_refl _) h⟩
    obtain ⟨v, h1, h2, h3⟩ := (lst_p (tt := tt) (ss := ss) (c := 0) (show 0 < cnt p n 0 by omega)).2
    rw [h3, one v h1 h2]
  | succ c ih =>
    intro p hc
    have hl := lst_p (tt := tt) (ss := ss) (c := c + 1) (p := p) (n := n) (by omega)
    have key : ∀ t u, t < n → u < n → p t = true → p u = true → ¬ t = u → bes n tt ss p u → wfs n tt ss (c + 1) p u + 10 ^ (c + 1) * (tt t * ss u) ≤ wfs n tt ss (c + 1) p t + 10 ^ (c + 1) * (tt u * ss t) := by
      intro t u ht hu hpt hpu hne hb
      have c1 := (cnt_dlt hpt n 0).1 (by omega)
      have c2 := (cnt_dlt hpu n 0).1 (by omega)
      have d1 : dlt p t u = true := dlt_t.mpr ⟨hpu, fun q => hne q.symm⟩
      have d2 : dlt p u t = true := dlt_t.mpr ⟨hpt, hne⟩
      have i1 := (ih (dlt p t) (by omega) u hu d1).1 (bes_d hb)
      have i2 := (lst_p (tt := tt) (ss := ss) (c := c) (p := dlt p u) (n := n) (by omega)).1 t ht d2
      have e := exch (tt t) (tt u) (ss t) (10 - ss t) (ss u) (10 - ss u) (10 ^ (c + 1)) (lst n tt ss c (dlt (dlt p t) u)) (by have := h10 t; omega) (by have := h10 u; omega)
      have w1 : wfs n tt ss (c + 1) p t = tt t * (10 * 10 ^ (c + 1)) + (10 - ss t) * (tt u * 10 ^ (c + 1) + (10 - ss u) * lst n tt ss c (dlt (dlt p t) u)) := by
        rw [wfs, ← i1, wfs, Nat.pow_succ 10 (c + 1), Nat.mul_comm (10 ^ (c + 1)) 10]
      have w2 : wfs n tt ss (c + 1) p u ≤ tt u * (10 * 10 ^ (c + 1)) + (10 - ss u) * (tt t * 10 ^ (c + 1) + (10 - ss t) * lst n tt ss c (dlt (dlt p t) u)) := by
        rw [wfs, Nat.pow_succ 10 (c + 1), Nat.mul_comm (10 ^ (c + 1)) 10]
        refine Nat.add_le_add_left (Nat.mul_le_mul_left _ ?_) _
        rw [wfs, ← dlt_c] at i2
        exact i2
      omega
    have notb : ∀ t, t < n → p t = true → ¬ bes n tt ss p t → lst n tt ss (c + 1 + 1) p < wfs n tt ss (c + 1) p t := by
      intro t ht hpt hnb
      obtain ⟨u, hu, hpu, hb⟩ := bes_ex (ss := ss) h0 n ⟨t, ht, hpt⟩
      have hne : ¬ t = u := fun q => hnb (by rw [q]; exact hb)
      have k := key t u ht hu hpt hpu hne hb
      have h2 := hl.1 u hu hpu
      have h3 : tt u * ss t < tt t * ss u := by
        refine Nat.lt_of_not_le (fun q => hnb (fun x hx hpx => bes_tr (h0 u) q (hb x hx hpx)))
      have h4 := Nat.mul_lt_mul_of_pos_left h3 (Nat.pow_pos (n := c + 1) (show 0 < 10 by decide))
      omega
    intro t ht hpt
    refine ⟨fun hb => ?_, notb t ht hpt⟩
    obtain ⟨v, hv, hpv, hlv⟩ := hl.2
    have hlt := hl.1 t ht hpt
    by_cases q : v = t
    · rw [hlv, q]
    · have hbv : bes n tt ss p v := Classical.byContradiction (fun q2 => by have := notb v hv hpv q2; omega)
      have k := key v t hv ht hpv hpt q hb
      have h1 := hb v hv hpv
      have h2 := hbv t ht hpt
      rw [show tt v * ss t = tt t * ss v by omega] at k
      omega
