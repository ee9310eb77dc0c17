/-! what holds between two tokens, in the class -/
def lkP (lk : Nat → Int32) : Nat → Nat := fun s => (lk s).toInt.toNat
def InvP (L : Nat) (tp tx rl lk tm wi lo hi cn bg : Nat → Int32) (sz d : Nat) (M : Nat → List Nat) (T : Nat → Nat) (nl pn p : Nat) : Prop :=
  (p ≤ L ∧ L ≤ 400 ∧ sz ≤ p ∧ d ≤ 6 ∧ pn ≤ 8) ∧ (∀ j, j < L → tx j = tp j)
  ∧ (∀ i, i < sz → rl i = 0 → 0 < nl ∧ ∃ q, lk i = nI q ∧ q + pn ≤ L ∧ lo i = nI (pwB 76 tx q pn) ∧ hi i = nI (pwB 72 tx q pn))
  ∧ ∃ (S : Nat → Nat) (Ls : Nat → List Nat) (f : Nat), S 0 = 0
    ∧ (∀ j, 1 ≤ j → j ≤ d → 1 ≤ S j ∧ S j ≤ sz ∧ bg j = nI (S j - 1) ∧ rl (S j - 1) = 1 ∧ tm (S j - 1) = nI (T j) ∧ 1 ≤ T j ∧ T j ≤ 999)
    ∧ (∀ j, j ≤ d → cn j = nI (Ls j).length ∧ (Ls j).length ≤ 100000 ∧ M j = (Ls j).map (lkP lk))
    ∧ (∀ j, j < d → blk rl lk tm wi f (6 - j) (S j) (S (j + 1) - 1) (Ls j)) ∧ blk rl lk tm wi f (6 - d) (S d) sz (Ls d)
section InvS
variable {L : Nat} {tp tx rl lk tm wi lo hi cn bg : Nat → Int32} {sz d : Nat} {M : Nat → List Nat} {T : Nat → Nat} {nl pn p : Nat}
theorem inv_mono {p' : Nat} (h : InvP L tp tx rl lk tm wi lo hi cn bg sz d M T nl pn p) (h1 : p ≤ p') (h2 : p' ≤ L) : InvP L tp tx rl lk tm wi lo hi cn bg sz d M T nl pn p' := by
  obtain ⟨⟨a1, a2, a3, a4, a5⟩, b⟩ := h
  exact ⟨⟨h2, a2, by omega, a4, a5⟩, b⟩
theorem map_c {f g : Nat → Nat} {X : List Nat} (h : ∀ s, s ∈ X → f s = g s) : X.map f = X.map g := List.map_congr_left h
theorem inv_line {e n : Nat} (h : InvP L tp tx rl lk tm wi lo hi cn bg sz d M T nl pn p) (he : p < e) (hn : n = e - p) (hn8 : n ≤ 8) (heL : e < L) (hp : ¬ (0 < nl ∧ n ≠ pn)) (hc : ¬ 100000 < (M d).length + 1) :
    InvP L tp tx (upd rl sz 0) (upd lk sz (nI p)) tm wi (upd lo sz (nI (pwB 76 tx p n))) (upd hi sz (nI (pwB 72 tx p n))) (upd cn d (nI ((M d).length + 1))) bg (sz + 1) d (up M d (M d ++ [p])) T (nl + 1) n (e + 1) := by
  obtain ⟨⟨a1, a2, a3, a4, a5⟩, b1, b2, S, Ls, f, c1, c2, c3, c4, c5⟩ := h
  have hlt : ∀ j, j ≤ d → S j ≤ sz := fun j hj => by
    by_cases hj0 : j = 0
    · subst hj0; omega
    · exact (c2 j (by omega) hj).2.1
  have hcg : ∀ i b, i < b → b ≤ sz → upd rl sz 0 i = rl i ∧ upd lk sz (nI p) i = lk i ∧ tm i = tm i ∧ wi i = wi i := fun i b h1 h2 => ⟨upd_n (by omega), upd_n (by omega), rfl, rfl⟩
  have hM : ∀ j, j ≤ d → ∀ b, b ≤ sz → blk rl lk tm wi f (6 - j) (S j) b (Ls j) → (Ls j).map (lkP (upd lk sz (nI p))) = (Ls j).map (lkP lk) := fun j _ b hb hk => map_c (fun s hs => by unfold lkP; rw [upd_n (by have := blk_mem _ _ _ _ _ hk s hs; omega)])
  have hMd := (c3 d (by omega)).2.2
  have hlen : (M d).length = (Ls d).length := by rw [hMd, List.length_map]
  refine ⟨⟨by omega, a2, by omega, a4, hn8⟩, b1, ?_, S, up Ls d (Ls d ++ [sz]), f + 1, c1, ?_, ?_, ?_, ?_⟩
  · intro i hi hr
    refine ⟨by omega, ?_⟩
    by_cases hi2 : i = sz
    · subst hi2
      exact ⟨p, upd_s, by omega, upd_s, upd_s⟩
    · rw [upd_n hi2] at hr
      obtain ⟨k0, q, k1, k2, k3, k4⟩ := b2 i (by omega) hr
      have hnp : n = pn := by
        by_cases hq : n = pn
        · exact hq
        · exact absurd ⟨k0, hq⟩ hp
      rw [upd_n hi2, upd_n hi2, upd_n hi2, hnp]
      exact ⟨q, k1, k2, k3, k4⟩
  · intro j h1 h2
    obtain ⟨k1, k2, k3, k4, k5⟩ := c2 j h1 h2
    exact ⟨k1, by omega, k3, by rw [upd_n (by omega)]; exact k4, k5⟩
  · intro j hj
    by_cases hjd : j = d
    · subst hjd
      rw [up_s, up_s, upd_s]
      refine ⟨by rw [hlen, List.length_append]; rfl, by rw [List.length_append]; simp only [List.length_cons, List.length_nil]; omega, ?_⟩
      rw [List.map_append, hM j hj sz (by omega) c5, ← hMd]
      congr 1
      show [p] = [lkP (upd lk sz (nI p)) sz]
      unfold lkP
      rw [upd_s, nTN (by omega)]
    · rw [up_n hjd, up_n hjd, upd_n hjd]
      obtain ⟨k1, k2, k3⟩ := c3 j hj
      have h2 := c2 (j + 1) (by omega) (by omega)
      exact ⟨k1, k2, by rw [hM j hj _ (by omega) (c4 j (by omega))]; exact k3⟩
  · intro j hj
    have h2 := c2 (j + 1) (by omega) (by omega)
    rw [up_n (by omega)]
    exact blk_up 1 _ _ _ _ _ (blk_cong _ _ _ _ _ (fun i q1 q2 => hcg i _ q2 (by omega)) (c4 j hj))
  · rw [up_s]
    exact blk_line upd_s _ _ _ _ (blk_cong _ _ _ _ _ (fun i q1 q2 => hcg i _ q2 (by omega)) c5)
theorem inv_open {e t : Nat} (h : InvP L tp tx rl lk tm wi lo hi cn bg sz d M T nl pn p) (he : p < e) (heL : e ≤ L) (hd : d < 6) (ht : 1 ≤ t) (ht2 : t ≤ 999) :
    InvP L tp tx (upd rl sz 1) lk (upd tm sz (nI t)) wi lo hi (upd cn (d + 1) 0) (upd bg (d + 1) (nI sz)) (sz + 1) (d + 1) (up M (d + 1) []) (up T (d + 1) t) nl pn e := by
  obtain ⟨⟨a1, a2, a3, a4, a5⟩, b1, b2, S, Ls, f, c1, c2, c3, c4, c5⟩ := h
  have hcg : ∀ i b, i < b → b ≤ sz → upd rl sz 1 i = rl i ∧ lk i = lk i ∧ upd tm sz (nI t) i = tm i ∧ wi i = wi i := fun i b h1 h2 => ⟨upd_n (by omega), rfl, upd_n (by omega), rfl⟩
  refine ⟨⟨by omega, a2, by omega, by omega, a5⟩, b1, ?_, up S (d + 1) (sz + 1), up Ls (d + 1) [], f, ?_, ?_, ?_, ?_, ?_⟩
  · intro i hi hr
    by_cases hi2 : i = sz
    · subst hi2
      rw [upd_s] at hr
      exact absurd hr (by decide)
    · rw [upd_n hi2] at hr
      exact b2 i (by omega) hr
  · rw [up_n (by omega)]; exact c1
  · intro j h1 h2
    by_cases hjd : j = d + 1
    · subst hjd
      rw [up_s, up_s, upd_s, show sz + 1 - 1 = sz from rfl, upd_s, upd_s]
      exact ⟨by omega, by omega, rfl, rfl, rfl, ht, ht2⟩
    · obtain ⟨k1, k2, k3, k4, k5⟩ := c2 j h1 (by omega)
      rw [up_n hjd, up_n hjd, upd_n hjd, upd_n (by omega), upd_n (by omega)]
      exact ⟨k1, by omega, k3, k4, k5⟩
  · intro j hj
    by_cases hjd : j = d + 1
    · subst hjd
      rw [up_s, up_s, upd_s]
      exact ⟨rfl, by simp, rfl⟩
    · rw [up_n hjd, up_n hjd, upd_n hjd]
      exact c3 j (by omega)
  · intro j hj
    by_cases hjd : j = d
    · subst hjd
      rw [up_n (by omega), up_s, up_n (by omega)]
      exact blk_cong _ _ _ _ _ (fun i q1 q2 => hcg i _ q2 (by omega)) c5
    · have h2 := c2 (j + 1) (by omega) (by omega)
      rw [up_n (by omega), up_n (by omega), up_n (by omega)]
      exact blk_cong _ _ _ _ _ (fun i q1 q2 => hcg i _ q2 (by omega)) (c4 j (by omega))
  · rw [up_s, up_s]
    exact blk_nil
theorem inv_b (h : InvP L tp tx rl lk tm wi lo hi cn bg sz (d + 1) M T nl pn p) : ∃ b, bg (d + 1) = nI b ∧ b < sz ∧ tm b = nI (T (d + 1)) ∧ 1 ≤ T (d + 1) ∧ T (d + 1) ≤ 999 := by
  obtain ⟨-, -, -, S, Ls, f, c1, c2, -⟩ := h
  obtain ⟨k1, k2, k3, k4, k5, k6, k7⟩ := c2 (d + 1) (by omega) (by omega)
  exact ⟨S (d + 1) - 1, k3, by omega, k5, k6, k7⟩
theorem inv_n {j : Nat} (h : InvP L tp tx rl lk tm wi lo hi cn bg sz d M T nl pn p) (hj : j ≤ d) : cn j = nI (M j).length ∧ (M j).length ≤ 100000 := by
  obtain ⟨-, -, -, S, Ls, f, c1, c2, c3, -⟩ := h
  obtain ⟨m1, m2, m3⟩ := c3 j hj
  rw [m3, List.length_map]
  exact ⟨m1, m2⟩
/-- a loop of no CYCLES ends -/
theorem inv_end0 {b : Nat} (h : InvP L tp tx rl lk tm wi lo hi cn bg sz (d + 1) M T nl pn p) (hb : bg (d + 1) = nI b) (hbs : b < sz) (hp : p < L) (h0 : (M (d + 1)).length = 0) (v : Int32) (hv : v = cn d) :
    InvP L tp tx rl lk tm wi lo hi (upd cn d v) bg b d (up M d (M d ++ repL (T (d + 1)) (M (d + 1)))) T nl pn (p + 1) := by
  obtain ⟨⟨a1, a2, a3, a4, a5⟩, b1, b2, S, Ls, f, c1, c2, c3, c4, c5⟩ := h
  obtain ⟨k1, k2, k3, k4, k5, k6, k7⟩ := c2 (d + 1) (by omega) (by omega)
  obtain rfl : S (d + 1) - 1 = b := by
    have q := congrArg Int32.toInt (k3.symm.trans hb)
    rw [nT (by omega), nT (by omega)] at q
    omega
  have hMd := (c3 (d + 1) (by omega)).2.2
  have e0 : M (d + 1) = [] := List.eq_nil_of_length_eq_zero h0
  refine ⟨⟨by omega, a2, by omega, by omega, a5⟩, b1, fun i hi hr => b2 i (by omega) hr, S, Ls, f, c1, ?_, ?_, fun j hj => c4 j (by omega), c4 d (by omega)⟩
  · intro j h1 h2
    obtain ⟨q1, q2, q3⟩ := c2 j h1 (by omega)
    refine ⟨q1, ?_, q3⟩
    by_cases hjd : j = d
    · subst hjd; exact blk_le _ _ _ _ _ (c4 j (by omega))
    · have w1 := blk_le _ _ _ _ _ (c4 d (by omega))
      have mono : ∀ m, j + m ≤ d → S j ≤ S (j + m) := by
        intro m
        induction m with
        | zero => intro _; exact Nat.le_refl _
        | succ m ih =>
          intro hm
          have := blk_le _ _ _ _ _ (c4 (j + m) (by omega))
          have := ih (by omega)
          rw [show j + (m + 1) = j + m + 1 by omega]
          omega
      have := mono (d - j) (by omega)
      rw [show j + (d - j) = d by omega] at this
      omega
  · intro j hj
    by_cases hjd : j = d
    · subst hjd
      rw [up_s, upd_s, hv, e0, repL_nil, List.append_nil]
      exact c3 j (by omega)
    · rw [up_n hjd, upd_n hjd]
      exact c3 j (by omega)
/-- a loop ends -/
theorem inv_end {B : Nat} (h : InvP L tp tx rl lk tm wi lo hi cn bg sz (d + 1) M T nl pn p) (hbB : bg (d + 1) = nI B) (hBs : B < sz) (hp : p < L) (h0 : 0 < (M (d + 1)).length) (hb : ¬ 100000 < (M d).length + T (d + 1) * (M (d + 1)).length) :
    InvP L tp tx (upd rl sz 2) (upd (upd lk B (nI sz)) sz (nI B)) tm (upd wi B (nI (M (d + 1)).length)) lo hi (upd cn d (nI ((M d).length + T (d + 1) * (M (d + 1)).length))) bg (sz + 1) d (up M d (M d ++ repL (T (d + 1)) (M (d + 1)))) T nl pn (p + 1) := by
  obtain ⟨⟨a1, a2, a3, a4, a5⟩, b1, b2, S, Ls, f, c1, c2, c3, c4, c5⟩ := h
  obtain ⟨k1, k2, k3, k4, k5, k6, k7⟩ := c2 (d + 1) (by omega) (by omega)
  obtain ⟨m1, m2, m3⟩ := c3 (d + 1) (by omega)
  obtain ⟨n1, n2, n3⟩ := c3 d (by omega)
  have hl1 : (M (d + 1)).length = (Ls (d + 1)).length := by rw [m3, List.length_map]
  have hl0 : (M d).length = (Ls d).length := by rw [n3, List.length_map]
  have hne : Ls (d + 1) ≠ [] := fun q => by rw [hl1, q] at h0; exact absurd h0 (by simp)
  have hin : ∀ s, s ∈ Ls (d + 1) → S (d + 1) ≤ s ∧ s < sz ∧ rl s = 0 := blk_mem _ _ _ _ _ c5
  have hS1 : S (d + 1) < sz := by
    obtain ⟨s, hs⟩ := List.exists_mem_of_ne_nil _ hne
    have := hin s hs
    omega
  have hSd : ∀ j, j ≤ d → S j ≤ S (d + 1) - 1 := by
    intro j hj
    have w1 := blk_le _ _ _ _ _ (c4 d (by omega))
    have mono : ∀ m, j + m ≤ d → S j ≤ S (j + m) := by
      intro m
      induction m with
      | zero => intro _; exact Nat.le_refl _
      | succ m ih =>
        intro hm
        have := blk_le _ _ _ _ _ (c4 (j + m) (by omega))
        have := ih (by omega)
        rw [show j + (m + 1) = j + m + 1 by omega]
        omega
    have := mono (d - j) (by omega)
    rw [show j + (d - j) = d by omega] at this
    omega
  have hB : S (d + 1) - 1 = B := by
    have q := congrArg Int32.toInt (k3.symm.trans hbB)
    rw [nT (by omega), nT (by omega)] at q
    omega
  rw [hB] at k3 k4 k5 hSd
  have hB1 : S (d + 1) = B + 1 := by omega
  have hcg : ∀ i, i ≠ B → i < sz → upd rl sz 2 i = rl i ∧ upd (upd lk B (nI sz)) sz (nI B) i = lk i ∧ tm i = tm i ∧ upd wi B (nI (M (d + 1)).length) i = wi i := fun i h1 h2 => ⟨upd_n (by omega), by rw [upd_n (by omega), upd_n h1], rfl, upd_n h1⟩
  have hlkP : ∀ s, s < sz → rl s = 0 → lkP (upd (upd lk B (nI sz)) sz (nI B)) s = lkP lk s := fun s h1 h2 => by
    unfold lkP
    rw [(hcg s (fun q => by rw [q, k4] at h2; exact absurd h2 (by decide)) h1).2.1]
  refine ⟨⟨by omega, a2, by omega, by omega, a5⟩, b1, ?_, S, up Ls d (Ls d ++ repL (T (d + 1)) (Ls (d + 1))), f + f + 1, c1, ?_, ?_, ?_, ?_⟩
  · intro i hi hr
    by_cases hi2 : i = sz
    · subst hi2
      rw [upd_s] at hr
      exact absurd hr (by decide)
    · rw [upd_n hi2] at hr
      obtain ⟨z0, q, z1, z2, z3, z4⟩ := b2 i (by omega) hr
      exact ⟨z0, q, by rw [(hcg i (fun q => by rw [q, k4] at hr; exact absurd hr (by decide)) (by omega)).2.1]; exact z1, z2, z3, z4⟩
  · intro j h1 h2
    obtain ⟨q1, q2, q3, q4, q5⟩ := c2 j h1 (by omega)
    have := hSd j (by omega)
    exact ⟨q1, by omega, q3, by rw [upd_n (by omega)]; exact q4, q5⟩
  · intro j hj
    by_cases hjd : j = d
    · subst hjd
      rw [up_s, up_s, upd_s]
      refine ⟨by rw [List.length_append, repL_len, hl0, hl1], by rw [List.length_append, repL_len, ← hl0, ← hl1]; omega, ?_⟩
      rw [List.map_append, repL_map, n3, m3]
      congr 1
      · exact map_c (fun s hs => by have := blk_mem _ _ _ _ _ (c4 j (by omega)) s hs; exact (hlkP s (by omega) this.2.2).symm)
      · congr 1
        exact map_c (fun s hs => (hlkP s (hin s hs).2.1 (hin s hs).2.2).symm)
    · rw [up_n hjd, up_n hjd, upd_n hjd]
      obtain ⟨q1, q2, q3⟩ := c3 j (by omega)
      refine ⟨q1, q2, ?_⟩
      rw [q3]
      refine map_c (fun s hs => ?_)
      have w1 := blk_mem _ _ _ _ _ (c4 j (by omega)) s hs
      have w2 := c2 (j + 1) (by omega) (by omega)
      exact (hlkP s (by omega) w1.2.2).symm
  · intro j hj
    have w2 := hSd (j + 1) (by omega)
    have w3 := c2 (j + 1) (by omega) (by omega)
    rw [up_n (by omega)]
    have := blk_up (f + 1) _ _ _ _ _ (blk_cong _ _ _ _ _ (fun i q1 q2 => hcg i (by omega) (by omega)) (c4 j (by omega)))
    rw [show f + (f + 1) = f + f + 1 by omega] at this
    exact this
  · rw [up_s, show 6 - d = (6 - (d + 1)) + 1 by omega]
    have w0 := c4 d (by omega)
    rw [hB, show 6 - d = (6 - (d + 1)) + 1 by omega] at w0
    have w1 := blk_le _ _ _ _ _ w0
    refine blk_loop (b := B) (e := sz) (g := f) (by omega) (by rw [upd_n (by omega)]; exact k4) upd_s (by rw [upd_n (by omega), upd_s]) upd_s k5 k6 k7 (by rw [upd_s, hl1]) hne ?_ f (S d) (Ls d) ?_
    · rw [hB1] at c5
      exact blk_cong _ _ _ _ _ (fun i q1 q2 => hcg i (by omega) (by omega)) c5
    · exact blk_cong _ _ _ _ _ (fun i q1 q2 => hcg i (by omega) (by omega)) w0
end InvS
