/-! well formed before, well formed after -/
theorem kept_le (l v : Int32) : True := trivial
theorem wf_sheet {w : SH} (hw : WfS w) (s l n : Int32) : WfS (opSheet w s l n).2 := by
  unfold opSheet
  split
  · exact hw
  · split
    · exact hw
    · intro a ha
      show -1 ≤ (upd w.2.1 s.toInt.toNat l a).toInt ∧ (upd w.2.1 s.toInt.toNat l a).toInt ≤ 2 ∧ 0 ≤ (upd w.2.2.1 s.toInt.toNat n a).toInt ∧ (upd w.2.2.1 s.toInt.toNat n a).toInt ≤ 100
      have := hw a ha
      unfold upd
      split <;> omega
theorem wf_set {w : SH} (hw : WfS w) (s i v : Int32) : WfS (opSet w s i v).2 := by
  unfold opSet
  split
  · exact hw
  · split
    · exact hw
    · split
      · exact hw
      · exact hw
theorem wf_copy {w : SH} (hw : WfS w) (a i b j n : Int32) : WfS (opCopy w a i b j n).2 := by
  unfold opCopy
  split
  · exact hw
  · split
    · exact hw
    · split
      · exact hw
      · split
        · exact hw
        · exact hw
theorem wf_drop {w : SH} (hw : WfS w) (s : Int32) : WfS (opDrop w s).2 := by
  unfold opDrop
  split
  · exact hw
  · split
    · exact hw
    · intro a ha
      show -1 ≤ (upd w.2.1 s.toInt.toNat (-1) a).toInt ∧ (upd w.2.1 s.toInt.toNat (-1) a).toInt ≤ 2 ∧ 0 ≤ (w.2.2.1 a).toInt ∧ (w.2.2.1 a).toInt ≤ 100
      have := hw a ha
      have h1 : (-1 : Int32).toInt = -1 := rfl
      unfold upd
      split <;> omega
theorem wf_feed {w : TP} (hw : w.1 ≤ 400) (x : Int64) (n : Int32) : (opFeed w x n).2.1 ≤ 400 := by
  unfold opFeed
  split
  · exact hw
  · split
    · exact hw
    · show w.1 + n.toInt.toNat ≤ 400
      omega
theorem wf_law {w : LA} (hw : WfA w) (b n : Int32) : WfA (opLaw w b n).2 := by
  unfold opLaw
  split
  · exact hw
  · show 1 ≤ n.toInt ∧ n.toInt ≤ 4
    omega
theorem wf_test {w : TS} (hw : WfT w) (l u t b : Int32) : WfT (opTest w l u t b).2 := by
  unfold opTest
  split
  · exact hw
  · split
    · exact hw
    · obtain ⟨h1, h2, h3, h4, h5⟩ := hw
      refine ⟨?_, ?_, ?_, ?_, ?_⟩
      · show w.1 + 1 ≤ 10
        omega
      · intro k hk
        have hk2 : k < w.1 + 1 := hk
        show ∃ j, j < w.1 + 1 ∧ upd w.2.2.2.2.2.2 w.1 (nI w.1) k = nI j
        by_cases q : k = w.1
        · exact ⟨w.1, by omega, by rw [q, upd_s]⟩
        · obtain ⟨j, j1, j2⟩ := h2 k (by omega)
          exact ⟨j, by omega, by rw [upd_n q]; exact j2⟩
      · intro j hj
        have hj2 : j < w.1 + 1 := hj
        show ∃ k, k < w.1 + 1 ∧ upd w.2.2.2.2.2.2 w.1 (nI w.1) k = nI j
        by_cases q : j = w.1
        · exact ⟨w.1, by omega, by rw [q, upd_s]⟩
        · obtain ⟨k, k1, k2⟩ := h3 j (by omega)
          exact ⟨k, by omega, by rw [upd_n (by omega)]; exact k2⟩
      · intro k hk
        have hk2 : w.1 + 1 ≤ k := hk
        exact h4 k (by omega)
      · intro k hk
        have hk2 : k < w.1 + 1 := hk
        show (1 ≤ (upd w.2.2.2.1 w.1 t k).toInt ∧ (upd w.2.2.2.1 w.1 t k).toInt ≤ 999) ∧ (0 ≤ (w.2.2.2.2.2.1 k).toInt ∧ (w.2.2.2.2.2.1 k).toInt ≤ 10) ∧ (1 ≤ (upd w.2.2.2.2.1 w.1 b k).toInt ∧ (upd w.2.2.2.2.1 w.1 b k).toInt ≤ 15)
        by_cases q : k = w.1
        · rw [q, upd_s, upd_s, h4 w.1 (Nat.le_refl _)]
          have h0 : (0 : Int32).toInt = 0 := rfl
          omega
        · rw [upd_n q, upd_n q]
          exact h5 k (by omega)
theorem wf_move {w : TS} (hw : WfT w) (t p : Int32) : WfT (opMove w t p).2 := by
  unfold opMove
  split
  · exact hw
  · rename_i hc
    obtain ⟨h1, h2, h3, h4, h5⟩ := hw
    obtain ⟨tt, ht, rfl, htt⟩ := n_of (n := w.1) (x := t) (by omega) (by omega)
    obtain ⟨pp, hp, rfl, hpp⟩ := n_of (n := w.1) (x := p) (by omega) (by omega)
    obtain ⟨k0, k1, k2⟩ := h3 tt ht
    have hf := fpos_at (fl := w.2.2.2.2.2.2) (t := nI tt) w.1 0 ⟨k0, by omega, by omega, k2⟩
    generalize fpos w.2.2.2.2.2.2 (nI tt) 0 w.1 = a at hf
    rw [hpp, Int.toNat_natCast]
    have ha : a < w.1 := by omega
    refine ⟨h1, ?_, ?_, h4, h5⟩
    · intro k hk
      have hk2 : k < w.1 := hk
      show ∃ j, j < w.1 ∧ mvf w.2.2.2.2.2.2 a pp k = nI j
      unfold mvf
      split
      · exact h2 a ha
      · split
        · exact h2 _ (by omega)
        · split
          · exact h2 _ (by omega)
          · exact h2 k hk2
    · intro j hj
      have hj2 : j < w.1 := hj
      show ∃ k, k < w.1 ∧ mvf w.2.2.2.2.2.2 a pp k = nI j
      obtain ⟨k, q1, q2⟩ := h3 j hj2
      by_cases c1 : k = a
      · exact ⟨pp, hp, by unfold mvf; rw [if_pos rfl, ← c1]; exact q2⟩
      · by_cases c2 : a < k ∧ k ≤ pp
        · refine ⟨k - 1, by omega, ?_⟩
          unfold mvf
          rw [if_neg (by omega), if_pos (by omega), show k - 1 + 1 = k by omega]
          exact q2
        · by_cases c3 : pp ≤ k ∧ k < a
          · refine ⟨k + 1, by omega, ?_⟩
            unfold mvf
            rw [if_neg (by omega), if_neg (by omega), if_pos (by omega), show k + 1 - 1 = k by omega]
            exact q2
          · refine ⟨k, q1, ?_⟩
            unfold mvf
            rw [if_neg (by omega), if_neg (by omega), if_neg (by omega)]
            exact q2
theorem wf_share {w : TS} (hw : WfT w) (t f : Int32) : WfT (opShare w t f).2 := by
  unfold opShare
  split
  · exact hw
  · rename_i hc
    obtain ⟨h1, h2, h3, h4, h5⟩ := hw
    refine ⟨h1, h2, h3, ?_, ?_⟩
    · intro k hk
      have hk2 : w.1 ≤ k := hk
      show upd w.2.2.2.2.2.1 t.toInt.toNat f k = 0
      rw [upd_n (by omega)]
      exact h4 k hk2
    · intro k hk
      obtain ⟨a1, a2, a3⟩ := h5 k hk
      refine ⟨a1, ?_, a3⟩
      show 0 ≤ (upd w.2.2.2.2.2.1 t.toInt.toNat f k).toInt ∧ (upd w.2.2.2.2.2.1 t.toInt.toNat f k).toInt ≤ 10
      unfold upd
      split <;> omega
theorem wf_chip {w : SH} {T : TS} {E : ST2} {A : LA} {G : GL2} (hG : WfG G) (s q : Int32) : WfG (opChip w T E A G s q).2.2 := by
  unfold opChip
  split
  · exact hG
  · split
    · exact hG
    · split
      · exact hG
      · split
        · exact hG
        · rename_i h200 _
          split
          · exact hG
          · show G.1 + 1 ≤ 200 ∧ G.2.1 ≤ G.1 + 1
            have h1 := hG.1
            have h2 := hG.2
            omega
theorem wf_die {W : WA} (hW : WfW W) (w x y b : Int32) : WfW (opDie W w x y b).2 := by
  unfold opDie
  split
  · exact hW
  · rename_i hc
    have hb : (if b = -1000000 then 0 else b.toInt.toNat + 1) ≤ 16 := by
      split
      · omega
      · rename_i hb
        have : 0 ≤ b.toInt ∧ b.toInt < 16 := by
          apply Classical.byContradiction
          intro z
          exact hc (Or.inr (Or.inr ⟨z, hb⟩))
        omega
    intro p hp
    have := hW p hp
    by_cases hw : w = 0
    · show (if w = 0 then _ else _ : WA).1 p ≤ 16 ∧ (if w = 0 then _ else _ : WA).2 p ≤ 16
      rw [if_pos hw]
      refine ⟨?_, this.2⟩
      show (if p = _ then _ else _) ≤ 16
      split
      · exact hb
      · exact this.1
    · show (if w = 0 then _ else _ : WA).1 p ≤ 16 ∧ (if w = 0 then _ else _ : WA).2 p ≤ 16
      rw [if_neg hw]
      refine ⟨this.1, ?_⟩
      show (if p = _ then _ else _) ≤ 16
      split
      · exact hb
      · exact this.2
theorem tok_w {L : Nat} {tp : Nat → Int32} {s : PS} {p : Nat} {q : PS × Nat} (h : tokB L tp s p = .inr q) (h1 : s.2.2.2.2 ≤ 8) (h2 : ∀ j, j ≤ s.1 → (s.2.1 j).length ≤ 100000) : q.1.2.2.2.2 ≤ 8 ∧ ∀ j, j ≤ q.1.1 → (q.1.2.1 j).length ≤ 100000 := by
  unfold tokB at h
  split at h
  · split at h
    · cases h
    · split at h
      · cases h
      · rename_i a1 a2 a3
        cases h
        refine ⟨h1, fun j hj => ?_⟩
        have hj2 : j ≤ s.1 - 1 := hj
        show (up s.2.1 (s.1 - 1) (s.2.1 (s.1 - 1) ++ repL (s.2.2.1 s.1) (s.2.1 s.1)) j).length ≤ 100000
        by_cases c : j = s.1 - 1
        · rw [c, up_s, List.length_append, repL_len]; omega
        · rw [up_n c]; exact h2 j (by omega)
  · split at h
    · cases h
    · split at h
      · split at h
        · cases h
        · split at h
          · cases h
          · split at h
            · cases h
            · rename_i a1 a2 a3 a4 a5 a6
              cases h
              refine ⟨?_, fun j hj => ?_⟩
              · show fwd isRw L tp p - p ≤ 8
                by_cases z : 8 < fwd isRw L tp p - p
                · exact absurd (Or.inl z) a4
                · omega
              · have hj2 : j ≤ s.1 := hj
                show (up s.2.1 s.1 (s.2.1 s.1 ++ [p]) j).length ≤ 100000
                by_cases c : j = s.1
                · rw [c, up_s, List.length_append, List.length_singleton]; omega
                · rw [up_n c]; exact h2 j (by omega)
      · split at h
        · cases h
        · split at h
          · cases h
          · split at h
            · cases h
            · cases h
              refine ⟨h1, fun j hj => ?_⟩
              have hj2 : j ≤ s.1 + 1 := hj
              show (up s.2.1 (s.1 + 1) [] j).length ≤ 100000
              by_cases c : j = s.1 + 1
              · rw [c, up_s]; simp
              · rw [up_n c]; exact h2 j (by omega)
theorem prs_w {L : Nat} {tp : Nat → Int32} (hL : L ≤ 400) : ∀ (m : Nat) (s : PS) (p : Nat) (z : PS), p ≤ L → 2 * s.2.2.2.1 ≤ p → s.2.2.2.2 ≤ 8 → (∀ j, j ≤ s.1 → (s.2.1 j).length ≤ 100000) → prsB L tp m s p = .inr z → z.2.2.2.1 ≤ 400 ∧ z.2.2.2.2 ≤ 8 ∧ (z.2.1 0).length ≤ 100000
  | 0, s, p, z, h1, h2, h3, h4, h => by
    cases h
    exact ⟨by omega, h3, h4 0 (by omega)⟩
  | m + 1, s, p, z, h1, h2, h3, h4, h => by
    unfold prsB at h
    by_cases hp : p < L
    · rw [if_pos hp] at h
      rcases ho : tokB L tp s p with o | o
      · rw [ho] at h
        cases h
      · rw [ho] at h
        have a1 := tok_r ho hp
        have a2 := tok_w ho h3 h4
        have hb := fwd_le (q := isBl) (tp := tp) a1.2.2
        exact prs_w hL m o.1 _ z hb.2 (by omega) a2.1 a2.2 h
    · rw [if_neg hp] at h
      split at h
      · cases h
      · cases h
        exact ⟨by omega, h3, h4 0 (by omega)⟩
theorem wf_pat {w : TP} (hw : w.1 ≤ 400) {pt : PT} (hp : WfP pt) (fl : Int32) : WfP (opPat w pt fl).2.1 := by
  unfold opPat
  have hb := fwd_le (q := isBl) (L := w.1) (tp := w.2) (show 0 ≤ w.1 by omega)
  rcases ho : prsB w.1 w.2 (w.1 + 1) s0B (fwd isBl w.1 w.2 0) with f | z
  · exact hp
  · obtain ⟨a1, a2, a3⟩ := prs_w hw _ _ _ z hb.2 (by show 2 * 0 ≤ _; omega) (by show 0 ≤ 8; omega) (fun j _ => by show ([] : List Nat).length ≤ 100000; simp) ho
    exact ⟨a2, a3, a1⟩
theorem wf_ask {T : TS} {R : RS} (hR : R.1 ≤ 16) (t a : Int32) : (opAsk T R t a).2.1 ≤ 16 := by
  unfold opAsk
  split
  · exact hR
  · have h0 : ((0, R.2) : RS).1 ≤ 16 := by show 0 ≤ 16; omega
    split
    · show (csT T t.toInt.toNat (0, R.2)).1 ≤ 16
      unfold csT
      split
      · exact bg_le (bg_le h0 _) _
      · split
        · exact bg_le (bg_le (bg_le (bg_le (bg_le h0 _) _) _) _) _
        · split
          · exact bg_le h0 _
          · exact bg_le h0 _
    · show (mkT T t.toInt.toNat (0, R.2)).1 ≤ 16
      unfold mkT
      split
      · exact bg_le (bg_le h0 _) _
      · split
        · exact bg_le (bg_le (bg_le h0 _) _) _
        · exact bg_le h0 _
