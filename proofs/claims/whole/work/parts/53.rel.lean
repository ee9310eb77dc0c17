/-! the relation of both sides; each call in one form -/
section Keep
variable {h h' : HH} {SA : List Nat} {SF : List (Nat × Nat)} {w : SH} {P : TP} {E : ST2} {A : LA} {T : TS} {R : RS} {G : GL2} {W : WA} {pt : PT} {fl : Int32}
theorem k_SX (g : GSX w h) (f : Fr SA SF h h') (hA : ∀ k, k ∈ ([0, 1, 2, 3, 4] : List Nat) → k ∉ SA) (hF : ∀ q, q ∈ ([(0, 0), (0, 1), (1, 0), (1, 1), (1, 2)] : List (Nat × Nat)) → q ∉ SF) : GSX w h' := by
  obtain ⟨⟨e0, e1, e2⟩, a1, a2, a3, a4, a5, a6, a7⟩ := g
  refine ⟨⟨?_, ?_, ?_⟩, ?_, ?_, ?_, ?_, ?_, ?_, ?_⟩
  all_goals (first | exact (f.1 _ (hA _ (by decide))).trans (by assumption) | exact (f.2 _ _ (hF _ (by decide))).trans (by assumption))
theorem k_PX (g : GPX P h) (f : Fr SA SF h h') (hA : ∀ k, k ∈ ([0, 5] : List Nat) → k ∉ SA) (hF : ∀ q, q ∈ ([(0, 2), (0, 3)] : List (Nat × Nat)) → q ∉ SF) : GPX P h' := by
  obtain ⟨a0, a1, a2, a3⟩ := g
  refine ⟨?_, ?_, ?_, ?_⟩
  all_goals (first | exact (f.1 _ (hA _ (by decide))).trans (by assumption) | exact (f.2 _ _ (hF _ (by decide))).trans (by assumption))
theorem k_EX (g : GEX E h) (f : Fr SA SF h h') (hA : ∀ k, k ∈ ([0, 36, 37] : List Nat) → k ∉ SA) (hF : ∀ q, q ∈ ([(0, 9), (0, 10)] : List (Nat × Nat)) → q ∉ SF) : GEX E h' := by
  obtain ⟨a0, a1, a2, a3, a4⟩ := g
  refine ⟨?_, ?_, ?_, ?_, ?_⟩
  all_goals (first | exact (f.1 _ (hA _ (by decide))).trans (by assumption) | exact (f.2 _ _ (hF _ (by decide))).trans (by assumption))
theorem k_LX (g : GLX A h) (f : Fr SA SF h h') (hA : ∀ k, k ∈ ([0] : List Nat) → k ∉ SA) (hF : ∀ q, q ∈ ([(0, 11), (0, 12)] : List (Nat × Nat)) → q ∉ SF) : GLX A h' := by
  obtain ⟨a0, a1, a2⟩ := g
  refine ⟨?_, ?_, ?_⟩
  all_goals (first | exact (f.1 _ (hA _ (by decide))).trans (by assumption) | exact (f.2 _ _ (hF _ (by decide))).trans (by assumption))
theorem k_TX (g : GTX T h) (f : Fr SA SF h h') (hA : ∀ k, k ∈ ([0, 27, 28, 29, 30, 31, 32, 33] : List Nat) → k ∉ SA) (hF : ∀ q, q ∈ ([(0, 7), (27, 0), (27, 1), (27, 2), (27, 3), (27, 4), (27, 5), (27, 6)] : List (Nat × Nat)) → q ∉ SF) : GTX T h' := by
  obtain ⟨⟨e0, e1⟩, a1, a2, a3, a4, a5, a6, a7, a8, a9, a10, a11, a12, a13, a14⟩ := g
  refine ⟨⟨?_, ?_⟩, ?_, ?_, ?_, ?_, ?_, ?_, ?_, ?_, ?_, ?_, ?_, ?_, ?_, ?_⟩
  all_goals (first | exact (f.1 _ (hA _ (by decide))).trans (by assumption) | exact (f.2 _ _ (hF _ (by decide))).trans (by assumption))
theorem k_RX (g : GRX R h) (f : Fr SA SF h h') (hA : ∀ k, k ∈ ([34, 35] : List Nat) → k ∉ SA) (hF : ∀ q, q ∈ ([(34, 0), (34, 1), (34, 2)] : List (Nat × Nat)) → q ∉ SF) : GRX R h' := by
  obtain ⟨a0, a1, a2, a3, a4⟩ := g
  refine ⟨?_, ?_, ?_, ?_, ?_⟩
  all_goals (first | exact (f.1 _ (hA _ (by decide))).trans (by assumption) | exact (f.2 _ _ (hF _ (by decide))).trans (by assumption))
theorem k_WX (g : GWX W h) (f : Fr SA SF h h') (hA : ∀ k, k ∈ ([0, 40, 41, 42, 43] : List Nat) → k ∉ SA) (hF : ∀ q, q ∈ ([(0, 14), (0, 15), (40, 0), (42, 0)] : List (Nat × Nat)) → q ∉ SF) : GWX W h' := by
  obtain ⟨a0, a1, a2, a3, a4, a5, a6, a7, a8⟩ := g
  refine ⟨?_, ?_, ?_, ?_, ?_, ?_, ?_, ?_, ?_⟩
  all_goals (first | exact (f.1 _ (hA _ (by decide))).trans (by assumption) | exact (f.2 _ _ (hF _ (by decide))).trans (by assumption))
theorem k_PM (g : GPM P h) (f : Fr SA SF h h') (hA : ∀ k, k ∈ ([44, 48] : List Nat) → k ∉ SA) (hF : ∀ q, q ∈ ([(44, 5), (44, 6)] : List (Nat × Nat)) → q ∉ SF) : GPM P h' := by
  obtain ⟨a0, a1, a2, a3⟩ := g
  refine ⟨?_, ?_, ?_, ?_⟩
  all_goals (first | exact (f.1 _ (hA _ (by decide))).trans (by assumption) | exact (f.2 _ _ (hF _ (by decide))).trans (by assumption))
theorem k_EM (g : GEM E h) (f : Fr SA SF h h') (hA : ∀ k, k ∈ ([44, 64, 65] : List Nat) → k ∉ SA) (hF : ∀ q, q ∈ ([(44, 32), (44, 33)] : List (Nat × Nat)) → q ∉ SF) : GEM E h' := by
  obtain ⟨a0, a1, a2, a3, a4⟩ := g
  refine ⟨?_, ?_, ?_, ?_, ?_⟩
  all_goals (first | exact (f.1 _ (hA _ (by decide))).trans (by assumption) | exact (f.2 _ _ (hF _ (by decide))).trans (by assumption))
theorem k_LM (g : GLM A h) (f : Fr SA SF h h') (hA : ∀ k, k ∈ ([44] : List Nat) → k ∉ SA) (hF : ∀ q, q ∈ ([(44, 34), (44, 35)] : List (Nat × Nat)) → q ∉ SF) : GLM A h' := by
  obtain ⟨a0, a1, a2⟩ := g
  refine ⟨?_, ?_, ?_⟩
  all_goals (first | exact (f.1 _ (hA _ (by decide))).trans (by assumption) | exact (f.2 _ _ (hF _ (by decide))).trans (by assumption))
theorem k_TM (g : GTM T h) (f : Fr SA SF h h') (hA : ∀ k, k ∈ ([44, 57, 58, 59, 60, 61, 62] : List Nat) → k ∉ SA) (hF : ∀ q, q ∈ ([(44, 23), (44, 24), (44, 25), (44, 26), (44, 27), (44, 28), (44, 29)] : List (Nat × Nat)) → q ∉ SF) : GTM T h' := by
  obtain ⟨a1, a2, a3, a4, a5, a6, a7, a8, a9, a10, a11, a12, a13, a14⟩ := g
  refine ⟨?_, ?_, ?_, ?_, ?_, ?_, ?_, ?_, ?_, ?_, ?_, ?_, ?_, ?_⟩
  all_goals (first | exact (f.1 _ (hA _ (by decide))).trans (by assumption) | exact (f.2 _ _ (hF _ (by decide))).trans (by assumption))
theorem k_RM (g : GRM R h) (f : Fr SA SF h h') (hA : ∀ k, k ∈ ([44, 63] : List Nat) → k ∉ SA) (hF : ∀ q, q ∈ ([(44, 30), (44, 31)] : List (Nat × Nat)) → q ∉ SF) : GRM R h' := by
  obtain ⟨a0, a1, a2, a3⟩ := g
  refine ⟨?_, ?_, ?_, ?_⟩
  all_goals (first | exact (f.1 _ (hA _ (by decide))).trans (by assumption) | exact (f.2 _ _ (hF _ (by decide))).trans (by assumption))
theorem k_OM (g : GOM G h) (f : Fr SA SF h h') (hA : ∀ k, k ∈ ([44, 66, 67, 68, 69, 70, 71] : List Nat) → k ∉ SA) (hF : ∀ q, q ∈ ([(44, 36), (44, 37), (44, 38), (44, 39), (44, 40), (44, 41), (44, 42), (44, 43)] : List (Nat × Nat)) → q ∉ SF) : GOM G h' := by
  obtain ⟨a1, a2, a3, ⟨a4, a5, a6, a7, a8, a9⟩, b1, b2, b3, b4, b5, b6⟩ := g
  refine ⟨?_, ?_, ?_, ⟨?_, ?_, ?_, ?_, ?_, ?_⟩, ?_, ?_, ?_, ?_, ?_, ?_⟩
  all_goals (first | exact (f.1 _ (hA _ (by decide))).trans (by assumption) | exact (f.2 _ _ (hF _ (by decide))).trans (by assumption))
theorem k_OX (g : GOX G h) (f : Fr SA SF h h') (hA : ∀ k, k ∈ ([0, 38, 39] : List Nat) → k ∉ SA) (hF : ∀ q, q ∈ ([(0, 13), (38, 0), (38, 1), (38, 2)] : List (Nat × Nat)) → q ∉ SF) : GOX G h' := by
  obtain ⟨fa, ⟨e0, e1⟩, ⟨a1, a2, a3, a4, a5⟩, hfa⟩ := g
  refine ⟨fa, ⟨?_, ?_⟩, ⟨?_, ?_, ?_, ?_, ?_⟩, hfa⟩
  all_goals (first | exact (f.1 _ (hA _ (by decide))).trans (by assumption) | exact (f.2 _ _ (hF _ (by decide))).trans (by assumption))
theorem k_SXs {st : Int32} (g : GSX w h) (f : Fr SA SF h h') (hA : ∀ k, k ∈ ([0, 1, 2, 3, 4] : List Nat) → k ∉ SA) (hF : ∀ q, q ∈ ([(0, 0), (1, 0), (1, 1), (1, 2)] : List (Nat × Nat)) → q ∉ SF) (h1 : gF h' 0 1 = .int st) : GSX (st, w.2) h' := by
  obtain ⟨⟨e0, e1, e2⟩, a1, a2, a3, a4, a5, a6, a7⟩ := g
  refine ⟨⟨?_, ?_, h1⟩, ?_, ?_, ?_, ?_, ?_, ?_, ?_⟩
  all_goals (first | exact (f.1 _ (hA _ (by decide))).trans (by assumption) | exact (f.2 _ _ (hF _ (by decide))).trans (by assumption))
theorem k_SMs {st : Int32} (g : GSM w h) (f : Fr SA SF h h') (hA : ∀ k, k ∈ ([44, 45, 46, 47] : List Nat) → k ∉ SA) (hF : ∀ q, q ∈ ([(44, 2), (44, 3), (44, 4)] : List (Nat × Nat)) → q ∉ SF) (h1 : gF h' 44 1 = .int st) : GSM (st, w.2) h' := by
  obtain ⟨ln, sz, it, e0, ⟨a1, a2, a3, a4, a5, a6, a7⟩, hE⟩ := g
  refine ⟨ln, sz, it, h1, ⟨?_, ?_, ?_, ?_, ?_, ?_, ?_⟩, hE⟩
  all_goals (first | exact (f.1 _ (hA _ (by decide))).trans (by assumption) | exact (f.2 _ _ (hF _ (by decide))).trans (by assumption))
theorem k_SM (g : GSM w h) (f : Fr SA SF h h') (hA : ∀ k, k ∈ ([44, 45, 46, 47] : List Nat) → k ∉ SA) (hF : ∀ q, q ∈ ([(44, 1), (44, 2), (44, 3), (44, 4)] : List (Nat × Nat)) → q ∉ SF) : GSM w h' := by
  obtain ⟨ln, sz, it, e0, ⟨a1, a2, a3, a4, a5, a6, a7⟩, hE⟩ := g
  refine ⟨ln, sz, it, ?_, ⟨?_, ?_, ?_, ?_, ?_, ?_, ?_⟩, hE⟩
  all_goals (first | exact (f.1 _ (hA _ (by decide))).trans (by assumption) | exact (f.2 _ _ (hF _ (by decide))).trans (by assumption))
theorem k_WM (g : GWM W h) (f : Fr SA SF h h') (hA : ∀ k, k ∈ ([44, 73, 74] : List Nat) → k ∉ SA) (hF : ∀ q, q ∈ ([(44, 46), (44, 47)] : List (Nat × Nat)) → q ∉ SF) : GWM W h' := by
  obtain ⟨e0, e1, e2, ⟨f4, e3⟩, e4⟩ := g
  refine ⟨?_, ?_, ?_, ⟨f4, ?_⟩, ?_⟩
  all_goals (first | exact (f.1 _ (hA _ (by decide))).trans (by assumption) | exact (f.2 _ _ (hF _ (by decide))).trans (by assumption))
theorem k_QM (g : GQM pt fl h) (f : Fr SA SF h h') (hA : ∀ k, k ∈ ([44, 49, 50, 51, 52, 53, 54, 55, 56] : List Nat) → k ∉ SA) (hF : ∀ q, q ∈ ([(44, 7), (44, 12), (44, 13), (44, 14), (44, 15), (44, 16), (44, 17), (44, 18), (44, 19), (44, 20), (44, 21)] : List (Nat × Nat)) → q ∉ SF) : GQM pt fl h' := by
  obtain ⟨e0, e1, ⟨c1, c2, c3, c4, c5, c6, c7, c8⟩, sd, th, A, op, ot, ins, hsd, d1, d2, ⟨b1, b2, b3, b4, b5, b6, b7, b8⟩, z⟩ := g
  refine ⟨?_, ?_, ⟨?_, ?_, ?_, ?_, ?_, ?_, ?_, ?_⟩, sd, th, A, op, ot, ins, hsd, ?_, ?_, ⟨?_, ?_, ?_, ?_, ?_, ?_, ?_, ?_⟩, z⟩
  all_goals (first | exact (f.1 _ (hA _ (by decide))).trans (by assumption) | exact (f.2 _ _ (hF _ (by decide))).trans (by assumption))
theorem stx_fj {I sz : Nat} {ws pn nl : Int32} {tx rl lk tm wi lo hi tu : Nat → Int32} (hs : StX h I tx rl lk tm wi lo hi tu sz ws pn nl) (hA : ∀ k, I ≤ k → k ≤ I + 8 → gA h' k = gA h k) (hF : ∀ j, j ≤ 12 → gF h' I j = gF h I j) : StX h' I tx rl lk tm wi lo hi tu sz ws pn nl := by
  obtain ⟨e0, e1, e2, e3, e4, e5, e6, e7, e8, a1, a2, a3, a4, a5, a6, a7, a8, f8, f9, f10, f11⟩ := hs
  refine ⟨?_, ?_, ?_, ?_, ?_, ?_, ?_, ?_, ?_, ?_, ?_, ?_, ?_, ?_, ?_, ?_, ?_, ?_, ?_, ?_, ?_⟩
  all_goals (first | (rw [hF _ (by omega)]; assumption) | (rw [hA _ (by omega) (by omega)]; assumption))
theorem k_QX (g : GQX pt fl h) (f : Fr SA SF h h') (hA : ∀ k, k ∈ ([0, 6, 7, 8, 9, 10, 11, 12, 13, 14, 15, 16, 17, 18, 19, 20, 21, 22, 23, 24, 25, 26] : List Nat) → k ∉ SA) (hF : ∀ q, q ∈ ([(0, 4), (0, 5), (0, 6), (6, 0), (6, 1), (6, 2), (6, 3), (6, 4), (6, 5), (6, 6), (7, 0), (7, 1), (7, 2), (7, 3), (7, 4), (7, 5), (7, 6), (7, 7), (7, 8), (7, 9), (7, 10), (7, 11), (7, 12), (18, 0), (18, 1), (18, 2), (18, 3), (18, 4), (18, 5), (18, 6), (18, 7), (18, 8), (18, 9), (18, 10), (18, 11), (18, 12)] : List (Nat × Nat)) → q ∉ SF) : GQX pt fl h' := by
  obtain ⟨e0, q4, q6, P, I, hPI, q5, ⟨tx, rl, lk, tm, wi, lo, hi, tu, sz, ws, Ls, f0, hs, h12, hr⟩, hI, r1, r2, r6, r7, ⟨cn, bg, r8, r9⟩, tx', rl', lk', tm', wi', lo', hi', tu', sz', ws', pn', nl', hs'⟩ := g
  have cA : ∀ k, 6 ≤ k → k ≤ 26 → gA h' k = gA h k := fun k h1 h2 => f.1 k (hA k (by simp; omega))
  have cF : ∀ k j, k = 7 ∨ k = 18 → j ≤ 12 → gF h' k j = gF h k j := fun k j h1 h2 => f.2 k j (hF (k, j) (by
    rcases h1 with rfl | rfl
    · simp; omega
    · simp; omega))
  refine ⟨?_, ?_, ?_, P, I, hPI, ?_, ⟨tx, rl, lk, tm, wi, lo, hi, tu, sz, ws, Ls, f0, stx_fj hs (fun k _ _ => cA k (by omega) (by omega)) (fun j hj => cF P j (by omega) hj), (cF P 12 (by omega) (by omega)).trans h12, hr⟩, hI, ?_, ?_, ?_, ?_, ⟨cn, bg, ?_, ?_⟩, tx', rl', lk', tm', wi', lo', hi', tu', sz', ws', pn', nl', stx_fj hs' (fun k _ _ => cA k (by omega) (by omega)) (fun j hj => cF I j (by omega) hj)⟩
  all_goals (first | exact (f.1 _ (hA _ (by decide))).trans (by assumption) | exact (f.2 _ _ (hF _ (by decide))).trans (by assumption))
theorem k_72 (g : gF h 44 45 = .ref 72 ∧ ∃ lf, gA h 72 = aJ 1024 lf ∧ lf 0 = 0) (f : Fr SA SF h h') (hA : ∀ k, k ∈ ([72] : List Nat) → k ∉ SA) (hF : ∀ q, q ∈ ([(44, 45)] : List (Nat × Nat)) → q ∉ SF) : gF h' 44 45 = .ref 72 ∧ ∃ lf, gA h' 72 = aJ 1024 lf ∧ lf 0 = 0 := by
  obtain ⟨e0, lf, e1, e2⟩ := g
  exact ⟨(f.2 _ _ (hF _ (by decide))).trans e0, lf, (f.1 _ (hA _ (by decide))).trans e1, e2⟩
theorem k_08 (g : gF h 0 8 = .ref 34) (f : Fr SA SF h h') (hF : ∀ q, q ∈ ([(0, 8)] : List (Nat × Nat)) → q ∉ SF) : gF h' 0 8 = .ref 34 := (f.2 _ _ (hF _ (by decide))).trans g
theorem pcx_of (g : GQX pt fl h) : PcX (nI pt.1) (nI pt.2.1) h := by
  obtain ⟨e0, q4, q6, P, I, hPI, q5, ⟨tx, rl, lk, tm, wi, lo, hi, tu, sz, ws, Ls, f0, hs, -⟩, -⟩ := g
  obtain ⟨a0, -, -, -, -, -, -, -, -, -, -, -, -, -, -, -, -, -, -, g10, g11⟩ := hs
  exact ⟨P, q5, a0, g10, g11⟩
theorem pcm_of (g : GQM pt fl h) : PcM (nI pt.1) (nI pt.2.1) h := by
  obtain ⟨e0, e1, ⟨c1, c2, -⟩, sd, th, A, op, ot, ins, hsd, d1, d2, ⟨b1, b2, -⟩, z0, z1⟩ := g
  exact ⟨c1, c2, th, sd, A.1, A.2.1, d2, d1, hsd, b1, b2, fun q => ⟨by rw [(z0 q).1]; rfl, by rw [(z0 q).2.1]; rfl⟩, fun q => ⟨(z1 q).1.symm, (z1 q).2.1.symm⟩⟩
end Keep
def RX (w : SH) (P : TP) (E : ST2) (A : LA) (T : TS) (R : RS) (G : GL2) (W : WA) (pt : PT) (fl : Int32) (h : HH) : Prop := GSX w h ∧ GPX P h ∧ GEX E h ∧ GLX A h ∧ GTX T h ∧ (GRX R h ∧ gF h 0 8 = .ref 34) ∧ GOX G h ∧ GWX W h ∧ GQX pt fl h
def RM (w : SH) (P : TP) (E : ST2) (A : LA) (T : TS) (R : RS) (G : GL2) (W : WA) (pt : PT) (fl : Int32) (h : HH) : Prop := GSM w h ∧ GPM P h ∧ GEM E h ∧ GLM A h ∧ GTM T h ∧ GRM R h ∧ GOM G h ∧ GWM W h ∧ GQM pt fl h ∧ (gF h 44 45 = .ref 72 ∧ ∃ lf, gA h 72 = aJ 1024 lf ∧ lf 0 = 0)
def WF (w : SH) (P : TP) (A : LA) (T : TS) (R : RS) (G : GL2) (W : WA) (pt : PT) : Prop := WfS w ∧ P.1 ≤ 400 ∧ WfA A ∧ WfT T ∧ R.1 ≤ 16 ∧ WfG G ∧ WfW W ∧ WfP pt
def FrLo (h h' : HH) : Prop := (∀ k, 44 ≤ k → gA h' k = gA h k) ∧ ∀ k j, 44 ≤ k → gF h' k j = gF h k j
def FrHi (h h' : HH) : Prop := (∀ k, k < 44 → gA h' k = gA h k) ∧ ∀ k j, k < 44 → gF h' k j = gF h k j
theorem fr_lo {h h' : HH} {SA : List Nat} {SF : List (Nat × Nat)} (f : Fr SA SF h h') (hA : ∀ k, k ∈ SA → k < 44) (hF : ∀ q, q ∈ SF → q.1 < 44) : FrLo h h' := ⟨fun k hk => f.1 k (fun q => by have := hA k q; omega), fun k j hk => f.2 k j (fun q => by have := hF _ q; dsimp only at this; omega)⟩
theorem fr_hi {h h' : HH} {SA : List Nat} {SF : List (Nat × Nat)} (f : Fr SA SF h h') (hA : ∀ k, k ∈ SA → 44 ≤ k) (hF : ∀ q, q ∈ SF → 44 ≤ q.1) : FrHi h h' := ⟨fun k hk => f.1 k (fun q => by have := hA k q; omega), fun k j hk => f.2 k j (fun q => by have := hF _ q; dsimp only at this; omega)⟩
theorem gsm_1 {w : SH} {h : HH} (g : GSM w h) : gF h 44 1 = .int w.1 := by
  obtain ⟨ln, sz, it, e0, -⟩ := g
  exact e0
section Both
variable {h h' : HH} {w : SH} {P : TP} {E : ST2} {A : LA} {T : TS} {R : RS} {G : GL2} {W : WA} {pt : PT} {fl : Int32}
theorem rm_lo (g : RM w P E A T R G W pt fl h) (f : FrLo h h') : RM w P E A T R G W pt fl h' := by
  obtain ⟨⟨ln, sz, it, e0, ⟨a1, a2, a3, a4, a5, a6, a7⟩, hE⟩, ⟨p0, p1, p2, p3⟩, ⟨s0, s1, s2, s3, s4⟩, ⟨l0, l1, l2⟩, ⟨t1, t2, t3, t4, t5, t6, t7, t8, t9, t10, t11, t12, t13, t14⟩, ⟨r0, r1, r2, r3⟩, ⟨o1, o2, o3, ⟨o4, o5, o6, o7, o8, o9⟩, u1, u2, u3, u4, u5, u6⟩, ⟨w0, w1, w2, ⟨wf, w3⟩, w4⟩, ⟨g0, g1, ⟨c1, c2, c3, c4, c5, c6, c7, c8⟩, sd, th, AA, op, ot, ins, hsd, d1, d2, ⟨b1, b2, b3, b4, b5, b6, b7, b8⟩, z⟩, x0, lf, x1, x2⟩ := g
  refine ⟨⟨ln, sz, it, ?_, ⟨?_, ?_, ?_, ?_, ?_, ?_, ?_⟩, hE⟩, ⟨?_, ?_, ?_, ?_⟩, ⟨?_, ?_, ?_, ?_, ?_⟩, ⟨?_, ?_, ?_⟩, ⟨?_, ?_, ?_, ?_, ?_, ?_, ?_, ?_, ?_, ?_, ?_, ?_, ?_, ?_⟩, ⟨?_, ?_, ?_, ?_⟩, ⟨?_, ?_, ?_, ⟨?_, ?_, ?_, ?_, ?_, ?_⟩, ?_, ?_, ?_, ?_, ?_, ?_⟩, ⟨?_, ?_, ?_, ⟨wf, ?_⟩, ?_⟩, ⟨?_, ?_, ⟨?_, ?_, ?_, ?_, ?_, ?_, ?_, ?_⟩, sd, th, AA, op, ot, ins, hsd, ?_, ?_, ⟨?_, ?_, ?_, ?_, ?_, ?_, ?_, ?_⟩, z⟩, ?_, lf, ?_, x2⟩
  all_goals (first | exact (f.1 _ (by decide)).trans (by assumption) | exact (f.2 _ _ (by decide)).trans (by assumption))
theorem rx_hi (g : RX w P E A T R G W pt fl h) (f : FrHi h h') : RX w P E A T R G W pt fl h' := by
  obtain ⟨⟨⟨s0, s1, s2⟩, a1, a2, a3, a4, a5, a6, a7⟩, ⟨p0, p1, p2, p3⟩, ⟨q0, q1, q2, q3, q4⟩, ⟨l0, l1, l2⟩, ⟨⟨y0, y1⟩, t1, t2, t3, t4, t5, t6, t7, t8, t9, t10, t11, t12, t13, t14⟩, ⟨⟨r0, r1, r2, r3, r4⟩, r8⟩, ⟨fa, ⟨o0, o1⟩, ⟨u1, u2, u3, u4, u5⟩, hfa⟩, ⟨w0, w1, w2, w3, w4, w5, w6, w7, w8⟩, ⟨g0, g4, g6, PP, I, hPI, g5, ⟨tx, rl, lk, tm, wi, lo, hi, tu, sz, ws, Ls, f0, hs, h12, hr⟩, hI, c1, c2, c6, c7, ⟨cn, bg, c8, c9⟩, tx', rl', lk', tm', wi', lo', hi', tu', sz', ws', pn', nl', hs'⟩⟩ := g
  refine ⟨⟨⟨?_, ?_, ?_⟩, ?_, ?_, ?_, ?_, ?_, ?_, ?_⟩, ⟨?_, ?_, ?_, ?_⟩, ⟨?_, ?_, ?_, ?_, ?_⟩, ⟨?_, ?_, ?_⟩, ⟨⟨?_, ?_⟩, ?_, ?_, ?_, ?_, ?_, ?_, ?_, ?_, ?_, ?_, ?_, ?_, ?_, ?_⟩, ⟨⟨?_, ?_, ?_, ?_, ?_⟩, ?_⟩, ⟨fa, ⟨?_, ?_⟩, ⟨?_, ?_, ?_, ?_, ?_⟩, hfa⟩, ⟨?_, ?_, ?_, ?_, ?_, ?_, ?_, ?_, ?_⟩, ⟨?_, ?_, ?_, PP, I, hPI, ?_, ⟨tx, rl, lk, tm, wi, lo, hi, tu, sz, ws, Ls, f0, stx_fj hs (fun k _ _ => f.1 k (by omega)) (fun j hj => f.2 PP j (by omega)), (f.2 PP 12 (by omega)).trans h12, hr⟩, hI, ?_, ?_, ?_, ?_, ⟨cn, bg, ?_, ?_⟩, tx', rl', lk', tm', wi', lo', hi', tu', sz', ws', pn', nl', stx_fj hs' (fun k _ _ => f.1 k (by omega)) (fun j hj => f.2 I j (by omega))⟩⟩
  all_goals (first | exact (f.1 _ (by decide)).trans (by assumption) | exact (f.2 _ _ (by decide)).trans (by assumption))
theorem xo_sheet {h : HH} (hf : WF w P A T R G W pt) (hx : RX w P E A T R G W pt fl h) (a : Int32) (b : Int32) (c : Int32) : CT mX7_sheet 2 0 0 [.ref 0, .int a, .int b, .int c] h (fun r h' => r = some (.int ((opSheet w a b c).1)) ∧ RX ((opSheet w a b c).2) P E A T R G W pt fl h' ∧ FrLo h h') := by
  obtain ⟨gs, gp, ge, gl, gt, ⟨gr, g8⟩, go, gw, gq⟩ := hx
  obtain ⟨fS, fP, fA, fT, fR, fG, fW, fQ⟩ := hf
  exact (x_sheet fS gs a b c).mono (fun r h' ⟨e, g, f⟩ => ⟨e, ⟨g, k_PX gp f (by decide) (by decide), k_EX ge f (by decide) (by decide), k_LX gl f (by decide) (by decide), k_TX gt f (by decide) (by decide), ⟨k_RX gr f (by decide) (by decide), k_08 g8 f (by decide)⟩, k_OX go f (by decide) (by decide), k_WX gw f (by decide) (by decide), k_QX gq f (by decide) (by decide)⟩, fr_lo f (by decide) (by decide)⟩)
theorem mo_sheet {h : HH} (hf : WF w P A T R G W pt) (hx : RM w P E A T R G W pt fl h) (a : Int32) (b : Int32) (c : Int32) : CT mX8_sheet 2 0 0 [.ref 44, .int a, .int b, .int c] h (fun r h' => r = some (.int ((opSheet w a b c).1)) ∧ RM ((opSheet w a b c).2) P E A T R G W pt fl h' ∧ FrHi h h') := by
  obtain ⟨gs, gp, ge, gl, gt, gr, go, gw, gq, g72⟩ := hx
  obtain ⟨fS, fP, fA, fT, fR, fG, fW, fQ⟩ := hf
  exact (m_sheet fS gs a b c).mono (fun r h' ⟨e, g, f⟩ => ⟨e, ⟨g, k_PM gp f (by decide) (by decide), k_EM ge f (by decide) (by decide), k_LM gl f (by decide) (by decide), k_TM gt f (by decide) (by decide), k_RM gr f (by decide) (by decide), k_OM go f (by decide) (by decide), k_WM gw f (by decide) (by decide), k_QM gq f (by decide) (by decide), k_72 g72 f (by decide) (by decide)⟩, fr_hi f (by decide) (by decide)⟩)
theorem xo_set {h : HH} (hf : WF w P A T R G W pt) (hx : RX w P E A T R G W pt fl h) (a : Int32) (b : Int32) (c : Int32) : CT mX7_set 2 0 0 [.ref 0, .int a, .int b, .int c] h (fun r h' => r = some (.int ((opSet w a b c).1)) ∧ RX ((opSet w a b c).2) P E A T R G W pt fl h' ∧ FrLo h h') := by
  obtain ⟨gs, gp, ge, gl, gt, ⟨gr, g8⟩, go, gw, gq⟩ := hx
  obtain ⟨fS, fP, fA, fT, fR, fG, fW, fQ⟩ := hf
  exact (x_set fS gs a b c).mono (fun r h' ⟨e, g, f⟩ => ⟨e, ⟨g, k_PX gp f (by decide) (by decide), k_EX ge f (by decide) (by decide), k_LX gl f (by decide) (by decide), k_TX gt f (by decide) (by decide), ⟨k_RX gr f (by decide) (by decide), k_08 g8 f (by decide)⟩, k_OX go f (by decide) (by decide), k_WX gw f (by decide) (by decide), k_QX gq f (by decide) (by decide)⟩, fr_lo f (by decide) (by decide)⟩)
theorem mo_set {h : HH} (hf : WF w P A T R G W pt) (hx : RM w P E A T R G W pt fl h) (a : Int32) (b : Int32) (c : Int32) : CT mX8_set 2 0 0 [.ref 44, .int a, .int b, .int c] h (fun r h' => r = some (.int ((opSet w a b c).1)) ∧ RM ((opSet w a b c).2) P E A T R G W pt fl h' ∧ FrHi h h') := by
  obtain ⟨gs, gp, ge, gl, gt, gr, go, gw, gq, g72⟩ := hx
  obtain ⟨fS, fP, fA, fT, fR, fG, fW, fQ⟩ := hf
  exact (m_set fS gs a b c).mono (fun r h' ⟨e, g, f⟩ => ⟨e, ⟨g, k_PM gp f (by decide) (by decide), k_EM ge f (by decide) (by decide), k_LM gl f (by decide) (by decide), k_TM gt f (by decide) (by decide), k_RM gr f (by decide) (by decide), k_OM go f (by decide) (by decide), k_WM gw f (by decide) (by decide), k_QM gq f (by decide) (by decide), k_72 g72 f (by decide) (by decide)⟩, fr_hi f (by decide) (by decide)⟩)
theorem xo_copy {h : HH} (hf : WF w P A T R G W pt) (hx : RX w P E A T R G W pt fl h) (a : Int32) (b : Int32) (c : Int32) (d : Int32) (n : Int32) : CT mX7_copy 2 0 0 [.ref 0, .int a, .int b, .int c, .int d, .int n] h (fun r h' => r = some (.int ((opCopy w a b c d n).1)) ∧ RX ((opCopy w a b c d n).2) P E A T R G W pt fl h' ∧ FrLo h h') := by
  obtain ⟨gs, gp, ge, gl, gt, ⟨gr, g8⟩, go, gw, gq⟩ := hx
  obtain ⟨fS, fP, fA, fT, fR, fG, fW, fQ⟩ := hf
  exact (x_copy fS gs a b c d n).mono (fun r h' ⟨e, g, f⟩ => ⟨e, ⟨g, k_PX gp f (by decide) (by decide), k_EX ge f (by decide) (by decide), k_LX gl f (by decide) (by decide), k_TX gt f (by decide) (by decide), ⟨k_RX gr f (by decide) (by decide), k_08 g8 f (by decide)⟩, k_OX go f (by decide) (by decide), k_WX gw f (by decide) (by decide), k_QX gq f (by decide) (by decide)⟩, fr_lo f (by decide) (by decide)⟩)
theorem mo_copy {h : HH} (hf : WF w P A T R G W pt) (hx : RM w P E A T R G W pt fl h) (a : Int32) (b : Int32) (c : Int32) (d : Int32) (n : Int32) : CT mX8_copy 2 0 0 [.ref 44, .int a, .int b, .int c, .int d, .int n] h (fun r h' => r = some (.int ((opCopy w a b c d n).1)) ∧ RM ((opCopy w a b c d n).2) P E A T R G W pt fl h' ∧ FrHi h h') := by
  obtain ⟨gs, gp, ge, gl, gt, gr, go, gw, gq, g72⟩ := hx
  obtain ⟨fS, fP, fA, fT, fR, fG, fW, fQ⟩ := hf
  exact (m_copy fS gs a b c d n).mono (fun r h' ⟨e, g, f⟩ => ⟨e, ⟨g, k_PM gp f (by decide) (by decide), k_EM ge f (by decide) (by decide), k_LM gl f (by decide) (by decide), k_TM gt f (by decide) (by decide), k_RM gr f (by decide) (by decide), k_OM go f (by decide) (by decide), k_WM gw f (by decide) (by decide), k_QM gq f (by decide) (by decide), k_72 g72 f (by decide) (by decide)⟩, fr_hi f (by decide) (by decide)⟩)
theorem xo_drop {h : HH} (hf : WF w P A T R G W pt) (hx : RX w P E A T R G W pt fl h) (a : Int32) : CT mX7_drop 2 0 0 [.ref 0, .int a] h (fun r h' => r = some (.int ((opDrop w a).1)) ∧ RX ((opDrop w a).2) P E A T R G W pt fl h' ∧ FrLo h h') := by
  obtain ⟨gs, gp, ge, gl, gt, ⟨gr, g8⟩, go, gw, gq⟩ := hx
  obtain ⟨fS, fP, fA, fT, fR, fG, fW, fQ⟩ := hf
  exact (x_drop fS gs a).mono (fun r h' ⟨e, g, f⟩ => ⟨e, ⟨g, k_PX gp f (by decide) (by decide), k_EX ge f (by decide) (by decide), k_LX gl f (by decide) (by decide), k_TX gt f (by decide) (by decide), ⟨k_RX gr f (by decide) (by decide), k_08 g8 f (by decide)⟩, k_OX go f (by decide) (by decide), k_WX gw f (by decide) (by decide), k_QX gq f (by decide) (by decide)⟩, fr_lo f (by decide) (by decide)⟩)
theorem mo_drop {h : HH} (hf : WF w P A T R G W pt) (hx : RM w P E A T R G W pt fl h) (a : Int32) : CT mX8_drop 2 0 0 [.ref 44, .int a] h (fun r h' => r = some (.int ((opDrop w a).1)) ∧ RM ((opDrop w a).2) P E A T R G W pt fl h' ∧ FrHi h h') := by
  obtain ⟨gs, gp, ge, gl, gt, gr, go, gw, gq, g72⟩ := hx
  obtain ⟨fS, fP, fA, fT, fR, fG, fW, fQ⟩ := hf
  exact (m_drop fS gs a).mono (fun r h' ⟨e, g, f⟩ => ⟨e, ⟨g, k_PM gp f (by decide) (by decide), k_EM ge f (by decide) (by decide), k_LM gl f (by decide) (by decide), k_TM gt f (by decide) (by decide), k_RM gr f (by decide) (by decide), k_OM go f (by decide) (by decide), k_WM gw f (by decide) (by decide), k_QM gq f (by decide) (by decide), k_72 g72 f (by decide) (by decide)⟩, fr_hi f (by decide) (by decide)⟩)
theorem xo_feed {h : HH} (hf : WF w P A T R G W pt) (hx : RX w P E A T R G W pt fl h) (a : Int64) (b : Int32) : CT mX7_feed 0 0 0 [.ref 0, .long a, .int b] h (fun r h' => r = some (.int ((opFeed P a b).1)) ∧ RX w ((opFeed P a b).2) E A T R G W pt fl h' ∧ FrLo h h') := by
  obtain ⟨gs, gp, ge, gl, gt, ⟨gr, g8⟩, go, gw, gq⟩ := hx
  obtain ⟨fS, fP, fA, fT, fR, fG, fW, fQ⟩ := hf
  exact (x_feed fP gp a b).mono (fun r h' ⟨e, g, f⟩ => ⟨e, ⟨k_SX gs f (by decide) (by decide), g, k_EX ge f (by decide) (by decide), k_LX gl f (by decide) (by decide), k_TX gt f (by decide) (by decide), ⟨k_RX gr f (by decide) (by decide), k_08 g8 f (by decide)⟩, k_OX go f (by decide) (by decide), k_WX gw f (by decide) (by decide), k_QX gq f (by decide) (by decide)⟩, fr_lo f (by decide) (by decide)⟩)
theorem mo_feed {h : HH} (hf : WF w P A T R G W pt) (hx : RM w P E A T R G W pt fl h) (a : Int64) (b : Int32) : CT mX8_feed 1 0 0 [.ref 44, .long a, .int b] h (fun r h' => r = some (.int ((opFeed P a b).1)) ∧ RM w ((opFeed P a b).2) E A T R G W pt fl h' ∧ FrHi h h') := by
  obtain ⟨gs, gp, ge, gl, gt, gr, go, gw, gq, g72⟩ := hx
  obtain ⟨fS, fP, fA, fT, fR, fG, fW, fQ⟩ := hf
  exact (m_feed fP gp a b).mono (fun r h' ⟨e, g, f⟩ => ⟨e, ⟨k_SM gs f (by decide) (by decide), g, k_EM ge f (by decide) (by decide), k_LM gl f (by decide) (by decide), k_TM gt f (by decide) (by decide), k_RM gr f (by decide) (by decide), k_OM go f (by decide) (by decide), k_WM gw f (by decide) (by decide), k_QM gq f (by decide) (by decide), k_72 g72 f (by decide) (by decide)⟩, fr_hi f (by decide) (by decide)⟩)
theorem xo_pattern {h : HH} (hf : WF w P A T R G W pt) (hx : RX w P E A T R G W pt fl h) : CT mX7_pattern 5 0 0 [.ref 0] h (fun r h' => r = some (.int ((opPat P pt fl).1)) ∧ RX w ((0, P.2)) E A T R G W ((opPat P pt fl).2.1) ((opPat P pt fl).2.2) h' ∧ FrLo h h') := by
  obtain ⟨gs, gp, ge, gl, gt, ⟨gr, g8⟩, go, gw, gq⟩ := hx
  obtain ⟨fS, fP, fA, fT, fR, fG, fW, fQ⟩ := hf
  exact (x_pattern fP gp gq).mono (fun r h' ⟨e, g, g2, f⟩ => ⟨e, ⟨k_SX gs f (by decide) (by decide), g, k_EX ge f (by decide) (by decide), k_LX gl f (by decide) (by decide), k_TX gt f (by decide) (by decide), ⟨k_RX gr f (by decide) (by decide), k_08 g8 f (by decide)⟩, k_OX go f (by decide) (by decide), k_WX gw f (by decide) (by decide), g2⟩, fr_lo f (by decide) (by decide)⟩)
theorem mo_pattern {h : HH} (hf : WF w P A T R G W pt) (hx : RM w P E A T R G W pt fl h) : CT mX8_pattern 3 0 0 [.ref 44] h (fun r h' => r = some (.int ((opPat P pt fl).1)) ∧ RM w ((0, P.2)) E A T R G W ((opPat P pt fl).2.1) ((opPat P pt fl).2.2) h' ∧ FrHi h h') := by
  obtain ⟨gs, gp, ge, gl, gt, gr, go, gw, gq, g72⟩ := hx
  obtain ⟨fS, fP, fA, fT, fR, fG, fW, fQ⟩ := hf
  exact (m_pattern fP fQ gp gq).mono (fun r h' ⟨e, g, g2, f⟩ => ⟨e, ⟨k_SM gs f (by decide) (by decide), g, k_EM ge f (by decide) (by decide), k_LM gl f (by decide) (by decide), k_TM gt f (by decide) (by decide), k_RM gr f (by decide) (by decide), k_OM go f (by decide) (by decide), k_WM gw f (by decide) (by decide), g2, k_72 g72 f (by decide) (by decide)⟩, fr_hi f (by decide) (by decide)⟩)
theorem xo_fault {h : HH} (hf : WF w P A T R G W pt) (hx : RX w P E A T R G W pt fl h) : CT mX7_fault 0 0 0 [.ref 0] h (fun r h' => r = some (.int (fl)) ∧ RX w P E A T R G W pt fl h' ∧ FrLo h h') := by
  obtain ⟨gs, gp, ge, gl, gt, ⟨gr, g8⟩, go, gw, gq⟩ := hx
  obtain ⟨fS, fP, fA, fT, fR, fG, fW, fQ⟩ := hf
  exact (x_fault gq.1 gq.2.2.1).mono (fun r h' ⟨e, e2⟩ => by subst e2; exact ⟨e, ⟨gs, gp, ge, gl, gt, ⟨gr, g8⟩, go, gw, gq⟩, fun _ _ => rfl, fun _ _ _ => rfl⟩)
theorem mo_fault {h : HH} (hf : WF w P A T R G W pt) (hx : RM w P E A T R G W pt fl h) : CT mX8_fault 0 0 0 [.ref 44] h (fun r h' => r = some (.int (fl)) ∧ RM w P E A T R G W pt fl h' ∧ FrHi h h') := by
  obtain ⟨gs, gp, ge, gl, gt, gr, go, gw, gq, g72⟩ := hx
  obtain ⟨fS, fP, fA, fT, fR, fG, fW, fQ⟩ := hf
  have f : Fr [] [(44, 0)] h (sF h 44 0 (.int 0)) := fr_sF (by decide) fr_rf
  exact (m_fault gq.1 gq.2.1).mono (fun r h' ⟨e, e2⟩ => by subst e2; exact ⟨e, ⟨k_SM gs f (by decide) (by decide), k_PM gp f (by decide) (by decide), k_EM ge f (by decide) (by decide), k_LM gl f (by decide) (by decide), k_TM gt f (by decide) (by decide), k_RM gr f (by decide) (by decide), k_OM go f (by decide) (by decide), k_WM gw f (by decide) (by decide), k_QM gq f (by decide) (by decide), k_72 g72 f (by decide) (by decide)⟩, fr_hi f (by decide) (by decide)⟩)
theorem xo_sign {h : HH} (hf : WF w P A T R G W pt) (hx : RX w P E A T R G W pt fl h) (a : Int32) (b : Int32) : CT mX7_sign 1 0 0 [.ref 0, .int a, .int b] h (fun r h' => r = some (.int (opSign pt a b)) ∧ RX w P E A T R G W pt fl h' ∧ FrLo h h') := by
  obtain ⟨gs, gp, ge, gl, gt, ⟨gr, g8⟩, go, gw, gq⟩ := hx
  obtain ⟨fS, fP, fA, fT, fR, fG, fW, fQ⟩ := hf
  exact (x_sign fQ gq a b).mono (fun r h' ⟨e, e2⟩ => by subst e2; exact ⟨e, ⟨gs, gp, ge, gl, gt, ⟨gr, g8⟩, go, gw, gq⟩, fun _ _ => rfl, fun _ _ _ => rfl⟩)
theorem mo_sign {h : HH} (hf : WF w P A T R G W pt) (hx : RM w P E A T R G W pt fl h) (a : Int32) (b : Int32) : CT mX8_sign 1 0 0 [.ref 44, .int a, .int b] h (fun r h' => r = some (.int (opSign pt a b)) ∧ RM w P E A T R G W pt fl h' ∧ FrHi h h') := by
  obtain ⟨gs, gp, ge, gl, gt, gr, go, gw, gq, g72⟩ := hx
  obtain ⟨fS, fP, fA, fT, fR, fG, fW, fQ⟩ := hf
  have f : Fr [] [(44, 0)] h (sF h 44 0 (.int 0)) := fr_sF (by decide) fr_rf
  exact (m_sign fQ gq a b).mono (fun r h' ⟨e, e2⟩ => by subst e2; exact ⟨e, ⟨k_SM gs f (by decide) (by decide), k_PM gp f (by decide) (by decide), k_EM ge f (by decide) (by decide), k_LM gl f (by decide) (by decide), k_TM gt f (by decide) (by decide), k_RM gr f (by decide) (by decide), k_OM go f (by decide) (by decide), k_WM gw f (by decide) (by decide), k_QM gq f (by decide) (by decide), k_72 g72 f (by decide) (by decide)⟩, fr_hi f (by decide) (by decide)⟩)
theorem xo_test {h : HH} (hf : WF w P A T R G W pt) (hx : RX w P E A T R G W pt fl h) (a : Int32) (b : Int32) (c : Int32) (d : Int32) : CT mX7_test 1 0 0 [.ref 0, .int a, .int b, .int c, .int d] h (fun r h' => r = some (.int ((opTest T a b c d).1)) ∧ RX w P E A ((opTest T a b c d).2) R G W pt fl h' ∧ FrLo h h') := by
  obtain ⟨gs, gp, ge, gl, gt, ⟨gr, g8⟩, go, gw, gq⟩ := hx
  obtain ⟨fS, fP, fA, fT, fR, fG, fW, fQ⟩ := hf
  exact (x_test fT gt a b c d).mono (fun r h' ⟨e, g, f⟩ => ⟨e, ⟨k_SX gs f (by decide) (by decide), k_PX gp f (by decide) (by decide), k_EX ge f (by decide) (by decide), k_LX gl f (by decide) (by decide), g, ⟨k_RX gr f (by decide) (by decide), k_08 g8 f (by decide)⟩, k_OX go f (by decide) (by decide), k_WX gw f (by decide) (by decide), k_QX gq f (by decide) (by decide)⟩, fr_lo f (by decide) (by decide)⟩)
theorem mo_test {h : HH} (hf : WF w P A T R G W pt) (hx : RM w P E A T R G W pt fl h) (a : Int32) (b : Int32) (c : Int32) (d : Int32) : CT mX8_test 1 0 0 [.ref 44, .int a, .int b, .int c, .int d] h (fun r h' => r = some (.int ((opTest T a b c d).1)) ∧ RM w P E A ((opTest T a b c d).2) R G W pt fl h' ∧ FrHi h h') := by
  obtain ⟨gs, gp, ge, gl, gt, gr, go, gw, gq, g72⟩ := hx
  obtain ⟨fS, fP, fA, fT, fR, fG, fW, fQ⟩ := hf
  exact (m_test fT gt a b c d).mono (fun r h' ⟨e, g, f⟩ => ⟨e, ⟨k_SM gs f (by decide) (by decide), k_PM gp f (by decide) (by decide), k_EM ge f (by decide) (by decide), k_LM gl f (by decide) (by decide), g, k_RM gr f (by decide) (by decide), k_OM go f (by decide) (by decide), k_WM gw f (by decide) (by decide), k_QM gq f (by decide) (by decide), k_72 g72 f (by decide) (by decide)⟩, fr_hi f (by decide) (by decide)⟩)
theorem xo_move {h : HH} (hf : WF w P A T R G W pt) (hx : RX w P E A T R G W pt fl h) (a : Int32) (b : Int32) : CT mX7_move 1 0 0 [.ref 0, .int a, .int b] h (fun r h' => r = some (.int ((opMove T a b).1)) ∧ RX w P E A ((opMove T a b).2) R G W pt fl h' ∧ FrLo h h') := by
  obtain ⟨gs, gp, ge, gl, gt, ⟨gr, g8⟩, go, gw, gq⟩ := hx
  obtain ⟨fS, fP, fA, fT, fR, fG, fW, fQ⟩ := hf
  exact (x_move fT gt a b).mono (fun r h' ⟨e, g, f⟩ => ⟨e, ⟨k_SX gs f (by decide) (by decide), k_PX gp f (by decide) (by decide), k_EX ge f (by decide) (by decide), k_LX gl f (by decide) (by decide), g, ⟨k_RX gr f (by decide) (by decide), k_08 g8 f (by decide)⟩, k_OX go f (by decide) (by decide), k_WX gw f (by decide) (by decide), k_QX gq f (by decide) (by decide)⟩, fr_lo f (by decide) (by decide)⟩)
theorem mo_move {h : HH} (hf : WF w P A T R G W pt) (hx : RM w P E A T R G W pt fl h) (a : Int32) (b : Int32) : CT mX8_move 2 0 0 [.ref 44, .int a, .int b] h (fun r h' => r = some (.int ((opMove T a b).1)) ∧ RM w P E A ((opMove T a b).2) R G W pt fl h' ∧ FrHi h h') := by
  obtain ⟨gs, gp, ge, gl, gt, gr, go, gw, gq, g72⟩ := hx
  obtain ⟨fS, fP, fA, fT, fR, fG, fW, fQ⟩ := hf
  exact (m_move fT gt a b).mono (fun r h' ⟨e, g, f⟩ => ⟨e, ⟨k_SM gs f (by decide) (by decide), k_PM gp f (by decide) (by decide), k_EM ge f (by decide) (by decide), k_LM gl f (by decide) (by decide), g, k_RM gr f (by decide) (by decide), k_OM go f (by decide) (by decide), k_WM gw f (by decide) (by decide), k_QM gq f (by decide) (by decide), k_72 g72 f (by decide) (by decide)⟩, fr_hi f (by decide) (by decide)⟩)
theorem xo_flow {h : HH} (hf : WF w P A T R G W pt) (hx : RX w P E A T R G W pt fl h) (a : Int32) : CT mX7_flow 1 0 0 [.ref 0, .int a] h (fun r h' => r = some (.int (opFlow T a)) ∧ RX w P E A T R G W pt fl h' ∧ FrLo h h') := by
  obtain ⟨gs, gp, ge, gl, gt, ⟨gr, g8⟩, go, gw, gq⟩ := hx
  obtain ⟨fS, fP, fA, fT, fR, fG, fW, fQ⟩ := hf
  exact (x_flow fT.1 gt a).mono (fun r h' ⟨e, e2⟩ => by subst e2; exact ⟨e, ⟨gs, gp, ge, gl, gt, ⟨gr, g8⟩, go, gw, gq⟩, fun _ _ => rfl, fun _ _ _ => rfl⟩)
theorem mo_flow {h : HH} (hf : WF w P A T R G W pt) (hx : RM w P E A T R G W pt fl h) (a : Int32) : CT mX8_flow 1 0 0 [.ref 44, .int a] h (fun r h' => r = some (.int (opFlow T a)) ∧ RM w P E A T R G W pt fl h' ∧ FrHi h h') := by
  obtain ⟨gs, gp, ge, gl, gt, gr, go, gw, gq, g72⟩ := hx
  obtain ⟨fS, fP, fA, fT, fR, fG, fW, fQ⟩ := hf
  have f : Fr [] [(44, 0)] h (sF h 44 0 (.int 0)) := fr_sF (by decide) fr_rf
  exact (m_flow fT.1 gt a).mono (fun r h' ⟨e, e2⟩ => by subst e2; exact ⟨e, ⟨k_SM gs f (by decide) (by decide), k_PM gp f (by decide) (by decide), k_EM ge f (by decide) (by decide), k_LM gl f (by decide) (by decide), k_TM gt f (by decide) (by decide), k_RM gr f (by decide) (by decide), k_OM go f (by decide) (by decide), k_WM gw f (by decide) (by decide), k_QM gq f (by decide) (by decide), k_72 g72 f (by decide) (by decide)⟩, fr_hi f (by decide) (by decide)⟩)
theorem xo_kind {h : HH} (hf : WF w P A T R G W pt) (hx : RX w P E A T R G W pt fl h) (a : Int32) : CT mX7_kind 1 0 0 [.ref 0, .int a] h (fun r h' => r = some (.int (opKind T a)) ∧ RX w P E A T R G W pt fl h' ∧ FrLo h h') := by
  obtain ⟨gs, gp, ge, gl, gt, ⟨gr, g8⟩, go, gw, gq⟩ := hx
  obtain ⟨fS, fP, fA, fT, fR, fG, fW, fQ⟩ := hf
  exact (x_kind fT.1 gt a).mono (fun r h' ⟨e, e2⟩ => by subst e2; exact ⟨e, ⟨gs, gp, ge, gl, gt, ⟨gr, g8⟩, go, gw, gq⟩, fun _ _ => rfl, fun _ _ _ => rfl⟩)
theorem mo_kind {h : HH} (hf : WF w P A T R G W pt) (hx : RM w P E A T R G W pt fl h) (a : Int32) : CT mX8_kind 2 0 0 [.ref 44, .int a] h (fun r h' => r = some (.int (opKind T a)) ∧ RM w P E A T R G W pt fl h' ∧ FrHi h h') := by
  obtain ⟨gs, gp, ge, gl, gt, gr, go, gw, gq, g72⟩ := hx
  obtain ⟨fS, fP, fA, fT, fR, fG, fW, fQ⟩ := hf
  have f : Fr [] [(44, 0)] h (sF h 44 0 (.int 0)) := fr_sF (by decide) fr_rf
  exact (m_kind fT.1 gt a).mono (fun r h' ⟨e, e2⟩ => by subst e2; exact ⟨e, ⟨k_SM gs f (by decide) (by decide), k_PM gp f (by decide) (by decide), k_EM ge f (by decide) (by decide), k_LM gl f (by decide) (by decide), k_TM gt f (by decide) (by decide), k_RM gr f (by decide) (by decide), k_OM go f (by decide) (by decide), k_WM gw f (by decide) (by decide), k_QM gq f (by decide) (by decide), k_72 g72 f (by decide) (by decide)⟩, fr_hi f (by decide) (by decide)⟩)
theorem xo_as {h : HH} (hf : WF w P A T R G W pt) (hx : RX w P E A T R G W pt fl h) (a : Int32) (b : Int32) : CT mX7_as 2 0 0 [.ref 0, .int a, .int b] h (fun r h' => r = some (.int ((opAs T w.1 a b).1)) ∧ RX (((opAs T w.1 a b).2, w.2)) P E A T R G W pt fl h' ∧ FrLo h h') := by
  obtain ⟨gs, gp, ge, gl, gt, ⟨gr, g8⟩, go, gw, gq⟩ := hx
  obtain ⟨fS, fP, fA, fT, fR, fG, fW, fQ⟩ := hf
  exact (x_as fT.1 gt a b gs.1.2.2).mono (fun r h' ⟨e, g, g1, f⟩ => ⟨e, ⟨k_SXs gs f (by decide) (by decide) g1, k_PX gp f (by decide) (by decide), k_EX ge f (by decide) (by decide), k_LX gl f (by decide) (by decide), g, ⟨k_RX gr f (by decide) (by decide), k_08 g8 f (by decide)⟩, k_OX go f (by decide) (by decide), k_WX gw f (by decide) (by decide), k_QX gq f (by decide) (by decide)⟩, fr_lo f (by decide) (by decide)⟩)
theorem mo_as {h : HH} (hf : WF w P A T R G W pt) (hx : RM w P E A T R G W pt fl h) (a : Int32) (b : Int32) : CT mX8_as 2 0 0 [.ref 44, .int a, .int b] h (fun r h' => r = some (.int ((opAs T w.1 a b).1)) ∧ RM (((opAs T w.1 a b).2, w.2)) P E A T R G W pt fl h' ∧ FrHi h h') := by
  obtain ⟨gs, gp, ge, gl, gt, gr, go, gw, gq, g72⟩ := hx
  obtain ⟨fS, fP, fA, fT, fR, fG, fW, fQ⟩ := hf
  exact (m_as fT.1 gt a b (gsm_1 gs)).mono (fun r h' ⟨e, g, g1, f⟩ => ⟨e, ⟨k_SMs gs f (by decide) (by decide) g1, k_PM gp f (by decide) (by decide), k_EM ge f (by decide) (by decide), k_LM gl f (by decide) (by decide), g, k_RM gr f (by decide) (by decide), k_OM go f (by decide) (by decide), k_WM gw f (by decide) (by decide), k_QM gq f (by decide) (by decide), k_72 g72 f (by decide) (by decide)⟩, fr_hi f (by decide) (by decide)⟩)
theorem xo_ask {h : HH} (hf : WF w P A T R G W pt) (hx : RX w P E A T R G W pt fl h) (a : Int32) (b : Int32) : CT mX7_ask 6 0 0 [.ref 0, .int a, .int b] h (fun r h' => r = some (.int ((opAsk T R a b).1)) ∧ RX w P E A T ((opAsk T R a b).2) G W pt fl h' ∧ FrLo h h') := by
  obtain ⟨gs, gp, ge, gl, gt, ⟨gr, g8⟩, go, gw, gq⟩ := hx
  obtain ⟨fS, fP, fA, fT, fR, fG, fW, fQ⟩ := hf
  exact (x_ask fT.1 fR gr gt g8 a b).mono (fun r h' ⟨e, g, f⟩ => ⟨e, ⟨k_SX gs f (by decide) (by decide), k_PX gp f (by decide) (by decide), k_EX ge f (by decide) (by decide), k_LX gl f (by decide) (by decide), k_TX gt f (by decide) (by decide), ⟨g, k_08 g8 f (by decide)⟩, k_OX go f (by decide) (by decide), k_WX gw f (by decide) (by decide), k_QX gq f (by decide) (by decide)⟩, fr_lo f (by decide) (by decide)⟩)
theorem mo_ask {h : HH} (hf : WF w P A T R G W pt) (hx : RM w P E A T R G W pt fl h) (a : Int32) (b : Int32) : CT mX8_ask 3 0 0 [.ref 44, .int a, .int b] h (fun r h' => r = some (.int ((opAsk T R a b).1)) ∧ RM w P E A T ((opAsk T R a b).2) G W pt fl h' ∧ FrHi h h') := by
  obtain ⟨gs, gp, ge, gl, gt, gr, go, gw, gq, g72⟩ := hx
  obtain ⟨fS, fP, fA, fT, fR, fG, fW, fQ⟩ := hf
  exact (m_ask fT.1 fR gr gt a b).mono (fun r h' ⟨e, g, f⟩ => ⟨e, ⟨k_SM gs f (by decide) (by decide), k_PM gp f (by decide) (by decide), k_EM ge f (by decide) (by decide), k_LM gl f (by decide) (by decide), k_TM gt f (by decide) (by decide), g, k_OM go f (by decide) (by decide), k_WM gw f (by decide) (by decide), k_QM gq f (by decide) (by decide), k_72 g72 f (by decide) (by decide)⟩, fr_hi f (by decide) (by decide)⟩)
theorem xo_trace {h : HH} (hf : WF w P A T R G W pt) (hx : RX w P E A T R G W pt fl h) (a : Int32) : CT mX7_trace 1 0 0 [.ref 0, .int a] h (fun r h' => r = some (.int (opTrace R a)) ∧ RX w P E A T R G W pt fl h' ∧ FrLo h h') := by
  obtain ⟨gs, gp, ge, gl, gt, ⟨gr, g8⟩, go, gw, gq⟩ := hx
  obtain ⟨fS, fP, fA, fT, fR, fG, fW, fQ⟩ := hf
  exact (x_trace fR gr gs.1.1 g8 a).mono (fun r h' ⟨e, e2⟩ => by subst e2; exact ⟨e, ⟨gs, gp, ge, gl, gt, ⟨gr, g8⟩, go, gw, gq⟩, fun _ _ => rfl, fun _ _ _ => rfl⟩)
theorem mo_trace {h : HH} (hf : WF w P A T R G W pt) (hx : RM w P E A T R G W pt fl h) (a : Int32) : CT mX8_trace 1 0 0 [.ref 44, .int a] h (fun r h' => r = some (.int (opTrace R a)) ∧ RM w P E A T R G W pt fl h' ∧ FrHi h h') := by
  obtain ⟨gs, gp, ge, gl, gt, gr, go, gw, gq, g72⟩ := hx
  obtain ⟨fS, fP, fA, fT, fR, fG, fW, fQ⟩ := hf
  have f : Fr [] [(44, 0)] h (sF h 44 0 (.int 0)) := fr_sF (by decide) fr_rf
  exact (m_trace fR gr a).mono (fun r h' ⟨e, e2⟩ => by subst e2; exact ⟨e, ⟨k_SM gs f (by decide) (by decide), k_PM gp f (by decide) (by decide), k_EM ge f (by decide) (by decide), k_LM gl f (by decide) (by decide), k_TM gt f (by decide) (by decide), k_RM gr f (by decide) (by decide), k_OM go f (by decide) (by decide), k_WM gw f (by decide) (by decide), k_QM gq f (by decide) (by decide), k_72 g72 f (by decide) (by decide)⟩, fr_hi f (by decide) (by decide)⟩)
theorem xo_seat {h : HH} (hf : WF w P A T R G W pt) (hx : RX w P E A T R G W pt fl h) (a : Int32) (b : Int32) : CT mX7_seat 1 0 0 [.ref 0, .int a, .int b] h (fun r h' => r = some (.int ((opSeat E a b).1)) ∧ RX w P ((opSeat E a b).2) A T R G W pt fl h' ∧ FrLo h h') := by
  obtain ⟨gs, gp, ge, gl, gt, ⟨gr, g8⟩, go, gw, gq⟩ := hx
  obtain ⟨fS, fP, fA, fT, fR, fG, fW, fQ⟩ := hf
  exact (x_seat ge a b).mono (fun r h' ⟨e, g, f⟩ => ⟨e, ⟨k_SX gs f (by decide) (by decide), k_PX gp f (by decide) (by decide), g, k_LX gl f (by decide) (by decide), k_TX gt f (by decide) (by decide), ⟨k_RX gr f (by decide) (by decide), k_08 g8 f (by decide)⟩, k_OX go f (by decide) (by decide), k_WX gw f (by decide) (by decide), k_QX gq f (by decide) (by decide)⟩, fr_lo f (by decide) (by decide)⟩)
theorem mo_seat {h : HH} (hf : WF w P A T R G W pt) (hx : RM w P E A T R G W pt fl h) (a : Int32) (b : Int32) : CT mX8_seat 2 0 0 [.ref 44, .int a, .int b] h (fun r h' => r = some (.int ((opSeat E a b).1)) ∧ RM w P ((opSeat E a b).2) A T R G W pt fl h' ∧ FrHi h h') := by
  obtain ⟨gs, gp, ge, gl, gt, gr, go, gw, gq, g72⟩ := hx
  obtain ⟨fS, fP, fA, fT, fR, fG, fW, fQ⟩ := hf
  exact (m_seat ge a b).mono (fun r h' ⟨e, g, f⟩ => ⟨e, ⟨k_SM gs f (by decide) (by decide), k_PM gp f (by decide) (by decide), g, k_LM gl f (by decide) (by decide), k_TM gt f (by decide) (by decide), k_RM gr f (by decide) (by decide), k_OM go f (by decide) (by decide), k_WM gw f (by decide) (by decide), k_QM gq f (by decide) (by decide), k_72 g72 f (by decide) (by decide)⟩, fr_hi f (by decide) (by decide)⟩)
theorem xo_dead {h : HH} (hf : WF w P A T R G W pt) (hx : RX w P E A T R G W pt fl h) (a : Int32) : CT mX7_dead 1 0 0 [.ref 0, .int a] h (fun r h' => r = some (.int ((opDead E a).1)) ∧ RX w P ((opDead E a).2) A T R G W pt fl h' ∧ FrLo h h') := by
  obtain ⟨gs, gp, ge, gl, gt, ⟨gr, g8⟩, go, gw, gq⟩ := hx
  obtain ⟨fS, fP, fA, fT, fR, fG, fW, fQ⟩ := hf
  exact (x_dead ge a).mono (fun r h' ⟨e, g, f⟩ => ⟨e, ⟨k_SX gs f (by decide) (by decide), k_PX gp f (by decide) (by decide), g, k_LX gl f (by decide) (by decide), k_TX gt f (by decide) (by decide), ⟨k_RX gr f (by decide) (by decide), k_08 g8 f (by decide)⟩, k_OX go f (by decide) (by decide), k_WX gw f (by decide) (by decide), k_QX gq f (by decide) (by decide)⟩, fr_lo f (by decide) (by decide)⟩)
theorem mo_dead {h : HH} (hf : WF w P A T R G W pt) (hx : RM w P E A T R G W pt fl h) (a : Int32) : CT mX8_dead 2 0 0 [.ref 44, .int a] h (fun r h' => r = some (.int ((opDead E a).1)) ∧ RM w P ((opDead E a).2) A T R G W pt fl h' ∧ FrHi h h') := by
  obtain ⟨gs, gp, ge, gl, gt, gr, go, gw, gq, g72⟩ := hx
  obtain ⟨fS, fP, fA, fT, fR, fG, fW, fQ⟩ := hf
  exact (m_dead ge a).mono (fun r h' ⟨e, g, f⟩ => ⟨e, ⟨k_SM gs f (by decide) (by decide), k_PM gp f (by decide) (by decide), g, k_LM gl f (by decide) (by decide), k_TM gt f (by decide) (by decide), k_RM gr f (by decide) (by decide), k_OM go f (by decide) (by decide), k_WM gw f (by decide) (by decide), k_QM gq f (by decide) (by decide), k_72 g72 f (by decide) (by decide)⟩, fr_hi f (by decide) (by decide)⟩)
theorem xo_law {h : HH} (hf : WF w P A T R G W pt) (hx : RX w P E A T R G W pt fl h) (a : Int32) (b : Int32) : CT mX7_law 0 0 0 [.ref 0, .int a, .int b] h (fun r h' => r = some (.int ((opLaw A a b).1)) ∧ RX w P E ((opLaw A a b).2) T R G W pt fl h' ∧ FrLo h h') := by
  obtain ⟨gs, gp, ge, gl, gt, ⟨gr, g8⟩, go, gw, gq⟩ := hx
  obtain ⟨fS, fP, fA, fT, fR, fG, fW, fQ⟩ := hf
  exact (x_law gl a b).mono (fun r h' ⟨e, g, f⟩ => ⟨e, ⟨k_SX gs f (by decide) (by decide), k_PX gp f (by decide) (by decide), k_EX ge f (by decide) (by decide), g, k_TX gt f (by decide) (by decide), ⟨k_RX gr f (by decide) (by decide), k_08 g8 f (by decide)⟩, k_OX go f (by decide) (by decide), k_WX gw f (by decide) (by decide), k_QX gq f (by decide) (by decide)⟩, fr_lo f (by decide) (by decide)⟩)
theorem mo_law {h : HH} (hf : WF w P A T R G W pt) (hx : RM w P E A T R G W pt fl h) (a : Int32) (b : Int32) : CT mX8_law 1 0 0 [.ref 44, .int a, .int b] h (fun r h' => r = some (.int ((opLaw A a b).1)) ∧ RM w P E ((opLaw A a b).2) T R G W pt fl h' ∧ FrHi h h') := by
  obtain ⟨gs, gp, ge, gl, gt, gr, go, gw, gq, g72⟩ := hx
  obtain ⟨fS, fP, fA, fT, fR, fG, fW, fQ⟩ := hf
  exact (m_law gl a b).mono (fun r h' ⟨e, g, f⟩ => ⟨e, ⟨k_SM gs f (by decide) (by decide), k_PM gp f (by decide) (by decide), k_EM ge f (by decide) (by decide), g, k_TM gt f (by decide) (by decide), k_RM gr f (by decide) (by decide), k_OM go f (by decide) (by decide), k_WM gw f (by decide) (by decide), k_QM gq f (by decide) (by decide), k_72 g72 f (by decide) (by decide)⟩, fr_hi f (by decide) (by decide)⟩)
theorem xo_chip {h : HH} (hf : WF w P A T R G W pt) (hx : RX w P E A T R G W pt fl h) (a : Int32) (b : Int32) : CT mX7_chip 5 0 0 [.ref 0, .int a, .int b] h (fun r h' => r = some (.int ((opChip w T E A G a b).1)) ∧ RX (((opChip w T E A G a b).2.1, w.2)) P E A T R ((opChip w T E A G a b).2.2) W pt fl h' ∧ FrLo h h') := by
  obtain ⟨gs, gp, ge, gl, gt, ⟨gr, g8⟩, go, gw, gq⟩ := hx
  obtain ⟨fS, fP, fA, fT, fR, fG, fW, fQ⟩ := hf
  exact (x_chip fS fT fA fG gs gt ge gl go a b).mono (fun r h' ⟨e, g1, g, f⟩ => ⟨e, ⟨k_SXs gs f (by decide) (by decide) g1, k_PX gp f (by decide) (by decide), k_EX ge f (by decide) (by decide), k_LX gl f (by decide) (by decide), k_TX gt f (by decide) (by decide), ⟨k_RX gr f (by decide) (by decide), k_08 g8 f (by decide)⟩, g, k_WX gw f (by decide) (by decide), k_QX gq f (by decide) (by decide)⟩, fr_lo f (by decide) (by decide)⟩)
theorem mo_chip {h : HH} (hf : WF w P A T R G W pt) (hx : RM w P E A T R G W pt fl h) (a : Int32) (b : Int32) : CT mX8_chip 3 0 0 [.ref 44, .int a, .int b] h (fun r h' => r = some (.int ((opChip w T E A G a b).1)) ∧ RM (((opChip w T E A G a b).2.1, w.2)) P E A T R ((opChip w T E A G a b).2.2) W pt fl h' ∧ FrHi h h') := by
  obtain ⟨gs, gp, ge, gl, gt, gr, go, gw, gq, g72⟩ := hx
  obtain ⟨fS, fP, fA, fT, fR, fG, fW, fQ⟩ := hf
  exact (m_chip fS fT fA fG gs gt ge gl go a b).mono (fun r h' ⟨e, g1, g, f⟩ => ⟨e, ⟨k_SMs gs f (by decide) (by decide) g1, k_PM gp f (by decide) (by decide), k_EM ge f (by decide) (by decide), k_LM gl f (by decide) (by decide), k_TM gt f (by decide) (by decide), k_RM gr f (by decide) (by decide), g, k_WM gw f (by decide) (by decide), k_QM gq f (by decide) (by decide), k_72 g72 f (by decide) (by decide)⟩, fr_hi f (by decide) (by decide)⟩)
theorem xo_told {h : HH} (hf : WF w P A T R G W pt) (hx : RX w P E A T R G W pt fl h) (a : Int32) (b : Int32) : CT mX7_told 1 0 0 [.ref 0, .int a, .int b] h (fun r h' => r = some (.int (opTold G a b)) ∧ RX w P E A T R G W pt fl h' ∧ FrLo h h') := by
  obtain ⟨gs, gp, ge, gl, gt, ⟨gr, g8⟩, go, gw, gq⟩ := hx
  obtain ⟨fS, fP, fA, fT, fR, fG, fW, fQ⟩ := hf
  exact (x_told fG go a b).mono (fun r h' ⟨e, e2⟩ => by subst e2; exact ⟨e, ⟨gs, gp, ge, gl, gt, ⟨gr, g8⟩, go, gw, gq⟩, fun _ _ => rfl, fun _ _ _ => rfl⟩)
theorem mo_told {h : HH} (hf : WF w P A T R G W pt) (hx : RM w P E A T R G W pt fl h) (a : Int32) (b : Int32) : CT mX8_told 1 0 0 [.ref 44, .int a, .int b] h (fun r h' => r = some (.int (opTold G a b)) ∧ RM w P E A T R G W pt fl h' ∧ FrHi h h') := by
  obtain ⟨gs, gp, ge, gl, gt, gr, go, gw, gq, g72⟩ := hx
  obtain ⟨fS, fP, fA, fT, fR, fG, fW, fQ⟩ := hf
  have f : Fr [] [(44, 0)] h (sF h 44 0 (.int 0)) := fr_sF (by decide) fr_rf
  exact (m_told fG go a b).mono (fun r h' ⟨e, e2⟩ => by subst e2; exact ⟨e, ⟨k_SM gs f (by decide) (by decide), k_PM gp f (by decide) (by decide), k_EM ge f (by decide) (by decide), k_LM gl f (by decide) (by decide), k_TM gt f (by decide) (by decide), k_RM gr f (by decide) (by decide), k_OM go f (by decide) (by decide), k_WM gw f (by decide) (by decide), k_QM gq f (by decide) (by decide), k_72 g72 f (by decide) (by decide)⟩, fr_hi f (by decide) (by decide)⟩)
theorem xo_share {h : HH} (hf : WF w P A T R G W pt) (hx : RX w P E A T R G W pt fl h) (a : Int32) (b : Int32) : CT mX7_share 1 0 0 [.ref 0, .int a, .int b] h (fun r h' => r = some (.int ((opShare T a b).1)) ∧ RX w P E A ((opShare T a b).2) R G W pt fl h' ∧ FrLo h h') := by
  obtain ⟨gs, gp, ge, gl, gt, ⟨gr, g8⟩, go, gw, gq⟩ := hx
  obtain ⟨fS, fP, fA, fT, fR, fG, fW, fQ⟩ := hf
  exact (x_share fT.1 gt a b).mono (fun r h' ⟨e, g, f⟩ => ⟨e, ⟨k_SX gs f (by decide) (by decide), k_PX gp f (by decide) (by decide), k_EX ge f (by decide) (by decide), k_LX gl f (by decide) (by decide), g, ⟨k_RX gr f (by decide) (by decide), k_08 g8 f (by decide)⟩, k_OX go f (by decide) (by decide), k_WX gw f (by decide) (by decide), k_QX gq f (by decide) (by decide)⟩, fr_lo f (by decide) (by decide)⟩)
theorem mo_share {h : HH} (hf : WF w P A T R G W pt) (hx : RM w P E A T R G W pt fl h) (a : Int32) (b : Int32) : CT mX8_share 2 0 0 [.ref 44, .int a, .int b] h (fun r h' => r = some (.int ((opShare T a b).1)) ∧ RM w P E A ((opShare T a b).2) R G W pt fl h' ∧ FrHi h h') := by
  obtain ⟨gs, gp, ge, gl, gt, gr, go, gw, gq, g72⟩ := hx
  obtain ⟨fS, fP, fA, fT, fR, fG, fW, fQ⟩ := hf
  exact (m_share fT.1 gt a b).mono (fun r h' ⟨e, g, f⟩ => ⟨e, ⟨k_SM gs f (by decide) (by decide), k_PM gp f (by decide) (by decide), k_EM ge f (by decide) (by decide), k_LM gl f (by decide) (by decide), g, k_RM gr f (by decide) (by decide), k_OM go f (by decide) (by decide), k_WM gw f (by decide) (by decide), k_QM gq f (by decide) (by decide), k_72 g72 f (by decide) (by decide)⟩, fr_hi f (by decide) (by decide)⟩)
theorem xo_mean {h : HH} (hf : WF w P A T R G W pt) (hx : RX w P E A T R G W pt fl h) : CT mX7_mean 1 0 0 [.ref 0] h (fun r h' => r = some (.long (opMean T)) ∧ RX w P E A T R G W pt fl h' ∧ FrLo h h') := by
  obtain ⟨gs, gp, ge, gl, gt, ⟨gr, g8⟩, go, gw, gq⟩ := hx
  obtain ⟨fS, fP, fA, fT, fR, fG, fW, fQ⟩ := hf
  exact (x_mean fT gt).mono (fun r h' ⟨e, e2⟩ => by subst e2; exact ⟨e, ⟨gs, gp, ge, gl, gt, ⟨gr, g8⟩, go, gw, gq⟩, fun _ _ => rfl, fun _ _ _ => rfl⟩)
theorem mo_mean {h : HH} (hf : WF w P A T R G W pt) (hx : RM w P E A T R G W pt fl h) : CT mX8_mean 1 0 0 [.ref 44] h (fun r h' => r = some (.long (opMean T)) ∧ RM w P E A T R G W pt fl h' ∧ FrHi h h') := by
  obtain ⟨gs, gp, ge, gl, gt, gr, go, gw, gq, g72⟩ := hx
  obtain ⟨fS, fP, fA, fT, fR, fG, fW, fQ⟩ := hf
  have f : Fr [] [(44, 0)] h (sF h 44 0 (.int 0)) := fr_sF (by decide) fr_rf
  exact (m_mean fT gt).mono (fun r h' ⟨e, e2⟩ => by subst e2; exact ⟨e, ⟨k_SM gs f (by decide) (by decide), k_PM gp f (by decide) (by decide), k_EM ge f (by decide) (by decide), k_LM gl f (by decide) (by decide), k_TM gt f (by decide) (by decide), k_RM gr f (by decide) (by decide), k_OM go f (by decide) (by decide), k_WM gw f (by decide) (by decide), k_QM gq f (by decide) (by decide), k_72 g72 f (by decide) (by decide)⟩, fr_hi f (by decide) (by decide)⟩)
theorem xo_die {h : HH} (hf : WF w P A T R G W pt) (hx : RX w P E A T R G W pt fl h) (a : Int32) (b : Int32) (c : Int32) (d : Int32) : CT mX7_die 4 0 0 [.ref 0, .int a, .int b, .int c, .int d] h (fun r h' => r = some (.int ((opDie W a b c d).1)) ∧ RX w P E A T R G ((opDie W a b c d).2) pt fl h' ∧ FrLo h h') := by
  obtain ⟨gs, gp, ge, gl, gt, ⟨gr, g8⟩, go, gw, gq⟩ := hx
  obtain ⟨fS, fP, fA, fT, fR, fG, fW, fQ⟩ := hf
  exact (x_die fW gw a b c d).mono (fun r h' ⟨e, g, f⟩ => ⟨e, ⟨k_SX gs f (by decide) (by decide), k_PX gp f (by decide) (by decide), k_EX ge f (by decide) (by decide), k_LX gl f (by decide) (by decide), k_TX gt f (by decide) (by decide), ⟨k_RX gr f (by decide) (by decide), k_08 g8 f (by decide)⟩, k_OX go f (by decide) (by decide), g, k_QX gq f (by decide) (by decide)⟩, fr_lo f (by decide) (by decide)⟩)
theorem mo_die {h : HH} (hf : WF w P A T R G W pt) (hx : RM w P E A T R G W pt fl h) (a : Int32) (b : Int32) (c : Int32) (d : Int32) : CT mX8_die 3 0 0 [.ref 44, .int a, .int b, .int c, .int d] h (fun r h' => r = some (.int ((opDie W a b c d).1)) ∧ RM w P E A T R G ((opDie W a b c d).2) pt fl h' ∧ FrHi h h') := by
  obtain ⟨gs, gp, ge, gl, gt, gr, go, gw, gq, g72⟩ := hx
  obtain ⟨fS, fP, fA, fT, fR, fG, fW, fQ⟩ := hf
  exact (m_die fW gw a b c d).mono (fun r h' ⟨e, g, f⟩ => ⟨e, ⟨k_SM gs f (by decide) (by decide), k_PM gp f (by decide) (by decide), k_EM ge f (by decide) (by decide), k_LM gl f (by decide) (by decide), k_TM gt f (by decide) (by decide), k_RM gr f (by decide) (by decide), k_OM go f (by decide) (by decide), g, k_QM gq f (by decide) (by decide), k_72 g72 f (by decide) (by decide)⟩, fr_hi f (by decide) (by decide)⟩)
theorem xo_odd {h : HH} (hf : WF w P A T R G W pt) (hx : RX w P E A T R G W pt fl h) (a : Int32) (b : Int32) (c : Int32) : CT mX7_odd 6 0 0 [.ref 0, .int a, .int b, .int c] h (fun r h' => r = some (.int (opOdd W a b c)) ∧ RX w P E A T R G W pt fl h' ∧ FrLo h h') := by
  obtain ⟨gs, gp, ge, gl, gt, ⟨gr, g8⟩, go, gw, gq⟩ := hx
  obtain ⟨fS, fP, fA, fT, fR, fG, fW, fQ⟩ := hf
  exact (x_odd fW gw a b c).mono (fun r h' ⟨e, e2⟩ => by subst e2; exact ⟨e, ⟨gs, gp, ge, gl, gt, ⟨gr, g8⟩, go, gw, gq⟩, fun _ _ => rfl, fun _ _ _ => rfl⟩)
theorem mo_odd {h : HH} (hf : WF w P A T R G W pt) (hx : RM w P E A T R G W pt fl h) (a : Int32) (b : Int32) (c : Int32) : CT mX8_odd 3 0 0 [.ref 44, .int a, .int b, .int c] h (fun r h' => r = some (.int (opOdd W a b c)) ∧ RM w P E A T R G W pt fl h' ∧ FrHi h h') := by
  obtain ⟨gs, gp, ge, gl, gt, gr, go, gw, gq, g72⟩ := hx
  obtain ⟨fS, fP, fA, fT, fR, fG, fW, fQ⟩ := hf
  have f : Fr [] [(44, 0)] h (sF h 44 0 (.int 0)) := fr_sF (by decide) fr_rf
  exact (m_odd fW gw a b c).mono (fun r h' ⟨e, e2⟩ => by subst e2; exact ⟨e, ⟨k_SM gs f (by decide) (by decide), k_PM gp f (by decide) (by decide), k_EM ge f (by decide) (by decide), k_LM gl f (by decide) (by decide), k_TM gt f (by decide) (by decide), k_RM gr f (by decide) (by decide), k_OM go f (by decide) (by decide), k_WM gw f (by decide) (by decide), k_QM gq f (by decide) (by decide), k_72 g72 f (by decide) (by decide)⟩, fr_hi f (by decide) (by decide)⟩)
theorem xo_join {h : HH} (hf : WF w P A T R G W pt) (hx : RX w P E A T R G W pt fl h) (a : Int32) (b : Int32) (c : Int32) : CT mX7_join 4 0 0 [.ref 0, .int a, .int b, .int c] h (fun r h' => r = some (.int (opJoin W a b c)) ∧ RX w P E A T R G W pt fl h' ∧ FrLo h h') := by
  obtain ⟨gs, gp, ge, gl, gt, ⟨gr, g8⟩, go, gw, gq⟩ := hx
  obtain ⟨fS, fP, fA, fT, fR, fG, fW, fQ⟩ := hf
  exact (x_join fW gw a b c).mono (fun r h' ⟨e, e2⟩ => by subst e2; exact ⟨e, ⟨gs, gp, ge, gl, gt, ⟨gr, g8⟩, go, gw, gq⟩, fun _ _ => rfl, fun _ _ _ => rfl⟩)
theorem mo_join {h : HH} (hf : WF w P A T R G W pt) (hx : RM w P E A T R G W pt fl h) (a : Int32) (b : Int32) (c : Int32) : CT mX8_join 4 0 0 [.ref 44, .int a, .int b, .int c] h (fun r h' => r = some (.int (opJoin W a b c)) ∧ RM w P E A T R G W pt fl h' ∧ FrHi h h') := by
  obtain ⟨gs, gp, ge, gl, gt, gr, go, gw, gq, g72⟩ := hx
  obtain ⟨fS, fP, fA, fT, fR, fG, fW, fQ⟩ := hf
  exact (m_join fW gw a b c).mono (fun r h' ⟨e, g, f⟩ => ⟨e, ⟨k_SM gs f (by decide) (by decide), k_PM gp f (by decide) (by decide), k_EM ge f (by decide) (by decide), k_LM gl f (by decide) (by decide), k_TM gt f (by decide) (by decide), k_RM gr f (by decide) (by decide), k_OM go f (by decide) (by decide), g, k_QM gq f (by decide) (by decide), k_72 g72 f (by decide) (by decide)⟩, fr_hi f (by decide) (by decide)⟩)
theorem xo_best {h : HH} (hf : WF w P A T R G W pt) (hx : RX w P E A T R G W pt fl h) (a : Int32) : CT mX7_best 4 0 0 [.ref 0, .int a] h (fun r h' => r = some (.int (opBest W a)) ∧ RX w P E A T R G W pt fl h' ∧ FrLo h h') := by
  obtain ⟨gs, gp, ge, gl, gt, ⟨gr, g8⟩, go, gw, gq⟩ := hx
  obtain ⟨fS, fP, fA, fT, fR, fG, fW, fQ⟩ := hf
  exact (x_best fW gw a).mono (fun r h' ⟨e, e2⟩ => by subst e2; exact ⟨e, ⟨gs, gp, ge, gl, gt, ⟨gr, g8⟩, go, gw, gq⟩, fun _ _ => rfl, fun _ _ _ => rfl⟩)
theorem mo_best {h : HH} (hf : WF w P A T R G W pt) (hx : RM w P E A T R G W pt fl h) (a : Int32) : CT mX8_best 4 0 0 [.ref 44, .int a] h (fun r h' => r = some (.int (opBest W a)) ∧ RM w P E A T R G W pt fl h' ∧ FrHi h h') := by
  obtain ⟨gs, gp, ge, gl, gt, gr, go, gw, gq, g72⟩ := hx
  obtain ⟨fS, fP, fA, fT, fR, fG, fW, fQ⟩ := hf
  exact (m_best fW gw a).mono (fun r h' ⟨e, g, f⟩ => ⟨e, ⟨k_SM gs f (by decide) (by decide), k_PM gp f (by decide) (by decide), k_EM ge f (by decide) (by decide), k_LM gl f (by decide) (by decide), k_TM gt f (by decide) (by decide), k_RM gr f (by decide) (by decide), k_OM go f (by decide) (by decide), g, k_QM gq f (by decide) (by decide), k_72 g72 f (by decide) (by decide)⟩, fr_hi f (by decide) (by decide)⟩)
theorem xo_bins {h : HH} (hf : WF w P A T R G W pt) (hx : RX w P E A T R G W pt fl h) (a : Int32) : CT mX7_bins 2 0 0 [.ref 0, .int a] h (fun r h' => r = some (.int (opBins G a)) ∧ RX w P E A T R G W pt fl h' ∧ FrLo h h') := by
  obtain ⟨gs, gp, ge, gl, gt, ⟨gr, g8⟩, go, gw, gq⟩ := hx
  obtain ⟨fS, fP, fA, fT, fR, fG, fW, fQ⟩ := hf
  exact (x_bins fG go a).mono (fun r h' ⟨e, e2⟩ => by subst e2; exact ⟨e, ⟨gs, gp, ge, gl, gt, ⟨gr, g8⟩, go, gw, gq⟩, fun _ _ => rfl, fun _ _ _ => rfl⟩)
theorem mo_bins {h : HH} (hf : WF w P A T R G W pt) (hx : RM w P E A T R G W pt fl h) (a : Int32) : CT mX8_bins 1 0 0 [.ref 44, .int a] h (fun r h' => r = some (.int (opBins G a)) ∧ RM w P E A T R G W pt fl h' ∧ FrHi h h') := by
  obtain ⟨gs, gp, ge, gl, gt, gr, go, gw, gq, g72⟩ := hx
  obtain ⟨fS, fP, fA, fT, fR, fG, fW, fQ⟩ := hf
  have f : Fr [] [(44, 0)] h (sF h 44 0 (.int 0)) := fr_sF (by decide) fr_rf
  exact (m_bins fG go a).mono (fun r h' ⟨e, e2⟩ => by subst e2; exact ⟨e, ⟨k_SM gs f (by decide) (by decide), k_PM gp f (by decide) (by decide), k_EM ge f (by decide) (by decide), k_LM gl f (by decide) (by decide), k_TM gt f (by decide) (by decide), k_RM gr f (by decide) (by decide), k_OM go f (by decide) (by decide), k_WM gw f (by decide) (by decide), k_QM gq f (by decide) (by decide), k_72 g72 f (by decide) (by decide)⟩, fr_hi f (by decide) (by decide)⟩)
theorem xo_held {h : HH} (hf : WF w P A T R G W pt) (hx : RX w P E A T R G W pt fl h) (a : Int32) (b : Int32) : CT mX7_held 3 0 0 [.ref 0, .int a, .int b] h (fun r h' => r = some (.int (opHeld G a b)) ∧ RX w P E A T R G W pt fl h' ∧ FrLo h h') := by
  obtain ⟨gs, gp, ge, gl, gt, ⟨gr, g8⟩, go, gw, gq⟩ := hx
  obtain ⟨fS, fP, fA, fT, fR, fG, fW, fQ⟩ := hf
  exact (x_held fG go a b).mono (fun r h' ⟨e, e2⟩ => by subst e2; exact ⟨e, ⟨gs, gp, ge, gl, gt, ⟨gr, g8⟩, go, gw, gq⟩, fun _ _ => rfl, fun _ _ _ => rfl⟩)
theorem mo_held {h : HH} (hf : WF w P A T R G W pt) (hx : RM w P E A T R G W pt fl h) (a : Int32) (b : Int32) : CT mX8_held 1 0 0 [.ref 44, .int a, .int b] h (fun r h' => r = some (.int (opHeld G a b)) ∧ RM w P E A T R G W pt fl h' ∧ FrHi h h') := by
  obtain ⟨gs, gp, ge, gl, gt, gr, go, gw, gq, g72⟩ := hx
  obtain ⟨fS, fP, fA, fT, fR, fG, fW, fQ⟩ := hf
  have f : Fr [] [(44, 0)] h (sF h 44 0 (.int 0)) := fr_sF (by decide) fr_rf
  exact (m_held fG go a b).mono (fun r h' ⟨e, e2⟩ => by subst e2; exact ⟨e, ⟨k_SM gs f (by decide) (by decide), k_PM gp f (by decide) (by decide), k_EM ge f (by decide) (by decide), k_LM gl f (by decide) (by decide), k_TM gt f (by decide) (by decide), k_RM gr f (by decide) (by decide), k_OM go f (by decide) (by decide), k_WM gw f (by decide) (by decide), k_QM gq f (by decide) (by decide), k_72 g72 f (by decide) (by decide)⟩, fr_hi f (by decide) (by decide)⟩)
theorem xo_chance {h : HH} (hf : WF w P A T R G W pt) (hx : RX w P E A T R G W pt fl h) (a : Int32) (b : Int32) : CT mX7_chance 3 0 0 [.ref 0, .int a, .int b] h (fun r h' => r = some (.long (opChance G a b)) ∧ RX w P E A T R G W pt fl h' ∧ FrLo h h') := by
  obtain ⟨gs, gp, ge, gl, gt, ⟨gr, g8⟩, go, gw, gq⟩ := hx
  obtain ⟨fS, fP, fA, fT, fR, fG, fW, fQ⟩ := hf
  exact (x_chance fG go a b).mono (fun r h' ⟨e, e2⟩ => by subst e2; exact ⟨e, ⟨gs, gp, ge, gl, gt, ⟨gr, g8⟩, go, gw, gq⟩, fun _ _ => rfl, fun _ _ _ => rfl⟩)
theorem mo_chance {h : HH} (hf : WF w P A T R G W pt) (hx : RM w P E A T R G W pt fl h) (a : Int32) (b : Int32) : CT mX8_chance 2 0 0 [.ref 44, .int a, .int b] h (fun r h' => r = some (.long (opChance G a b)) ∧ RM w P E A T R G W pt fl h' ∧ FrHi h h') := by
  obtain ⟨gs, gp, ge, gl, gt, gr, go, gw, gq, g72⟩ := hx
  obtain ⟨fS, fP, fA, fT, fR, fG, fW, fQ⟩ := hf
  have f : Fr [] [(44, 0)] h (sF h 44 0 (.int 0)) := fr_sF (by decide) fr_rf
  exact (m_chance fG go a b).mono (fun r h' ⟨e, e2⟩ => by subst e2; exact ⟨e, ⟨k_SM gs f (by decide) (by decide), k_PM gp f (by decide) (by decide), k_EM ge f (by decide) (by decide), k_LM gl f (by decide) (by decide), k_TM gt f (by decide) (by decide), k_RM gr f (by decide) (by decide), k_OM go f (by decide) (by decide), k_WM gw f (by decide) (by decide), k_QM gq f (by decide) (by decide), k_72 g72 f (by decide) (by decide)⟩, fr_hi f (by decide) (by decide)⟩)
theorem xo_count {h : HH} (hf : WF w P A T R G W pt) (hx : RX w P E A T R G W pt fl h) (a : Int32) : CT mX7_count 2 0 0 [.ref 0, .int a] h (fun r h' => r = some (.int (opCount w T G E P.1 (nI pt.1) (nI pt.2.1) a)) ∧ RX w P E A T R G W pt fl h' ∧ FrLo h h') := by
  obtain ⟨gs, gp, ge, gl, gt, ⟨gr, g8⟩, go, gw, gq⟩ := hx
  obtain ⟨fS, fP, fA, fT, fR, fG, fW, fQ⟩ := hf
  exact (x_count fS fG gs gt go ge gp (pcx_of gq) a).mono (fun r h' ⟨e, e2⟩ => by subst e2; exact ⟨e, ⟨gs, gp, ge, gl, gt, ⟨gr, g8⟩, go, gw, gq⟩, fun _ _ => rfl, fun _ _ _ => rfl⟩)
theorem mo_count {h : HH} (hf : WF w P A T R G W pt) (hx : RM w P E A T R G W pt fl h) (a : Int32) : CT mX8_count 0 0 0 [.ref 44, .int a] h (fun r h' => r = some (.int (opCount w T G E P.1 (nI pt.1) (nI pt.2.1) a)) ∧ RM w P E A T R G W pt fl h' ∧ FrHi h h') := by
  obtain ⟨gs, gp, ge, gl, gt, gr, go, gw, gq, g72⟩ := hx
  obtain ⟨fS, fP, fA, fT, fR, fG, fW, fQ⟩ := hf
  have f : Fr [] [(44, 0)] h (sF h 44 0 (.int 0)) := fr_sF (by decide) fr_rf
  exact (m_count fG gs gt go ge gp (pcm_of gq) a).mono (fun r h' ⟨e, e2⟩ => by subst e2; exact ⟨e, ⟨k_SM gs f (by decide) (by decide), k_PM gp f (by decide) (by decide), k_EM ge f (by decide) (by decide), k_LM gl f (by decide) (by decide), k_TM gt f (by decide) (by decide), k_RM gr f (by decide) (by decide), k_OM go f (by decide) (by decide), k_WM gw f (by decide) (by decide), k_QM gq f (by decide) (by decide), k_72 g72 f (by decide) (by decide)⟩, fr_hi f (by decide) (by decide)⟩)
theorem xo_status {h : HH} (hf : WF w P A T R G W pt) (hx : RX w P E A T R G W pt fl h) : CT mX7_status 0 0 0 [.ref 0] h (fun r h' => r = some (.int (w.1)) ∧ RX w P E A T R G W pt fl h' ∧ FrLo h h') := by
  obtain ⟨gs, gp, ge, gl, gt, ⟨gr, g8⟩, go, gw, gq⟩ := hx
  obtain ⟨fS, fP, fA, fT, fR, fG, fW, fQ⟩ := hf
  exact (x_status gs).mono (fun r h' ⟨e, e2⟩ => by subst e2; exact ⟨e, ⟨gs, gp, ge, gl, gt, ⟨gr, g8⟩, go, gw, gq⟩, fun _ _ => rfl, fun _ _ _ => rfl⟩)
theorem mo_status {h : HH} (hf : WF w P A T R G W pt) (hx : RM w P E A T R G W pt fl h) : CT mX8_status 0 0 0 [.ref 44] h (fun r h' => r = some (.int (w.1)) ∧ RM w P E A T R G W pt fl h' ∧ FrHi h h') := by
  obtain ⟨gs, gp, ge, gl, gt, gr, go, gw, gq, g72⟩ := hx
  obtain ⟨fS, fP, fA, fT, fR, fG, fW, fQ⟩ := hf
  have f : Fr [] [(44, 0)] h (sF h 44 0 (.int 0)) := fr_sF (by decide) fr_rf
  exact (m_status gs).mono (fun r h' ⟨e, e2⟩ => by subst e2; exact ⟨e, ⟨k_SM gs f (by decide) (by decide), k_PM gp f (by decide) (by decide), k_EM ge f (by decide) (by decide), k_LM gl f (by decide) (by decide), k_TM gt f (by decide) (by decide), k_RM gr f (by decide) (by decide), k_OM go f (by decide) (by decide), k_WM gw f (by decide) (by decide), k_QM gq f (by decide) (by decide), k_72 g72 f (by decide) (by decide)⟩, fr_hi f (by decide) (by decide)⟩)
theorem xo_order {h : HH} (hf : WF w P A T R G W pt) (hx : RX w P E A T R G W pt fl h) : CT mX7_order 3 0 0 [.ref 0] h (fun r h' => r = some (.long (opMean (opOrd T))) ∧ RX w P E A (opOrd T) R G W pt fl h' ∧ FrLo h h') := by
  obtain ⟨gs, gp, ge, gl, gt, ⟨gr, g8⟩, go, gw, gq⟩ := hx
  obtain ⟨fS, fP, fA, fT, fR, fG, fW, fQ⟩ := hf
  exact (x_order fT gt).mono (fun r h' ⟨e, g, f⟩ => ⟨e, ⟨k_SX gs f (by decide) (by decide), k_PX gp f (by decide) (by decide), k_EX ge f (by decide) (by decide), k_LX gl f (by decide) (by decide), g, ⟨k_RX gr f (by decide) (by decide), k_08 g8 f (by decide)⟩, k_OX go f (by decide) (by decide), k_WX gw f (by decide) (by decide), k_QX gq f (by decide) (by decide)⟩, fr_lo f (by decide) (by decide)⟩)
theorem mo_order {h : HH} (hf : WF w P A T R G W pt) (hx : RM w P E A T R G W pt fl h) : CT mX8_order 2 0 0 [.ref 44] h (fun r h' => r = some (.long (opMean (opOrd T))) ∧ RM w P E A (opOrd T) R G W pt fl h' ∧ FrHi h h') := by
  obtain ⟨gs, gp, ge, gl, gt, gr, go, gw, gq, g72⟩ := hx
  obtain ⟨fS, fP, fA, fT, fR, fG, fW, fQ⟩ := hf
  exact ((m_order fT gt g72.1 g72.2.choose_spec.1 g72.2.choose_spec.2)).mono (fun r h' ⟨e, g, g2, f⟩ => ⟨e, ⟨k_SM gs f (by decide) (by decide), k_PM gp f (by decide) (by decide), k_EM ge f (by decide) (by decide), k_LM gl f (by decide) (by decide), g, k_RM gr f (by decide) (by decide), k_OM go f (by decide) (by decide), k_WM gw f (by decide) (by decide), k_QM gq f (by decide) (by decide), ⟨(f.2 _ _ (by decide)).trans g72.1, g2⟩⟩, fr_hi f (by decide) (by decide)⟩)
theorem xo_compare {h : HH} (hf : WF w P A T R G W pt) (hx : RX w P E A T R G W pt fl h) (a : Int32) (b : Int32) : CT mX7_compare 4 0 0 [.ref 0, .int a, .int b] h (fun r h' => r = some (.int ((opCmp w pt a b).1)) ∧ RX (((opCmp w pt a b).2, w.2)) P E A T R G W pt fl h' ∧ FrLo h h') := by
  obtain ⟨gs, gp, ge, gl, gt, ⟨gr, g8⟩, go, gw, gq⟩ := hx
  obtain ⟨fS, fP, fA, fT, fR, fG, fW, fQ⟩ := hf
  exact (x_compare fS fQ gs gq a b).mono (fun r h' ⟨e, g, g2, f⟩ => ⟨e, ⟨g, k_PX gp f (by decide) (by decide), k_EX ge f (by decide) (by decide), k_LX gl f (by decide) (by decide), k_TX gt f (by decide) (by decide), ⟨k_RX gr f (by decide) (by decide), k_08 g8 f (by decide)⟩, k_OX go f (by decide) (by decide), k_WX gw f (by decide) (by decide), g2⟩, fr_lo f (by decide) (by decide)⟩)
theorem mo_compare {h : HH} (hf : WF w P A T R G W pt) (hx : RM w P E A T R G W pt fl h) (a : Int32) (b : Int32) : CT mX8_compare 2 0 0 [.ref 44, .int a, .int b] h (fun r h' => r = some (.int ((opCmp w pt a b).1)) ∧ RM (((opCmp w pt a b).2, w.2)) P E A T R G W pt fl h' ∧ FrHi h h') := by
  obtain ⟨gs, gp, ge, gl, gt, gr, go, gw, gq, g72⟩ := hx
  obtain ⟨fS, fP, fA, fT, fR, fG, fW, fQ⟩ := hf
  exact (m_compare fS fQ gs gq a b).mono (fun r h' ⟨e, th, e2⟩ => by
    subst e2
    have f : Fr [] [(44, 0), (44, 1)] h (sF (sF h 44 0 th) 44 1 (.int ((opCmp w pt a b).2))) := fr_sF (by decide) (fr_sF (by decide) fr_rf)
    exact ⟨e, ⟨k_SMs gs f (by decide) (by decide) rF_eq, k_PM gp f (by decide) (by decide), k_EM ge f (by decide) (by decide), k_LM gl f (by decide) (by decide), k_TM gt f (by decide) (by decide), k_RM gr f (by decide) (by decide), k_OM go f (by decide) (by decide), k_WM gw f (by decide) (by decide), k_QM gq f (by decide) (by decide), k_72 g72 f (by decide) (by decide)⟩, fr_hi f (by decide) (by decide)⟩)
theorem xo_edge {h : HH} (hf : WF w P A T R G W pt) (hx : RX w P E A T R G W pt fl h) (a : Int32) (b : Int32) (c : Int32) (d : Int32) : CT mX7_edge 3 0 0 [.ref 0, .int a, .int b, .int c, .int d] h (fun r h' => r = some (.int ((opEdge w a b c d).1)) ∧ RX (((opEdge w a b c d).2, w.2)) P E A T R G W pt fl h' ∧ FrLo h h') := by
  obtain ⟨gs, gp, ge, gl, gt, ⟨gr, g8⟩, go, gw, gq⟩ := hx
  obtain ⟨fS, fP, fA, fT, fR, fG, fW, fQ⟩ := hf
  have f : Fr [] [(0, 1)] h (sF h 0 1 (.int (opEdge w a b c d).2)) := fr_sF (by decide) fr_rf
  exact (x_edge fS gs a b c d).mono (fun r h' ⟨e, e2⟩ => by
    subst e2
    exact ⟨e, ⟨k_SXs gs f (by decide) (by decide) rF_eq, k_PX gp f (by decide) (by decide), k_EX ge f (by decide) (by decide), k_LX gl f (by decide) (by decide), k_TX gt f (by decide) (by decide), ⟨k_RX gr f (by decide) (by decide), k_08 g8 f (by decide)⟩, k_OX go f (by decide) (by decide), k_WX gw f (by decide) (by decide), k_QX gq f (by decide) (by decide)⟩, fr_lo f (by decide) (by decide)⟩)
theorem mo_edge {h : HH} (hf : WF w P A T R G W pt) (hx : RM w P E A T R G W pt fl h) (a : Int32) (b : Int32) (c : Int32) (d : Int32) : CT mX8_edge 2 0 0 [.ref 44, .int a, .int b, .int c, .int d] h (fun r h' => r = some (.int ((opEdge w a b c d).1)) ∧ RM (((opEdge w a b c d).2, w.2)) P E A T R G W pt fl h' ∧ FrHi h h') := by
  obtain ⟨gs, gp, ge, gl, gt, gr, go, gw, gq, g72⟩ := hx
  obtain ⟨fS, fP, fA, fT, fR, fG, fW, fQ⟩ := hf
  exact (m_edge fS gs a b c d).mono (fun r h' ⟨e, th, e2⟩ => by
    subst e2
    have f : Fr [] [(44, 0), (44, 1)] h (sF (sF h 44 0 th) 44 1 (.int ((opEdge w a b c d).2))) := fr_sF (by decide) (fr_sF (by decide) fr_rf)
    exact ⟨e, ⟨k_SMs gs f (by decide) (by decide) rF_eq, k_PM gp f (by decide) (by decide), k_EM ge f (by decide) (by decide), k_LM gl f (by decide) (by decide), k_TM gt f (by decide) (by decide), k_RM gr f (by decide) (by decide), k_OM go f (by decide) (by decide), k_WM gw f (by decide) (by decide), k_QM gq f (by decide) (by decide), k_72 g72 f (by decide) (by decide)⟩, fr_hi f (by decide) (by decide)⟩)
theorem xo_lot {h : HH} (hf : WF w P A T R G W pt) (hx : RX w P E A T R G W pt fl h) : CT mX7_lot 1 0 0 [.ref 0] h (fun r h' => r = some (.int (nI (G.1 - G.2.1))) ∧ RX w P E A T R ((G.1, G.1, G.2.2)) W pt fl h' ∧ FrLo h h') := by
  obtain ⟨gs, gp, ge, gl, gt, ⟨gr, g8⟩, go, gw, gq⟩ := hx
  obtain ⟨fS, fP, fA, fT, fR, fG, fW, fQ⟩ := hf
  have f : Fr [] [(38, 2)] h (sF h 38 2 (.int (nI G.1))) := fr_sF (by decide) fr_rf
  exact (x_lot fG go).mono (fun r h' ⟨e, e2⟩ => by
    subst e2
    refine ⟨e, ⟨k_SX gs f (by decide) (by decide), k_PX gp f (by decide) (by decide), k_EX ge f (by decide) (by decide), k_LX gl f (by decide) (by decide), k_TX gt f (by decide) (by decide), ⟨k_RX gr f (by decide) (by decide), k_08 g8 f (by decide)⟩, ?_, k_WX gw f (by decide) (by decide), k_QX gq f (by decide) (by decide)⟩, fr_lo f (by decide) (by decide)⟩
    obtain ⟨fa, ⟨e0, e1⟩, ⟨a1, a2, a3, a4, a5⟩, hfa⟩ := go
    exact ⟨fa, ⟨e0, rF_ne (by decide) e1⟩, ⟨a1, rF_ne (by decide) a2, rF_ne (by decide) a3, rF_eq, a5⟩, hfa⟩)
theorem mo_lot {h : HH} (hf : WF w P A T R G W pt) (hx : RM w P E A T R G W pt fl h) : CT mX8_lot 0 0 0 [.ref 44] h (fun r h' => r = some (.int (nI (G.1 - G.2.1))) ∧ RM w P E A T R ((G.1, G.1, G.2.2)) W pt fl h' ∧ FrHi h h') := by
  obtain ⟨gs, gp, ge, gl, gt, gr, go, gw, gq, g72⟩ := hx
  obtain ⟨fS, fP, fA, fT, fR, fG, fW, fQ⟩ := hf
  have f : Fr [] [(44, 0), (44, 43)] h (sF (sF h 44 0 (.int 0)) 44 43 (.int (nI G.1))) := fr_sF (by decide) (fr_sF (by decide) fr_rf)
  exact (m_lot fG go).mono (fun r h' ⟨e, e2⟩ => by
    subst e2
    refine ⟨e, ⟨k_SM gs f (by decide) (by decide), k_PM gp f (by decide) (by decide), k_EM ge f (by decide) (by decide), k_LM gl f (by decide) (by decide), k_TM gt f (by decide) (by decide), k_RM gr f (by decide) (by decide), ?_, k_WM gw f (by decide) (by decide), k_QM gq f (by decide) (by decide), k_72 g72 f (by decide) (by decide)⟩, fr_hi f (by decide) (by decide)⟩
    obtain ⟨a1, a2, a3, ⟨a4, a5, a6, a7, a8, a9⟩, b⟩ := go
    exact ⟨a1, a2, rfl, ⟨a4, a5, a6, a7, a8, a9⟩, b⟩)
end Both
