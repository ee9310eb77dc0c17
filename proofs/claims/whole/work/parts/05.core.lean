/-! THE LIGHT LAYER: an abstract heap (cells by number: rows of ints, booleans, longs, or objects with fields), a judgement GG over it, and one row an instruction -/
abbrev hU : Value := .retAddr 0
abbrev hX : Value := .retAddr 1
abbrev AE : Type := Option ((Nat × (Nat → Int32)) ⊕ ((Nat × (Nat → Int32)) ⊕ ((Nat × (Nat → Int64)) ⊕ Nat)))
abbrev aI (n : Nat) (f : Nat → Int32) : AE := some (.inl (n, f))
abbrev aZ (n : Nat) (f : Nat → Int32) : AE := some (.inr (.inl (n, f)))
abbrev aJ (n : Nat) (f : Nat → Int64) : AE := some (.inr (.inr (.inl (n, f))))
abbrev aO (c : Nat) : AE := some (.inr (.inr (.inr c)))
abbrev HH : Type := (Nat → AE) × (Nat → Nat → Value) × Nat
def gA (h : HH) (k : Nat) : AE := h.1 k
def gF (h : HH) (k j : Nat) : Value := h.2.1 k j
def gN (h : HH) : Nat := h.2.2
def sA (h : HH) (k : Nat) (a : AE) : HH := (fun i => if i = k then a else h.1 i, h.2.1, h.2.2)
def sF (h : HH) (k j : Nat) (v : Value) : HH := (h.1, fun i i' => if i = k ∧ i' = j then v else h.2.1 i i', h.2.2)
def nA (h : HH) (a : AE) : HH := (fun i => if i = h.2.2 then a else h.1 i, h.2.1, h.2.2 + 1)
def nO (h : HH) (c : Nat) (V : Nat → Value) : HH := (fun i => if i = h.2.2 then aO c else h.1 i, fun i j => if i = h.2.2 then V j else h.2.1 i j, h.2.2 + 1)
theorem gA_sA (h : HH) (k i : Nat) (a : AE) : gA (sA h k a) i = if i = k then a else gA h i := rfl
theorem gF_sA (h : HH) (k i j : Nat) (a : AE) : gF (sA h k a) i j = gF h i j := rfl
theorem gN_sA (h : HH) (k : Nat) (a : AE) : gN (sA h k a) = gN h := rfl
theorem gA_sF (h : HH) (k j i : Nat) (v : Value) : gA (sF h k j v) i = gA h i := rfl
theorem gF_sF (h : HH) (k j i i' : Nat) (v : Value) : gF (sF h k j v) i i' = if i = k ∧ i' = j then v else gF h i i' := rfl
theorem gN_sF (h : HH) (k j : Nat) (v : Value) : gN (sF h k j v) = gN h := rfl
theorem gA_nA (h : HH) (a : AE) (i : Nat) : gA (nA h a) i = if i = gN h then a else gA h i := rfl
theorem gF_nA (h : HH) (a : AE) (i j : Nat) : gF (nA h a) i j = gF h i j := rfl
theorem gN_nA (h : HH) (a : AE) : gN (nA h a) = gN h + 1 := rfl
theorem gA_nO (h : HH) (c : Nat) (V : Nat → Value) (i : Nat) : gA (nO h c V) i = if i = gN h then aO c else gA h i := rfl
theorem gF_nO (h : HH) (c : Nat) (V : Nat → Value) (i j : Nat) : gF (nO h c V) i j = if i = gN h then V j else gF h i j := rfl
theorem gN_nO (h : HH) (c : Nat) (V : Nat → Value) : gN (nO h c V) = gN h + 1 := rfl
/-- base address, the script's address, the layout, and the array kinds of int, boolean, long -/
abbrev GP : Type := Nat × Nat × va_G × ClassId × ClassId × ClassId
def cv (g : GP) : Value → Value
  | .ref k => .ref (g.1 + k)
  | .retAddr _ => .ref g.2.1
  | v => v
theorem cv_cat (g : GP) (v : Value) : (cv g v).category = v.category := by cases v <;> rfl
theorem cv_cats (g : GP) (l : List Value) : ((l.map (cv g)).map fun v => v.category) = l.map fun v => v.category := by
  induction l with
  | nil => rfl
  | cons a t ih => simp only [List.map_cons, ih, cv_cat]
def clsX : List vw_C := [(RX0, TX0, 3), (RX1, TX1, 3), (RX2, TX2, 13), (RX3, TX3, 3), (RX4, TX4, 7), (RX5, TX5, 7), (RX6, TX6, 1), (RX7, TX7, 16), (RX8, TX8, 48)]
def tysX (g : GP) : List (ClassId × FieldType) := [(g.2.2.2.1, .int), (g.2.2.2.2.1, .boolean), (g.2.2.2.2.2, .long)]
def AT (g : GP) (h : HH) (H : Heap) (k : Nat) : Prop := match gA h k with
  | some (.inl a) => H[g.1 + k]? = some (vp_cell g.2.2.2.1 (a.1, .inl a.2))
  | some (.inr (.inl a)) => H[g.1 + k]? = some (vp_cell g.2.2.2.2.1 (a.1, .inl a.2))
  | some (.inr (.inr (.inl a))) => H[g.1 + k]? = some (vp_cell g.2.2.2.2.2 (a.1, .inr (.inl a.2)))
  | some (.inr (.inr (.inr c))) => ∃ r : vw_C, clsX[c]? = some r ∧ t_OB (g.1 + k) (g.2.2.1.1 c) r.2.2 (g.2.2.1.2 c) H (fun j => cv g (gF h k j))
  | none => True
def Rep (g : GP) (h : HH) (H : Heap) : Prop := H.size = g.1 + gN h ∧ ∀ k, AT g h H k
theorem Rep.i {g : GP} {h : HH} {H : Heap} (hR : Rep g h H) {k n : Nat} {f : Nat → Int32} (ha : gA h k = aI n f) : H[g.1 + k]? = some (vp_cell g.2.2.2.1 (n, .inl f)) := by
  have h1 := hR.2 k
  unfold AT at h1
  rw [ha] at h1
  exact h1
theorem Rep.z {g : GP} {h : HH} {H : Heap} (hR : Rep g h H) {k n : Nat} {f : Nat → Int32} (ha : gA h k = aZ n f) : H[g.1 + k]? = some (vp_cell g.2.2.2.2.1 (n, .inl f)) := by
  have h1 := hR.2 k
  unfold AT at h1
  rw [ha] at h1
  exact h1
theorem Rep.j {g : GP} {h : HH} {H : Heap} (hR : Rep g h H) {k n : Nat} {f : Nat → Int64} (ha : gA h k = aJ n f) : H[g.1 + k]? = some (vp_cell g.2.2.2.2.2 (n, .inr (.inl f))) := by
  have h1 := hR.2 k
  unfold AT at h1
  rw [ha] at h1
  exact h1
theorem Rep.o {g : GP} {h : HH} {H : Heap} (hR : Rep g h H) {k c : Nat} (ha : gA h k = aO c) : ∃ r : vw_C, clsX[c]? = some r ∧ t_OB (g.1 + k) (g.2.2.1.1 c) r.2.2 (g.2.2.1.2 c) H (fun j => cv g (gF h k j)) := by
  have h1 := hR.2 k
  unfold AT at h1
  rw [ha] at h1
  exact h1
theorem AT.keep {g : GP} {h h' : HH} {H H1 : Heap} {k : Nat} (hat : AT g h H k) (hq : g.1 + k < H.size → H1[g.1 + k]? = H[g.1 + k]?) (ea : gA h' k = gA h k) (ef : ∀ j, gF h' k j = gF h k j) : AT g h' H1 k := by
  unfold AT at hat ⊢
  rw [ea]
  match hg : gA h k with
  | none => trivial
  | some (.inl a) =>
    rw [hg] at hat
    exact (hq (Array.getElem?_eq_some_iff.mp hat).1).trans hat
  | some (.inr (.inl a)) =>
    rw [hg] at hat
    exact (hq (Array.getElem?_eq_some_iff.mp hat).1).trans hat
  | some (.inr (.inr (.inl a))) =>
    rw [hg] at hat
    exact (hq (Array.getElem?_eq_some_iff.mp hat).1).trans hat
  | some (.inr (.inr (.inr c))) =>
    rw [hg] at hat
    obtain ⟨r, h1, h2⟩ := hat
    refine ⟨r, h1, (h2.kept (hq ?_)).to (fun j _ => by rw [ef])⟩
    obtain ⟨cell, h3, -⟩ := h2
    exact (Array.getElem?_eq_some_iff.mp h3).1
theorem Rep.upd {g : GP} {h h' : HH} {H H1 : Heap} {k : Nat} (hR : Rep g h H) (z : H1.size = H.size) (oq : ∀ q : Nat, q ≠ g.1 + k → H1[q]? = H[q]?) (hat : AT g h' H1 k) (ea : ∀ i, i ≠ k → gA h' i = gA h i) (ef : ∀ i, i ≠ k → ∀ j, gF h' i j = gF h i j) (en : gN h' = gN h) : Rep g h' H1 := by
  refine ⟨by rw [z, hR.1, en], fun i => ?_⟩
  by_cases hi : i = k
  · subst hi; exact hat
  · exact (hR.2 i).keep (fun _ => oq _ (by omega)) (ea i hi) (ef i hi)
theorem Rep.push {g : GP} {h h' : HH} {H H1 : Heap} (hR : Rep g h H) (z : H1.size = H.size + 1) (oq : ∀ q : Nat, q < H.size → H1[q]? = H[q]?) (hat : AT g h' H1 (gN h)) (ea : ∀ i, i ≠ gN h → gA h' i = gA h i) (ef : ∀ i, i ≠ gN h → ∀ j, gF h' i j = gF h i j) (en : gN h' = gN h + 1) : Rep g h' H1 := by
  refine ⟨by rw [z, hR.1, en]; omega, fun i => ?_⟩
  by_cases hi : i = gN h
  · subst hi; exact hat
  · exact (hR.2 i).keep (fun hl => oq _ hl) (ea i hi) (ef i hi)
/-! what a frame holds -/
def LH (g : GP) (ls : Array Slot) (nL : Nat) (L : List Value) : Prop := ls.size = nL ∧ lv_wf ls ∧ L.length = nL ∧ ∀ (i : Nat) (v : Value), L[i]? = some v → v ≠ hU → ls[i]? = some (.val (cv g v))
def asl (g : GP) : Nat → List Value → List (Nat × Value)
  | _, [] => []
  | i, v :: t => if v = hU then asl g (i + 1) t else (i, cv g v) :: asl g (i + 1) t
theorem asl_mem (g : GP) : ∀ (L : List Value) (i : Nat) (q : Nat × Value), q ∈ asl g i L ↔ ∃ (k : Nat) (v : Value), L[k]? = some v ∧ v ≠ hU ∧ q = (i + k, cv g v)
  | [], i, q => by simp [asl]
  | v :: t, i, q => by
    have ih := asl_mem g t (i + 1) q
    unfold asl
    by_cases hv : v = hU
    · rw [if_pos hv, ih]
      constructor
      · rintro ⟨k, w, h1, h2, h3⟩
        exact ⟨k + 1, w, by simpa using h1, h2, by rw [h3]; congr 1; omega⟩
      · rintro ⟨k, w, h1, h2, h3⟩
        cases k with
        | zero => simp at h1; exact absurd (h1 ▸ hv) h2
        | succ k => exact ⟨k, w, by simpa using h1, h2, by rw [h3]; congr 1; omega⟩
    · rw [if_neg hv, List.mem_cons, ih]
      constructor
      · rintro (h | ⟨k, w, h1, h2, h3⟩)
        · exact ⟨0, v, by simp, hv, by rw [h]; rfl⟩
        · exact ⟨k + 1, w, by simpa using h1, h2, by rw [h3]; congr 1; omega⟩
      · rintro ⟨k, w, h1, h2, h3⟩
        cases k with
        | zero =>
          simp at h1
          exact Or.inl (by rw [h3, h1]; rfl)
        | succ k => exact Or.inr ⟨k, w, by simpa using h1, h2, by rw [h3]; congr 1; omega⟩
theorem LH.has {g : GP} {ls : Array Slot} {nL : Nat} {L : List Value} (h : LH g ls nL L) : lv_has ls nL (asl g 0 L) := by
  refine ⟨h.1, h.2.1, fun q hq => ?_⟩
  obtain ⟨k, v, h1, h2, h3⟩ := (asl_mem g L 0 q).mp hq
  rw [h3, Nat.zero_add]
  exact h.2.2.2 k v h1 h2
theorem LH.get {g : GP} {ls : Array Slot} {nL : Nat} {L : List Value} (h : LH g ls nL L) {i : Nat} {v : Value} (hl : L[i]? = some v) (hv : v ≠ hU) : ls[i]? = some (.val (cv g v)) := h.2.2.2 i v hl hv
def clr (L : List Value) (i : Nat) : List Value := match i with
  | 0 => L
  | j + 1 => match L[j]? with
    | some (.long _) => L.set j hU
    | some (.double _) => L.set j hU
    | _ => L
def stL1 (L : List Value) (i : Nat) (v : Value) : List Value := (clr L i).set i v
def stL2 (L : List Value) (i : Nat) (v : Value) : List Value := ((clr L i).set i v).set (i + 1) hU
theorem clr_len (L : List Value) (i : Nat) : (clr L i).length = L.length := by
  unfold clr
  split
  · rfl
  · split <;> simp
theorem clr_get {L : List Value} {i k : Nat} {v : Value} (h : (clr L i)[k]? = some v) (hv : v ≠ hU) : L[k]? = some v ∧ ¬ (k + 1 = i ∧ v.category = 2) := by
  unfold clr at h
  split at h
  · exact ⟨h, fun q => by omega⟩
  · rename_i j
    have key : ∀ (w : Value), L[j]? = some w → (L.set j hU)[k]? = some v → L[k]? = some v ∧ ¬ (k + 1 = j + 1 ∧ v.category = 2) := by
      intro w hw hs
      by_cases hk : k = j
      · subst hk
        have hlt := (List.getElem?_eq_some_iff.mp hw).1
        rw [List.getElem?_set_self hlt] at hs
        cases hs
        exact absurd rfl hv
      · rw [List.getElem?_set_ne (Ne.symm hk)] at hs
        exact ⟨hs, fun q => hk (by omega)⟩
    split at h
    · rename_i x hx
      exact key _ hx h
    · rename_i x hx
      exact key _ hx h
    · rename_i n1 n2
      refine ⟨h, fun q => ?_⟩
      have hk : k = j := by omega
      subst hk
      cases v with
      | long x => exact n1 _ h
      | double x => exact n2 _ h
      | _ => exact absurd q.2 (by simp [Value.category])
theorem LH.s1 {g : GP} {ls ls' : Array Slot} {nL i : Nat} {L : List Value} {v : Value} (h : LH g ls nL L) (hi : i < nL) (h' : lv_has ls' nL ((i, cv g v) :: (asl g 0 L).filter (fun q => !(q.1 == i) && !(q.1 + 1 == i && q.2.category == 2)))) : LH g ls' nL (stL1 L i v) := by
  refine ⟨h'.1, h'.2.1, by unfold stL1; rw [List.length_set, clr_len]; exact h.2.2.1, fun k w hk hw => ?_⟩
  unfold stL1 at hk
  by_cases hki : k = i
  · subst hki
    rw [List.getElem?_set_self (by rw [clr_len, h.2.2.1]; exact hi)] at hk
    cases hk
    exact h'.2.2 _ List.mem_cons_self
  · rw [List.getElem?_set_ne (Ne.symm hki)] at hk
    obtain ⟨a1, a2⟩ := clr_get hk hw
    refine h'.2.2 (k, cv g w) (List.mem_cons_of_mem _ (List.mem_filter.mpr ⟨(asl_mem g L 0 _).mpr ⟨k, w, a1, hw, by rw [Nat.zero_add]⟩, ?_⟩))
    rw [cv_cat]
    simp only [Bool.and_eq_true, Bool.not_eq_true', beq_eq_false_iff_ne, ne_eq, Bool.and_eq_false_iff]
    refine ⟨hki, ?_⟩
    by_cases q : k + 1 = i
    · exact Or.inr (fun z => a2 ⟨q, z⟩)
    · exact Or.inl q
theorem LH.s2 {g : GP} {ls ls' : Array Slot} {nL i : Nat} {L : List Value} {v : Value} (h : LH g ls nL L) (hi : i + 1 < nL) (h' : lv_has ls' nL ((i, cv g v) :: (asl g 0 L).filter (fun q => !(q.1 == i) && (!(q.1 == i + 1) && !(q.1 + 1 == i && q.2.category == 2))))) : LH g ls' nL (stL2 L i v) := by
  refine ⟨h'.1, h'.2.1, by unfold stL2; rw [List.length_set, List.length_set, clr_len]; exact h.2.2.1, fun k w hk hw => ?_⟩
  unfold stL2 at hk
  by_cases hk2 : k = i + 1
  · subst hk2
    rw [List.getElem?_set_self (by rw [List.length_set, clr_len, h.2.2.1]; exact hi)] at hk
    cases hk
    exact absurd rfl hw
  rw [List.getElem?_set_ne (Ne.symm hk2)] at hk
  by_cases hki : k = i
  · subst hki
    rw [List.getElem?_set_self (by rw [clr_len, h.2.2.1]; omega)] at hk
    cases hk
    exact h'.2.2 _ List.mem_cons_self
  · rw [List.getElem?_set_ne (Ne.symm hki)] at hk
    obtain ⟨a1, a2⟩ := clr_get hk hw
    refine h'.2.2 (k, cv g w) (List.mem_cons_of_mem _ (List.mem_filter.mpr ⟨(asl_mem g L 0 _).mpr ⟨k, w, a1, hw, by rw [Nat.zero_add]⟩, ?_⟩))
    rw [cv_cat]
    simp only [Bool.and_eq_true, Bool.not_eq_true', beq_eq_false_iff_ne, ne_eq, Bool.and_eq_false_iff]
    refine ⟨hki, hk2, ?_⟩
    by_cases q : k + 1 = i
    · exact Or.inr (fun z => a2 ⟨q, z⟩)
    · exact Or.inl q
/-- the arguments as a frame has them at its entry -/
def entL : List Value → List Value
  | [] => []
  | v :: t => if v.category = 2 then v :: hU :: entL t else v :: entL t
theorem ent_mem (g : GP) : ∀ (as : List Value) (i k : Nat) (v : Value), (entL as)[k]? = some v → v ≠ hU → (i + k, cv g v) ∈ lv_args i (as.map (cv g))
  | [], i, k, v, h, _ => by simp [entL] at h
  | a :: t, i, k, v, h, hv => by
    unfold entL at h
    rw [List.map_cons, lv_args, cv_cat]
    by_cases hc : a.category = 2
    · rw [if_pos hc] at h ⊢
      match k, h with
      | 0, h => simp at h; rw [h]; exact List.mem_cons_self
      | 1, h => simp at h; exact absurd h.symm hv
      | k + 2, h =>
        have ih := ent_mem g t (i + 2) k v (by simpa using h) hv
        rw [show i + (k + 2) = i + 2 + k by omega]
        exact List.mem_cons_of_mem _ ih
    · rw [if_neg hc] at h ⊢
      match k, h with
      | 0, h => simp at h; rw [h]; exact List.mem_cons_self
      | k + 1, h =>
        have ih := ent_mem g t (i + 1) k v (by simpa using h) hv
        rw [show i + (k + 1) = i + 1 + k by omega]
        exact List.mem_cons_of_mem _ ih
theorem ent_len (g : GP) : ∀ (as : List Value), (lg_sl (as.map (cv g))).length = (entL as).length
  | [] => rfl
  | a :: t => by
    have ih := ent_len g t
    unfold lg_sl at ih ⊢
    rw [List.map_cons, List.flatMap_cons, List.length_append, ih, cv_cat]
    rw [show entL (a :: t) = if a.category = 2 then a :: hU :: entL t else a :: entL t from rfl]
    split <;> simp <;> omega
