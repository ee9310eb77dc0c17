/-! rows over the heap -/
theorem cls_facts : ∀ (c : Nat) (r : vw_C), clsX[c]? = some r → (∀ w ∈ u_ws r.1 r.2.1 r.2.2, w ∈ lw_gt) ∧ (∃ ty : Nat → FieldType, ∀ k, k < r.2.2 → parseFieldDescriptor (r.2.1 k).2.2.1 = some (ty k)) ∧ (∀ a, a < r.2.2 → ∀ b, b < r.2.2 → a ≠ b → (r.2.1 a).2.1 ≠ (r.2.1 b).2.1)
  | 0, _, h => by cases h; exact ⟨by decide +kernel, ⟨_, tyX0_ok⟩, nmX0⟩
  | 1, _, h => by cases h; exact ⟨by decide +kernel, ⟨_, tyX1_ok⟩, nmX1⟩
  | 2, _, h => by cases h; exact ⟨by decide +kernel, ⟨_, tyX2_ok⟩, nmX2⟩
  | 3, _, h => by cases h; exact ⟨by decide +kernel, ⟨_, tyX3_ok⟩, nmX3⟩
  | 4, _, h => by cases h; exact ⟨by decide +kernel, ⟨_, tyX4_ok⟩, nmX4⟩
  | 5, _, h => by cases h; exact ⟨by decide +kernel, ⟨_, tyX5_ok⟩, nmX5⟩
  | 6, _, h => by cases h; exact ⟨by decide +kernel, ⟨_, tyX6_ok⟩, nmX6⟩
  | 7, _, h => by cases h; exact ⟨by decide +kernel, ⟨_, tyX7_ok⟩, nmX7⟩
  | 8, _, h => by cases h; exact ⟨by decide +kernel, ⟨_, tyX8_ok⟩, nmX8⟩
  | n + 9, _, h => by simp [clsX] at h
/-- the link of a field: own, index, number of the kind, place -/
def FL (own : String) (idx c k : Nat) : Prop := ∃ r : vw_C, clsX[c]? = some r ∧ k < r.2.2 ∧ Cond.fieldLink own idx (r.2.1 k).1 (r.2.1 k).2.1 (r.2.1 k).2.2.1 ∈ lw_gt
def PL (own : String) (idx c k : Nat) (ty : FieldType) : Prop := ∃ r : vw_C, clsX[c]? = some r ∧ k < r.2.2 ∧ Cond.fieldLink own idx (r.2.1 k).1 (r.2.1 k).2.1 (r.2.1 k).2.2.1 ∈ lw_gt ∧ (r.2.1 k).2.2.2 = false ∧ parseFieldDescriptor (r.2.1 k).2.2.1 = some ty
def QL (own : String) (idx c k : Nat) (ty : FieldType) : Prop := ∃ r : vw_C, clsX[c]? = some r ∧ k < r.2.2 ∧ Cond.fieldLink own idx (r.2.1 k).1 (r.2.1 k).2.1 (r.2.1 k).2.2.1 ∈ lw_gt ∧ (r.2.1 k).2.2.2 = true ∧ parseFieldDescriptor (r.2.1 k).2.2.1 = some ty ∧ (r.2.1 k).1 = own
theorem arr_upd_i (cA : ClassId) (n j : Nat) (f : Nat → Int32) (x : Int32) : (vp_cell cA (n, .inl f)).setSlot j (.int x) = vp_cell cA (n, .inl (upd f j x)) := by
  rw [vp_cell_i, vp_cell_i, arrV_store]
  congr 1
  funext q
  by_cases hq : q = j
  · subst hq; simp [updV, upd]
  · simp [updV, upd, hq]
theorem arr_upd_j (cA : ClassId) (n j : Nat) (f : Nat → Int64) (x : Int64) : (vp_cell cA (n, .inr (.inl f))).setSlot j (.long x) = vp_cell cA (n, .inr (.inl (vp_updL f j x))) := by
  rw [vp_cell_l, vp_cell_l, arrV_store]
  congr 1
  funext q
  by_cases hq : q = j
  · subst hq; simp [updV, vp_updL]
  · simp [updV, vp_updL, hq]
theorem idx_ok {x : Int32} {j n : Nat} (hx : x.toInt = (j : Int)) (hj : j < n) : ¬ (x < 0 ∨ n ≤ x.toNatClampNeg) ∧ x.toNatClampNeg = j := by
  have e : x.toNatClampNeg = j := by show x.toInt.toNat = j; rw [hx]; rfl
  refine ⟨?_, e⟩
  rintro (h | h)
  · have := i_lt.mp h
    rw [hx] at this
    have h0 : (0 : Int32).toInt = 0 := rfl
    omega
  · omega
section RowsB
variable {E : EE} {cs sl pc : Nat} {L rest : List Value} {h : HH}
theorem g_get {idx q c k : Nat} {v : Value} (hd : decode E.1.2.1 pc = .ok (.getfield idx, 3)) (hl : FL E.1.1.cls idx c k) (ha : gA h q = aO c) (hv : gF h q k = v) (K : GG E cs sl (pc + 3) L (v :: rest) h) : GG E cs sl pc L (.ref q :: rest) h := fun g p l e s m args below meth co C X H locs ls hR hS hL => by
  obtain ⟨r, hc, hk, hlink⟩ := hl
  obtain ⟨r', h1, cell, q1, q2, q3, q4⟩ := hR.o ha
  have hr : r' = r := Option.some.inj (h1.symm.trans hc)
  subst hr
  have hts := C.2.2.2.2.1
  obtain ⟨hS', hfc, kC, hkC, hkind⟩ := C.2.2.2.2.2.1.1.1 c _ hc
  obtain ⟨cf, kf, fi, f, hi, hsl⟩ := hS' k hk
  refine W.getf (v := cv g v) C.1 C.2.1 C.2.2.2.1 (hts _ hlink) hi (u_facts hfc hkC (u_lays hts (cls_facts c _ hc).1 hk) hi).1 q1 (by rw [q3]; exact fun h => by cases h) ?_ rfl rfl hd (K g p l e s m args below meth co C X H locs ls hR hS hL)
  rw [hsl, q4 k hk]
  show some (cv g (gF h q k)) = some (cv g v)
  rw [hv]
theorem at_putF {sK : State} {aK : Array Value} {g : GP} {hh : HH} {H1 : Heap} {q c k : Nat} {v : Value} {r : vw_C} {cell : Cell} (hK : va_K g.2.2.1 clsX (tysX g) sK) (hts : ∀ w ∈ lw_gt, w.before aK sK = true) (ha : gA hh q = aO c) (hc : clsX[c]? = some r) (hk : k < r.2.2) (q2 : cell.cls = g.2.2.1.1 c) (q3 : cell.vm = .none) (q4 : ∀ j, j < r.2.2 → cell.slots[g.2.2.1.2 c j]? = some (cv g (gF hh q j))) (e1 : H1[g.1 + q]? = some (cell.setSlot (g.2.2.1.2 c k) (cv g v))) : AT g (sF hh q k v) H1 q := by
  obtain ⟨hin, ⟨ty0, hty⟩, hnm⟩ := cls_facts c r hc
  have hap := va_apart (own := "") hts hin ty0 hty hnm hK hc
  unfold AT
  rw [gA_sF, ha]
  refine ⟨r, hc, t_OB.to (V := updV (fun j => cv g (gF hh q j)) k (cv g v)) ⟨_, e1, q2, q3, t_set q4 hap hk (cv g v)⟩ (fun j _ => ?_)⟩
  rw [gF_sF]
  unfold updV
  by_cases hj : j = k
  · subst hj; simp
  · simp [hj]
theorem g_put {idx q c k : Nat} {v : Value} {ty : FieldType} (hd : decode E.1.2.1 pc = .ok (.putfield idx, 3)) (hl : PL E.1.1.cls idx c k ty) (ha : gA h q = aO c) (hn : ∀ g : GP, narrow ty (cv g v) = cv g v ∧ fits ty (cv g v) = true) (K : GG E cs sl (pc + 3) L rest (sF h q k v)) : GG E cs sl pc L (v :: .ref q :: rest) h := fun g p l e s m args below meth co C X H locs ls hR hS hL => by
  obtain ⟨r, hc, hk, hlink, hfin, hty⟩ := hl
  obtain ⟨r', h1, cell, q1, q2, q3, q4⟩ := hR.o ha
  have hr : r' = r := Option.some.inj (h1.symm.trans hc)
  subst hr
  have hts := C.2.2.2.2.1
  have hin := (cls_facts c _ hc).1
  obtain ⟨hS', hfc, kC, hkC, hkind⟩ := C.2.2.2.2.2.1.1.1 c _ hc
  obtain ⟨cf, kf, fi, f, hi, hsl⟩ := hS' k hk
  have hlay := hts _ (hin _ (u_in_lay hk))
  unfold u_lay at hlay
  rw [if_neg (by rw [hfin]; decide)] at hlay
  have hst := (u_facts hfc hkC (u_lays hts hin hk) hi).1
  have h6 := u_store hfc hkC hkind hlay hi hty (hn g).1 (hn g).2
  refine W.putK C.1 C.2.1 (f := f) ⟨C.2.2.2.1, hts _ hlink, ⟨_, _, _, hi⟩, hst⟩ (by rw [q2]; exact h6) q1 q3 (by rw [hsl]; exact k2_hasslot (q4 k hk)) rfl rfl hd fun H' e1 e2 e3 => ?_
  rw [hsl] at e1
  refine K g p l e s m args below meth co C X H' _ ls (hR.upd e2 e3 (at_putF (H1 := H') C.2.2.2.2.2.1.1 hts ha hc hk q2 q3 q4 e1) (fun i hi => gA_sF ..) (fun i hi j => ?_) (gN_sF ..)) (hS.put e2 e3 (Nat.le_add_right _ _)) hL
  rw [gF_sF, if_neg (fun z => hi z.1)]
theorem g_putF {idx q c k : Nat} {v : Value} {ty : FieldType} (hd : decode E.1.2.1 pc = .ok (.putfield idx, 3)) (hl : QL E.1.1.cls idx c k ty) (hini : E.1.1.name = "<init>") (ha : gA h q = aO c) (hn : ∀ g : GP, narrow ty (cv g v) = cv g v ∧ fits ty (cv g v) = true) (K : GG E cs sl (pc + 3) L rest (sF h q k v)) : GG E cs sl pc L (v :: .ref q :: rest) h := fun g p l e s m args below meth co C X H locs ls hR hS hL => by
  obtain ⟨r, hc, hk, hlink, hfin, hty, hdecl⟩ := hl
  obtain ⟨r', h1, cell, q1, q2, q3, q4⟩ := hR.o ha
  have hr : r' = r := Option.some.inj (h1.symm.trans hc)
  subst hr
  have hts := C.2.2.2.2.1
  have hin := (cls_facts c _ hc).1
  obtain ⟨hS', hfc, kC, hkC, hkind⟩ := C.2.2.2.2.2.1.1.1 c _ hc
  obtain ⟨cf, kf, fi, f, hi, hsl⟩ := hS' k hk
  have hlay := hts _ (hin _ (u_in_lay hk))
  unfold u_lay at hlay
  rw [if_pos hfin] at hlay
  have hst := (u_facts hfc hkC (u_lays hts hin hk) hi).1
  have hcf : m.cls = cf := by
    obtain ⟨_, _, c', _, _, _, -, -, hf', -, -, -, hown2, -⟩ := Cond.laysFinal_spec hlay
    have e1 : c' = cf := by have := hi.symm.trans hf'; simp at this; exact this.1.symm
    rw [hdecl] at hown2
    rw [← e1]; exact Option.some.inj (C.2.2.2.1.symm.trans hown2)
  have h6 := u_fits hfc hkC hkind (Or.inr hlay) hi hty (hn g).1 (hn g).2
  refine W.putFinK C.1 C.2.1 C.2.2.2.1 (hts _ hlink) hi hst hcf (C.2.2.2.2.2.2.2.2 hini) (by rw [q2]; exact h6) q1 q3 (by rw [hsl]; exact k2_hasslot (q4 k hk)) rfl rfl hd fun H' e1 e2 e3 => ?_
  rw [hsl] at e1
  refine K g p l e s m args below meth co C X H' _ ls (hR.upd e2 e3 (at_putF (H1 := H') C.2.2.2.2.2.1.1 hts ha hc hk q2 q3 q4 e1) (fun i hi => gA_sF ..) (fun i hi j => ?_) (gN_sF ..)) (hS.put e2 e3 (Nat.le_add_right _ _)) hL
  rw [gF_sF, if_neg (fun z => hi z.1)]
theorem g_iald {q n j : Nat} {f : Nat → Int32} {x : Int32} (hd : decode E.1.2.1 pc = .ok (.iaload, 1)) (ha : gA h q = aI n f) (hx : x.toInt = (j : Int)) (hj : j < n) (K : GG E cs sl (pc + 1) L (.int (f j) :: rest) h) : GG E cs sl pc L (.int x :: .ref q :: rest) h := fun g p l e s m args below meth co C X H locs ls hR hS hL => by
  obtain ⟨hi, hc⟩ := idx_ok hx hj
  exact W.iald (v := .int (f j)) C.1 C.2.1 (hR.i ha) ((C.2.2.2.2.2.1.1.2 0 _ rfl).1 n (fun j => .int (f j))) (fun q => by cases q) (by show ¬ (x < 0 ∨ (arrV _ _ _).slots.size ≤ _); rw [arrV_size]; exact hi) (by show (arrV _ _ _).slots[_]? = _; rw [hc, arrV_read _ _ hj]) rfl rfl hd (K g p l e s m args below meth co C X H locs ls hR hS hL)
theorem g_zald {q n j : Nat} {f : Nat → Int32} {x : Int32} (hd : decode E.1.2.1 pc = .ok (.baload, 1)) (ha : gA h q = aZ n f) (hx : x.toInt = (j : Int)) (hj : j < n) (K : GG E cs sl (pc + 1) L (.int (f j) :: rest) h) : GG E cs sl pc L (.int x :: .ref q :: rest) h := fun g p l e s m args below meth co C X H locs ls hR hS hL => by
  obtain ⟨hi, hc⟩ := idx_ok hx hj
  exact W.zald (v := .int (f j)) C.1 C.2.1 (hR.z ha) ((C.2.2.2.2.2.1.1.2 1 _ rfl).1 n (fun j => .int (f j))) (fun q => by cases q) (by show ¬ (x < 0 ∨ (arrV _ _ _).slots.size ≤ _); rw [arrV_size]; exact hi) (by show (arrV _ _ _).slots[_]? = _; rw [hc, arrV_read _ _ hj]) rfl rfl hd (K g p l e s m args below meth co C X H locs ls hR hS hL)
theorem g_lald {q n j : Nat} {f : Nat → Int64} {x : Int32} (hd : decode E.1.2.1 pc = .ok (.laload, 1)) (ha : gA h q = aJ n f) (hx : x.toInt = (j : Int)) (hj : j < n) (K : GG E cs sl (pc + 1) L (.long (f j) :: rest) h) : GG E cs sl pc L (.int x :: .ref q :: rest) h := fun g p l e s m args below meth co C X H locs ls hR hS hL => by
  obtain ⟨hi, hc⟩ := idx_ok hx hj
  exact W.lald (v := .long (f j)) C.1 C.2.1 (hR.j ha) ((C.2.2.2.2.2.1.1.2 2 _ rfl).1 n (fun j => .long (f j))) (fun q => by cases q) (by show ¬ (x < 0 ∨ (arrV _ _ _).slots.size ≤ _); rw [arrV_size]; exact hi) (by show (arrV _ _ _).slots[_]? = _; rw [hc, arrV_read _ _ hj]) rfl rfl hd (K g p l e s m args below meth co C X H locs ls hR hS hL)
theorem g_iast {q n j : Nat} {f : Nat → Int32} {x y : Int32} (hd : decode E.1.2.1 pc = .ok (.iastore, 1)) (ha : gA h q = aI n f) (hx : x.toInt = (j : Int)) (hj : j < n) (K : GG E cs sl (pc + 1) L rest (sA h q (aI n (upd f j y)))) : GG E cs sl pc L (.int y :: .int x :: .ref q :: rest) h := fun g p l e s m args below meth co C X H locs ls hR hS hL => by
  obtain ⟨hi, hc⟩ := idx_ok hx hj
  refine W.iast C.1 C.2.1 (hR.i ha) ((C.2.2.2.2.2.1.1.2 0 _ rfl).1 n (fun j => .int (f j))) (fun q => by cases q) (by show ¬ (x < 0 ∨ (arrV _ _ _).slots.size ≤ _); rw [arrV_size]; exact hi) rfl rfl hd fun H1 e1 z oq => ?_
  rw [hc, arr_upd_i] at e1
  refine K g p l e s m args below meth co C X H1 _ ls (hR.upd z oq (by unfold AT; rw [gA_sA, if_pos rfl]; exact e1) (fun i hi => by rw [gA_sA, if_neg hi]) (fun i hi j => gF_sA ..) (gN_sA ..)) (hS.put z oq (Nat.le_add_right _ _)) hL
theorem g_zast {q n j : Nat} {f : Nat → Int32} {x y : Int32} (hd : decode E.1.2.1 pc = .ok (.bastore, 1)) (ha : gA h q = aZ n f) (hx : x.toInt = (j : Int)) (hj : j < n) (hy : narrow .boolean (.int y) = .int y) (K : GG E cs sl (pc + 1) L rest (sA h q (aZ n (upd f j y)))) : GG E cs sl pc L (.int y :: .int x :: .ref q :: rest) h := fun g p l e s m args below meth co C X H locs ls hR hS hL => by
  obtain ⟨hi, hc⟩ := idx_ok hx hj
  refine W.zast C.1 C.2.1 (hR.z ha) ((C.2.2.2.2.2.1.1.2 1 _ rfl).1 n (fun j => .int (f j))) (fun q => by cases q) (by show ¬ (x < 0 ∨ (arrV _ _ _).slots.size ≤ _); rw [arrV_size]; exact hi) rfl rfl hd fun H1 e1 z oq => ?_
  rw [hc, hy, arr_upd_i] at e1
  refine K g p l e s m args below meth co C X H1 _ ls (hR.upd z oq (by unfold AT; rw [gA_sA, if_pos rfl]; exact e1) (fun i hi => by rw [gA_sA, if_neg hi]) (fun i hi j => gF_sA ..) (gN_sA ..)) (hS.put z oq (Nat.le_add_right _ _)) hL
theorem g_last {q n j : Nat} {f : Nat → Int64} {x : Int32} {y : Int64} (hd : decode E.1.2.1 pc = .ok (.lastore, 1)) (ha : gA h q = aJ n f) (hx : x.toInt = (j : Int)) (hj : j < n) (K : GG E cs sl (pc + 1) L rest (sA h q (aJ n (vp_updL f j y)))) : GG E cs sl pc L (.long y :: .int x :: .ref q :: rest) h := fun g p l e s m args below meth co C X H locs ls hR hS hL => by
  obtain ⟨hi, hc⟩ := idx_ok hx hj
  refine W.last C.1 C.2.1 (hR.j ha) ((C.2.2.2.2.2.1.1.2 2 _ rfl).1 n (fun j => .long (f j))) (fun q => by cases q) (by show ¬ (x < 0 ∨ (arrV _ _ _).slots.size ≤ _); rw [arrV_size]; exact hi) rfl rfl hd fun H1 e1 z oq => ?_
  rw [hc, arr_upd_j] at e1
  refine K g p l e s m args below meth co C X H1 _ ls (hR.upd z oq (by unfold AT; rw [gA_sA, if_pos rfl]; exact e1) (fun i hi => by rw [gA_sA, if_neg hi]) (fun i hi j => gF_sA ..) (gN_sA ..)) (hS.put z oq (Nat.le_add_right _ _)) hL
theorem g_alen {q n : Nat} {f : Nat → Int32} {v : Int32} (hd : decode E.1.2.1 pc = .ok (.arraylength, 1)) (ha : gA h q = aI n f) (hv : Int32.ofNat n = v) (K : GG E cs sl (pc + 1) L (.int v :: rest) h) : GG E cs sl pc L (.ref q :: rest) h := fun g p l e s m args below meth co C X H locs ls hR hS hL =>
  W.alen (n := v) C.1 C.2.1 (hR.i ha) ((C.2.2.2.2.2.1.1.2 0 _ rfl).1 n (fun j => .int (f j))) (by show (arrV _ _ _).slots.size.toInt32 = _; rw [arrV_size]; exact hv) rfl rfl hd (K g p l e s m args below meth co C X H locs ls hR hS hL)
theorem g_new {idx c : Nat} {r : vw_C} {V : Nat → Value} (ty : Nat → FieldType) (hd : decode E.1.2.1 pc = .ok (.new idx, 3)) (hc : clsX[c]? = some r) (hty : ∀ k, k < r.2.2 → parseFieldDescriptor (r.2.1 k).2.2.1 = some (ty k)) (hV : ∀ k, k < r.2.2 → ∀ g : GP, defaultValue (ty k) = cv g (V k)) (hcl : Cond.classLink E.1.1.cls idx r.1 ∈ lw_gt) (hinst : Cond.instantiable r.1 r.2.2 ∈ lw_gt) (hini : Cond.initialized r.1 ∈ lw_gt) (hroom : cs + 1 ≤ E.2.1.cells ∧ sl + r.2.2 ≤ E.2.1.slots) (K : GG E (cs + 1) (sl + r.2.2) (pc + 3) L (.ref (gN h) :: rest) (nO h c V)) : GG E cs sl pc L rest h := fun g p l e s m args below meth co C X H locs ls hR hS hL => by
  have hts := C.2.2.2.2.1
  have hKn := C.2.2.2.2.2.1.1.1 c _ hc
  have hin := (cls_facts c _ hc).1
  refine W.newcK C.1 C.2.1 C.2.2.2.1 (hts _ hcl) (hts _ hinst) (hts _ hini) rfl hd hroom.1 hroom.2 hKn.2.1 rfl fun H1 kC hkC e1 z1 o1 => ?_
  have hsz := hR.1
  have key := K g p l e s m args below meth co C X H1 locs ls (hR.push z1 o1 (by
    unfold AT
    rw [gA_nO, if_pos rfl]
    refine ⟨r, hc, ?_⟩
    rw [← hsz]
    refine (u_born ty hts hin hKn hkC e1 hty).to (fun k hk => ?_)
    rw [gF_nO, if_pos rfl]
    exact hV k hk g) (fun i hi => by rw [gA_nO, if_neg hi]) (fun i hi j => by rw [gF_nO, if_neg hi]) (gN_nO ..)) ⟨Nat.le_trans hS.1 (by omega), fun x h1 h2 => (o1 x (Nat.lt_of_lt_of_le h1 hS.1)).trans (hS.2.1 x h1 h2), hS.2.2⟩ hL
  refine W.eq ?_ key
  show F0 m (pc + 3) ls (.ref H.size :: rest.map (cv g)) = F0 m (pc + 3) ls (.ref (g.1 + gN h) :: rest.map (cv g))
  rw [hsz]
theorem g_newI {x : Int32} {n : Nat} (hd : decode E.1.2.1 pc = .ok (.newarray .int, 2)) (hx : x.toInt = (n : Int)) (hn : n * 4 ≤ 536870912) (harr : Cond.arrayClass .int ∈ lw_gt) (hroom : cs + 1 ≤ E.2.1.cells ∧ sl + n ≤ E.2.1.slots) (K : GG E (cs + 1) (sl + n) (pc + 2) L (.ref (gN h) :: rest) (nA h (aI n (fun _ => 0)))) : GG E cs sl pc L (.int x :: rest) h := fun g p l e s m args below meth co C X H locs ls hR hS hL => by
  have hts := C.2.2.2.2.1
  have e0 : x.toNatClampNeg = n := by show x.toInt.toNat = n; rw [hx]; rfl
  refine va_newaK (atype := .int) C.1 C.2.1 (hts _ harr) rfl hd rfl (fun q => by have := i_lt.mp q; have h0 : (0 : Int32).toInt = 0 := rfl; omega) e0 (by show n * componentBytes .int ≤ _; exact hn) hroom.1 hroom.2 rfl fun H1 cA e1 z1 o1 hAr hNm => ?_
  have hsz := hR.1
  have hcA : cA = g.2.2.2.1 := by
    have h2 : s.vm.findClass ("[" ++ (FieldType.int).toString) = some g.2.2.2.1 := (C.2.2.2.2.2.1.1.2 0 _ rfl).2
    exact Option.some.inj (hNm.symm.trans h2)
  subst hcA
  have key := K g p l e s m args below meth co C X H1 locs ls (hR.push z1 o1 (by
    unfold AT
    rw [gA_nA, if_pos rfl]
    show H1[g.1 + gN h]? = _
    rw [← hsz]
    exact e1) (fun i hi => by rw [gA_nA, if_neg hi]) (fun i hi j => gF_nA ..) (gN_nA ..)) ⟨Nat.le_trans hS.1 (by omega), fun x h1 h2 => (o1 x (Nat.lt_of_lt_of_le h1 hS.1)).trans (hS.2.1 x h1 h2), hS.2.2⟩ hL
  refine W.eq ?_ key
  show F0 m (pc + 2) ls (.ref H.size :: rest.map (cv g)) = F0 m (pc + 2) ls (.ref (g.1 + gN h) :: rest.map (cv g))
  rw [hsz]
theorem g_newZ {x : Int32} {n : Nat} (hd : decode E.1.2.1 pc = .ok (.newarray .boolean, 2)) (hx : x.toInt = (n : Int)) (hn : n * 4 ≤ 536870912) (harr : Cond.arrayClass .boolean ∈ lw_gt) (hroom : cs + 1 ≤ E.2.1.cells ∧ sl + n ≤ E.2.1.slots) (K : GG E (cs + 1) (sl + n) (pc + 2) L (.ref (gN h) :: rest) (nA h (aZ n (fun _ => 0)))) : GG E cs sl pc L (.int x :: rest) h := fun g p l e s m args below meth co C X H locs ls hR hS hL => by
  have hts := C.2.2.2.2.1
  have e0 : x.toNatClampNeg = n := by show x.toInt.toNat = n; rw [hx]; rfl
  refine va_newaK (atype := .boolean) C.1 C.2.1 (hts _ harr) rfl hd rfl (fun q => by have := i_lt.mp q; have h0 : (0 : Int32).toInt = 0 := rfl; omega) e0 (by show n * 1 ≤ _; omega) hroom.1 hroom.2 rfl fun H1 cA e1 z1 o1 hAr hNm => ?_
  have hsz := hR.1
  have hcA : cA = g.2.2.2.2.1 := by
    have h2 : s.vm.findClass ("[" ++ (FieldType.boolean).toString) = some g.2.2.2.2.1 := (C.2.2.2.2.2.1.1.2 1 _ rfl).2
    exact Option.some.inj (hNm.symm.trans h2)
  subst hcA
  have key := K g p l e s m args below meth co C X H1 locs ls (hR.push z1 o1 (by
    unfold AT
    rw [gA_nA, if_pos rfl]
    show H1[g.1 + gN h]? = _
    rw [← hsz]
    exact e1) (fun i hi => by rw [gA_nA, if_neg hi]) (fun i hi j => gF_nA ..) (gN_nA ..)) ⟨Nat.le_trans hS.1 (by omega), fun x h1 h2 => (o1 x (Nat.lt_of_lt_of_le h1 hS.1)).trans (hS.2.1 x h1 h2), hS.2.2⟩ hL
  refine W.eq ?_ key
  show F0 m (pc + 2) ls (.ref H.size :: rest.map (cv g)) = F0 m (pc + 2) ls (.ref (g.1 + gN h) :: rest.map (cv g))
  rw [hsz]
theorem g_newJ {x : Int32} {n : Nat} (hd : decode E.1.2.1 pc = .ok (.newarray .long, 2)) (hx : x.toInt = (n : Int)) (hn : n * 8 ≤ 536870912) (harr : Cond.arrayClass .long ∈ lw_gt) (hroom : cs + 1 ≤ E.2.1.cells ∧ sl + n ≤ E.2.1.slots) (K : GG E (cs + 1) (sl + n) (pc + 2) L (.ref (gN h) :: rest) (nA h (aJ n (fun _ => 0)))) : GG E cs sl pc L (.int x :: rest) h := fun g p l e s m args below meth co C X H locs ls hR hS hL => by
  have hts := C.2.2.2.2.1
  have e0 : x.toNatClampNeg = n := by show x.toInt.toNat = n; rw [hx]; rfl
  refine va_newaK (atype := .long) C.1 C.2.1 (hts _ harr) rfl hd rfl (fun q => by have := i_lt.mp q; have h0 : (0 : Int32).toInt = 0 := rfl; omega) e0 (by show n * componentBytes .long ≤ _; exact hn) hroom.1 hroom.2 rfl fun H1 cA e1 z1 o1 hAr hNm => ?_
  have hsz := hR.1
  have hcA : cA = g.2.2.2.2.2 := by
    have h2 : s.vm.findClass ("[" ++ (FieldType.long).toString) = some g.2.2.2.2.2 := (C.2.2.2.2.2.1.1.2 2 _ rfl).2
    exact Option.some.inj (hNm.symm.trans h2)
  subst hcA
  have key := K g p l e s m args below meth co C X H1 locs ls (hR.push z1 o1 (by
    unfold AT
    rw [gA_nA, if_pos rfl]
    show H1[g.1 + gN h]? = _
    rw [← hsz]
    exact e1) (fun i hi => by rw [gA_nA, if_neg hi]) (fun i hi j => gF_nA ..) (gN_nA ..)) ⟨Nat.le_trans hS.1 (by omega), fun x h1 h2 => (o1 x (Nat.lt_of_lt_of_le h1 hS.1)).trans (hS.2.1 x h1 h2), hS.2.2⟩ hL
  refine W.eq ?_ key
  show F0 m (pc + 2) ls (.ref H.size :: rest.map (cv g)) = F0 m (pc + 2) ls (.ref (g.1 + gN h) :: rest.map (cv g))
  rw [hsz]
theorem g_objInit {idx q : Nat} (hd : decode E.1.2.1 pc = .ok (.invokespecial idx, 3)) (h1 : Cond.methodLink E.1.1.cls idx Lib.objectInit ∈ lw_gt) (h2 : Cond.instanceMethod Lib.objectInit ∈ lw_gt) (h3 : Cond.code Lib.objectInit ⟨#[0xb1]⟩ 1 none ∈ lw_gt) (hroom : 1 ≤ E.2.1.frames ∧ (rest.map Value.category).sum + 12 ≤ E.2.1.locals) (K : GG E cs sl (pc + 3) L rest h) : GG E cs sl pc L (.ref q :: rest) h := fun g p l e s m args below meth co C X H locs ls hR hS hL =>
  W.objInit C.1 C.2.1 C.2.2.2.1 (C.2.2.2.2.1 _ h1) (C.2.2.2.2.1 _ h2) (C.2.2.2.2.1 _ h3) rfl (by rw [C.2.2.1]; exact hL.1) rfl hd hroom.1 (by
    have e := cv_cats g rest
    show 2 * 0 + ((rest.map (cv g)).map fun v => v.category).sum + 12 ≤ _
    rw [e]
    have := hroom.2
    simpa using this) (K g p l e s m args below meth co C X H locs ls hR hS hL)
end RowsB
