/-! THE CLAIM OUT OF ONE WALK OF THE LAW'S BODY. Your part is whole_start (and what it stands on); all else here is the same for every law, but numbers. -/
def R_law : String := "TestFloorLaw"
def lw_P (b : Addr) (xs : List Int32) (args : Array Value) (s : State) : Prop := args = #[.ref b] ∧ s.IntsAt b xs ∧ xs.length ≤ 3072 ∧ (Jvm.Cond.and given_1 narrow_1).before args s = true
def lw_Q (_ : Array Value) (s : State) (o : Outcome) (t : State) : Prop := o = .returned (some (.int 1)) ∧ Framed s o t [] 600000 7302249
def lw_Z (below : List Frame) (a : Array Value) (s : State) : State → Prop := fun t => ∃ o, t.status = .running ∧ Ended t below o ∧ lw_Q a s o t
/-- the law's own end, with 1 on the stack, nothing written that was there before, its room as the claim has it -/
theorem lw_ret {p : Program} {l : Launch} {e : Env} {s : State} {m : MethodId} {below : List Frame} {meth : Method} {c : Code} {b : Nat} (hx : p.tables.exec = Jvm.exec) (hb : c.code = code) (hr : meth.sig.returnType = ret) (hlocks : meth.locks = false) {pc : Nat} {H : Heap} {ls : Array Slot} (hdg : decode code pc = .ok (.ireturn, 1)) : W p l e room_1 s m #[Value.ref b] below meth c H [] 600000 7302249 (lw_Z below #[Value.ref b] s) (F0 m pc ls [.int 1]) := by
  intro T hT X
  obtain ⟨fs, hret, hrun, hended, hW, hframe⟩ := X.leave (v := some (.int 1)) (hlocks := hlocks) (fun h => by rw [hr] at h; cases h)
  have hmeth' : T.vm.method? m = some meth := X.method'
  refine ⟨T.setFrames fs, ?_, .returned (some (.int 1)), hrun, hended, rfl, ⟨_, rfl⟩, hW, hframe⟩
  jvm_step X.here [X.here.top, hx, hb, hdg, hmeth', hr, ret, narrow_b1]
  (try refine ⟨rfl, ?_⟩); (try refine ⟨rfl, ?_⟩)
  first | (intro acts; rw [hret _ acts rfl rfl rfl]) | rw [hret _ _ rfl rfl rfl]
  exact Steps.refl _
/-- what holds at the law's entry: the machine, the code, the tables' words (any of lw_tbl by 'hts w (by decide +kernel)'), the script of L ints xs at the cell b, what the Statement gives of the start (any of its parts by flat_of_before) -/
def lw_At (p : Program) (s : State) (m : MethodId) (meth : Method) (c : Code) (b L : Nat) (xs : Nat → Int32) : Prop :=
  p.tables.exec = Jvm.exec ∧ c.code = code ∧ meth.sig.returnType = ret ∧ c.maxLocals = 4 ∧ s.vm.findClass R_law = some m.cls ∧ (∀ w ∈ lw_tbl, w.before #[Value.ref b] s = true) ∧ va_X b L xs s s.heap ∧ b < s.heap.size ∧ meth.locks = false ∧ (Jvm.Cond.and given_1 narrow_1).before #[Value.ref b] s = true
/-! the law: its judgement, its start -/
abbrev mLaw : MM := (yL_law, code, 4, some .boolean)
def QLw : QQT := fun g below _ s => lw_Z below #[Value.ref g.2.1] s
def XLw (L : Nat) (xs : Nat → Int32) : XXT := fun g args s => va_X g.2.1 L xs s s.heap ∧ g.2.1 < s.heap.size ∧ g.2.1 < g.1 ∧ args = #[Value.ref g.2.1] ∧ s.heap.size = g.1
abbrev EL (L : Nat) (xs : Nat → Int32) : EE := (mLaw, room_1, QLw, XLw L xs)
theorem xl_3 {L : Nat} {xs : Nat → Int32} : ∀ (g : GP) (args : Array Value) (s : State), (EL L xs).2.2.2 g args s → va_X g.2.1 L xs s s.heap ∧ g.2.1 < s.heap.size ∧ g.2.1 < g.1 := fun g args s q => ⟨q.1, q.2.1, q.2.2.1⟩
theorem g_lawret {L : Nat} {xs : Nat → Int32} {cs sl pc : Nat} {Ls : List Value} {h : HH} (hd : decode code pc = .ok (.ireturn, 1)) (h1 : cs ≤ 600000) (h2 : sl ≤ 7302249) : GG (EL L xs) cs sl pc Ls [.int 1] h := fun g p l e s m args below meth c C X H locs ls hR hS hL => by
  obtain ⟨x1, x2, x3, x4, x5⟩ := X
  subst x4
  refine va_forget (fun q hq => by rw [x5]; exact hS.2.2 q hq) ?_
  refine W.widen h1 h2 ?_
  exact lw_ret C.1 C.2.1 C.2.2.2.2.2.2.1 C.2.2.2.2.2.2.2.1 hd
theorem arr_kn {s : State} {args : Array Value} {ty : FieldType} (h : (Cond.arrayClass ty).before args s = true) : ∃ cA, ArrOfT s cA ty ∧ s.vm.findClass ("[" ++ ty.toString) = some cA := by
  obtain ⟨cA, kA, comp, h1, h2, h3⟩ := Cond.arrayClass_spec h
  exact ⟨cA, fun n z => ⟨fun k h => (by cases h), kA, h2, comp, h3⟩, h1⟩
theorem nest_ok {s : State} {args : Array Value} (hts : ∀ w ∈ lw_tbl, w.before args s = true) : NWs s := by
  intro q hq
  unfold nestL at hq
  simp only [List.mem_cons, List.not_mem_nil, or_false] at hq
  rcases hq with rfl | rfl | rfl | rfl | rfl | rfl | rfl
  · exact va_Nw.of rfl (hts (.methodLinkNest RX7 29 yX4_init RX7) (List.mem_of_getElem? (i := 102) (by decide +kernel)))
  · exact va_Nw.of rfl (hts (.methodLinkNest RX4 11 yX2_init RX7) (List.mem_of_getElem? (i := 108) (by decide +kernel)))
  · exact va_Nw.of rfl (hts (.methodLinkNest RX7 36 yX2_init RX7) (List.mem_of_getElem? (i := 185) (by decide +kernel)))
  · exact va_Nw.of rfl (hts (.methodLinkNest RX7 46 yX5_init RX7) (List.mem_of_getElem? (i := 188) (by decide +kernel)))
  · exact va_Nw.of rfl (hts (.methodLinkNest RX7 75 yX1_init RX7) (List.mem_of_getElem? (i := 240) (by decide +kernel)))
  · exact va_Nw.of rfl (hts (.methodLinkNest RX1 40 yX7_choose RX7) (List.mem_of_getElem? (i := 815) (by decide +kernel)))
  · exact va_Nw.of rfl (hts (.methodLinkNest RX6 22 yX7_isWithin RX7) (List.mem_of_getElem? (i := 714) (by decide +kernel)))
/-- before anything is made -/
def hE : HH := (fun _ => none, fun _ _ => hU, 0)
def h1E : HH := eX7_init_0 (nO hE 7 VX7)
def h2E : HH := eX8_init_44 (nO h1E 8 VX8)
theorem law_entry {p : Program} {l : Launch} {e : Env} {s : State} {m : MethodId} {below : List Frame} {meth : Method} {c : Code} {b L : Nat} {xs : Nat → Int32} (C0 : lw_At p s m meth c b L xs) (K : GG (EL L xs) 0 0 0 [hX, hU, hU, hU] [] hE) : W p l e room_1 s m #[Value.ref b] below meth c s.heap [] 0 0 (lw_Z below #[Value.ref b] s) (entryFrame m ([Value.ref b] : List Value).toArray 4) := by
  obtain ⟨hx, hb, hr, hml, hown, hts, hXs, hbl, hlocks, hgv⟩ := C0
  have hgt : ∀ w ∈ lw_gt, w.before #[Value.ref b] s = true := fun w hw => hts w (List.mem_filter.mp hw).1
  obtain ⟨c0, i0, n0⟩ := u_known (C := RX0) (T := TX0) (N := 3) (n := 3) hgt (cls_facts 0 _ rfl).1 (hgt _ ki_X0)
  obtain ⟨c1, i1, n1⟩ := u_known (C := RX1) (T := TX1) (N := 3) (n := 3) hgt (cls_facts 1 _ rfl).1 (hgt _ ki_X1)
  obtain ⟨c2, i2, n2⟩ := u_known (C := RX2) (T := TX2) (N := 13) (n := 13) hgt (cls_facts 2 _ rfl).1 (hgt _ ki_X2)
  obtain ⟨c3, i3, n3⟩ := u_known (C := RX3) (T := TX3) (N := 3) (n := 3) hgt (cls_facts 3 _ rfl).1 (hgt _ ki_X3)
  obtain ⟨c4, i4, n4⟩ := u_known (C := RX4) (T := TX4) (N := 7) (n := 7) hgt (cls_facts 4 _ rfl).1 (hgt _ ki_X4)
  obtain ⟨c5, i5, n5⟩ := u_known (C := RX5) (T := TX5) (N := 7) (n := 7) hgt (cls_facts 5 _ rfl).1 (hgt _ ki_X5)
  obtain ⟨c6, i6, n6⟩ := u_known (C := RX6) (T := TX6) (N := 1) (n := 1) hgt (cls_facts 6 _ rfl).1 (hgt _ ki_X6)
  obtain ⟨c7, i7, n7⟩ := u_known (C := RX7) (T := TX7) (N := 16) (n := 16) hgt (cls_facts 7 _ rfl).1 (hgt _ ki_X7)
  obtain ⟨c8, i8, n8⟩ := u_known (C := RX8) (T := TX8) (N := 48) (n := 48) hgt (cls_facts 8 _ rfl).1 (hgt _ ki_X8)
  obtain ⟨cI, aI1, aI2⟩ := arr_kn (hgt _ ka_int)
  obtain ⟨cZ, aZ1, aZ2⟩ := arr_kn (hgt _ ka_boolean)
  obtain ⟨cJ, aJ1, aJ2⟩ := arr_kn (hgt _ ka_long)
  have hK : va_K ((fun k => if k = 0 then c0 else if k = 1 then c1 else if k = 2 then c2 else if k = 3 then c3 else if k = 4 then c4 else if k = 5 then c5 else if k = 6 then c6 else if k = 7 then c7 else c8), fun k => if k = 0 then i0 else if k = 1 then i1 else if k = 2 then i2 else if k = 3 then i3 else if k = 4 then i4 else if k = 5 then i5 else if k = 6 then i6 else if k = 7 then i7 else i8) clsX [(cI, .int), (cZ, .boolean), (cJ, .long)] s := by
    refine ⟨fun k q hq => ?_, fun k q hq => ?_⟩
    · match k, hq with
      | 0, hq => cases hq; exact n0
      | 1, hq => cases hq; exact n1
      | 2, hq => cases hq; exact n2
      | 3, hq => cases hq; exact n3
      | 4, hq => cases hq; exact n4
      | 5, hq => cases hq; exact n5
      | 6, hq => cases hq; exact n6
      | 7, hq => cases hq; exact n7
      | 8, hq => cases hq; exact n8
      | k + 9, hq => simp [clsX] at hq
    · match k, hq with
      | 0, hq => cases hq; exact ⟨aI1, aI2⟩
      | 1, hq => cases hq; exact ⟨aZ1, aZ2⟩
      | 2, hq => cases hq; exact ⟨aJ1, aJ2⟩
      | k + 3, hq => simp at hq
  have key := K (s.heap.size, b, ((fun k => if k = 0 then c0 else if k = 1 then c1 else if k = 2 then c2 else if k = 3 then c3 else if k = 4 then c4 else if k = 5 then c5 else if k = 6 then c6 else if k = 7 then c7 else c8), fun k => if k = 0 then i0 else if k = 1 then i1 else if k = 2 then i2 else if k = 3 then i3 else if k = 4 then i4 else if k = 5 then i5 else if k = 6 then i6 else if k = 7 then i7 else i8), cI, cZ, cJ) p l e s m #[Value.ref b] below meth c ⟨hx, hb, hml, hown, hgt, ⟨hK, nest_ok hts⟩, hr, hlocks, fun q => absurd (show ("law" : String) = "<init>" from q) (by decide)⟩ ⟨hXs, hbl, hbl, rfl, rfl⟩ s.heap [] ((lg_sl [Value.ref b] ++ List.replicate (4 - (lg_sl [Value.ref b]).length) Slot.unset).toArray) ⟨rfl, fun k => trivial⟩ va_S.rf (lh_entry (s.heap.size, b, ((fun k => if k = 0 then c0 else if k = 1 then c1 else if k = 2 then c2 else if k = 3 then c3 else if k = 4 then c4 else if k = 5 then c5 else if k = 6 then c6 else if k = 7 then c7 else c8), fun k => if k = 0 then i0 else if k = 1 then i1 else if k = 2 then i2 else if k = 3 then i3 else if k = 4 then i4 else if k = 5 then i5 else if k = 6 then i6 else if k = 7 then i7 else i8), cI, cZ, cJ) (as := [hX]) (n := 4) (by decide) rfl)
  rw [lg_entry_eq]
  exact key
theorem wf_0 : WF (0, fun _ => -1, fun _ => 0, fun _ => 0) (0, fun _ => 0) (0, 1) (0, fun _ => 0, fun _ => 0, fun _ => 0, fun _ => 0, fun _ => 0, fun _ => 0) (0, fun _ => 0) (0, 0, fun _ _ => 0) (fun _ => 0, fun _ => 0) (0, 0, [], fun _ => 0) := by
  refine ⟨fun a _ => by (show -1 ≤ (-1 : Int32).toInt ∧ (-1 : Int32).toInt ≤ 2 ∧ 0 ≤ (0 : Int32).toInt ∧ (0 : Int32).toInt ≤ 100; decide), by decide, ⟨by decide, by decide⟩, ⟨by decide, fun k hk => absurd hk (Nat.not_lt_zero k), fun k hk => absurd hk (Nat.not_lt_zero k), fun k _ => rfl, fun k hk => absurd hk (Nat.not_lt_zero k)⟩, by decide, ⟨by decide, by decide⟩, fun p _ => ⟨Nat.zero_le 16, Nat.zero_le 16⟩, by decide, by decide, by decide⟩
set_option maxRecDepth 100000 in
theorem rx_0 : RX (0, fun _ => -1, fun _ => 0, fun _ => 0) (0, fun _ => 0) (fun _ => 0, fun _ => 0) (0, 1) (0, fun _ => 0, fun _ => 0, fun _ => 0, fun _ => 0, fun _ => 0, fun _ => 0) (0, fun _ => 0) (0, 0, fun _ _ => 0) (fun _ => 0, fun _ => 0) (0, 0, [], fun _ => 0) 0 h1E := by
  have st : ∀ I : Nat, I = 7 ∨ I = 18 → StX h1E I (fun _ => 0) (fun _ => 0) (fun _ => 0) (fun _ => 0) (fun _ => 0) (fun _ => 0) (fun _ => 0) (fun _ => 0) 0 0 0 0 := by
    rintro I (rfl | rfl)
    · exact ⟨rfl, rfl, rfl, rfl, rfl, rfl, rfl, rfl, rfl, rfl, rfl, rfl, rfl, rfl, rfl, rfl, rfl, rfl, rfl, rfl, rfl⟩
    · exact ⟨rfl, rfl, rfl, rfl, rfl, rfl, rfl, rfl, rfl, rfl, rfl, rfl, rfl, rfl, rfl, rfl, rfl, rfl, rfl, rfl, rfl⟩
  refine ⟨⟨⟨rfl, rfl, rfl⟩, rfl, rfl, rfl, rfl, rfl, rfl, rfl⟩, ⟨rfl, rfl, rfl, rfl⟩, ⟨rfl, rfl, rfl, rfl, rfl⟩, ⟨rfl, rfl, rfl⟩, ⟨⟨rfl, rfl⟩, rfl, rfl, rfl, rfl, rfl, rfl, rfl, rfl, rfl, rfl, rfl, rfl, rfl, rfl⟩, ⟨⟨rfl, rfl, rfl, rfl, rfl⟩, rfl⟩, ⟨fun _ => 0, ⟨rfl, rfl⟩, ⟨rfl, rfl, rfl, rfl, rfl⟩, fun c i hc => absurd hc (Nat.not_lt_zero c)⟩, ⟨rfl, rfl, rfl, rfl, rfl, rfl, rfl, rfl, rfl⟩, ⟨rfl, rfl, rfl, 18, 7, Or.inr ⟨rfl, rfl⟩, rfl, ⟨_, _, _, _, _, _, _, _, 0, _, [], 0, st 18 (Or.inr rfl), rfl, by decide, ⟨rfl, rfl⟩, rfl, fun i hi => absurd hi (Nat.not_lt_zero i)⟩, Or.inl rfl, rfl, rfl, rfl, rfl, ⟨_, _, rfl, rfl⟩, _, _, _, _, _, _, _, _, _, _, _, _, st 7 (Or.inl rfl)⟩⟩
set_option maxRecDepth 100000 in
theorem rm_0 : RM (0, fun _ => -1, fun _ => 0, fun _ => 0) (0, fun _ => 0) (fun _ => 0, fun _ => 0) (0, 1) (0, fun _ => 0, fun _ => 0, fun _ => 0, fun _ => 0, fun _ => 0, fun _ => 0) (0, fun _ => 0) (0, 0, fun _ _ => 0) (fun _ => 0, fun _ => 0) (0, 0, [], fun _ => 0) 0 h2E := by
  refine ⟨⟨_, _, _, rfl, ⟨rfl, rfl, rfl, rfl, rfl, rfl, rfl⟩, ⟨fun a ha => ?_, fun a i _ hi => ?_⟩⟩, ⟨rfl, rfl, rfl, rfl⟩, ⟨rfl, rfl, rfl, rfl, rfl⟩, ⟨rfl, rfl, rfl⟩, ⟨rfl, rfl, rfl, rfl, rfl, rfl, rfl, rfl, rfl, rfl, rfl, rfl, rfl, rfl⟩, ⟨rfl, rfl, rfl, rfl⟩, ⟨rfl, rfl, rfl, ⟨rfl, rfl, rfl, rfl, rfl, rfl⟩, rfl, rfl, rfl, rfl, rfl, rfl⟩, ⟨rfl, rfl, rfl, ⟨_, rfl⟩, ?_⟩, ⟨rfl, rfl, ⟨rfl, rfl, rfl, rfl, rfl, rfl, rfl, rfl⟩, 0, 0, (_, _, _, _, _), _, _, _, by decide, rfl, rfl, ⟨rfl, rfl, rfl, rfl, rfl, rfl, rfl, rfl⟩, fun _ => ⟨rfl, rfl, rfl⟩, fun q => absurd rfl q⟩, rfl, _, rfl, rfl⟩
  · rcases (by omega : a = 0 ∨ a = 1 ∨ a = 2 ∨ a = 3 ∨ a = 4 ∨ a = 5 ∨ a = 6 ∨ a = 7) with rfl | rfl | rfl | rfl | rfl | rfl | rfl | rfl <;> exact ⟨rfl, rfl⟩
  · exact absurd hi (by show ¬ ((i : Int) < 0); omega)
  · show gA h2E 73 = aI 288 (fun p => nI (dm (fun _ => 0, fun _ => 0) p))
    rw [show (fun p => nI (dm (fun _ => 0, fun _ => 0) p)) = (fun _ => (0 : Int32)) from funext fun p => by unfold dm; split <;> rfl]
    rfl
set_option maxRecDepth 100000 in
theorem hi_0 : FrHi h1E h2E := by
  refine ⟨fun k hk => ?_, fun k j hk => ?_⟩
  · have h0 : gA (nO h1E 8 VX8) k = gA h1E k := by
      rw [gA_nO, if_neg (by rw [show gN h1E = 44 from rfl]; omega)]
    rw [← h0]
    unfold h2E eX8_init_44
    generalize hh : nO h1E 8 VX8 = hq
    have hN : gN hq = 45 := by rw [← hh]; rfl
    simp only [gA_sF, gA_sA, gA_nA, gN_sF, gN_sA, gN_nA, hN]
    iterate 60 (try rw [if_neg (by omega)])
  · have h0 : gF (nO h1E 8 VX8) k j = gF h1E k j := by
      rw [gF_nO, if_neg (by rw [show gN h1E = 44 from rfl]; omega)]
    rw [← h0]
    unfold h2E eX8_init_44
    generalize nO h1E 8 VX8 = hq
    simp only [gF_sF, gF_sA, gF_nA]
    iterate 60 (try rw [if_neg (by omega)])
