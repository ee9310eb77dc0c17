/-! ends, calls, arraycopy, the script -/
theorem cv_sum (g : GP) (rest : List Value) : ((rest.map (cv g)).map fun v => v.category).sum = (rest.map Value.category).sum := by
  rw [cv_cats]
section RowsC
variable {M : MM} {R : Room} {X0 : XXT} {Q : Option Value → HH → Prop} {mc ms pc : Nat} {L : List Value} {h : HH}
theorem qc_of {g : GP} {H : Heap} {locs : List Loc} {s t : State} {a : Array Value} {v : Option Value} (hq : Q v h) (hR : Rep g h H) (hK : va_K g.2.2.1 clsX (tysX g) s) (hS : va_S (fun q => g.1 ≤ q) s.heap H locs) (ht : t.heap = H) (hW : s.WarmedH t.vm) : QC g Q a s (.returned (v.map (cv g))) t := ⟨⟨v, h, rfl, hq, by rw [ht]; exact hR, va_K.moved hW.alike hK⟩, hS.F ht⟩
theorem g_iret {v : Int32} {ty : FieldType} (hd : decode M.2.1 pc = .ok (.ireturn, 1)) (hr : M.2.2.2 = some ty) (hn : narrow ty (.int v) = .int v) (hq : Q (some (.int v)) h) : GG (M, R, QM Q mc ms, X0) mc ms pc L [.int v] h := fun g p l e s m args below meth co C X H locs ls hR hS hL =>
  W.zret (v := v) C.1 C.2.1 (C.2.2.2.2.2.2.1.trans hr) hn (fun t ht hW => qc_of (v := some (.int v)) hq hR C.2.2.2.2.2.1.1 hS ht hW) hS.2.2 hd C.2.2.2.2.2.2.2.1
theorem g_lret {v : Int64} (hd : decode M.2.1 pc = .ok (.lreturn, 1)) (hr : M.2.2.2 = some .long) (hq : Q (some (.long v)) h) : GG (M, R, QM Q mc ms, X0) mc ms pc L [.long v] h := fun g p l e s m args below meth co C X H locs ls hR hS hL =>
  W.lret (v := v) C.1 C.2.1 (C.2.2.2.2.2.2.1.trans hr) (fun t ht hW => qc_of (v := some (.long v)) hq hR C.2.2.2.2.2.1.1 hS ht hW) hS.2.2 hd C.2.2.2.2.2.2.2.1
theorem g_vret (hd : decode M.2.1 pc = .ok (.return_, 1)) (hr : M.2.2.2 = none) (hq : Q none h) : GG (M, R, QM Q mc ms, X0) mc ms pc L [] h := fun g p l e s m args below meth co C X H locs ls hR hS hL =>
  W.vret C.1 C.2.1 (C.2.2.2.2.2.2.1.trans hr) (fun t ht hW => qc_of (v := none) hq hR C.2.2.2.2.2.1.1 hS ht hW) hS.2.2 hd C.2.2.2.2.2.2.2.1
theorem g_aret {k : Nat} {n : String} (hd : decode M.2.1 pc = .ok (.areturn, 1)) (hr : M.2.2.2 = some (.object n)) (hq : Q (some (.ref k)) h) : GG (M, R, QM Q mc ms, X0) mc ms pc L [.ref k] h := fun g p l e s m args below meth co C X H locs ls hR hS hL =>
  W.aret (v := .ref (g.1 + k)) (rt := .object n) C.1 C.2.1 (C.2.2.2.2.2.2.1.trans hr) (Or.inl ⟨n, rfl⟩) (Or.inr ⟨_, rfl⟩) (fun t ht hW => qc_of (v := some (.ref k)) hq hR C.2.2.2.2.2.1.1 hS ht hW) hS.2.2 hd C.2.2.2.2.2.2.2.1
end RowsC
/-- what a call site needs of the tables -/
def LB (M' : MM) (n : Nat) : Prop := Cond.code M'.1 M'.2.1 M'.2.2.1 M'.2.2.2 ∈ lw_gt ∧ Cond.initialized M'.1.cls ∈ lw_gt ∧ (M'.1.cls ≠ "java/lang/invoke/MethodHandle" ∧ M'.1.cls ≠ "java/lang/invoke/VarHandle" ∧ (parseMethodDescriptor M'.1.desc).map (fun d => d.parameters.length) = some n)
def LVI (M' : MM) (n : Nat) : Prop := LB M' n ∧ Cond.instanceMethod M'.1 ∈ lw_gt ∧ Cond.selects M'.1.cls M'.1 M'.1 ∈ lw_gt
def LST (M' : MM) (n : Nat) : Prop := LB M' n ∧ Cond.static M'.1 ∈ lw_gt
def LIN (M' : MM) (n : Nat) : Prop := LB M' n ∧ Cond.instanceMethod M'.1 ∈ lw_gt
section RowsD
variable {E : EE} {cs sl pc : Nat} {L st As rest : List Value} {h : HH} {M' : MM} {d mc ms k c n idx : Nat} {Q' : Option Value → HH → Prop}
theorem lb_callB {R : Room} {s : State} {args : Array Value} {own : String} (hts : ∀ w ∈ lw_gt, w.before args s = true) (hB : LB M' n) (hlk : Cond.methodLink own idx M'.1 ∈ lw_gt) (hroom : d + 1 ≤ R.frames ∧ 8 + (M'.2.2.1 + 11) + 35 * d ≤ R.locals) : CallB R s args own idx M'.1 M'.2.1 M'.2.2.1 M'.2.2.2 (wsM M') (rmd d mc ms) mc ms n :=
  callB_of n hts (good_M hB.1) rfl rfl rfl (hts _ hB.2.1) (hts _ hlk) hB.2.2 hroom
theorem lb_callN {R : Room} {s : State} {args : Array Value} {own host : String} (hts : ∀ w ∈ lw_gt, w.before args s = true) (hB : LB M' n) (hlk : va_Nw (.methodLinkNest own idx M'.1 host) s) (hroom : d + 1 ≤ R.frames ∧ 8 + (M'.2.2.1 + 11) + 35 * d ≤ R.locals) : va_CN R s args own idx M'.1 host M'.2.1 M'.2.2.1 M'.2.2.2 (wsM M') (rmd d mc ms) mc ms n :=
  va_cnB n hts (good_M hB.1) rfl rfl rfl hlk (hts _ hB.2.1) hB.2.2 hroom
theorem g_after {g : GP} {p : Program} {l : Launch} {e : Env} {R : Room} {s : State} {m : MethodId} {args a : Array Value} {below : List Frame} {meth : Method} {co : Code} {H : Heap} {locs : List Loc} {ls : Array Slot} {Qf : State → Prop} {st0 rs : List Value}
    (hr : va_Run p l e R s m args below meth co H locs cs sl mc ms (F0 m pc ls st0) rs (QC g Q' a) (fun q => g.1 ≤ q)) (hS : va_S (fun q => g.1 ≤ q) s.heap H locs)
    (kk : ∀ (r : Option Value) (h' : HH) (H1 : Heap) (locs1 : List Loc), Q' r h' → Rep g h' H1 → va_S (fun q => g.1 ≤ q) s.heap H1 locs1 → W p l e R s m args below meth co H1 locs1 (cs + mc) (sl + ms) Qf (F0 m (pc + 3) ls ((r.map (cv g)).toList ++ rs))) : W p l e R s m args below meth co H locs cs sl Qf (F0 m pc ls st0) := by
  intro T hT X
  obtain ⟨v, st₀, t, T', Lx, h0, X', hL, e1, e2, ⟨⟨r, h', hv, hp, hb, -⟩, hz, hk⟩, st⟩ := hr T hT X
  cases hv
  rw [h0] at hz hk
  obtain ⟨t2, a1, b1⟩ := kk r h' T'.heap (locs ++ Lx) hp (by rw [e1]; exact hb)
    ⟨Nat.le_trans hS.1 (by rw [e1]; exact hz), fun q h1 h2 => by rw [e1, hk q (Nat.lt_of_lt_of_le h1 hS.1) h2]; exact hS.2.1 q h1 h2, fun q hq => by
      rcases List.mem_append.mp hq with h | h
      · exact hS.2.2 q h
      · exact hL q h⟩ T' rfl X'
  exact ⟨t2, st t2 a1, b1⟩
theorem g_callV (hd : decode E.1.2.1 pc = .ok (.invokevirtual idx, 3)) (hl : LVI M' n) (hlk : Cond.methodLink E.1.1.cls idx M'.1 ∈ lw_gt) (hC : CT M' d mc ms (.ref k :: As) h Q') (hn : As.length = n) (hst : As.reverse ++ .ref k :: rest = st) (ha : gA h k = aO c) (hc : (clsX[c]?).map (fun r => r.1) = some M'.1.cls) (hroom : d + 1 ≤ E.2.1.frames ∧ 8 + (M'.2.2.1 + 11) + 35 * d ≤ E.2.1.locals ∧ cs + mc ≤ E.2.1.cells ∧ sl + ms ≤ E.2.1.slots) (hcat : (rest.map Value.category).sum ≤ 8) (K : ∀ r h', Q' r h' → GG E (cs + mc) (sl + ms) (pc + 3) L (r.toList ++ rest) h') : GG E cs sl pc L st h := fun g p l e s m args below meth co C X H locs ls hR hS hL => by
  subst hst
  have hts := C.2.2.2.2.1
  obtain ⟨hB, hin, hse⟩ := hl
  obtain ⟨r', h1, cell, q1, q2, q3, q4⟩ := hR.o ha
  have hcl : s.vm.findClass M'.1.cls = some cell.cls := by
    rw [h1] at hc
    have e1 : r'.1 = M'.1.cls := Option.some.inj hc
    rw [← e1, q2]
    exact (C.2.2.2.2.2.1.1.1 c _ h1).2.1
  have est : (As.reverse ++ Value.ref k :: rest).map (cv g) = (As.map (cv g)).reverse ++ .ref (g.1 + k) :: rest.map (cv g) := by
    rw [List.map_append, List.map_reverse]; rfl
  rw [est]
  refine g_after (va_runV (As := As.map (cv g)) (rest := rest.map (cv g)) ⟨C.1, C.2.1, C.2.2.1, C.2.2.2.1, hts⟩ (hC g l) ⟨lb_callB hts hB hlk ⟨hroom.1, hroom.2.1⟩, hts _ hin, hts _ hse⟩ ⟨pcx_blind g _ h, ⟨cell, q1, by rw [q3]; rfl, hcl⟩, pcx_at hR C.2.2.2.2.2.1 rfl⟩ rfl (by rw [List.length_map]; exact hn) hL.1 rfl (by rw [cv_sum]; show 2 * 0 + _ ≤ 8; omega) hd hroom.2.2) hS (fun r h' H1 locs1 hq hR1 hS1 => ?_)
  have e2 : (r.map (cv g)).toList ++ rest.map (cv g) = (r.toList ++ rest).map (cv g) := by cases r <;> simp
  rw [e2]
  exact K r h' hq g p l e s m args below meth co C X H1 locs1 ls hR1 hS1 hL
theorem g_callS (hd : decode E.1.2.1 pc = .ok (.invokestatic idx, 3)) (hl : LST M' n) (hlk : Cond.methodLink E.1.1.cls idx M'.1 ∈ lw_gt) (hC : CT M' d mc ms As h Q') (hn : As.length = n) (hst : As.reverse ++ rest = st) (hroom : d + 1 ≤ E.2.1.frames ∧ 8 + (M'.2.2.1 + 11) + 35 * d ≤ E.2.1.locals ∧ cs + mc ≤ E.2.1.cells ∧ sl + ms ≤ E.2.1.slots) (hcat : (rest.map Value.category).sum ≤ 8) (K : ∀ r h', Q' r h' → GG E (cs + mc) (sl + ms) (pc + 3) L (r.toList ++ rest) h') : GG E cs sl pc L st h := fun g p l e s m args below meth co C X H locs ls hR hS hL => by
  subst hst
  have hts := C.2.2.2.2.1
  obtain ⟨hB, hse⟩ := hl
  have est : (As.reverse ++ rest).map (cv g) = (As.map (cv g)).reverse ++ rest.map (cv g) := by
    rw [List.map_append, List.map_reverse]
  rw [est]
  refine g_after (va_runS (As := As.map (cv g)) (rest := rest.map (cv g)) ⟨C.1, C.2.1, C.2.2.1, C.2.2.2.1, hts⟩ (hC g l) ⟨lb_callB hts hB hlk ⟨hroom.1, hroom.2.1⟩, hts _ hse⟩ ⟨pcx_blind g _ h, pcx_at hR C.2.2.2.2.2.1 rfl⟩ rfl (by rw [List.length_map]; exact hn) hL.1 rfl (by rw [cv_sum]; show 2 * 0 + _ ≤ 8; omega) hd hroom.2.2) hS (fun r h' H1 locs1 hq hR1 hS1 => ?_)
  have e2 : (r.map (cv g)).toList ++ rest.map (cv g) = (r.toList ++ rest).map (cv g) := by cases r <;> simp
  rw [e2]
  exact K r h' hq g p l e s m args below meth co C X H1 locs1 ls hR1 hS1 hL
theorem g_callSN {host : String} (hd : decode E.1.2.1 pc = .ok (.invokestatic idx, 3)) (hl : LST M' n) (hlk : (E.1.1.cls, idx, M'.1, host) ∈ nestL) (hC : CT M' d mc ms As h Q') (hn : As.length = n) (hst : As.reverse ++ rest = st) (hroom : d + 1 ≤ E.2.1.frames ∧ 8 + (M'.2.2.1 + 11) + 35 * d ≤ E.2.1.locals ∧ cs + mc ≤ E.2.1.cells ∧ sl + ms ≤ E.2.1.slots) (hcat : (rest.map Value.category).sum ≤ 8) (K : ∀ r h', Q' r h' → GG E (cs + mc) (sl + ms) (pc + 3) L (r.toList ++ rest) h') : GG E cs sl pc L st h := fun g p l e s m args below meth co C X H locs ls hR hS hL => by
  subst hst
  have hts := C.2.2.2.2.1
  obtain ⟨hB, hse⟩ := hl
  have est : (As.reverse ++ rest).map (cv g) = (As.map (cv g)).reverse ++ rest.map (cv g) := by
    rw [List.map_append, List.map_reverse]
  rw [est]
  refine g_after (va_runSN (As := As.map (cv g)) (rest := rest.map (cv g)) ⟨C.1, C.2.1, C.2.2.1, C.2.2.2.1, hts⟩ (hC g l) ⟨lb_callN hts hB (C.2.2.2.2.2.1.2 _ hlk) ⟨hroom.1, hroom.2.1⟩, hts _ hse, trivial⟩ ⟨pcx_blind g _ h, pcx_at hR C.2.2.2.2.2.1 rfl⟩ rfl (by rw [List.length_map]; exact hn) hL.1 rfl (by rw [cv_sum]; show 2 * 0 + _ ≤ 8; omega) hd hroom.2.2) hS (fun r h' H1 locs1 hq hR1 hS1 => ?_)
  have e2 : (r.map (cv g)).toList ++ rest.map (cv g) = (r.toList ++ rest).map (cv g) := by cases r <;> simp
  rw [e2]
  exact K r h' hq g p l e s m args below meth co C X H1 locs1 ls hR1 hS1 hL
theorem g_callI {y : MethodName} {cc : ByteArray} {nL : Nat} (hd : decode E.1.2.1 pc = .ok (.invokespecial idx, 3)) (hl : LIN (y, cc, nL, none) n) (hy : y.name = "<init>") (hlk : Cond.methodLink E.1.1.cls idx y ∈ lw_gt) (hC : CT (y, cc, nL, none) d mc ms (.ref k :: As) h Q') (hn : As.length = n) (hst : As.reverse ++ .ref k :: rest = st) (hroom : d + 1 ≤ E.2.1.frames ∧ 8 + (nL + 11) + 35 * d ≤ E.2.1.locals ∧ cs + mc ≤ E.2.1.cells ∧ sl + ms ≤ E.2.1.slots) (hcat : (rest.map Value.category).sum ≤ 8) (K : ∀ r h', Q' r h' → GG E (cs + mc) (sl + ms) (pc + 3) L (r.toList ++ rest) h') : GG E cs sl pc L st h := fun g p l e s m args below meth co C X H locs ls hR hS hL => by
  subst hst
  have hts := C.2.2.2.2.1
  obtain ⟨hB, hin⟩ := hl
  have est : (As.reverse ++ Value.ref k :: rest).map (cv g) = (As.map (cv g)).reverse ++ .ref (g.1 + k) :: rest.map (cv g) := by
    rw [List.map_append, List.map_reverse]; rfl
  rw [est]
  refine g_after (va_runI (As := As.map (cv g)) (rest := rest.map (cv g)) ⟨C.1, C.2.1, C.2.2.1, C.2.2.2.1, hts⟩ (hC g l) ⟨lb_callB hts hB hlk ⟨hroom.1, hroom.2.1⟩, hy, hts _ hin⟩ ⟨pcx_blind g _ h, pcx_at hR C.2.2.2.2.2.1 rfl⟩ rfl (by rw [List.length_map]; exact hn) hL.1 rfl (by rw [cv_sum]; show 2 * 0 + _ ≤ 8; omega) hd hroom.2.2) hS (fun r h' H1 locs1 hq hR1 hS1 => ?_)
  have e2 : (r.map (cv g)).toList ++ rest.map (cv g) = (r.toList ++ rest).map (cv g) := by cases r <;> simp
  rw [e2]
  exact K r h' hq g p l e s m args below meth co C X H1 locs1 ls hR1 hS1 hL
theorem g_callIN {y : MethodName} {cc : ByteArray} {nL : Nat} {host : String} (hd : decode E.1.2.1 pc = .ok (.invokespecial idx, 3)) (hl : LIN (y, cc, nL, none) n) (hy : y.name = "<init>") (hlk : (E.1.1.cls, idx, y, host) ∈ nestL) (hC : CT (y, cc, nL, none) d mc ms (.ref k :: As) h Q') (hn : As.length = n) (hst : As.reverse ++ .ref k :: rest = st) (hroom : d + 1 ≤ E.2.1.frames ∧ 8 + (nL + 11) + 35 * d ≤ E.2.1.locals ∧ cs + mc ≤ E.2.1.cells ∧ sl + ms ≤ E.2.1.slots) (hcat : (rest.map Value.category).sum ≤ 8) (K : ∀ r h', Q' r h' → GG E (cs + mc) (sl + ms) (pc + 3) L (r.toList ++ rest) h') : GG E cs sl pc L st h := fun g p l e s m args below meth co C X H locs ls hR hS hL => by
  subst hst
  have hts := C.2.2.2.2.1
  obtain ⟨hB, hin⟩ := hl
  have est : (As.reverse ++ Value.ref k :: rest).map (cv g) = (As.map (cv g)).reverse ++ .ref (g.1 + k) :: rest.map (cv g) := by
    rw [List.map_append, List.map_reverse]; rfl
  rw [est]
  refine g_after (va_runIN (As := As.map (cv g)) (rest := rest.map (cv g)) ⟨C.1, C.2.1, C.2.2.1, C.2.2.2.1, hts⟩ (hC g l) ⟨lb_callN (M' := (y, cc, nL, none)) hts hB (C.2.2.2.2.2.1.2 _ hlk) ⟨hroom.1, hroom.2.1⟩, hy, hts _ hin⟩ ⟨pcx_blind g _ h, pcx_at hR C.2.2.2.2.2.1 rfl⟩ rfl (by rw [List.length_map]; exact hn) hL.1 rfl (by rw [cv_sum]; show 2 * 0 + _ ≤ 8; omega) hd hroom.2.2) hS (fun r h' H1 locs1 hq hR1 hS1 => ?_)
  have e2 : (r.map (cv g)).toList ++ rest.map (cv g) = (r.toList ++ rest).map (cv g) := by cases r <;> simp
  rw [e2]
  exact K r h' hq g p l e s m args below meth co C X H1 locs1 ls hR1 hS1 hL
theorem g_copyi {q0 q1 n0 n1 a b nn : Nat} {f0 f1 : Nat → Int32} {x y z : Int32} (hd : decode E.1.2.1 pc = .ok (.invokestatic idx, 3)) (hlk : Cond.methodLink E.1.1.cls idx arraycopyName ∈ lw_gt) (h1 : Cond.native arraycopyName ∈ lw_gt) (h2 : Cond.static arraycopyName ∈ lw_gt) (h3 : Cond.initialized "java/lang/System" ∈ lw_gt) (ha0 : gA h q0 = aI n0 f0) (ha1 : gA h q1 = aI n1 f1) (hx : x.toInt = (a : Int)) (hy : y.toInt = (b : Int)) (hz : z.toInt = (nn : Int)) (h4 : a + nn ≤ n0) (h5 : b + nn ≤ n1) (hroom : 1 ≤ E.2.1.frames ∧ (rest.map Value.category).sum + (nativeFrameWords "java/lang/System" "arraycopy" 5 + 11) ≤ E.2.1.locals) (K : GG E cs sl (pc + 3) L rest (sA h q1 (aI n1 (va_cpy f0 f1 a b nn)))) : GG E cs sl pc L (.int z :: .int y :: .ref q1 :: .int x :: .ref q0 :: rest) h := fun g p l e s m args below meth co C X H locs ls hR hS hL => by
  have hts := C.2.2.2.2.1
  have hK := C.2.2.2.2.2.1.1
  have nn0 : ∀ (w : Int32) (j : Nat), w.toInt = (j : Int) → ¬ w < 0 ∧ w.toNatClampNeg = j := by
    intro w j hw
    refine ⟨fun q => ?_, by show w.toInt.toNat = j; rw [hw]; rfl⟩
    have := i_lt.mp q
    have h0 : (0 : Int32).toInt = 0 := rfl
    omega
  have ex := nn0 x a hx
  have ey := nn0 y b hy
  have ez := nn0 z nn hz
  have hc0 := hR.i ha0
  have hc1 := hR.i ha1
  intro T hT X1
  obtain ⟨-, k0, hk0, cm0, hkk0⟩ := (hK.2 0 _ rfl).1 n0 (fun j => .int (f0 j))
  obtain ⟨-, k1, hk1, cm1, hkk1⟩ := (hK.2 0 _ rfl).1 n1 (fun j => .int (f1 j))
  obtain ⟨vm', X', step⟩ := X1.arraycopy C.1 C.2.2.2.1 (hts _ hlk) (hts _ h1) (hts _ h2) (hts _ h3) (src := g.1 + q0) (dst := g.1 + q1) (cs := vp_cell g.2.2.2.1 (n0, .inl f0)) (cd := vp_cell g.2.2.2.1 (n1, .inl f1)) (srcPos := x) (destPos := y) (n := z) (by rw [hT]; exact hc0) (by rw [hT]; exact hc1)
    (fun _ h => by cases h) (fun _ h => by cases h) (fun h => by cases h) (fun h => by cases h) hk0 hk1 hkk0 hkk1 (by simp [show refKind FieldType.int = false from rfl]) ex.1 ey.1 ez.1
    (by rw [hx, hz]; show ¬ _ > ((arrV g.2.2.2.1 n0 (fun j => .int (f0 j))).slots.size : Int); rw [arrV_size]; omega)
    (by rw [hy, hz]; show ¬ _ > ((arrV g.2.2.2.1 n1 (fun j => .int (f1 j))).slots.size : Int); rw [arrV_size]; omega)
    (fun vm₁ _ i hi => by
      rw [ez.2] at hi
      have e : (vp_cell g.2.2.2.1 (n0, .inl f0)).slots.getD (x.toNatClampNeg + i) .null = .int (f0 (x.toNatClampNeg + i)) := by
        show (arrV g.2.2.2.1 n0 (fun j => .int (f0 j))).slots.getD _ _ = _
        rw [Array.getD_eq_getD_getElem?, arrV_read _ _ (by rw [ex.2]; omega)]
        rfl
      refine ⟨?_, ?_⟩
      · rw [e]
        rfl
      · rw [e]
        exact trivial)
    (g := F0 m pc ls (.int z :: .int y :: .ref (g.1 + q1) :: .int x :: .ref (g.1 + q0) :: rest.map (cv g))) rfl (by rw [C.2.2.1]; exact hL.1) (rest := rest.map (cv g)) rfl (by rw [C.2.1]; exact hd) hroom.1 (by rw [cv_sum]; show 2 * 0 + _ + _ ≤ _; have := hroom.2; omega)
  have e1 : copied (vp_cell g.2.2.2.1 (n0, .inl f0)) (vp_cell g.2.2.2.1 (n1, .inl f1)) x y z = vp_cell g.2.2.2.1 (n1, .inl (va_cpy f0 f1 a b nn)) := by
    rw [← ex.2, ← ey.2, ← ez.2]
    exact va_copied (fun z => .int z) _ _ f0 f1 (by rw [ex.2, ez.2]; exact h4)
  rw [e1] at X' step
  have hl : g.1 + q1 < H.size := (Array.getElem?_eq_some_iff.mp hc1).1
  have hheap : ((T.setVm vm').setCell (g.1 + q1) (vp_cell g.2.2.2.1 (n1, .inl (va_cpy f0 f1 a b nn)))).heap = H.setIfInBounds (g.1 + q1) (vp_cell g.2.2.2.1 (n1, .inl (va_cpy f0 f1 a b nn))) := by rw [← hT]; rfl
  have oq : ∀ q : Nat, q ≠ g.1 + q1 → (H.setIfInBounds (g.1 + q1) (vp_cell g.2.2.2.1 (n1, .inl (va_cpy f0 f1 a b nn))))[q]? = H[q]? := fun q hq => by simp [Array.getElem?_setIfInBounds, Ne.symm hq]
  have key : ∀ locs1 : List Loc, va_S (fun q => g.1 ≤ q) s.heap (H.setIfInBounds (g.1 + q1) (vp_cell g.2.2.2.1 (n1, .inl (va_cpy f0 f1 a b nn)))) locs1 → _ := fun locs1 hS1 => K g p l e s m args below meth co C X _ locs1 ls (hR.upd (H1 := H.setIfInBounds (g.1 + q1) (vp_cell g.2.2.2.1 (n1, .inl (va_cpy f0 f1 a b nn)))) (by simp) oq (by unfold AT; rw [gA_sA, if_pos rfl]; show (H.setIfInBounds (g.1 + q1) _)[g.1 + q1]? = some _; simp [Array.getElem?_setIfInBounds, hl]) (fun i hi => by rw [gA_sA, if_neg hi]) (fun i hi j => gF_sA ..) (gN_sA ..)) hS1 hL
  obtain ⟨t, a1, b1⟩ := key _ ⟨by simp; exact hS.1, fun q g1 g2 => by
      rw [oq q (fun e => g2 (by rw [e]; exact Nat.le_add_right _ _))]
      exact hS.2.1 q g1 g2, fun q hq => by
      rcases List.mem_append.mp hq with h | h
      · exact hS.2.2 q h
      · obtain ⟨z, -, hz⟩ := List.mem_map.mp h
        rw [← hz]
        exact Nat.le_add_right _ _⟩ _ hheap X'
  exact ⟨t, step t a1, b1⟩
theorem g_sld {Ls : Nat} {xs : Nat → Int32} {j : Nat} {x : Int32} (hd : decode E.1.2.1 pc = .ok (.iaload, 1)) (hX0 : ∀ g args s, E.2.2.2 g args s → va_X g.2.1 Ls xs s s.heap ∧ g.2.1 < s.heap.size ∧ g.2.1 < g.1) (hx : x.toInt = (j : Int)) (hj : j < Ls) (K : GG E cs sl (pc + 1) L (.int (xs j) :: rest) h) : GG E cs sl pc L (.int x :: hX :: rest) h := fun g p l e s m args below meth co C X H locs ls hR hS hL => by
  obtain ⟨hi, hc⟩ := idx_ok hx hj
  obtain ⟨a1, a2, a3⟩ := hX0 g args s X
  have key := K g p l e s m args below meth co C X H locs ls hR hS hL
  rw [← hc] at key
  exact va_sld C.1 C.2.1 a1 a2 (Nat.not_le.mpr a3) hS hi hd key
theorem g_slen {Ls : Nat} {xs : Nat → Int32} (hd : decode E.1.2.1 pc = .ok (.arraylength, 1)) (hX0 : ∀ g args s, E.2.2.2 g args s → va_X g.2.1 Ls xs s s.heap ∧ g.2.1 < s.heap.size ∧ g.2.1 < g.1) (K : GG E cs sl (pc + 1) L (.int (Int32.ofNat Ls) :: rest) h) : GG E cs sl pc L (hX :: rest) h := fun g p l e s m args below meth co C X H locs ls hR hS hL => by
  obtain ⟨a1, a2, a3⟩ := hX0 g args s X
  exact va_slen C.1 C.2.1 a1 a2 (Nat.not_le.mpr a3) hS hd (K g p l e s m args below meth co C X H locs ls hR hS hL)
end RowsD
