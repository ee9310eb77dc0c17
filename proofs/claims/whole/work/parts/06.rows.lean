/-! the judgement, contracts, rows -/
abbrev MM : Type := MethodName × ByteArray × Nat × Option FieldType
def lw_gt : List Cond := lw_tbl.filter goodWord
theorem gt_mem {w : Cond} (hm : w ∈ lw_tbl) (hg : goodWord w = true) : w ∈ lw_gt := List.mem_filter.mpr ⟨hm, hg⟩
theorem gt_at (i : Nat) {w : Cond} (hm : lw_tbl[i]? = some w) (hg : goodWord w = true) : w ∈ lw_gt := gt_mem (List.mem_of_getElem? hm) hg
def nestL : List (String × Nat × MethodName × String) := [(RX7, 29, yX4_init, RX7), (RX4, 11, yX2_init, RX7), (RX7, 36, yX2_init, RX7), (RX7, 46, yX5_init, RX7), (RX7, 75, yX1_init, RX7), (RX1, 40, yX7_choose, RX7), (RX6, 22, yX7_isWithin, RX7)]
def NWs (U : State) : Prop := ∀ q ∈ nestL, va_Nw (.methodLinkNest q.1 q.2.1 q.2.2.1 q.2.2.2) U
theorem NWs.same {u U : State} (h : u.vm = U.vm) (hZ : NWs u) : NWs U := fun q hq => va_Nw.same rfl h (hZ q hq)
theorem NWs.warm {s U : State} (hW : s.WarmedH U.vm) (hZ : NWs s) : NWs U := fun q hq => va_Nw.warmM hW (hZ q hq)
def wsM (M : MM) : List Cond := Cond.code M.1 M.2.1 M.2.2.1 M.2.2.2 :: lw_gt
def rmd (d mc ms : Nat) : Room := { frames := d, cells := mc, slots := ms, locals := 35 * d }
def Cx (M : MM) (g : GP) (p : Program) (s : State) (m : MethodId) (args : Array Value) (meth : Method) (c : Code) : Prop :=
  p.tables.exec = Jvm.exec ∧ c.code = M.2.1 ∧ c.maxLocals = M.2.2.1 ∧ s.vm.findClass M.1.cls = some m.cls ∧ (∀ w ∈ lw_gt, w.before args s = true) ∧ (va_K g.2.2.1 clsX (tysX g) s ∧ NWs s) ∧ meth.sig.returnType = M.2.2.2 ∧ meth.locks = false ∧ (M.1.name = "<init>" → meth.name = "<init>")
abbrev QQT : Type := GP → List Frame → Array Value → State → State → Prop
abbrev XXT : Type := GP → Array Value → State → Prop
abbrev EE : Type := MM × Room × QQT × XXT
def GG (E : EE) (cs sl pc : Nat) (L st : List Value) (h : HH) : Prop :=
  ∀ (g : GP) (p : Program) (l : Launch) (e : Env) (s : State) (m : MethodId) (args : Array Value) (below : List Frame) (meth : Method) (c : Code), Cx E.1 g p s m args meth c → E.2.2.2 g args s → ∀ (H : Heap) (locs : List Loc) (ls : Array Slot), Rep g h H → va_S (fun q => g.1 ≤ q) s.heap H locs → LH g ls E.1.2.2.1 L → W p l e E.2.1 s m args below meth c H locs cs sl (E.2.2.1 g below args s) (F0 m pc ls (st.map (cv g)))
def QC (g : GP) (Q : Option Value → HH → Prop) : Array Value → State → Outcome → State → Prop := fun _ st o t => (∃ (r : Option Value) (h' : HH), o = .returned (r.map (cv g)) ∧ Q r h' ∧ Rep g h' t.heap ∧ va_K g.2.2.1 clsX (tysX g) t) ∧ va_F (fun q => g.1 ≤ q) st t
def QM (Q : Option Value → HH → Prop) (mc ms : Nat) : QQT := fun g below args s => MQ below (QC g Q) args s mc ms (fun q => g.1 ≤ q)
def PCX (g : GP) (as : List Value) (h : HH) : Array Value → State → Prop := va_Pc (as.map (cv g)) (fun U => Rep g h U.heap ∧ va_K g.2.2.1 clsX (tysX g) U ∧ NWs U)
def CT (M : MM) (d mc ms : Nat) (as : List Value) (h : HH) (Q : Option Value → HH → Prop) : Prop :=
  ∀ (g : GP) (l : Launch), Met l M.1 (wsM M) (rmd d mc ms) (PCX g as h) (QC g Q) mc ms (fun q => g.1 ≤ q)
def XT : XXT := fun _ _ _ => True
abbrev EM (M : MM) (d mc ms : Nat) (Q : Option Value → HH → Prop) : EE := (M, rmd d mc ms, QM Q mc ms, XT)
theorem lh_entry (g : GP) {as L : List Value} {n : Nat} (hn : (entL as).length ≤ n) (hL : entL as ++ List.replicate (n - (entL as).length) hU = L) : LH g ((lg_sl (as.map (cv g)) ++ List.replicate (n - (lg_sl (as.map (cv g))).length) Slot.unset).toArray) n L := by
  have h0 := lv_entry (as.map (cv g)) (n := n) (by rw [ent_len]; exact hn)
  refine ⟨h0.1, h0.2.1, by rw [← hL, List.length_append, List.length_replicate]; omega, fun i v hi hv => ?_⟩
  rw [← hL] at hi
  by_cases hl : i < (entL as).length
  · rw [List.getElem?_append_left hl] at hi
    have h1 := ent_mem g as 0 i v hi hv
    rw [Nat.zero_add] at h1
    exact h0.2.2 _ h1
  · rw [List.getElem?_append_right (by omega)] at hi
    exact absurd (List.eq_of_mem_replicate (List.mem_of_getElem? hi)) hv
theorem CT.intro {M : MM} {d mc ms : Nat} {as : List Value} {h : HH} {Q : Option Value → HH → Prop} (L : List Value) (hp : plainName M.1.cls = true) (hn : (entL as).length ≤ M.2.2.1) (hL : entL as ++ List.replicate (M.2.2.1 - (entL as).length) hU = L) (K : GG (EM M d mc ms Q) 0 0 0 L [] h) : CT M d mc ms as h Q := by
  intro g l
  refine Met.ofW (cc := M.2.1) (maxL := M.2.2.1) (ret := M.2.2.2) hp rfl ?_
  intro p e s m args below meth c s₁ B hml hv
  obtain ⟨rfl, hR, hK⟩ := hv
  have hts := atoms_spec (ws := wsM M) B.pre
  rw [lg_entry_eq]
  exact K g p l e s m _ below meth c ⟨B.exec, B.bytes, hml, findClass_of_methodNamed B.named, fun w hw => hts w (List.mem_cons_of_mem _ hw), hK, B.returns, B.notSynchronized, fun hi => by rw [(name_of_methodNamed B.named B.method).1]; exact hi⟩ trivial s.heap [] _ hR va_S.rf (lh_entry g hn hL)
theorem lw_good : ∀ w ∈ lw_gt, (w.onTables && w.keeps) = true ∨ ∃ ty, w = .arrayClass ty := fun _ hw => good_of_word (List.mem_filter.mp hw).2
theorem good_M {M : MM} (hc : Cond.code M.1 M.2.1 M.2.2.1 M.2.2.2 ∈ lw_gt) : GoodIn lw_gt (wsM M) := fun w hw => by
  rcases List.mem_cons.mp hw with rfl | hw
  · exact ⟨hc, lw_good _ hc⟩
  · exact ⟨hw, lw_good _ hw⟩
theorem pcx_blind (g : GP) (as : List Value) (h : HH) : FrameBlind (PCX g as h) := fun a U fr mk q => by
  obtain ⟨q1, q2, q3⟩ := q
  exact ⟨q1, q2, va_K.moved (u := U) (U := U.calling fr mk a) (Vm.Alike.refl U.vm) q3.1, NWs.same (u := U) (U := U.calling fr mk a) rfl q3.2⟩
theorem pcx_at {g : GP} {as : List Value} {h : HH} {H : Heap} {s : State} (hR : Rep g h H) (hK : va_K g.2.2.1 clsX (tysX g) s ∧ NWs s) {v : Array Value} (hv : v = (as.map (cv g)).toArray) : ∀ U : State, U.heap = H → s.WarmedH U.vm → PCX g as h v U := fun U hU hW => ⟨hv, by rw [hU]; exact hR, va_K.moved hW.alike hK.1, NWs.warm hW hK.2⟩
section RowsA
variable {E : EE} {cs sl pc : Nat} {L rest : List Value} {h : HH}
theorem g_iload_n {i : Nat} {x : Int32} {k : Fin 4} (hd : decode E.1.2.1 pc = .ok (.iload_n k, 1)) (hi : (k : Nat) = i) (hl : L[i]? = some (.int x)) (K : GG E cs sl (pc + 1) L (.int x :: rest) h) : GG E cs sl pc L rest h := fun g p l e s m args below meth c C X H locs ls hR hS hL =>
  lv_iload_n C.1 C.2.1 hd hi (hL.get hl (by intro q; cases q)) (K g p l e s m args below meth c C X H locs ls hR hS hL)
theorem g_iload {i : Nat} {x : Int32} (hd : decode E.1.2.1 pc = .ok (.iload i, 2)) (hl : L[i]? = some (.int x)) (K : GG E cs sl (pc + 2) L (.int x :: rest) h) : GG E cs sl pc L rest h := fun g p l e s m args below meth c C X H locs ls hR hS hL =>
  lv_iload C.1 C.2.1 hd (hL.get hl (by intro q; cases q)) (K g p l e s m args below meth c C X H locs ls hR hS hL)
theorem g_lload_n {i : Nat} {x : Int64} {k : Fin 4} (hd : decode E.1.2.1 pc = .ok (.lload_n k, 1)) (hi : (k : Nat) = i) (hl : L[i]? = some (.long x)) (K : GG E cs sl (pc + 1) L (.long x :: rest) h) : GG E cs sl pc L rest h := fun g p l e s m args below meth c C X H locs ls hR hS hL =>
  lv_lload_n C.1 C.2.1 hd hi (hL.get hl (by intro q; cases q)) (K g p l e s m args below meth c C X H locs ls hR hS hL)
theorem g_lload {i : Nat} {x : Int64} (hd : decode E.1.2.1 pc = .ok (.lload i, 2)) (hl : L[i]? = some (.long x)) (K : GG E cs sl (pc + 2) L (.long x :: rest) h) : GG E cs sl pc L rest h := fun g p l e s m args below meth c C X H locs ls hR hS hL =>
  lv_lload C.1 C.2.1 hd (hL.get hl (by intro q; cases q)) (K g p l e s m args below meth c C X H locs ls hR hS hL)
theorem g_aload_n {i x : Nat} {k : Fin 4} (hd : decode E.1.2.1 pc = .ok (.aload_n k, 1)) (hi : (k : Nat) = i) (hl : L[i]? = some (.ref x)) (K : GG E cs sl (pc + 1) L (.ref x :: rest) h) : GG E cs sl pc L rest h := fun g p l e s m args below meth c C X H locs ls hR hS hL =>
  lv_aload_n C.1 C.2.1 hd hi (hL.get hl (by intro q; cases q)) (K g p l e s m args below meth c C X H locs ls hR hS hL)
theorem g_aload {i x : Nat} (hd : decode E.1.2.1 pc = .ok (.aload i, 2)) (hl : L[i]? = some (.ref x)) (K : GG E cs sl (pc + 2) L (.ref x :: rest) h) : GG E cs sl pc L rest h := fun g p l e s m args below meth c C X H locs ls hR hS hL =>
  lv_aload C.1 C.2.1 hd (hL.get hl (by intro q; cases q)) (K g p l e s m args below meth c C X H locs ls hR hS hL)
/-- the script's own reference -/
theorem g_aload_x {i : Nat} {k : Fin 4} (hd : decode E.1.2.1 pc = .ok (.aload_n k, 1)) (hi : (k : Nat) = i) (hl : L[i]? = some hX) (K : GG E cs sl (pc + 1) L (hX :: rest) h) : GG E cs sl pc L rest h := fun g p l e s m args below meth c C X H locs ls hR hS hL =>
  lv_aload_n C.1 C.2.1 hd hi (hL.get hl (by intro q; cases q)) (K g p l e s m args below meth c C X H locs ls hR hS hL)
theorem g_istore_n {i : Nat} {x : Int32} {k : Fin 4} {L' : List Value} (hd : decode E.1.2.1 pc = .ok (.istore_n k, 1)) (hi : (k : Nat) = i) (hn : i < E.1.2.2.1) (hl : stL1 L i (.int x) = L') (K : GG E cs sl (pc + 1) L' rest h) : GG E cs sl pc L (.int x :: rest) h := fun g p l e s m args below meth c C X H locs ls hR hS hL =>
  lv_istore_n C.1 C.2.1 hd hi hL.has hn rfl (fun ls' h' => K g p l e s m args below meth c C X H locs ls' hR hS (by rw [← hl]; exact hL.s1 hn h'))
theorem g_istore {i : Nat} {x : Int32} {L' : List Value} (hd : decode E.1.2.1 pc = .ok (.istore i, 2)) (hn : i < E.1.2.2.1) (hl : stL1 L i (.int x) = L') (K : GG E cs sl (pc + 2) L' rest h) : GG E cs sl pc L (.int x :: rest) h := fun g p l e s m args below meth c C X H locs ls hR hS hL =>
  lv_istore C.1 C.2.1 hd hL.has hn rfl (fun ls' h' => K g p l e s m args below meth c C X H locs ls' hR hS (by rw [← hl]; exact hL.s1 hn h'))
theorem g_astore_n {i x : Nat} {k : Fin 4} {L' : List Value} (hd : decode E.1.2.1 pc = .ok (.astore_n k, 1)) (hi : (k : Nat) = i) (hn : i < E.1.2.2.1) (hl : stL1 L i (.ref x) = L') (K : GG E cs sl (pc + 1) L' rest h) : GG E cs sl pc L (.ref x :: rest) h := fun g p l e s m args below meth c C X H locs ls hR hS hL =>
  lv_astore_n C.1 C.2.1 hd hi hL.has hn rfl (fun ls' h' => K g p l e s m args below meth c C X H locs ls' hR hS (by rw [← hl]; exact hL.s1 (v := .ref x) hn h'))
theorem g_lstore_n {i : Nat} {x : Int64} {k : Fin 4} {L' : List Value} (hd : decode E.1.2.1 pc = .ok (.lstore_n k, 1)) (hi : (k : Nat) = i) (hn : i + 1 < E.1.2.2.1) (hl : stL2 L i (.long x) = L') (K : GG E cs sl (pc + 1) L' rest h) : GG E cs sl pc L (.long x :: rest) h := fun g p l e s m args below meth c C X H locs ls hR hS hL =>
  lv_lstore_n C.1 C.2.1 hd hi hL.has hn rfl (fun ls' h' => K g p l e s m args below meth c C X H locs ls' hR hS (by rw [← hl]; exact hL.s2 hn h'))
theorem g_lstore {i : Nat} {x : Int64} {L' : List Value} (hd : decode E.1.2.1 pc = .ok (.lstore i, 2)) (hn : i + 1 < E.1.2.2.1) (hl : stL2 L i (.long x) = L') (K : GG E cs sl (pc + 2) L' rest h) : GG E cs sl pc L (.long x :: rest) h := fun g p l e s m args below meth c C X H locs ls hR hS hL =>
  lv_lstore C.1 C.2.1 hd hL.has hn rfl (fun ls' h' => K g p l e s m args below meth c C X H locs ls' hR hS (by rw [← hl]; exact hL.s2 hn h'))
theorem g_iinc {i : Nat} {n : Int} {x : Int32} {L' : List Value} (hd : decode E.1.2.1 pc = .ok (.iinc i n, 3)) (hx : L[i]? = some (.int x)) (hn : i < E.1.2.2.1) (hl : stL1 L i (.int (x + Int32.ofInt n)) = L') (K : GG E cs sl (pc + 3) L' rest h) : GG E cs sl pc L rest h := fun g p l e s m args below meth c C X H locs ls hR hS hL => by
  obtain ⟨k, hk⟩ := List.getElem?_of_mem ((asl_mem g L 0 (i, .int x)).mpr ⟨i, .int x, hx, (by intro q; cases q), by rw [Nat.zero_add]; rfl⟩)
  exact lv_iinc C.1 C.2.1 hd hL.has hk rfl hn rfl (fun ls' h' => K g p l e s m args below meth c C X H locs ls' hR hS (by rw [← hl]; exact hL.s1 hn h'))
theorem g_iconst {n : Int} {v : Int32} (hd : decode E.1.2.1 pc = .ok (.iconst n, 1)) (hv : Int32.ofInt n = v) (K : GG E cs sl (pc + 1) L (.int v :: rest) h) : GG E cs sl pc L rest h := fun g p l e s m args below meth c C X H locs ls hR hS hL =>
  lv_iconst C.1 C.2.1 hd hv (K g p l e s m args below meth c C X H locs ls hR hS hL)
theorem g_lconst {n : Fin 2} {v : Int64} (hd : decode E.1.2.1 pc = .ok (.lconst n, 1)) (hv : Int64.ofNat (n : Nat) = v) (K : GG E cs sl (pc + 1) L (.long v :: rest) h) : GG E cs sl pc L rest h := fun g p l e s m args below meth c C X H locs ls hR hS hL =>
  lv_lconst C.1 C.2.1 hd hv (K g p l e s m args below meth c C X H locs ls hR hS hL)
theorem g_bipush {n : Int} {v : Int32} (hd : decode E.1.2.1 pc = .ok (.bipush n, 2)) (hv : (Int8.ofInt n).toInt32 = v) (K : GG E cs sl (pc + 2) L (.int v :: rest) h) : GG E cs sl pc L rest h := fun g p l e s m args below meth c C X H locs ls hR hS hL =>
  lv_bipush C.1 C.2.1 hd hv (K g p l e s m args below meth c C X H locs ls hR hS hL)
theorem g_sipush {n : Int} {v : Int32} (hd : decode E.1.2.1 pc = .ok (.sipush n, 3)) (hv : (Int16.ofInt n).toInt32 = v) (K : GG E cs sl (pc + 3) L (.int v :: rest) h) : GG E cs sl pc L rest h := fun g p l e s m args below meth c C X H locs ls hR hS hL =>
  lv_sipush C.1 C.2.1 hd hv (K g p l e s m args below meth c C X H locs ls hR hS hL)
theorem g_ldc {idx : Nat} {v : Int32} (hd : decode E.1.2.1 pc = .ok (.ldc idx, 2)) (hc : Cond.constant E.1.1.cls idx v ∈ lw_gt) (K : GG E cs sl (pc + 2) L (.int v :: rest) h) : GG E cs sl pc L rest h := fun g p l e s m args below meth c C X H locs ls hR hS hL =>
  lv_ldc C.1 C.2.1 C.2.2.2.1 (C.2.2.2.2.1 _ hc) hd (K g p l e s m args below meth c C X H locs ls hR hS hL)
theorem g_ldcw {idx : Nat} {v : Int32} (hd : decode E.1.2.1 pc = .ok (.ldc_w idx, 3)) (hc : Cond.constant E.1.1.cls idx v ∈ lw_gt) (K : GG E cs sl (pc + 3) L (.int v :: rest) h) : GG E cs sl pc L rest h := fun g p l e s m args below meth c C X H locs ls hR hS hL =>
  lv_ldcw C.1 C.2.1 C.2.2.2.1 (C.2.2.2.2.1 _ hc) hd (K g p l e s m args below meth c C X H locs ls hR hS hL)
theorem g_ldc2 {idx : Nat} {v : Int64} (hd : decode E.1.2.1 pc = .ok (.ldc2_w idx, 3)) (hc : Cond.constantLong E.1.1.cls idx v ∈ lw_gt) (K : GG E cs sl (pc + 3) L (.long v :: rest) h) : GG E cs sl pc L rest h := fun g p l e s m args below meth c C X H locs ls hR hS hL =>
  lv_ldc2 C.1 C.2.1 C.2.2.2.1 (C.2.2.2.2.1 _ hc) hd (K g p l e s m args below meth c C X H locs ls hR hS hL)
theorem g_iadd {x y : Int32} (hd : decode E.1.2.1 pc = .ok (.iadd, 1)) (K : GG E cs sl (pc + 1) L (.int (x + y) :: rest) h) : GG E cs sl pc L (.int y :: .int x :: rest) h := fun g p l e s m args below meth c C X H locs ls hR hS hL =>
  lv_iadd C.1 C.2.1 hd (K g p l e s m args below meth c C X H locs ls hR hS hL)
theorem g_isub {x y : Int32} (hd : decode E.1.2.1 pc = .ok (.isub, 1)) (K : GG E cs sl (pc + 1) L (.int (x - y) :: rest) h) : GG E cs sl pc L (.int y :: .int x :: rest) h := fun g p l e s m args below meth c C X H locs ls hR hS hL =>
  lv_isub C.1 C.2.1 hd (K g p l e s m args below meth c C X H locs ls hR hS hL)
theorem g_imul {x y : Int32} (hd : decode E.1.2.1 pc = .ok (.imul, 1)) (K : GG E cs sl (pc + 1) L (.int (x * y) :: rest) h) : GG E cs sl pc L (.int y :: .int x :: rest) h := fun g p l e s m args below meth c C X H locs ls hR hS hL =>
  lv_imul C.1 C.2.1 hd (K g p l e s m args below meth c C X H locs ls hR hS hL)
theorem g_iand {x y : Int32} (hd : decode E.1.2.1 pc = .ok (.iand, 1)) (K : GG E cs sl (pc + 1) L (.int (x &&& y) :: rest) h) : GG E cs sl pc L (.int y :: .int x :: rest) h := fun g p l e s m args below meth c C X H locs ls hR hS hL =>
  lv_iand C.1 C.2.1 hd (K g p l e s m args below meth c C X H locs ls hR hS hL)
theorem g_ior {x y : Int32} (hd : decode E.1.2.1 pc = .ok (.ior, 1)) (K : GG E cs sl (pc + 1) L (.int (x ||| y) :: rest) h) : GG E cs sl pc L (.int y :: .int x :: rest) h := fun g p l e s m args below meth c C X H locs ls hR hS hL =>
  lv_ior C.1 C.2.1 hd (K g p l e s m args below meth c C X H locs ls hR hS hL)
theorem g_ixor {x y : Int32} (hd : decode E.1.2.1 pc = .ok (.ixor, 1)) (K : GG E cs sl (pc + 1) L (.int (x ^^^ y) :: rest) h) : GG E cs sl pc L (.int y :: .int x :: rest) h := fun g p l e s m args below meth c C X H locs ls hR hS hL =>
  lv_ixor C.1 C.2.1 hd (K g p l e s m args below meth c C X H locs ls hR hS hL)
theorem g_idiv {x y : Int32} (hd : decode E.1.2.1 pc = .ok (.idiv, 1)) (hne : ¬ y = 0) (K : GG E cs sl (pc + 1) L (.int (x / y) :: rest) h) : GG E cs sl pc L (.int y :: .int x :: rest) h := fun g p l e s m args below meth c C X H locs ls hR hS hL =>
  lv_idiv C.1 C.2.1 hd hne (K g p l e s m args below meth c C X H locs ls hR hS hL)
theorem g_irem {x y : Int32} (hd : decode E.1.2.1 pc = .ok (.irem, 1)) (hne : ¬ y = 0) (K : GG E cs sl (pc + 1) L (.int (x - x / y * y) :: rest) h) : GG E cs sl pc L (.int y :: .int x :: rest) h := fun g p l e s m args below meth c C X H locs ls hR hS hL =>
  lv_irem C.1 C.2.1 hd hne (K g p l e s m args below meth c C X H locs ls hR hS hL)
theorem g_ladd {x y : Int64} (hd : decode E.1.2.1 pc = .ok (.ladd, 1)) (K : GG E cs sl (pc + 1) L (.long (x + y) :: rest) h) : GG E cs sl pc L (.long y :: .long x :: rest) h := fun g p l e s m args below meth c C X H locs ls hR hS hL =>
  lv_ladd C.1 C.2.1 hd (K g p l e s m args below meth c C X H locs ls hR hS hL)
theorem g_lmul {x y : Int64} (hd : decode E.1.2.1 pc = .ok (.lmul, 1)) (K : GG E cs sl (pc + 1) L (.long (x * y) :: rest) h) : GG E cs sl pc L (.long y :: .long x :: rest) h := fun g p l e s m args below meth c C X H locs ls hR hS hL =>
  lv_lmul C.1 C.2.1 hd (K g p l e s m args below meth c C X H locs ls hR hS hL)
theorem g_land {x y : Int64} (hd : decode E.1.2.1 pc = .ok (.land, 1)) (K : GG E cs sl (pc + 1) L (.long (x &&& y) :: rest) h) : GG E cs sl pc L (.long y :: .long x :: rest) h := fun g p l e s m args below meth c C X H locs ls hR hS hL =>
  lv_land C.1 C.2.1 hd (K g p l e s m args below meth c C X H locs ls hR hS hL)
theorem g_lor {x y : Int64} (hd : decode E.1.2.1 pc = .ok (.lor, 1)) (K : GG E cs sl (pc + 1) L (.long (x ||| y) :: rest) h) : GG E cs sl pc L (.long y :: .long x :: rest) h := fun g p l e s m args below meth c C X H locs ls hR hS hL =>
  lv_lor C.1 C.2.1 hd (K g p l e s m args below meth c C X H locs ls hR hS hL)
theorem g_ldiv {x y : Int64} (hd : decode E.1.2.1 pc = .ok (.ldiv, 1)) (hne : ¬ y = 0) (K : GG E cs sl (pc + 1) L (.long (x / y) :: rest) h) : GG E cs sl pc L (.long y :: .long x :: rest) h := fun g p l e s m args below meth c C X H locs ls hR hS hL =>
  lv_ldiv C.1 C.2.1 hd hne (K g p l e s m args below meth c C X H locs ls hR hS hL)
theorem g_ishl {x y : Int32} (hd : decode E.1.2.1 pc = .ok (.ishl, 1)) (K : GG E cs sl (pc + 1) L (.int (x <<< (y &&& 31)) :: rest) h) : GG E cs sl pc L (.int y :: .int x :: rest) h := fun g p l e s m args below meth c C X H locs ls hR hS hL =>
  lv_ishl C.1 C.2.1 hd (K g p l e s m args below meth c C X H locs ls hR hS hL)
theorem g_ishr {x y : Int32} (hd : decode E.1.2.1 pc = .ok (.ishr, 1)) (K : GG E cs sl (pc + 1) L (.int (x >>> (y &&& 31)) :: rest) h) : GG E cs sl pc L (.int y :: .int x :: rest) h := fun g p l e s m args below meth c C X H locs ls hR hS hL =>
  lv_ishr C.1 C.2.1 hd (K g p l e s m args below meth c C X H locs ls hR hS hL)
theorem g_iushr {x y : Int32} (hd : decode E.1.2.1 pc = .ok (.iushr, 1)) (K : GG E cs sl (pc + 1) L (.int ((x.toUInt32 >>> (y.toUInt32 &&& Int32.toUInt32 31)).toInt32) :: rest) h) : GG E cs sl pc L (.int y :: .int x :: rest) h := fun g p l e s m args below meth c C X H locs ls hR hS hL =>
  lv_iushr C.1 C.2.1 hd rfl (K g p l e s m args below meth c C X H locs ls hR hS hL)
theorem g_lshl {x : Int64} {y : Int32} (hd : decode E.1.2.1 pc = .ok (.lshl, 1)) (K : GG E cs sl (pc + 1) L (.long (x <<< (y.toInt64 &&& 63)) :: rest) h) : GG E cs sl pc L (.int y :: .long x :: rest) h := fun g p l e s m args below meth c C X H locs ls hR hS hL =>
  lv_lshl C.1 C.2.1 hd rfl (K g p l e s m args below meth c C X H locs ls hR hS hL)
theorem g_lshr {x : Int64} {y : Int32} (hd : decode E.1.2.1 pc = .ok (.lshr, 1)) (K : GG E cs sl (pc + 1) L (.long (x >>> (y.toInt64 &&& 63)) :: rest) h) : GG E cs sl pc L (.int y :: .long x :: rest) h := fun g p l e s m args below meth c C X H locs ls hR hS hL =>
  lv_lshr C.1 C.2.1 hd rfl (K g p l e s m args below meth c C X H locs ls hR hS hL)
theorem g_i2l {x : Int32} (hd : decode E.1.2.1 pc = .ok (.i2l, 1)) (K : GG E cs sl (pc + 1) L (.long x.toInt64 :: rest) h) : GG E cs sl pc L (.int x :: rest) h := fun g p l e s m args below meth c C X H locs ls hR hS hL =>
  lv_i2l C.1 C.2.1 hd rfl (K g p l e s m args below meth c C X H locs ls hR hS hL)
theorem g_l2i {x : Int64} (hd : decode E.1.2.1 pc = .ok (.l2i, 1)) (K : GG E cs sl (pc + 1) L (.int x.toInt32 :: rest) h) : GG E cs sl pc L (.long x :: rest) h := fun g p l e s m args below meth c C X H locs ls hR hS hL =>
  lv_l2i C.1 C.2.1 hd rfl (K g p l e s m args below meth c C X H locs ls hR hS hL)
theorem g_i2b {x : Int32} (hd : decode E.1.2.1 pc = .ok (.i2b, 1)) (K : GG E cs sl (pc + 1) L (.int x.toInt8.toInt32 :: rest) h) : GG E cs sl pc L (.int x :: rest) h := fun g p l e s m args below meth c C X H locs ls hR hS hL =>
  lv_i2b C.1 C.2.1 hd rfl (K g p l e s m args below meth c C X H locs ls hR hS hL)
theorem g_i2s {x : Int32} (hd : decode E.1.2.1 pc = .ok (.i2s, 1)) (K : GG E cs sl (pc + 1) L (.int x.toInt16.toInt32 :: rest) h) : GG E cs sl pc L (.int x :: rest) h := fun g p l e s m args below meth c C X H locs ls hR hS hL =>
  lv_i2s C.1 C.2.1 hd rfl (K g p l e s m args below meth c C X H locs ls hR hS hL)
theorem g_lcmp {x y : Int64} (hd : decode E.1.2.1 pc = .ok (.lcmp, 1)) (K : GG E cs sl (pc + 1) L (.int (lg_cmp x y) :: rest) h) : GG E cs sl pc L (.long y :: .long x :: rest) h := fun g p l e s m args below meth c C X H locs ls hR hS hL =>
  W.lcmp C.1 C.2.1 hd (K g p l e s m args below meth c C X H locs ls hR hS hL)
theorem g_dup {v : Value} (hd : decode E.1.2.1 pc = .ok (.dup, 1)) (hv : v.category = 1) (K : GG E cs sl (pc + 1) L (v :: v :: rest) h) : GG E cs sl pc L (v :: rest) h := fun g p l e s m args below meth c C X H locs ls hR hS hL =>
  lv_dup C.1 C.2.1 hd (by rw [cv_cat]; exact hv) (K g p l e s m args below meth c C X H locs ls hR hS hL)
theorem g_pop {v : Value} (hd : decode E.1.2.1 pc = .ok (.pop, 1)) (hv : v.category = 1) (K : GG E cs sl (pc + 1) L rest h) : GG E cs sl pc L (v :: rest) h := fun g p l e s m args below meth c C X H locs ls hR hS hL =>
  lv_pop C.1 C.2.1 hd (by rw [cv_cat]; exact hv) (K g p l e s m args below meth c C X H locs ls hR hS hL)
theorem g_dup2 {v w : Value} (hd : decode E.1.2.1 pc = .ok (.dup2, 1)) (hv : v.category = 1) (hw : w.category = 1) (K : GG E cs sl (pc + 1) L (v :: w :: v :: w :: rest) h) : GG E cs sl pc L (v :: w :: rest) h := fun g p l e s m args below meth c C X H locs ls hR hS hL =>
  lv_dup2_11 C.1 C.2.1 hd (by rw [cv_cat]; exact hv) (by rw [cv_cat]; exact hw) (K g p l e s m args below meth c C X H locs ls hR hS hL)
theorem g_goto {off : Int} {tgt : Nat} (hd : decode E.1.2.1 pc = .ok (.goto off, 3)) (ht : (pc : Int) + off = (tgt : Int)) (K : GG E cs sl tgt L rest h) : GG E cs sl pc L rest h := fun g p l e s m args below meth c C X H locs ls hR hS hL =>
  lv_goto C.1 C.2.1 hd ht (K g p l e s m args below meth c C X H locs ls hR hS hL)
theorem i_le {x y : Int32} : x ≤ y ↔ x.toInt ≤ y.toInt := Int32.le_iff_toInt_le
theorem i_lt {x y : Int32} : x < y ↔ x.toInt < y.toInt := Int32.lt_iff_toInt_lt
theorem i_eq {x y : Int32} : x = y ↔ x.toInt = y.toInt := Int32.toInt_inj.symm
theorem g_if_eq {x : Int32} {off : Int} {tgt : Nat} (hd : decode E.1.2.1 pc = .ok (.ifCond .eq off, 3)) (ht : (pc : Int) + off = (tgt : Int)) (K1 : x = 0 → GG E cs sl tgt L rest h) (K2 : ¬ x = 0 → GG E cs sl (pc + 3) L rest h) : GG E cs sl pc L (.int x :: rest) h := fun g p l e s m args below meth c C X H locs ls hR hS hL =>
  lv_if_eq C.1 C.2.1 hd ht (fun q => K1 q g p l e s m args below meth c C X H locs ls hR hS hL) (fun q => K2 q g p l e s m args below meth c C X H locs ls hR hS hL)
theorem g_if_ne {x : Int32} {off : Int} {tgt : Nat} (hd : decode E.1.2.1 pc = .ok (.ifCond .ne off, 3)) (ht : (pc : Int) + off = (tgt : Int)) (K1 : ¬ x = 0 → GG E cs sl tgt L rest h) (K2 : x = 0 → GG E cs sl (pc + 3) L rest h) : GG E cs sl pc L (.int x :: rest) h := fun g p l e s m args below meth c C X H locs ls hR hS hL =>
  lv_if_ne C.1 C.2.1 hd ht (fun q => K1 q g p l e s m args below meth c C X H locs ls hR hS hL) (fun q => K2 q g p l e s m args below meth c C X H locs ls hR hS hL)
theorem g_if_lt {x : Int32} {off : Int} {tgt : Nat} (hd : decode E.1.2.1 pc = .ok (.ifCond .lt off, 3)) (ht : (pc : Int) + off = (tgt : Int)) (K1 : x.toInt < 0 → GG E cs sl tgt L rest h) (K2 : 0 ≤ x.toInt → GG E cs sl (pc + 3) L rest h) : GG E cs sl pc L (.int x :: rest) h := fun g p l e s m args below meth c C X H locs ls hR hS hL =>
  lv_if_lt C.1 C.2.1 hd ht (fun q => K1 (i_lt.mp q) g p l e s m args below meth c C X H locs ls hR hS hL) (fun q => K2 (Int.not_lt.mp fun z => q (i_lt.mpr z)) g p l e s m args below meth c C X H locs ls hR hS hL)
theorem g_if_ge {x : Int32} {off : Int} {tgt : Nat} (hd : decode E.1.2.1 pc = .ok (.ifCond .ge off, 3)) (ht : (pc : Int) + off = (tgt : Int)) (K1 : 0 ≤ x.toInt → GG E cs sl tgt L rest h) (K2 : x.toInt < 0 → GG E cs sl (pc + 3) L rest h) : GG E cs sl pc L (.int x :: rest) h := fun g p l e s m args below meth c C X H locs ls hR hS hL =>
  lv_if_ge C.1 C.2.1 hd ht (fun q => K1 (i_le.mp q) g p l e s m args below meth c C X H locs ls hR hS hL) (fun q => K2 (Int.not_le.mp fun z => q (i_le.mpr z)) g p l e s m args below meth c C X H locs ls hR hS hL)
theorem g_if_gt {x : Int32} {off : Int} {tgt : Nat} (hd : decode E.1.2.1 pc = .ok (.ifCond .gt off, 3)) (ht : (pc : Int) + off = (tgt : Int)) (K1 : 0 < x.toInt → GG E cs sl tgt L rest h) (K2 : x.toInt ≤ 0 → GG E cs sl (pc + 3) L rest h) : GG E cs sl pc L (.int x :: rest) h := fun g p l e s m args below meth c C X H locs ls hR hS hL =>
  lv_if_gt C.1 C.2.1 hd ht (fun q => K1 (i_lt.mp q) g p l e s m args below meth c C X H locs ls hR hS hL) (fun q => K2 (Int.not_lt.mp fun z => q (i_lt.mpr z)) g p l e s m args below meth c C X H locs ls hR hS hL)
theorem g_if_le {x : Int32} {off : Int} {tgt : Nat} (hd : decode E.1.2.1 pc = .ok (.ifCond .le off, 3)) (ht : (pc : Int) + off = (tgt : Int)) (K1 : x.toInt ≤ 0 → GG E cs sl tgt L rest h) (K2 : 0 < x.toInt → GG E cs sl (pc + 3) L rest h) : GG E cs sl pc L (.int x :: rest) h := fun g p l e s m args below meth c C X H locs ls hR hS hL =>
  lv_if_le C.1 C.2.1 hd ht (fun q => K1 (i_le.mp q) g p l e s m args below meth c C X H locs ls hR hS hL) (fun q => K2 (Int.not_le.mp fun z => q (i_le.mpr z)) g p l e s m args below meth c C X H locs ls hR hS hL)
theorem g_icmp_eq {x y : Int32} {off : Int} {tgt : Nat} (hd : decode E.1.2.1 pc = .ok (.if_icmp .eq off, 3)) (ht : (pc : Int) + off = (tgt : Int)) (K1 : x = y → GG E cs sl tgt L rest h) (K2 : ¬ x = y → GG E cs sl (pc + 3) L rest h) : GG E cs sl pc L (.int y :: .int x :: rest) h := fun g p l e s m args below meth c C X H locs ls hR hS hL =>
  lv_icmp_eq C.1 C.2.1 hd ht (fun q => K1 q g p l e s m args below meth c C X H locs ls hR hS hL) (fun q => K2 q g p l e s m args below meth c C X H locs ls hR hS hL)
theorem g_icmp_ne {x y : Int32} {off : Int} {tgt : Nat} (hd : decode E.1.2.1 pc = .ok (.if_icmp .ne off, 3)) (ht : (pc : Int) + off = (tgt : Int)) (K1 : ¬ x = y → GG E cs sl tgt L rest h) (K2 : x = y → GG E cs sl (pc + 3) L rest h) : GG E cs sl pc L (.int y :: .int x :: rest) h := fun g p l e s m args below meth c C X H locs ls hR hS hL =>
  lv_icmp_ne C.1 C.2.1 hd ht (fun q => K1 q g p l e s m args below meth c C X H locs ls hR hS hL) (fun q => K2 q g p l e s m args below meth c C X H locs ls hR hS hL)
theorem g_icmp_lt {x y : Int32} {off : Int} {tgt : Nat} (hd : decode E.1.2.1 pc = .ok (.if_icmp .lt off, 3)) (ht : (pc : Int) + off = (tgt : Int)) (K1 : x.toInt < y.toInt → GG E cs sl tgt L rest h) (K2 : y.toInt ≤ x.toInt → GG E cs sl (pc + 3) L rest h) : GG E cs sl pc L (.int y :: .int x :: rest) h := fun g p l e s m args below meth c C X H locs ls hR hS hL =>
  lv_icmp_lt C.1 C.2.1 hd ht (fun q => K1 (i_lt.mp q) g p l e s m args below meth c C X H locs ls hR hS hL) (fun q => K2 (Int.not_lt.mp fun z => q (i_lt.mpr z)) g p l e s m args below meth c C X H locs ls hR hS hL)
theorem g_icmp_ge {x y : Int32} {off : Int} {tgt : Nat} (hd : decode E.1.2.1 pc = .ok (.if_icmp .ge off, 3)) (ht : (pc : Int) + off = (tgt : Int)) (K1 : y.toInt ≤ x.toInt → GG E cs sl tgt L rest h) (K2 : x.toInt < y.toInt → GG E cs sl (pc + 3) L rest h) : GG E cs sl pc L (.int y :: .int x :: rest) h := fun g p l e s m args below meth c C X H locs ls hR hS hL =>
  lv_icmp_ge C.1 C.2.1 hd ht (fun q => K1 (i_le.mp q) g p l e s m args below meth c C X H locs ls hR hS hL) (fun q => K2 (Int.not_le.mp fun z => q (i_le.mpr z)) g p l e s m args below meth c C X H locs ls hR hS hL)
theorem g_icmp_gt {x y : Int32} {off : Int} {tgt : Nat} (hd : decode E.1.2.1 pc = .ok (.if_icmp .gt off, 3)) (ht : (pc : Int) + off = (tgt : Int)) (K1 : y.toInt < x.toInt → GG E cs sl tgt L rest h) (K2 : x.toInt ≤ y.toInt → GG E cs sl (pc + 3) L rest h) : GG E cs sl pc L (.int y :: .int x :: rest) h := fun g p l e s m args below meth c C X H locs ls hR hS hL =>
  lv_icmp_gt C.1 C.2.1 hd ht (fun q => K1 (i_lt.mp q) g p l e s m args below meth c C X H locs ls hR hS hL) (fun q => K2 (Int.not_lt.mp fun z => q (i_lt.mpr z)) g p l e s m args below meth c C X H locs ls hR hS hL)
theorem g_icmp_le {x y : Int32} {off : Int} {tgt : Nat} (hd : decode E.1.2.1 pc = .ok (.if_icmp .le off, 3)) (ht : (pc : Int) + off = (tgt : Int)) (K1 : x.toInt ≤ y.toInt → GG E cs sl tgt L rest h) (K2 : y.toInt < x.toInt → GG E cs sl (pc + 3) L rest h) : GG E cs sl pc L (.int y :: .int x :: rest) h := fun g p l e s m args below meth c C X H locs ls hR hS hL =>
  lv_icmp_le C.1 C.2.1 hd ht (fun q => K1 (i_le.mp q) g p l e s m args below meth c C X H locs ls hR hS hL) (fun q => K2 (Int.not_le.mp fun z => q (i_le.mpr z)) g p l e s m args below meth c C X H locs ls hR hS hL)
theorem g_tabOut {dflt lo hi : Int} {offs : Array Int} {len : Nat} {x : Int32} {tgt : Nat} (hd : decode E.1.2.1 pc = .ok (.tableswitch dflt lo hi offs, len)) (hq : x.toInt < lo ∨ hi < x.toInt) (ht : (pc : Int) + dflt = (tgt : Int)) (K : GG E cs sl tgt L rest h) : GG E cs sl pc L (.int x :: rest) h := fun g p l e s m args below meth c C X H locs ls hR hS hL =>
  lv_tableOut C.1 C.2.1 hd hq ht (K g p l e s m args below meth c C X H locs ls hR hS hL)
theorem g_tabIn {dflt lo hi : Int} {offs : Array Int} {len : Nat} {x : Int32} {off : Int} {tgt : Nat} (hd : decode E.1.2.1 pc = .ok (.tableswitch dflt lo hi offs, len)) (h1 : ¬ x.toInt < lo) (h2 : ¬ hi < x.toInt) (ho : offs[(x.toInt - lo).toNat]? = some off) (ht : (pc : Int) + off = (tgt : Int)) (K : GG E cs sl tgt L rest h) : GG E cs sl pc L (.int x :: rest) h := fun g p l e s m args below meth c C X H locs ls hR hS hL =>
  lv_tableIn C.1 C.2.1 hd h1 h2 ho ht (K g p l e s m args below meth c C X H locs ls hR hS hL)
end RowsA
