/-! Throwing: a method that ends in a throw of its own; a call to one inside a 'try'; methods with an exception table. -/
def isStr : Cond → Bool
  | .stringRef .. => true
  | _ => false
/-- a word that rides over warmer tables and a heap in which the statics' cells stay -/
def kRide : Cond → Bool
  | .laysStatic _ _ _ => true
  | .isRef (.static _ _ _) => true
  | w => w.tabsOnly
def SK (s U : State) : Prop := ∀ (q : Nat) (cell : Cell), s.heap[q]? = some cell → cell.vm.isStatics = true → U.heap[q]? = some cell
theorem kr_lays {s U : State} (hal : s.vm.Alike U.vm) (hk : SK s U) {C n d : String} {a a' : Array Value} (h : (Cond.laysStatic C n d).before a s = true) : (Cond.laysStatic C n d).before a' U = true := by
  obtain ⟨c, k, i, f, q, cell, h1, h2, h3, h4, h5, h6, h7, h8, h9⟩ := Cond.laysStatic_spec h
  obtain ⟨k2, g1, g2⟩ := State.fieldFound?_setVm hal h2
  have e1 : U.vm.findClass C = some c := by rw [hal.findClass]; exact h1
  have e4 : k2.statics = some q := by rw [g2]; exact h4
  have e9 : k2.staticTypes[f.slot]? = some f.type := by rw [g2]; exact h9
  exact Cond.laysStatic_of (s := U) e1 g1 h3 e4 (hk q cell h5 h6) h6 h7 h8 e9
theorem kr_val {s U : State} (hal : s.vm.Alike U.vm) (hk : SK s U) {C n d : String} {a a' : Array Value} {v : Value} (h : (Term.static C n d).eval a s none [] s = some v) : (Term.static C n d).eval a' U none [] U = some v := by
  rcases hf : s.fieldFound? C n d with _ | ⟨c, k, i, f⟩
  · simp [Term.eval, State.fieldNamed?, hf] at h
  obtain ⟨k2, g1, g2⟩ := State.fieldFound?_setVm hal hf
  have g3 : U.fieldFound? C n d = some (c, k2, i, f) := g1
  rcases hs : f.isStatic with _ | _
  · simp [Term.eval, State.fieldNamed?, hf, hs] at h
  rcases hz : k.statics with _ | q
  · simp [Term.eval, State.fieldNamed?, hf, hs, hz] at h
  have g4 : k2.statics = some q := by rw [g2]; exact hz
  rcases hc : s.heap[q]? with _ | cell
  · simp [Term.eval, State.fieldNamed?, hf, hs, hz, hc] at h
  rcases hi : cell.vm.isStatics with _ | _
  · simp [Term.eval, State.fieldNamed?, hf, hs, hz, hc, hi] at h
  have g5 := hk q cell hc hi
  simp [Term.eval, State.fieldNamed?, hf, hs, hz, hc, hi] at h
  simp [Term.eval, State.fieldNamed?, g3, hs, g4, g5, hi, h]
theorem kr_ref {s U : State} (hal : s.vm.Alike U.vm) (hk : SK s U) {C n d : String} {a a' : Array Value} (h : (Cond.isRef (.static C n d)).before a s = true) : (Cond.isRef (.static C n d)).before a' U = true := by
  rcases hv : (Term.static C n d).eval a s none [] s with _ | v
  · simp [Cond.before, Cond.holds, Cond.value, hv] at h
  · have g := kr_val (a' := a') hal hk hv
    simp only [Cond.before, Cond.holds, Cond.value, hv] at h
    simp only [Cond.before, Cond.holds, Cond.value, g]
    exact h
theorem kr_ride {s U : State} (hW : s.WarmedH U.vm) (hk : SK s U) {a a' : Array Value} (w : Cond) (hw : kRide w = true) (h : w.before a s = true) : w.before a' U = true := by
  have htab : w.tabsOnly = true → w.before a' U = true := fun ht => by
    have h1 := Cond.tabsOnly_warm (args' := a') (T := U) hW w ht h
    have e : U.setVm U.vm = U := by cases U; rfl
    rw [e] at h1
    exact h1
  cases w with
  | laysStatic C n d => exact kr_lays hW.alike hk h
  | isRef t =>
    cases t with
    | static C n d => exact kr_ref hW.alike hk h
    | _ => exact htab hw
  | _ => exact htab hw
def lw_k : List Cond := (lw_tbl ++ flatC (Jvm.Cond.and given_1 narrow_1)).filter kRide
def NCf (U : State) : Prop := ∀ c1 c2 : ClassId, U.vm.findClass "java/lang/IllegalStateException" = some c1 → U.vm.findClass "java/lang/IllegalArgumentException" = some c2 → U.vm.assignable c1 c2 = false
/-- the words of a throw -/
def KW (U : State) : Prop := (∀ w ∈ lw_k, w.before #[] U = true) ∧ NCf U
def SW (U : State) : Prop := ∀ (own : String) (k : Nat) (tx : String), Cond.stringRef own k tx ∈ lw_tbl → ∃ a : Nat, vk_R own k tx a U
theorem KW.ride {s U : State} (hW : s.WarmedH U.vm) (hk : SK s U) (h : KW s) : KW U :=
  ⟨fun w hw => kr_ride hW hk w (List.mem_filter.mp hw).2 (h.1 w hw), fun c1 c2 h1 h2 => by rw [hW.alike.assignable]; exact h.2 c1 c2 (by rw [← hW.alike.findClass]; exact h1) (by rw [← hW.alike.findClass]; exact h2)⟩
theorem KW.args {s : State} (h : KW s) (a : Array Value) {w : Cond} (hw : w ∈ lw_k) : w.before a s = true := kr_ride (State.WarmedH.refl s) (fun _ _ h _ => h) w (List.mem_filter.mp hw).2 (h.1 w hw)
theorem SW.warm {s U : State} (hW : s.WarmedH U.vm) (h : SW s) : SW U := fun own k tx hm => by
  obtain ⟨a, ha⟩ := h own k tx hm
  exact ⟨a, ha.warm hW⟩
theorem SW.same {u U : State} (e : U.vm = u.vm) (h : SW u) : SW U := fun own k tx hm => by
  obtain ⟨a, ha⟩ := h own k tx hm
  exact ⟨a, ha.same e⟩
def PreX (D : va_G) (tc : Nat → ClassId) (tb : Nat → Nat) (cs : va_W) (sz : Nat) (U : State) : Prop := Pre D tc tb cs sz U ∧ KW U ∧ SW U
def QX (X : String) (mc ms : Nat) (_ : Array Value) (st : State) (o : Outcome) (t : State) : Prop :=
  ∃ (x : Addr) (ce : Cell), o = .threw x ∧ t.heap[x]? = some ce ∧ ce.vm.isStatics = false ∧ st.vm.findClass X = some ce.cls ∧ st.WarmedH t.vm ∧ st.sameButNew ({ t with vm := st.vm } : State) [] mc ms
/-- a contract that ends in a throw of X -/
def Mx (l : Launch) (D : va_G) (tc : Nat → ClassId) (tb : Nat → Nat) (y : MethodName) (cc : ByteArray) (nL : Nat) (ret : Option FieldType) (rm : Room) (av : List Value) (cs : va_W) (X : String) : Prop :=
  ∀ sz : Nat, MetFree l y (headSpec (wS y cc nL ret) rm) (va_Pc av (PreX D tc tb cs sz)) (fun _ _ _ _ _ => True) (QX X rm.cells rm.slots)
def QXT (below : List Frame) (X : String) (args : Array Value) (s : State) (mc ms : Nat) : State → Prop := fun t => ∃ o, t.status = .running ∧ Ended t below o ∧ QX X mc ms args s o t
def CxX (p : Program) (e : Env) (D : va_G) (tc : Nat → ClassId) (tb : Nat → Nat) (y : MethodName) (cc : ByteArray) (nL : Nat) (ret : Option FieldType) (rm : Room) (av : List Value) (cs : va_W) (X : String) (s : State) (m : MethodId) (below : List Frame) (meth : Method) (c : Code) (A : Nat → Prop) (ls : Array Slot) (R : Room) (args : Array Value) (Q : State → Prop) : Prop :=
  p.tables.exec = Jvm.exec ∧ c.code = cc ∧ (∀ w ∈ wS y cc nL ret, w.before args s = true) ∧ s.vm.findClass y.cls = some m.cls ∧ meth.locks = false ∧ c.maxLocals = nL ∧ meth.name = y.name ∧
  (∀ q : Nat, s.heap.size ≤ q → A q) ∧ ST tb A s s.heap ∧ NW s ∧ va_K D classes (TY tc) s ∧ va_P D classes cs s.heap ∧ va_D A cs ∧ va_S A s.heap s.heap [] ∧ lv_has ls nL (lv_args 0 av) ∧ R = rm ∧ Q = QXT below X args s rm.cells rm.slots ∧
  KW s ∧ SW s ∧ e.platform.stackTraces = false ∧ (∀ z ∈ c.exceptionTable.toList, ∀ pc, covers z pc = false)
theorem Mx.go {l : Launch} {D : va_G} {tc : Nat → ClassId} {tb : Nat → Nat} {y : MethodName} {cc : ByteArray} {nL : Nat} {ret : Option FieldType} {rm : Room} {av : List Value} {cs : va_W} {X : String} (hy : plainName y.cls = true) (hn : (lg_sl av).length ≤ nL) (htr : l.stackTraces = false)
    (body : ∀ (p : Program) (e : Env) (s : State) (m : MethodId) (below : List Frame) (meth : Method) (c : Code) (A : Nat → Prop) (ls : Array Slot) (R : Room) (args : Array Value) (Q : State → Prop), CxX p e D tc tb y cc nL ret rm av cs X s m below meth c A ls R args Q →
      W p l e R s m args below meth c s.heap [] 0 0 Q (F0 m 0 ls [])) : Mx l D tc tb y cc nL ret rm av cs X := by
  intro sz
  refine MetFree.of_bodyS (code := cc) (maxLocals := nL) (ret := ret) hy ?_ ?_
  · intro args s m h hn
    obtain ⟨meth, c, h1, h2, h3, h4, h5, h6, -, -⟩ := Cond.code_spec hn (atoms_spec (ws := wS y cc nL ret) h _ List.mem_cons_self)
    exact ⟨meth, c, h1, h2, h3, h4, h5, h6⟩
  · intro p e s m args below meth c s₁ B hml hv _
    obtain ⟨rfl, ⟨hsz, hP, hK, hD0, hST, hN⟩, hKW, hSW⟩ := hv
    subst hsz
    have hh0 : s₁.heap = s.heap := by rw [B.state]; rfl
    have hpre := atoms_spec (ws := wS y cc nL ret) B.pre
    obtain ⟨meth', c', q1, q2, -, -, -, -, q7, -⟩ := Cond.code_spec B.named (hpre _ List.mem_cons_self)
    have X0 : Stand p l e (headSpec (wS y cc nL ret) rm).room s m _ below meth c s₁ [] 0 0 := Stand.of_body B
    cases X0.method.symm.trans q1
    cases X0.code.symm.trans q2
    have hno : ∀ z ∈ c.exceptionTable.toList, ∀ pc, covers z pc = false := by
      intro z hz
      have : c.exceptionTable = #[] := by simpa using q7
      rw [this] at hz
      cases hz
    have K := body p e s m below meth c (va_A cs s.heap.size) _ _ _ _ ⟨B.exec, B.bytes, hpre, findClass_of_methodNamed B.named, B.notSynchronized, hml, (name_of_methodNamed B.named B.method).1, fun q h => Or.inr h, hST, hN, hK, hP, hD0.self, va_S.rf, lv_entry av hn, rfl, rfl, hKW, hSW, (by rw [B.admits.platform]; exact htr), hno⟩
    rw [← lg_entry_eq] at K
    obtain ⟨t, a1, o, b1, b2, b3⟩ := K s₁ hh0 X0
    exact ⟨t, o, a1, b1, b2, b3⟩
section Thr
variable {p : Program} {l : Launch} {e : Env} {R : Room} {s : State} {m : MethodId} {args : Array Value} {below : List Frame} {meth : Method} {c : Code} {H : Heap} {locs : List Loc} {cells slots : Nat} {Q : State → Prop}
variable {cc : ByteArray} {pc : Nat} {ls : Array Slot} {rest st0 : List Value} {D : va_G} {tc : Nat → ClassId} {tb : Nat → Nat} {ws wc wr : va_W} {A : Nat → Prop} {S : Type}
/-- new X; dup; ldc text; X.<init>(String); athrow -/
theorem k_throw {X own tx : String} {names : List String} {icl ic ist : Nat} (hx : p.tables.exec = Jvm.exec) (hb : c.code = cc) (hml : c.maxLocals = ls.size) (hlk : meth.locks = false) (htr : e.platform.stackTraces = false) (hno : ∀ z ∈ c.exceptionTable.toList, ∀ pc, covers z pc = false) (hown : s.vm.findClass own = some m.cls) (hS : va_S A s.heap H [])
    (hfit : Bundle.fit X = true) (hnames : ∀ n ∈ names, Bundle.fit n = true) (hKW : KW s) (hSW : SW s) (hatoms : ∀ w ∈ Bundle.ownAtoms own ic X names, w ∈ lw_k) (hcl : Cond.classLink own icl X ∈ lw_k) (hini : Cond.initialized X ∈ lw_k) (hst : Cond.stringRef own ist tx ∈ lw_tbl)
    (hcells : cells + 1 ≤ R.cells) (hslots : slots + 6 ≤ R.slots) (hRf : names.length + 3 < R.frames) (hRl : 2 * 0 + ((Value.ref H.size :: rest).map fun v => v.category).sum + (13 * (names.length + 1) + 42) ≤ R.locals)
    (d0 : decode cc pc = .ok (.new icl, 3)) (d3 : decode cc (pc + 3) = .ok (.dup, 1)) (d4 : decode cc (pc + 4) = .ok (.ldc ist, 2)) (d6 : decode cc (pc + 6) = .ok (.invokespecial ic, 3)) (d9 : decode cc (pc + 9) = .ok (.athrow, 1)) :
    W p l e R s m args below meth c H [] cells slots (QXT below X args s (cells + 1) (slots + 6)) (F0 m pc ls rest) := by
  have hi6 : (Cond.instantiable X 6).before args s = true := hKW.args args (hatoms _ (by simp [Bundle.ownAtoms]))
  obtain ⟨cX, kX, hcX, hkX, -⟩ := Cond.instantiable_spec hi6
  refine W.newcK hx hb hown (hKW.args args hcl) hi6 (hKW.args args hini) (g := F0 m pc ls rest) rfl d0 hcells hslots hcX rfl (fun H1 kC hkC e1 z1 o1 => ?_)
  refine lv_dup (pc := pc + 3) hx hb d3 rfl ?_
  obtain ⟨a, ha⟩ := hSW own ist tx hst
  refine va_ldcS (pc := pc + 4) hx hb hown ha d4 ?_
  intro T hT X0
  obtain ⟨U, st, h1, h2, h3, h4, ce, h5, h6⟩ := X0.ctorThrowS hx htr hown hfit hnames (fun w hw => hKW.args args (hatoms w hw)) (fun x hx => by cases hx) hcX hkC (by rw [hT]; exact e1) hS.1 (msg := .ref a) rfl
    (g := F0 m (pc + 6) ls (.ref a :: .ref H.size :: .ref H.size :: rest)) rfl hml.symm rfl rfl rfl (by rw [hb]; exact d6) (by rw [hb]; exact d9) (fun x hx => hno x hx _) hRf hRl hlk
  exact ⟨U, st, _, h1, h2, H.size, ce, rfl, h5, by rw [h6.vm]; rfl, h6.cls, h3, h4⟩
theorem k_preX {As : List Value} (hK : va_K D classes (TY tc) s) (hP : va_P D classes ws H) (hD : va_D A ws) (hS : va_S A s.heap H locs) (hST : ST tb A s s.heap) (hN : NW s) (hA : ∀ q : Nat, s.heap.size ≤ q → A q) (isC : List Nat) (hn : va_nd isC = true) (hC : isC.map (fun i => ws[i]?) = wc.map some)
    (hKW : KW s) (hSW : SW s) (hsk : ∀ (q : Nat) (cell : Cell), s.heap[q]? = some cell → cell.vm.isStatics = true → H[q]? = some cell) : PreS s H (va_Pc As (PreX D tc tb wc H.size)) As := by
  obtain ⟨k1, k2⟩ := k_pre (As := As) hK hP hD hS hST hN hA isC hn hC
  refine ⟨fun a U g mk q => ?_, fun U hU hW => ?_⟩
  · obtain ⟨q0, qP, qK, qS⟩ := q
    obtain ⟨r0, r1⟩ := k1 a U g mk ⟨q0, qP⟩
    exact ⟨r0, r1, KW.ride (s := U) (U := U.calling g mk a) (State.WarmedH.refl U) (fun _ _ h _ => h) qK, SW.same (u := U) (U := U.calling g mk a) rfl qS⟩
  · obtain ⟨r0, r1⟩ := k2 U hU hW
    exact ⟨r0, r1, hKW.ride hW (fun y cy h1 h2 => by rw [hU]; exact hsk y cy h1 h2), hSW.warm hW⟩
/-- a call to a method that throws, up to the note that it leaves over the caller's frame -/
theorem k_callX {y : MethodName} {cy : ByteArray} {nY : Nat} {ry : Option FieldType} {rm : Room} {Pc : Array Value → State → Prop} {X own : String} {index mc ms n len : Nat} (hM : MetFree l y (headSpec (wS y cy nY ry) rm) Pc (fun _ _ _ _ _ => True) (QX X mc ms)) (hbl : FrameBlind Pc) (cb : CallB R s args own index y cy nY ry (wS y cy nY ry) rm mc ms n)
    {T : State} (X0 : Stand p l e R s m args below meth c T locs cells slots) {g : JFrame} (hg : g.method = m) (hsize : g.locals.size = c.maxLocals) {ig : Instr} (hdg : decode c.code g.pc = .ok (ig, len)) (hW : 2 * g.monitorRoom + (g.stack.map fun v => v.category).sum ≤ 8) {mk : MethodId} (hn : T.methodNamed? y = some mk) {a : Array Value} (hPc : Pc a T) (hf : cells + mc ≤ R.cells ∧ slots + ms ≤ R.slots) :
    ∃ (v : Addr) (U : State) (ce : Cell), Stand p l e R s m args below meth c U locs (cells + mc) (slots + ms) ∧ T.heap.size ≤ U.heap.size ∧ (∀ (q : Nat) (cell : Cell), T.heap[q]? = some cell → U.heap[q]? = some cell) ∧ U.heap[v]? = some ce ∧ ce.vm.isStatics = false ∧ T.vm.findClass X = some ce.cls ∧
      Steps p.tables e below (doInvoke e (T.setTop g) [] mk a).1 ((U.setTop g).pushFrame (.throwing v)) := by
  obtain ⟨hrc, hrs, hfr, hlo, hws, hcw, -, hini, -, -, -⟩ := cb
  have hiniT : (Cond.initialized y.cls).before a T = true := word_at X0.warmed (Or.inl (by first | rfl | simp [Cond.onTables, Cond.keeps, Cond.steady])) hini
  obtain ⟨methY, cY, hmY, hcY, -, hlY, -, -, -, -⟩ := Cond.code_spec hn (hws _ hcw a T X0.warmed)
  obtain ⟨kY, hkY, -⟩ := className_of_methodNamed hn
  have hinitY : kY.init = .initialized := Cond.initialized_spec (findClass_of_methodNamed hn) hkY hiniT
  subst hg
  have h : At T g.method c below := X0.here
  have hroom := X0.room_calling (g := g) (args' := a) (R' := (headSpec (wS y cy nY ry) rm).room) hsize hmY hcY hfr (by rw [hlY]; show _ + _ + rm.locals ≤ _; omega) (by show cells + rm.cells ≤ _; rw [hrc]; exact hf.1) (by show slots + rm.slots ≤ _; rw [hrs]; exact hf.2)
  have happ : (headSpec (wS y cy nY ry) rm).appliesLoose y e.platform (T.calling g mk a) = true := Spec.appliesLoose_calling (g := g) h hdg hn hkY hinitY hroom (atoms_intro fun w hw => hws w hw _ _ X0.warmed)
  have hfrm : (T.setTop g).frames = [.java g] ++ below := by rw [State.frames_setTop' g h.top, X0.tail]; rfl
  obtain ⟨o, t, hsteps, -, hend, hq⟩ := Steps.callFree hM p X0.admits X0.cas X0.clock (acts := []) hfrm happ (hbl _ _ _ _ hPc) trivial
  have hq2 : QX X mc ms a (T.calling g mk a) o t := hq
  obtain ⟨v, ce, rfl, h1, h2, h3, h4, h5⟩ := hq2
  rw [hfrm] at hend
  obtain ⟨U, XU, -, hsame, rfl⟩ := X0.outOfThrown rfl hend h4 h5
  rw [List.append_nil] at XU
  have hh : ((U.setTop g).pushFrame (.throwing v)).heap = U.heap := Stand.throwing_heap U g v
  rw [hh] at h1
  exact ⟨v, U, ce, XU, hsame.2.1, fun q cell hc => hsame.old_cell hc, h1, h2, h3, hsteps⟩
/-! the search through the caller's own table: classes that are linked, cold or warm -/
theorem k_goL {f : JFrame} {a : Addr} {S : State} {d : Bool} {acts : List Action} {Qh : Handler → Bool → List Action → State → Prop} {E : CtlPost} {x : ExceptionTableEntry} {rs : List ExceptionTableEntry} {cT : ClassId} {cell : Cell} (hx : covers x f.pc = true) (h0 : x.catchType ≠ 0) (hl : S.vm.ClassLinks e.platform f.method.cls x.catchType cT) (hcell : S.heap[a]? = some cell) (hobj : ∀ k, cell.vm ≠ .statics k)
    (hk : ∃ k, S.vm.classes[cell.cls]? = some k) (hc : ∃ k, S.vm.classes[cT]? = some k) :
    wp (findHandler.go f a (x :: rs)) Qh E e d acts S ↔ if S.vm.assignable cell.cls cT = true then Qh (.found x.handlerPc) d acts (S.setVm (S.vm.noted f.method.cls x.catchType (.cls cT))) else wp (findHandler.go f a rs) Qh E e d acts (S.setVm (S.vm.noted f.method.cls x.catchType (.cls cT))) := by
  simp only [covers] at hx
  obtain ⟨z1, z2⟩ := (resolveClass_links e.toSetting hl).op (op := VmOp.resolveClass f.method.cls x.catchType) rfl
  have hal : S.vm.Alike (S.vm.noted f.method.cls x.catchType (.cls cT)) := (Vm.Alike.refl S.vm).noted _ _ _
  obtain ⟨k1, hk1⟩ := hk
  obtain ⟨k2, hk2⟩ := hc
  obtain ⟨k3, hk3, -⟩ := hal.2.2 _ _ hk1
  obtain ⟨k4, hk4, -⟩ := hal.2.2 _ _ hk2
  have has := hal.assignable (s := cell.cls) (t := cT)
  cases hq : S.vm.assignable cell.cls cT
  all_goals
    rw [hq] at has
    simp [findHandler.go, hx, h0, z1, z2, hcell, hobj, hk3, hk4, has, VmOp.dirties, VmOp.acts]
theorem k_search {s0 : State} {f : JFrame} {a : Addr} {cell : Cell} (hobj : ∀ k, cell.vm ≠ .statics k) (hk0 : ∃ k, s0.vm.classes[cell.cls]? = some k) {x : ExceptionTableEntry} {rs : List ExceptionTableEntry} (hx : covers x f.pc = true) (h0 : x.catchType ≠ 0) {cT : ClassId} (hl : s0.vm.ClassLinks e.platform f.method.cls x.catchType cT) (hfit : s0.vm.assignable cell.cls cT = true) :
    ∀ (pre : List ExceptionTableEntry) (S : State), s0.WarmedH S.vm → S.heap[a]? = some cell → (∀ z ∈ pre, covers z f.pc = true ∧ z.catchType ≠ 0 ∧ ∃ c1, s0.vm.ClassLinks e.platform f.method.cls z.catchType c1 ∧ s0.vm.assignable cell.cls c1 = false) →
      ∃ vm1, s0.WarmedH vm1 ∧ ∀ (Qh : Handler → Bool → List Action → State → Prop) (E : CtlPost) (d : Bool) (acts : List Action), wp (findHandler.go f a (pre ++ x :: rs)) Qh E e d acts S ↔ Qh (.found x.handlerPc) d acts (S.setVm vm1) := by
  obtain ⟨k0, hk0⟩ := hk0
  intro pre
  induction pre with
  | nil =>
    intro S hW hcell _
    obtain ⟨k1, hk1, -⟩ := hW.alike.2.2 _ _ hk0
    obtain ⟨dk, _, _, kt, hd, _, _, _, _, hkt, _, hopen⟩ := hl.here
    obtain ⟨k2, hk2, -⟩ := hW.alike.2.2 _ _ hkt
    refine ⟨_, hW.noted hd hopen (State.rightAt_cls hl), fun Qh E d acts => ?_⟩
    rw [List.nil_append, k_goL hx h0 (hW.classLinks hl) hcell hobj ⟨k1, hk1⟩ ⟨k2, hk2⟩, if_pos (by rw [hW.alike.assignable]; exact hfit)]
  | cons z zs ih =>
    intro S hW hcell hp
    obtain ⟨hz, hz0, c1, hlz, hnz⟩ := hp z List.mem_cons_self
    obtain ⟨k1, hk1, -⟩ := hW.alike.2.2 _ _ hk0
    obtain ⟨dk, _, _, kt, hd, _, _, _, _, hkt, _, hopen⟩ := hlz.here
    obtain ⟨k2, hk2, -⟩ := hW.alike.2.2 _ _ hkt
    obtain ⟨vm1, hW1, hq⟩ := ih (S.setVm (S.vm.noted f.method.cls z.catchType (.cls c1))) (hW.noted hd hopen (State.rightAt_cls hlz)) hcell (fun w hw => hp w (List.mem_cons_of_mem _ hw))
    refine ⟨vm1, hW1, fun Qh E d acts => ?_⟩
    rw [List.cons_append, k_goL hz hz0 (hW.classLinks hlz) hcell hobj ⟨k1, hk1⟩ ⟨k2, hk2⟩, if_neg (by rw [hW.alike.assignable, hnz]; decide)]
    exact hq Qh E d acts
/-- from the note over the caller's frame to its handler -/
theorem k_caught {U : State} (X0 : Stand p l e R s m args below meth c U locs cells slots) {v : Addr} {g : JFrame} (hg : g.method = m) {cell : Cell} (hcell : U.heap[v]? = some cell) (hobj : cell.vm.isStatics = false) (hk0 : ∃ k, s.vm.classes[cell.cls]? = some k) (pre : List ExceptionTableEntry) (x : ExceptionTableEntry) (rs : List ExceptionTableEntry) (htab : c.exceptionTable.toList = pre ++ x :: rs) (hx : covers x g.pc = true) (h0 : x.catchType ≠ 0) {cT : ClassId} (hl : s.vm.ClassLinks e.platform m.cls x.catchType cT) (hfit : s.vm.assignable cell.cls cT = true)
    (hp : ∀ z ∈ pre, covers z g.pc = true ∧ z.catchType ≠ 0 ∧ ∃ c1, s.vm.ClassLinks e.platform m.cls z.catchType c1 ∧ s.vm.assignable cell.cls c1 = false) :
    ∃ vm1, Stand p l e R s m args below meth c (U.setVm vm1) locs cells slots ∧ ∀ tg, Steps p.tables e below ((U.setVm vm1).setTop { g with pc := x.handlerPc, stack := [.ref v] }) tg → Steps p.tables e below ((U.setTop g).pushFrame (.throwing v)) tg := by
  subst hg
  obtain ⟨g0, hfr⟩ := X0.frames_eq
  have eP : (U.setTop g).pushFrame (.throwing v) = U.setFrames (.throwing v :: .java g :: below) := by rw [State.pushFrame, State.frames_setTop _ hfr, State.setTop_of_frames _ hfr, State.setFrames_setFrames]
  obtain ⟨vm1, hW1, hq⟩ := k_search (e := e) (s0 := s) (f := g) (a := v) (VmData.ne_statics_of hobj) hk0 (rs := rs) hx h0 hl hfit pre ((U.setTop g).pushFrame (.throwing v)) X0.warmed hcell hp
  refine ⟨vm1, X0.noted hW1, fun tg hrest => ?_⟩
  have hfind : ∀ (Qh : Handler → Bool → List Action → State → Prop) (E : CtlPost) (d : Bool) (acts : List Action), wp (findHandler g v) Qh E e d acts ((U.setTop g).pushFrame (.throwing v)) ↔ Qh (.found x.handlerPc) d acts (((U.setTop g).pushFrame (.throwing v)).setVm vm1) := fun Qh E d acts => by
    have hme : ((U.setTop g).pushFrame (.throwing v)).vm.method? g.method = some meth := by rw [Stand.throwing_vm]; exact X0.method'
    rw [W.findHandler_eq (meth := meth) (code := c) hme X0.code, htab]
    exact hq Qh E d acts
  obtain ⟨hgo, hw⟩ := X0.here.throwing v
  refine Steps.head hgo hw ?_
  rw [stepThread_throwing (frames_entered X0.here.top _)]
  have hstep : (stepThrowing e ((U.setTop g).pushFrame (.throwing v)) v (.java g :: U.frames.tail)).1 = (((U.setTop g).pushFrame (.throwing v)).setVm vm1).setFrames (.java { g with pc := x.handlerPc, stack := [.ref v] } :: U.frames.tail) := by
    simp only [stepThrowing, searchFrame, vmDo]
    generalize hr : Sem.go _ e false [] ((U.setTop g).pushFrame (.throwing v)) = res
    obtain ⟨as, rfl, -⟩ := Sem.eq_ok_of hr (a := Handler.found x.handlerPc) (s' := ((U.setTop g).pushFrame (.throwing v)).setVm vm1) (acts' := []) (by simp [hfind])
    rfl
  rw [hstep]
  have eQ : (((U.setTop g).pushFrame (.throwing v)).setVm vm1).setFrames (.java { g with pc := x.handlerPc, stack := [.ref v] } :: U.frames.tail) = (U.setVm vm1).setTop { g with pc := x.handlerPc, stack := [.ref v] } := by
    have hfr2 : (U.setVm vm1).frames = .java g0 :: below := hfr
    rw [State.setTop_of_frames _ hfr2, eP, hfr]
    have z : (U.setFrames (.throwing v :: .java g :: below)).setVm vm1 = (U.setVm vm1).setFrames (.throwing v :: .java g :: below) := rfl
    rw [z, State.setFrames_setFrames]
    rfl
  rw [eQ]
  exact hrest
/-- a call to a throwing method, caught in the caller's own table -/
theorem k_tryV {X own C : String} {index n mc ms nL : Nat} {y : MethodName} {cy : ByteArray} {nY : Nat} {ry : Option FieldType} {rm : Room} {b : Nat} {As : List Value} (hx : p.tables.exec = Jvm.exec) (hb : c.code = cc) (hml : c.maxLocals = nL) (hls : ls.size = nL) (hown : s.vm.findClass own = some m.cls)
    (hM : MetFree l y (headSpec (wS y cy nY ry) rm) (va_Pc (.ref b :: As) (PreX D tc tb wc H.size)) (fun _ _ _ _ _ => True) (QX X mc ms)) (cw : CallW R s args own C index y cy nY ry (wS y cy nY ry) rm mc ms n)
    (hK : va_K D classes (TY tc) s) (hP : va_P D classes ws H) (hD : va_D A ws) (hS : va_S A s.heap H locs) (hST : ST tb A s s.heap) (hN : NW s) (hA : ∀ q : Nat, s.heap.size ≤ q → A q) (isC : List Nat) (hn : va_nd isC = true) (hC : isC.map (fun i => ws[i]?) = wc.map some)
    (hKW : KW s) (hSW : SW s) (hsk : ∀ (q : Nat) (cell : Cell), s.heap[q]? = some cell → cell.vm.isStatics = true → H[q]? = some cell)
    (q0 : Nat) {ci : Nat} {fs : List Value} {qc : vw_C} (he : ws[q0]? = some (b, .inr (ci, fs))) (hc : classes[ci]? = some qc) (hq : qc.1 = C) (hAs : As.length = n) (hst : st0 = As.reverse ++ .ref b :: rest) (hrm : (rest.map fun v => v.category).sum ≤ 8) (hdg : decode cc pc = .ok (.invokevirtual index, 3)) (hf : cells + mc ≤ R.cells ∧ slots + ms ≤ R.slots)
    (pre : List ExceptionTableEntry) (xt : ExceptionTableEntry) (rs : List ExceptionTableEntry) (htab : c.exceptionTable.toList = pre ++ xt :: rs) (hpass : ∀ z ∈ pre, covers z pc = true ∧ z.catchType ≠ 0 ∧ X = "java/lang/IllegalStateException" ∧ Cond.classLink own z.catchType "java/lang/IllegalArgumentException" ∈ lw_k) (hcov : covers xt pc = true) (h0 : xt.catchType ≠ 0) (hlink : Cond.classLink own xt.catchType X ∈ lw_k) (hcast : Cond.castable X X ∈ lw_k)
    (kk : ∀ (q : Nat) (H1 : Heap), va_P D classes ws H1 → va_S A s.heap H1 locs → W p l e R s m args below meth c H1 locs (cells + mc) (slots + ms) Q (F0 m xt.handlerPc ls [.ref q])) :
    W p l e R s m args below meth c H locs cells slots Q (F0 m pc ls st0) := by
  intro T hT X0
  obtain ⟨k1, k2⟩ := k_preX (As := .ref b :: As) hK hP hD hS hST hN hA isC hn hC hKW hSW hsk
  have cb := cw.1
  obtain ⟨⟨hrc, hrs, hfr, hlo, hws, hcw, hcode, hini, hy, hlen, hl⟩, hin, hse⟩ := cw
  obtain ⟨cellB, hcB, hoB, hclB⟩ := va_recv hK hP hc he
  rw [hq] at hclB
  obtain ⟨mk, methM, hnamed, hmethM, hstM, habM⟩ := Cond.instanceMethod_spec hin
  obtain ⟨meth', c', w1, w2, -, -, -, -, -, hsig⟩ := Cond.code_spec hnamed hcode
  cases hmethM.symm.trans w1
  obtain ⟨c2, r2, m2, q1, q2, q3, q4, kP, hkP, hkPi⟩ := Cond.selects_spec hse
  cases hclB.symm.trans q1
  cases (State.methodFound?_of_named hnamed hy).symm.trans q2
  cases hnamed.symm.trans q3
  have hselP : selectMethod e.platform s.vm cellB.cls mk = .method mk := by rw [Launch.admits_selectMethod X0.admits]; exact q4
  obtain ⟨kr, hkr, hni⟩ := Jvm.Free.notFace_of_selects hse mk hnamed
  obtain ⟨vm₁, X₁, hstep₁⟩ := X0.invokevirtual hx hown hl hnamed hmethM hstM hkr hni hy (a := b) (cell := cellB) (by rw [hT]; exact hcB) (fun z h => by rw [h] at hoB; cases hoB) hselP hmethM habM hkP hkPi (g := F0 m pc ls st0) rfl (argsL := As) (rest := rest) (hAs.trans (hlen _ hsig)) hst (by rw [hb]; exact hdg)
  obtain ⟨v, U, ce, X', g4, g5, hce, hcs, hcl, hsteps⟩ := k_callX hM k1 cb X₁ (g := { F0 m pc ls st0 with stack := rest }) rfl (hls.trans hml.symm) (ig := .invokevirtual index) (len := 3) (by rw [hb]; exact hdg) (lv_room hrm) (X₁.named hnamed) (a := (.ref b :: As).toArray) (k2 (T.setVm vm₁) hT X₁.warmed) hf
  have hfX : s.vm.findClass X = some ce.cls := by rw [← X₁.warmed.alike.findClass]; exact hcl
  obtain ⟨c3, cT, hc3, hcT, hasg⟩ := Cond.castable_spec (hKW.args args hcast)
  cases hfX.symm.trans hc3
  have hpl : e.platform.magicAccessors = ({} : Platform).magicAccessors := by rw [X0.admits.platform]
  obtain ⟨c4, hc4, hlk4⟩ := Cond.classLink_spec hown (hKW.args args hlink) e.platform hpl
  cases hcT.symm.trans hc4
  obtain ⟨kE, hkE, -⟩ := Vm.findClass_spec hfX
  obtain ⟨vm2, X2, st2⟩ := k_caught X' (v := v) (g := { F0 m pc ls st0 with stack := rest }) rfl hce hcs ⟨kE, hkE⟩ pre xt rs htab hcov h0 hlk4 hasg (fun z hz => by
    obtain ⟨z9, z0, z1, z2⟩ := hpass z hz
    obtain ⟨c5, hc5, hl5⟩ := Cond.classLink_spec hown (hKW.args args z2) e.platform hpl
    exact ⟨z9, z0, c5, hl5, hKW.2 _ _ (by rw [← z1]; exact hfX) hc5⟩)
  have hP1 : va_P D classes ws U.heap := hP.kept fun k x hx => by
    have h1 := (hP k x hx).lt
    have h2 : H[x.1]? = some H[x.1] := Array.getElem?_eq_getElem h1
    rw [h2]
    exact g5 _ _ (by show T.heap[_]? = _; rw [hT]; exact h2)
  have hS1 : va_S A s.heap U.heap _ := ⟨Nat.le_trans hS.1 (by rw [← hT]; exact g4), fun q h1 h2 => by
    have h3 := hS.2.1 q h1 h2
    have h4 : s.heap[q]? = some s.heap[q] := Array.getElem?_eq_getElem h1
    rw [h4] at h3 ⊢
    exact g5 _ _ (by show T.heap[_]? = _; rw [hT]; exact h3), hS.2.2⟩
  obtain ⟨t, a1, b1⟩ := kk v U.heap hP1 hS1 (U.setVm vm2) rfl X2
  refine ⟨t, hstep₁ _ fun acts => ?_, b1⟩
  rw [doInvoke_state]
  exact hsteps.trans (st2 t a1)
end Thr
/-! methods with an exception table -/
abbrev wW (y : MethodName) (cc : ByteArray) (nL : Nat) (ret : Option FieldType) (hh : List (Nat × Nat × Nat × Nat)) : List Cond := Cond.codeWith y cc nL ret hh :: lw_g
def MiW (l : Launch) (D : va_G) (tc : Nat → ClassId) (tb : Nat → Nat) (y : MethodName) (cc : ByteArray) (nL : Nat) (ret : Option FieldType) (hh : List (Nat × Nat × Nat × Nat)) (rm : Room) (av : List Value) (cs : va_W) {S : Type} (ph : S → Prop) (v : S → Int32) (cs' : S → va_W) : Prop :=
  ∀ sz : Nat, Met l y (wW y cc nL ret hh) rm (va_Pc av (PreX D tc tb cs sz)) (va_Qi (fun (r : Int32) (u : S) => r = v u ∧ ph u) (fun u t => Wd D tc (va_A cs sz) (cs' u) t) (va_A cs sz)) rm.cells rm.slots (va_A cs sz)
def CxW (p : Program) (D : va_G) (tc : Nat → ClassId) (tb : Nat → Nat) (y : MethodName) (cc : ByteArray) (nL : Nat) (ret : Option FieldType) (hh : List (Nat × Nat × Nat × Nat)) (rm : Room) (av : List Value) (cs : va_W) (mc ms : Nat) (Qc : (Nat → Prop) → Array Value → State → Outcome → State → Prop) (s : State) (m : MethodId) (below : List Frame) (meth : Method) (c : Code) (A : Nat → Prop) (ls : Array Slot) (R : Room) (args : Array Value) (Q : State → Prop) : Prop :=
  p.tables.exec = Jvm.exec ∧ c.code = cc ∧ meth.sig.returnType = ret ∧ (∀ w ∈ wW y cc nL ret hh, w.before args s = true) ∧ s.vm.findClass y.cls = some m.cls ∧ meth.locks = false ∧ c.maxLocals = nL ∧ meth.name = y.name ∧
  (∀ q : Nat, s.heap.size ≤ q → A q) ∧ ST tb A s s.heap ∧ NW s ∧ va_K D classes (TY tc) s ∧ va_P D classes cs s.heap ∧ va_D A cs ∧ va_S A s.heap s.heap [] ∧ lv_has ls nL (lv_args 0 av) ∧ R = rm ∧ Q = MQ below (Qc A) args s mc ms A ∧ KW s ∧ SW s ∧ c.exceptionTable.toList = tableOf hh
theorem MiW.go {l : Launch} {D : va_G} {tc : Nat → ClassId} {tb : Nat → Nat} {y : MethodName} {cc : ByteArray} {nL : Nat} {ret : Option FieldType} {hh : List (Nat × Nat × Nat × Nat)} {rm : Room} {av : List Value} {cs : va_W} {S : Type} {ph : S → Prop} {v : S → Int32} {cs' : S → va_W} (hy : plainName y.cls = true) (hn : (lg_sl av).length ≤ nL)
    (body : ∀ (p : Program) (e : Env) (s : State) (m : MethodId) (below : List Frame) (meth : Method) (c : Code) (A : Nat → Prop) (ls : Array Slot) (R : Room) (args : Array Value) (Q : State → Prop), CxW p D tc tb y cc nL ret hh rm av cs rm.cells rm.slots (fun A => va_Qi (fun (r : Int32) (u : S) => r = v u ∧ ph u) (fun u t => Wd D tc A (cs' u) t) A) s m below meth c A ls R args Q →
      W p l e R s m args below meth c s.heap [] 0 0 Q (F0 m 0 ls [])) : MiW l D tc tb y cc nL ret hh rm av cs ph v cs' := by
  intro sz
  refine va_MetW (cc := cc) (maxL := nL) (ret := ret) (hh := hh) hy rfl ?_
  intro p e s m args below meth c s₁ B hml hv
  obtain ⟨rfl, ⟨hsz, hP, hK, hD0, hST, hN⟩, hKW, hSW⟩ := hv
  subst hsz
  rw [lg_entry_eq]
  have hpre := atoms_spec (ws := wW y cc nL ret hh) B.pre
  obtain ⟨m9, meth', c', q0, q1, q2, q3, q4, q5, -⟩ := Cond.codeWith_spec (hpre _ List.mem_cons_self)
  cases q0.symm.trans B.named
  have X0 := Stand.of_body B
  cases X0.method.symm.trans q1
  cases X0.code.symm.trans q2
  exact body p e s m below meth c (va_A cs s.heap.size) _ _ _ _ ⟨B.exec, B.bytes, B.returns, hpre, findClass_of_methodNamed B.named, B.notSynchronized, hml, (name_of_methodNamed B.named B.method).1, fun q h => Or.inr h, hST, hN, hK, hP, hD0.self, va_S.rf, lv_entry av hn, rfl, rfl, hKW, hSW, by rw [← table_eq c.exceptionTable.toList, q5]⟩
section ThrS
variable {p : Program} {l : Launch} {e : Env} {R : Room} {s : State} {m : MethodId} {args : Array Value} {below : List Frame} {meth : Method} {c : Code} {H : Heap} {locs : List Loc} {cells slots : Nat} {Q : State → Prop}
variable {cc : ByteArray} {pc : Nat} {ls : Array Slot} {rest st0 : List Value} {D : va_G} {tc : Nat → ClassId} {tb : Nat → Nat} {ws wc wr : va_W} {A : Nat → Prop} {S : Type}
/-- a static call to a method with an exception table -/
theorem k_runSW {own : String} {index nL mc ms : Nat} {y : MethodName} {cy : ByteArray} {nY : Nat} {ry : Option FieldType} {hh : List (Nat × Nat × Nat × Nat)} {rm : Room} {Qc : Array Value → State → Outcome → State → Prop} {As : List Value} (hx : p.tables.exec = Jvm.exec) (hb : c.code = cc) (hml : c.maxLocals = nL) (hown : s.vm.findClass own = some m.cls)
    (hM : Met l y (wW y cy nY ry hh) rm (va_Pc As (PreX D tc tb wc H.size)) Qc mc ms (va_A wc H.size)) (hrc : rm.cells = mc) (hrs : rm.slots = ms) (hfr : rm.frames + 1 ≤ R.frames) (hlo : 8 + (nY + 11) + rm.locals ≤ R.locals) (hw : ∀ w ∈ lw_g, w.before args s = true) (hcode : Cond.codeWith y cy nY ry hh ∈ lw_g) (hini : Cond.initialized y.cls ∈ lw_g) (hstt : Cond.static y ∈ lw_g) (hlink : Cond.methodLink own index y ∈ lw_g) (hy : y.cls ≠ "java/lang/invoke/MethodHandle" ∧ y.cls ≠ "java/lang/invoke/VarHandle") (hd : (parseMethodDescriptor y.desc).map (fun d => d.parameters.length) = some As.length)
    (hK : va_K D classes (TY tc) s) (hP : va_P D classes ws H) (hD : va_D A ws) (hS : va_S A s.heap H locs) (hST : ST tb A s s.heap) (hN : NW s) (hA : ∀ q : Nat, s.heap.size ≤ q → A q) (isC : List Nat) (hn : va_nd isC = true) (hC : isC.map (fun i => ws[i]?) = wc.map some) (hKW : KW s) (hSW : SW s) (hsk : ∀ (q : Nat) (cell : Cell), s.heap[q]? = some cell → cell.vm.isStatics = true → H[q]? = some cell)
    (hls : ls.size = nL) (hst : st0 = As.reverse ++ rest) (hrm : (rest.map fun v => v.category).sum ≤ 8) (hdg : decode cc pc = .ok (.invokestatic index, 3)) (hf : cells + mc ≤ R.cells ∧ slots + ms ≤ R.slots) :
    va_Run p l e R s m args below meth c H locs cells slots mc ms (F0 m pc ls st0) rest (Qc As.toArray) (va_A wc H.size) := by
  obtain ⟨k1, k2⟩ := k_preX (As := As) hK hP hD hS hST hN hA isC hn hC hKW hSW hsk
  have hG : GoodIn lw_g (wW y cy nY ry hh) := fun w hw9 => by
    have hm : w ∈ lw_g := by
      rcases List.mem_cons.mp hw9 with rfl | h1
      · exact hcode
      · exact h1
    exact ⟨hm, good_of_word (lw_good w hm)⟩
  have hKb : Jvm.Free.Back l R p e below s args y 3 8 (PreOf R mc ms (va_Pc As (PreX D tc tb wc H.size))) (PostOf Qc mc ms (va_A wc H.size)) :=
    va_backW (hh := hh) (bytes := cy) (maxL := nY) (ret := ry) hM k1 hrc hrs hfr hlo (pay_in hw hG) List.mem_cons_self (fun a' U hW => word_at hW (Or.inl (by first | rfl | simp [Cond.onTables, Cond.keeps, Cond.steady])) (hw _ hini))
  obtain ⟨mk, methM, c9, hnamed, hmethM, hc9, -, -, -, hrt, hlk9, hsig⟩ := Cond.codeWith_spec (hw _ hcode)
  have hstatic : methM.isStatic = true := Cond.static_spec hnamed hmethM (hw _ hstt)
  obtain ⟨kP, hkP, -⟩ := className_of_methodNamed hnamed
  have hinitP : kP.init = .initialized := Cond.initialized_spec (findClass_of_methodNamed hnamed) hkP (hw _ hini)
  have hlen : As.length = methM.sig.parameters.length := by
    rw [hsig] at hd
    exact (Option.some.inj hd).symm
  intro T hT X
  obtain ⟨vm₁, X₁, hstep₁⟩ := X.invokestatic hx hown (hw _ hlink) hnamed hmethM hstatic hkP hinitP hy (g := F0 m pc ls st0) rfl (argsL := As) (rest := rest) hlen hst (by rw [hb]; exact hdg)
  obtain ⟨v, ⟨U', l2, c2, s2⟩, X', ⟨g', mk', t, L, e1, e2, hq, h1, hL, h2, h3⟩, hsteps⟩ := hKb m meth c ⟨T.setVm vm₁, locs, cells, slots⟩ { F0 m pc ls st0 with stack := rest } (.invokestatic index) mk As.toArray X₁ rfl (hls.trans hml.symm) (by rw [hb]; exact hdg) (lv_room hrm) (X₁.named hnamed) ⟨hf.1, hf.2, k2 (T.setVm vm₁) hT X₁.warmed⟩
  dsimp only [Pt.U, Pt.locs, Pt.cells, Pt.slots] at X' e1 e2 h1 h2 h3 hsteps
  subst h1; subst h2; subst h3
  exact ⟨v, (T.setVm vm₁).calling g' mk' As.toArray, t, U', L, hT, X', hL, e1, e2, hq, fun tg h => hstep₁ _ fun acts => by rw [doInvoke_state]; exact hsteps.trans h⟩
end ThrS
/-! a call that writes nothing -/
section ThrP
variable {p : Program} {l : Launch} {e : Env} {R : Room} {s : State} {m : MethodId} {args : Array Value} {below : List Frame} {meth : Method} {c : Code} {H : Heap} {locs : List Loc} {cells slots : Nat} {Q : State → Prop}
variable {cc : ByteArray} {pc : Nat} {ls : Array Slot} {rest st0 : List Value} {D : va_G} {tc : Nat → ClassId} {tb : Nat → Nat} {ws wc wr : va_W} {A : Nat → Prop}
def Qpure (v : Int32) : Array Value → State → Outcome → State → Prop := fun _ st o t => o = .returned (some (.int v)) ∧ t.heap = st.heap
theorem k_runVp {own C : String} {index nL n mc ms : Nat} {Ts : List Cond} {y : MethodName} {cy : ByteArray} {nY : Nat} {ry : Option FieldType} {rm : Room} {Qc : Array Value → State → Outcome → State → Prop} {free : Addr → Prop} {b : Nat} {As : List Value} (F : CallFix p m c cc nL s args Ts own) (hM : Met l y (wS y cy nY ry) rm (va_Pc (.ref b :: As) (Pre D tc tb wc H.size)) Qc mc ms free) (cw : CallW R s args own C index y cy nY ry (wS y cy nY ry) rm mc ms n)
    (hK : va_K D classes (TY tc) s) (hP : va_P D classes ws H) (hD : va_D A ws) (hS : va_S A s.heap H locs) (hST : ST tb A s s.heap) (hN : NW s) (hA : ∀ q : Nat, s.heap.size ≤ q → A q) (isC : List Nat) (hn : va_nd isC = true) (hC : isC.map (fun i => ws[i]?) = wc.map some) (q0 : Nat) {ci : Nat} {fs : List Value} {qc : vw_C} (he : ws[q0]? = some (b, .inr (ci, fs))) (hc : classes[ci]? = some qc) (hq : qc.1 = C) (hAs : As.length = n) (hls : ls.size = nL) (hst : st0 = As.reverse ++ .ref b :: rest) (hrm : (rest.map fun v => v.category).sum ≤ 8) (hdg : decode cc pc = .ok (.invokevirtual index, 3)) (hf : cells + mc ≤ R.cells ∧ slots + ms ≤ R.slots) :
    va_Run p l e R s m args below meth c H locs cells slots mc ms (F0 m pc ls st0) rest (Qc (Value.ref b :: As).toArray) free := by
  obtain ⟨k1, k2⟩ := k_pre (As := .ref b :: As) hK hP hD hS hST hN hA isC hn hC
  exact va_runV F hM cw ⟨k1, by rw [← hq]; exact va_recv hK hP hc he, k2⟩ rfl hAs hls hst (lv_room hrm) hdg hf
theorem k_callp {v : Int32} {a : Array Value} (hr : va_Run p l e R s m args below meth c H locs cells slots 0 0 (F0 m pc ls st0) rest (Qpure v a) (fun _ => False)) (kk : W p l e R s m args below meth c H locs cells slots Q (F0 m (pc + 3) ls (.int v :: rest))) : W p l e R s m args below meth c H locs cells slots Q (F0 m pc ls st0) := by
  intro T hT X
  obtain ⟨v', st₀, t, T', L, h1, X', hL, h2, h3, ⟨h4, h5⟩, go⟩ := hr T hT X
  have hL0 : L = [] := List.eq_nil_iff_forall_not_mem.mpr (fun q hq => hL q hq)
  subst hL0
  cases h4
  rw [List.append_nil] at X'
  obtain ⟨t2, a1, b1⟩ := kk T' (h2.trans (h5.trans h1)) X'
  exact ⟨t2, go t2 a1, b1⟩
end ThrP
def Mp (l : Launch) (D : va_G) (tc : Nat → ClassId) (tb : Nat → Nat) (y : MethodName) (cc : ByteArray) (nL : Nat) (ret : Option FieldType) (rm : Room) (av : List Value) (cs : va_W) (v : Int32) : Prop :=
  ∀ sz : Nat, Met l y (wS y cc nL ret) rm (va_Pc av (Pre D tc tb cs sz)) (Qpure v) 0 0 (fun _ => False)
theorem Mp.go {l : Launch} {D : va_G} {tc : Nat → ClassId} {tb : Nat → Nat} {y : MethodName} {cc : ByteArray} {nL : Nat} {ret : Option FieldType} {rm : Room} {av : List Value} {cs : va_W} {v : Int32} (hy : plainName y.cls = true) (hn : (lg_sl av).length ≤ nL)
    (body : ∀ (p : Program) (e : Env) (s : State) (m : MethodId) (below : List Frame) (meth : Method) (c : Code) (A : Nat → Prop) (ls : Array Slot) (R : Room) (args : Array Value) (Q : State → Prop),
      (p.tables.exec = Jvm.exec ∧ c.code = cc ∧ meth.sig.returnType = ret ∧ (∀ w ∈ wS y cc nL ret, w.before args s = true) ∧ s.vm.findClass y.cls = some m.cls ∧ meth.locks = false ∧ c.maxLocals = nL ∧ meth.name = y.name ∧
        (∀ q : Nat, s.heap.size ≤ q → A q) ∧ ST tb A s s.heap ∧ NW s ∧ va_K D classes (TY tc) s ∧ va_P D classes cs s.heap ∧ va_D A cs ∧ va_S A s.heap s.heap [] ∧ lv_has ls nL (lv_args 0 av) ∧ R = rm ∧ Q = MQ below (Qpure v) args s 0 0 (fun _ => False)) →
      W p l e R s m args below meth c s.heap [] 0 0 Q (F0 m 0 ls [])) : Mp l D tc tb y cc nL ret rm av cs v := by
  intro sz
  refine Met.ofW (cc := cc) (maxL := nL) (ret := ret) hy rfl ?_
  intro p e s m args below meth c s₁ B hml hv
  obtain ⟨rfl, hsz, hP, hK, hD0, hST, hN⟩ := hv
  subst hsz
  rw [lg_entry_eq]
  exact body p e s m below meth c (va_A cs s.heap.size) _ _ _ _ ⟨B.exec, B.bytes, B.returns, atoms_spec (ws := wS y cc nL ret) B.pre, findClass_of_methodNamed B.named, B.notSynchronized, hml, (name_of_methodNamed B.named B.method).1, fun q h => Or.inr h, hST, hN, hK, hP, hD0.self, va_S.rf, lv_entry av hn, rfl, rfl⟩
theorem k_pret {p : Program} {l : Launch} {e : Env} {R : Room} {s : State} {m : MethodId} {args : Array Value} {below : List Frame} {meth : Method} {c : Code} {cc : ByteArray} {pc : Nat} {ls : Array Slot} {ty : FieldType} {x v : Int32} (hx : p.tables.exec = Jvm.exec) (hb : c.code = cc) (hr : meth.sig.returnType = some ty) (hlk : meth.locks = false) (hnr : narrow ty (.int x) = .int x) (hv : x = v) (hdg : decode cc pc = .ok (.ireturn, 1)) :
    W p l e R s m args below meth c s.heap [] 0 0 (MQ below (Qpure v) args s 0 0 (fun _ => False)) (F0 m pc ls [.int x]) :=
  W.zret hx hb hr hnr (fun t ht hW => ⟨by rw [hv], ht⟩) (fun q hq => by cases hq) hdg hlk
theorem is_lt (k : Nat) : isN k < 2 := by unfold isN; split <;> decide
