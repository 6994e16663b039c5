/-! The standard contract: the tables of the class's statics, the start, the end, a call in one row. -/
abbrev TY (tc : Nat → ClassId) : List (ClassId × FieldType) := [(tc 0, .int), (tc 1, .short), (tc 2, .long), (tc 3, .boolean)]
def ST (tb : Nat → Nat) (A : Nat → Prop) (U : State) (H : Heap) : Prop := ∀ (k : Nat) (q : String × Nat × (Nat → Int32)), tabs[k]? = some q → va_Z "CarrierLink" q.1 "[I" (.ref (tb k)) A U H ∧ va_T .int (tb k) q.2.1 (fun j => .int (q.2.2 j)) A U H
theorem ST.moved {tb : Nat → Nat} {A : Nat → Prop} {u U : State} {H : Heap} (hvm : u.vm.Alike U.vm) (h : ST tb A u H) : ST tb A U H := fun k q hq => ⟨va_Z.moved hvm (h k q hq).1, va_T.moved hvm (h k q hq).2⟩
theorem ST.kept {tb : Nat → Nat} {A : Nat → Prop} {U : State} {H H1 : Heap} (h : ST tb A U H) (hq : ∀ a : Nat, a < H.size → ¬ A a → H1[a]? = H[a]?) : ST tb A U H1 := fun k q hk => ⟨(h k q hk).1.kept hq, (h k q hk).2.kept hq⟩
theorem ST.narrow {tb : Nat → Nat} {A B : Nat → Prop} {U : State} {H : Heap} (h : ST tb A U H) (hAB : ∀ q, B q → A q) : ST tb B U H := fun k q hk => ⟨(h k q hk).1.narrow hAB, (h k q hk).2.narrow hAB⟩
/-- the links to a nest mate's private members -/
def NW (U : State) : Prop := ∀ w ∈ lw_n, va_Nw w U
theorem NW.warm {s U : State} (hW : s.WarmedH U.vm) (h : NW s) : NW U := fun w hw => by
  have h1 := lw_nest w hw
  have h2 := h w hw
  cases w <;> first | exact va_Nw.warmF hW h2 | exact va_Nw.warmM hW h2 | (simp [isNest] at h1)
theorem NW.same {u U : State} (e : u.vm = U.vm) (h : NW u) : NW U := fun w hw => by
  have h1 := lw_nest w hw
  have h2 := h w hw
  cases w <;> first | exact va_Nw.same rfl e h2 | (simp [isNest] at h1)
abbrev Wd (D : va_G) (tc : Nat → ClassId) (A : Nat → Prop) (cs : va_W) (t : State) : Prop := va_P D classes cs t.heap ∧ va_K D classes (TY tc) t ∧ va_D A cs
def Pre (D : va_G) (tc : Nat → ClassId) (tb : Nat → Nat) (cs : va_W) (sz : Nat) (U : State) : Prop := U.heap.size = sz ∧ va_P D classes cs U.heap ∧ va_K D classes (TY tc) U ∧ va_D (fun _ => True) cs ∧ ST tb (va_A cs sz) U U.heap ∧ NW U
abbrev wS (y : MethodName) (cc : ByteArray) (nL : Nat) (ret : Option FieldType) : List Cond := Cond.code y cc nL ret :: lw_g
/-- contracts: an int, a long, nothing -/
def Mi (l : Launch) (D : va_G) (tc : Nat → ClassId) (tb : Nat → Nat) (y : MethodName) (cc : ByteArray) (nL : Nat) (ret : Option FieldType) (rm : Room) (av : List Value) (cs : va_W) {S : Type} (ph : S → Prop) (v : S → Int32) (cs' : S → va_W) : Prop :=
  ∀ sz : Nat, Met l y (wS y cc nL ret) rm (va_Pc av (Pre D tc tb cs sz)) (va_Qi (fun (r : Int32) (u : S) => r = v u ∧ ph u) (fun u t => Wd D tc (va_A cs sz) (cs' u) t) (va_A cs sz)) rm.cells rm.slots (va_A cs sz)
def Ml (l : Launch) (D : va_G) (tc : Nat → ClassId) (tb : Nat → Nat) (y : MethodName) (cc : ByteArray) (nL : Nat) (ret : Option FieldType) (rm : Room) (av : List Value) (cs : va_W) {S : Type} (ph : S → Prop) (v : S → Int64) (cs' : S → va_W) : Prop :=
  ∀ sz : Nat, Met l y (wS y cc nL ret) rm (va_Pc av (Pre D tc tb cs sz)) (va_Ql (fun (r : Int64) (u : S) => r = v u ∧ ph u) (fun u t => Wd D tc (va_A cs sz) (cs' u) t) (va_A cs sz)) rm.cells rm.slots (va_A cs sz)
def Mv (l : Launch) (D : va_G) (tc : Nat → ClassId) (tb : Nat → Nat) (y : MethodName) (cc : ByteArray) (nL : Nat) (ret : Option FieldType) (rm : Room) (av : List Value) (cs : va_W) {S : Type} (ph : S → Prop) (cs' : S → va_W) : Prop :=
  ∀ sz : Nat, Met l y (wS y cc nL ret) rm (va_Pc av (Pre D tc tb cs sz)) (va_Qv ph (fun u t => Wd D tc (va_A cs sz) (cs' u) t) (va_A cs sz)) rm.cells rm.slots (va_A cs sz)
/-- what a walk begins with -/
def Cx (p : Program) (D : va_G) (tc : Nat → ClassId) (tb : Nat → Nat) (y : MethodName) (cc : ByteArray) (nL : Nat) (ret : Option FieldType) (rm : Room) (av : List Value) (cs : va_W) (mc ms : Nat) (Qc : (Nat → Prop) → Array Value → State → Outcome → State → Prop) (s : State) (m : MethodId) (below : List Frame) (meth : Method) (c : Code) (A : Nat → Prop) (ls : Array Slot) (R : Room) (args : Array Value) (Q : State → Prop) : Prop :=
  p.tables.exec = Jvm.exec ∧ c.code = cc ∧ meth.sig.returnType = ret ∧ (∀ w ∈ wS y cc nL ret, w.before args s = true) ∧ s.vm.findClass y.cls = some m.cls ∧ meth.locks = false ∧ c.maxLocals = nL ∧ meth.name = y.name ∧
  (∀ q : Nat, s.heap.size ≤ q → A q) ∧ ST tb A s s.heap ∧ NW s ∧ va_K D classes (TY tc) s ∧ va_P D classes cs s.heap ∧ va_D A cs ∧ va_S A s.heap s.heap [] ∧ lv_has ls nL (lv_args 0 av) ∧ R = rm ∧ Q = MQ below (Qc A) args s mc ms A
theorem k_start {l : Launch} {D : va_G} {tc : Nat → ClassId} {tb : Nat → Nat} {y : MethodName} {cc : ByteArray} {nL : Nat} {ret : Option FieldType} {rm : Room} {av : List Value} {cs : va_W} {mc ms : Nat} {Qc : (Nat → Prop) → Array Value → State → Outcome → State → Prop}
    (hy : plainName y.cls = true) (hn : (lg_sl av).length ≤ nL)
    (body : ∀ (p : Program) (e : Env) (s : State) (m : MethodId) (below : List Frame) (meth : Method) (c : Code) (A : Nat → Prop) (ls : Array Slot) (R : Room) (args : Array Value) (Q : State → Prop), Cx p D tc tb y cc nL ret rm av cs mc ms Qc s m below meth c A ls R args Q →
      W p l e R s m args below meth c s.heap [] 0 0 Q (F0 m 0 ls [])) (sz : Nat) :
    Met l y (wS y cc nL ret) rm (va_Pc av (Pre D tc tb cs sz)) (Qc (va_A cs sz)) mc ms (va_A cs sz) := by
  refine Met.ofW (cc := cc) (maxL := nL) (ret := ret) hy rfl ?_
  intro p e s m args below meth c s₁ B hml hv
  obtain ⟨rfl, hsz, hP, hK, hD0, hST, hN⟩ := hv
  subst hsz
  rw [lg_entry_eq]
  exact body p e s m below meth c (va_A cs s.heap.size) _ _ _ _ ⟨B.exec, B.bytes, B.returns, atoms_spec (ws := wS y cc nL ret) B.pre, findClass_of_methodNamed B.named, B.notSynchronized, hml, (name_of_methodNamed B.named B.method).1, fun q h => Or.inr h, hST, hN, hK, hP, hD0.self, va_S.rf, lv_entry av hn, rfl, rfl⟩
theorem Mi.go {l : Launch} {D : va_G} {tc : Nat → ClassId} {tb : Nat → Nat} {y : MethodName} {cc : ByteArray} {nL : Nat} {ret : Option FieldType} {rm : Room} {av : List Value} {cs : va_W} {S : Type} {ph : S → Prop} {v : S → Int32} {cs' : S → va_W} (hy : plainName y.cls = true) (hn : (lg_sl av).length ≤ nL)
    (body : ∀ (p : Program) (e : Env) (s : State) (m : MethodId) (below : List Frame) (meth : Method) (c : Code) (A : Nat → Prop) (ls : Array Slot) (R : Room) (args : Array Value) (Q : State → Prop), Cx p D tc tb y cc nL ret rm av cs rm.cells rm.slots (fun A => va_Qi (fun (r : Int32) (u : S) => r = v u ∧ ph u) (fun u t => Wd D tc A (cs' u) t) A) s m below meth c A ls R args Q →
      W p l e R s m args below meth c s.heap [] 0 0 Q (F0 m 0 ls [])) : Mi l D tc tb y cc nL ret rm av cs ph v cs' := fun sz => k_start (Qc := fun A => va_Qi (fun (r : Int32) (u : S) => r = v u ∧ ph u) (fun u t => Wd D tc A (cs' u) t) A) hy hn body sz
theorem Ml.go {l : Launch} {D : va_G} {tc : Nat → ClassId} {tb : Nat → Nat} {y : MethodName} {cc : ByteArray} {nL : Nat} {ret : Option FieldType} {rm : Room} {av : List Value} {cs : va_W} {S : Type} {ph : S → Prop} {v : S → Int64} {cs' : S → va_W} (hy : plainName y.cls = true) (hn : (lg_sl av).length ≤ nL)
    (body : ∀ (p : Program) (e : Env) (s : State) (m : MethodId) (below : List Frame) (meth : Method) (c : Code) (A : Nat → Prop) (ls : Array Slot) (R : Room) (args : Array Value) (Q : State → Prop), Cx p D tc tb y cc nL ret rm av cs rm.cells rm.slots (fun A => va_Ql (fun (r : Int64) (u : S) => r = v u ∧ ph u) (fun u t => Wd D tc A (cs' u) t) A) s m below meth c A ls R args Q →
      W p l e R s m args below meth c s.heap [] 0 0 Q (F0 m 0 ls [])) : Ml l D tc tb y cc nL ret rm av cs ph v cs' := fun sz => k_start (Qc := fun A => va_Ql (fun (r : Int64) (u : S) => r = v u ∧ ph u) (fun u t => Wd D tc A (cs' u) t) A) hy hn body sz
theorem Mv.go {l : Launch} {D : va_G} {tc : Nat → ClassId} {tb : Nat → Nat} {y : MethodName} {cc : ByteArray} {nL : Nat} {ret : Option FieldType} {rm : Room} {av : List Value} {cs : va_W} {S : Type} {ph : S → Prop} {cs' : S → va_W} (hy : plainName y.cls = true) (hn : (lg_sl av).length ≤ nL)
    (body : ∀ (p : Program) (e : Env) (s : State) (m : MethodId) (below : List Frame) (meth : Method) (c : Code) (A : Nat → Prop) (ls : Array Slot) (R : Room) (args : Array Value) (Q : State → Prop), Cx p D tc tb y cc nL ret rm av cs rm.cells rm.slots (fun A => va_Qv ph (fun u t => Wd D tc A (cs' u) t) A) s m below meth c A ls R args Q →
      W p l e R s m args below meth c s.heap [] 0 0 Q (F0 m 0 ls [])) : Mv l D tc tb y cc nL ret rm av cs ph cs' := fun sz => k_start (Qc := fun A => va_Qv ph (fun u t => Wd D tc A (cs' u) t) A) hy hn body sz
theorem k_places {ws w : va_W} {is : List Nat} (hs : is.map (fun i => ws[i]?) = w.map some) (k : Nat) (q : Nat × va_E) (hq : w[k]? = some q) : ∃ i, is[k]? = some i ∧ ws[i]? = some q := by
  have h1 : (is.map (fun i => ws[i]?))[k]? = some (some q) := by rw [hs, List.getElem?_map, hq]; rfl
  rw [List.getElem?_map] at h1
  cases hi : is[k]? with
  | none => rw [hi] at h1; cases h1
  | some i => rw [hi] at h1; exact ⟨i, rfl, Option.some.inj h1⟩
theorem k_sub {D : va_G} {cl : List vw_C} {ws w : va_W} {H : Heap} {is : List Nat} (hP : va_P D cl ws H) (hs : is.map (fun i => ws[i]?) = w.map some) : va_P D cl w H := fun k q hq => by
  obtain ⟨i, -, h⟩ := k_places hs k q hq
  exact hP i q h
theorem k_Ds {A : Nat → Prop} {ws ws' : va_W} (hD : va_D A ws) (is : List Nat) (hn : va_nd is = true) (hs : is.map (fun i => (ws[i]?).map Prod.fst) = ws'.map (fun q => some q.1)) : va_D A ws' := by
  have key : ∀ (k : Nat) (q : Nat × va_E), ws'[k]? = some q → ∃ (i : Nat) (q0 : Nat × va_E), is[k]? = some i ∧ ws[i]? = some q0 ∧ q0.1 = q.1 := by
    intro k q hk
    have h1 : (is.map (fun i => (ws[i]?).map Prod.fst))[k]? = some (some q.1) := by rw [hs, List.getElem?_map, hk]; rfl
    rw [List.getElem?_map] at h1
    cases hi : is[k]? with
    | none => rw [hi] at h1; cases h1
    | some i =>
      rw [hi] at h1
      have h2 : (ws[i]?).map Prod.fst = some q.1 := Option.some.inj h1
      cases hw : ws[i]? with
      | none => rw [hw] at h2; cases h2
      | some q0 => rw [hw] at h2; exact ⟨i, q0, rfl, hw, Option.some.inj h2⟩
  refine ⟨fun i j x y hi hj hxy => ?_, fun k q hk => ?_⟩
  · obtain ⟨a, x0, h1, h2, h3⟩ := key i x hi
    obtain ⟨b, y0, h4, h5, h6⟩ := key j y hj
    have hab := hD.1 a b x0 y0 h2 h5 (h3.trans (hxy.trans h6.symm))
    subst hab
    exact va_nd_inj is hn i j a h1 h4
  · obtain ⟨a, q0, -, h2, h3⟩ := key k q hk
    rw [← h3]
    exact hD.2 a q0 h2
section Std
variable {p : Program} {l : Launch} {e : Env} {R : Room} {s : State} {m : MethodId} {args : Array Value} {below : List Frame} {meth : Method} {c : Code} {H : Heap} {locs : List Loc} {cells slots : Nat} {Q : State → Prop}
variable {cc : ByteArray} {pc : Nat} {ls : Array Slot} {rest st0 : List Value} {D : va_G} {tc : Nat → ClassId} {tb : Nat → Nat} {ws wc wr : va_W} {A : Nat → Prop} {S : Type}
theorem k_iret {ph : S → Prop} {v : S → Int32} {cs' : S → va_W} (u : S) (hx : p.tables.exec = Jvm.exec) (hb : c.code = cc) (hr : meth.sig.returnType = some .int) (hlk : meth.locks = false) (hK : va_K D classes (TY tc) s) (hP : va_P D classes ws H) (hD : va_D A ws) (hS : va_S A s.heap H locs) (is : List Nat) (hn : va_nd is = true) (hi : is.map (fun i => ws[i]?) = (cs' u).map some) (hp : ph u) {x : Int32} (hv : x = v u) (hdg : decode cc pc = .ok (.ireturn, 1)) :
    W p l e R s m args below meth c H locs cells slots (MQ below (va_Qi (fun (r : Int32) (u : S) => r = v u ∧ ph u) (fun u t => Wd D tc A (cs' u) t) A) args s cells slots A) (F0 m pc ls [.int x]) :=
  W.iret hx hb hr (fun t ht hW => ⟨⟨x, u, rfl, ⟨hv, hp⟩, by rw [ht]; exact k_sub hP hi, va_K.moved hW.alike hK, hD.sub is hn hi⟩, hS.F ht⟩) hS.2.2 hdg hlk
theorem k_zret {ty : FieldType} {ph : S → Prop} {v : S → Int32} {cs' : S → va_W} (u : S) (hx : p.tables.exec = Jvm.exec) (hb : c.code = cc) (hr : meth.sig.returnType = some ty) (hlk : meth.locks = false) (hK : va_K D classes (TY tc) s) (hP : va_P D classes ws H) (hD : va_D A ws) (hS : va_S A s.heap H locs) (is : List Nat) (hn : va_nd is = true) (hi : is.map (fun i => ws[i]?) = (cs' u).map some) (hp : ph u) {x : Int32} (hnr : narrow ty (.int x) = .int x) (hv : x = v u) (hdg : decode cc pc = .ok (.ireturn, 1)) :
    W p l e R s m args below meth c H locs cells slots (MQ below (va_Qi (fun (r : Int32) (u : S) => r = v u ∧ ph u) (fun u t => Wd D tc A (cs' u) t) A) args s cells slots A) (F0 m pc ls [.int x]) :=
  W.zret hx hb hr hnr (fun t ht hW => ⟨⟨x, u, rfl, ⟨hv, hp⟩, by rw [ht]; exact k_sub hP hi, va_K.moved hW.alike hK, hD.sub is hn hi⟩, hS.F ht⟩) hS.2.2 hdg hlk
theorem k_lret {ph : S → Prop} {v : S → Int64} {cs' : S → va_W} (u : S) (hx : p.tables.exec = Jvm.exec) (hb : c.code = cc) (hr : meth.sig.returnType = some .long) (hlk : meth.locks = false) (hK : va_K D classes (TY tc) s) (hP : va_P D classes ws H) (hD : va_D A ws) (hS : va_S A s.heap H locs) (is : List Nat) (hn : va_nd is = true) (hi : is.map (fun i => ws[i]?) = (cs' u).map some) (hp : ph u) {x : Int64} (hv : x = v u) (hdg : decode cc pc = .ok (.lreturn, 1)) :
    W p l e R s m args below meth c H locs cells slots (MQ below (va_Ql (fun (r : Int64) (u : S) => r = v u ∧ ph u) (fun u t => Wd D tc A (cs' u) t) A) args s cells slots A) (F0 m pc ls [.long x]) :=
  W.lret hx hb hr (fun t ht hW => ⟨⟨x, u, rfl, ⟨hv, hp⟩, by rw [ht]; exact k_sub hP hi, va_K.moved hW.alike hK, hD.sub is hn hi⟩, hS.F ht⟩) hS.2.2 hdg hlk
theorem k_vret {ph : S → Prop} {cs' : S → va_W} (u : S) (hx : p.tables.exec = Jvm.exec) (hb : c.code = cc) (hr : meth.sig.returnType = none) (hlk : meth.locks = false) (hK : va_K D classes (TY tc) s) (hP : va_P D classes ws H) (hD : va_D A ws) (hS : va_S A s.heap H locs) (is : List Nat) (hn : va_nd is = true) (hi : is.map (fun i => ws[i]?) = (cs' u).map some) (hp : ph u) (hdg : decode cc pc = .ok (.return_, 1)) :
    W p l e R s m args below meth c H locs cells slots (MQ below (va_Qv ph (fun u t => Wd D tc A (cs' u) t) A) args s cells slots A) (F0 m pc ls []) :=
  W.vret hx hb hr (fun t ht hW => ⟨⟨u, rfl, hp, by rw [ht]; exact k_sub hP hi, va_K.moved hW.alike hK, hD.sub is hn hi⟩, hS.F ht⟩) hS.2.2 hdg hlk
/-- what a callee's start asks, out of the caller's world -/
theorem k_pre {As : List Value} (hK : va_K D classes (TY tc) s) (hP : va_P D classes ws H) (hD : va_D A ws) (hS : va_S A s.heap H locs) (hST : ST tb A s s.heap) (hN : NW s) (hA : ∀ q : Nat, s.heap.size ≤ q → A q) (isC : List Nat) (hn : va_nd isC = true) (hC : isC.map (fun i => ws[i]?) = wc.map some) :
    PreS s H (va_Pc As (Pre D tc tb wc H.size)) As := by
  refine ⟨fun a U g mk q => ?_, fun U hU hW => ⟨rfl, ?_, ?_, ?_, ?_, ?_, hN.warm hW⟩⟩
  · obtain ⟨q0, q1, qP, qK, qD, qS, qN⟩ := q
    exact ⟨q0, q1, qP, va_K.moved (u := U) (U := U.calling g mk a) (Vm.Alike.refl U.vm) qK, qD, ST.moved (u := U) (U := U.calling g mk a) (Vm.Alike.refl U.vm) qS, NW.same (u := U) (U := U.calling g mk a) rfl qN⟩
  · rw [hU]
  · rw [hU]; exact k_sub hP hC
  · exact va_K.moved hW.alike hK
  · exact (hD.sub isC hn hC).weaken (fun _ _ _ _ => trivial)
  · rw [hU]; exact ((hST.kept hS.2.1).moved hW.alike).narrow (va_free hD hS hA isC hC)
theorem k_runS {own : String} {index nL n mc ms : Nat} {Ts : List Cond} {y : MethodName} {cy : ByteArray} {nY : Nat} {ry : Option FieldType} {rm : Room} {Qc : Array Value → State → Outcome → State → Prop} {As : List Value} (F : CallFix p m c cc nL s args Ts own) (hM : Met l y (wS y cy nY ry) rm (va_Pc As (Pre D tc tb wc H.size)) Qc mc ms (va_A wc H.size)) (cw : CallB R s args own index y cy nY ry (wS y cy nY ry) rm mc ms n ∧ (Cond.static y).before args s = true)
    (hK : va_K D classes (TY tc) s) (hP : va_P D classes ws H) (hD : va_D A ws) (hS : va_S A s.heap H locs) (hST : ST tb A s s.heap) (hN : NW s) (hA : ∀ q : Nat, s.heap.size ≤ q → A q) (isC : List Nat) (hn : va_nd isC = true) (hC : isC.map (fun i => ws[i]?) = wc.map some) (hAs : As.length = n) (hls : ls.size = nL) (hst : st0 = As.reverse ++ rest) (hrm : (rest.map fun v => v.category).sum ≤ 8) (hdg : decode cc pc = .ok (.invokestatic index, 3)) (hf : cells + mc ≤ R.cells ∧ slots + ms ≤ R.slots) :
    va_Run p l e R s m args below meth c H locs cells slots mc ms (F0 m pc ls st0) rest (Qc As.toArray) (va_A wc H.size) :=
  va_runS F hM cw (k_pre hK hP hD hS hST hN hA isC hn hC) rfl hAs hls hst (lv_room hrm) hdg hf
theorem k_runSN {own host : String} {index nL n mc ms : Nat} {Ts : List Cond} {y : MethodName} {cy : ByteArray} {nY : Nat} {ry : Option FieldType} {rm : Room} {Qc : Array Value → State → Outcome → State → Prop} {As : List Value} (F : CallFix p m c cc nL s args Ts own) (hM : Met l y (wS y cy nY ry) rm (va_Pc As (Pre D tc tb wc H.size)) Qc mc ms (va_A wc H.size)) (cw : va_CN R s args own index y host cy nY ry (wS y cy nY ry) rm mc ms n ∧ (Cond.static y).before args s = true ∧ True)
    (hK : va_K D classes (TY tc) s) (hP : va_P D classes ws H) (hD : va_D A ws) (hS : va_S A s.heap H locs) (hST : ST tb A s s.heap) (hN : NW s) (hA : ∀ q : Nat, s.heap.size ≤ q → A q) (isC : List Nat) (hn : va_nd isC = true) (hC : isC.map (fun i => ws[i]?) = wc.map some) (hAs : As.length = n) (hls : ls.size = nL) (hst : st0 = As.reverse ++ rest) (hrm : (rest.map fun v => v.category).sum ≤ 8) (hdg : decode cc pc = .ok (.invokestatic index, 3)) (hf : cells + mc ≤ R.cells ∧ slots + ms ≤ R.slots) :
    va_Run p l e R s m args below meth c H locs cells slots mc ms (F0 m pc ls st0) rest (Qc As.toArray) (va_A wc H.size) :=
  va_runSN F hM cw (k_pre hK hP hD hS hST hN hA isC hn hC) rfl hAs hls hst (lv_room hrm) hdg hf
theorem k_runI {own : String} {index nL n mc ms : Nat} {Ts : List Cond} {y : MethodName} {cy : ByteArray} {nY : Nat} {rm : Room} {Qc : Array Value → State → Outcome → State → Prop} {b : Nat} {As : List Value} (F : CallFix p m c cc nL s args Ts own) (hM : Met l y (wS y cy nY none) rm (va_Pc (.ref b :: As) (Pre D tc tb wc H.size)) Qc mc ms (va_A wc H.size)) (cw : CallB R s args own index y cy nY none (wS y cy nY none) rm mc ms n ∧ y.name = "<init>" ∧ (Cond.instanceMethod y).before args s = true)
    (hK : va_K D classes (TY tc) s) (hP : va_P D classes ws H) (hD : va_D A ws) (hS : va_S A s.heap H locs) (hST : ST tb A s s.heap) (hN : NW s) (hA : ∀ q : Nat, s.heap.size ≤ q → A q) (isC : List Nat) (hn : va_nd isC = true) (hC : isC.map (fun i => ws[i]?) = wc.map some) (hAs : As.length = n) (hls : ls.size = nL) (hst : st0 = As.reverse ++ .ref b :: rest) (hrm : (rest.map fun v => v.category).sum ≤ 8) (hdg : decode cc pc = .ok (.invokespecial index, 3)) (hf : cells + mc ≤ R.cells ∧ slots + ms ≤ R.slots) :
    va_Run p l e R s m args below meth c H locs cells slots mc ms (F0 m pc ls st0) rest (Qc (Value.ref b :: As).toArray) (va_A wc H.size) :=
  va_runI F hM cw (k_pre hK hP hD hS hST hN hA isC hn hC) rfl hAs hls hst (lv_room hrm) hdg hf
theorem k_runV {own C : String} {index nL n mc ms : Nat} {Ts : List Cond} {y : MethodName} {cy : ByteArray} {nY : Nat} {ry : Option FieldType} {rm : Room} {Qc : Array Value → State → Outcome → State → Prop} {b : Nat} {As : List Value} (F : CallFix p m c cc nL s args Ts own) (hM : Met l y (wS y cy nY ry) rm (va_Pc (.ref b :: As) (Pre D tc tb wc H.size)) Qc mc ms (va_A wc H.size)) (cw : CallW R s args own C index y cy nY ry (wS y cy nY ry) rm mc ms n)
    (hK : va_K D classes (TY tc) s) (hP : va_P D classes ws H) (hD : va_D A ws) (hS : va_S A s.heap H locs) (hST : ST tb A s s.heap) (hN : NW s) (hA : ∀ q : Nat, s.heap.size ≤ q → A q) (isC : List Nat) (hn : va_nd isC = true) (hC : isC.map (fun i => ws[i]?) = wc.map some) (q0 : Nat) {ci : Nat} {fs : List Value} {qc : vw_C} (he : ws[q0]? = some (b, .inr (ci, fs))) (hc : classes[ci]? = some qc) (hq : qc.1 = C) (hAs : As.length = n) (hls : ls.size = nL) (hst : st0 = As.reverse ++ .ref b :: rest) (hrm : (rest.map fun v => v.category).sum ≤ 8) (hdg : decode cc pc = .ok (.invokevirtual index, 3)) (hf : cells + mc ≤ R.cells ∧ slots + ms ≤ R.slots) :
    va_Run p l e R s m args below meth c H locs cells slots mc ms (F0 m pc ls st0) rest (Qc (Value.ref b :: As).toArray) (va_A wc H.size) := by
  obtain ⟨k1, k2⟩ := k_pre (As := .ref b :: As) hK hP hD hS hST hN hA isC hn hC
  exact va_runV F hM cw ⟨k1, by rw [← hq]; exact va_recv hK hP hc he, k2⟩ rfl hAs hls hst (lv_room hrm) hdg hf
theorem k_calli {mc ms : Nat} {a : Array Value} {ph : S → Prop} {v : S → Int32} {cs' : S → va_W} (hr : va_Run p l e R s m args below meth c H locs cells slots mc ms (F0 m pc ls st0) rest (va_Qi (fun (r : Int32) (u : S) => r = v u ∧ ph u) (fun u t => Wd D tc (va_A wc H.size) (cs' u) t) (va_A wc H.size) a) (va_A wc H.size))
    (hP : va_P D classes ws H) (hD : va_D A ws) (hS : va_S A s.heap H locs) (hA : ∀ q : Nat, s.heap.size ≤ q → A q) (isC isR : List Nat) (hC : isC.map (fun i => ws[i]?) = wc.map some) (hR : isR.map (fun i => ws[i]?) = wr.map some) (hn : va_nd isR = true) (hdis : ∀ i ∈ isR, i ∉ isC)
    (kk : ∀ (u : S) (H1 : Heap) (locs1 : List Loc), ph u → va_P D classes (wr ++ cs' u) H1 → va_D A (wr ++ cs' u) → va_S A s.heap H1 locs1 → W p l e R s m args below meth c H1 locs1 (cells + mc) (slots + ms) Q (F0 m (pc + 3) ls (.int (v u) :: rest))) :
    W p l e R s m args below meth c H locs cells slots Q (F0 m pc ls st0) := by
  have hF := va_free hD hS hA isC hC
  refine va_calli hr hS (fun q _ h => hF q h) hF (fun r u t H1 locs1 ht hvm hw hB hz hk hS1 => ?_)
  obtain ⟨rfl, hp⟩ := hw
  obtain ⟨hP1, hK1, hD1⟩ := hB
  rw [ht] at hP1
  obtain ⟨hP2, hD2⟩ := va_join hP hD isC isR hC hR hn hdis hk hF hP1 hD1
  exact kk u H1 locs1 hp hP2 hD2 hS1
theorem k_calll {mc ms : Nat} {a : Array Value} {ph : S → Prop} {v : S → Int64} {cs' : S → va_W} (hr : va_Run p l e R s m args below meth c H locs cells slots mc ms (F0 m pc ls st0) rest (va_Ql (fun (r : Int64) (u : S) => r = v u ∧ ph u) (fun u t => Wd D tc (va_A wc H.size) (cs' u) t) (va_A wc H.size) a) (va_A wc H.size))
    (hP : va_P D classes ws H) (hD : va_D A ws) (hS : va_S A s.heap H locs) (hA : ∀ q : Nat, s.heap.size ≤ q → A q) (isC isR : List Nat) (hC : isC.map (fun i => ws[i]?) = wc.map some) (hR : isR.map (fun i => ws[i]?) = wr.map some) (hn : va_nd isR = true) (hdis : ∀ i ∈ isR, i ∉ isC)
    (kk : ∀ (u : S) (H1 : Heap) (locs1 : List Loc), ph u → va_P D classes (wr ++ cs' u) H1 → va_D A (wr ++ cs' u) → va_S A s.heap H1 locs1 → W p l e R s m args below meth c H1 locs1 (cells + mc) (slots + ms) Q (F0 m (pc + 3) ls (.long (v u) :: rest))) :
    W p l e R s m args below meth c H locs cells slots Q (F0 m pc ls st0) := by
  have hF := va_free hD hS hA isC hC
  refine va_calll hr hS (fun q _ h => hF q h) hF (fun r u t H1 locs1 ht hvm hw hB hz hk hS1 => ?_)
  obtain ⟨rfl, hp⟩ := hw
  obtain ⟨hP1, hK1, hD1⟩ := hB
  rw [ht] at hP1
  obtain ⟨hP2, hD2⟩ := va_join hP hD isC isR hC hR hn hdis hk hF hP1 hD1
  exact kk u H1 locs1 hp hP2 hD2 hS1
theorem k_callv {mc ms : Nat} {a : Array Value} {ph : S → Prop} {cs' : S → va_W} (hr : va_Run p l e R s m args below meth c H locs cells slots mc ms (F0 m pc ls st0) rest (va_Qv ph (fun u t => Wd D tc (va_A wc H.size) (cs' u) t) (va_A wc H.size) a) (va_A wc H.size))
    (hP : va_P D classes ws H) (hD : va_D A ws) (hS : va_S A s.heap H locs) (hA : ∀ q : Nat, s.heap.size ≤ q → A q) (isC isR : List Nat) (hC : isC.map (fun i => ws[i]?) = wc.map some) (hR : isR.map (fun i => ws[i]?) = wr.map some) (hn : va_nd isR = true) (hdis : ∀ i ∈ isR, i ∉ isC)
    (kk : ∀ (u : S) (H1 : Heap) (locs1 : List Loc), ph u → va_P D classes (wr ++ cs' u) H1 → va_D A (wr ++ cs' u) → va_S A s.heap H1 locs1 → W p l e R s m args below meth c H1 locs1 (cells + mc) (slots + ms) Q (F0 m (pc + 3) ls rest)) :
    W p l e R s m args below meth c H locs cells slots Q (F0 m pc ls st0) := by
  have hF := va_free hD hS hA isC hC
  refine va_callv hr hS (fun q _ h => hF q h) hF (fun u t H1 locs1 ht hvm hp hB hz hk hS1 => ?_)
  obtain ⟨hP1, hK1, hD1⟩ := hB
  rw [ht] at hP1
  obtain ⟨hP2, hD2⟩ := va_join hP hD isC isR hC hR hn hdis hk hF hP1 hD1
  exact kk u H1 locs1 hp hP2 hD2 hS1
/-- a static table: its reference, an element -/
theorem k_tab (hx : p.tables.exec = Jvm.exec) (hb : c.code = cc) (hST : ST tb A s s.heap) (hS : va_S A s.heap H locs) (k : Nat) {n own : String} {N index : Nat} {f : Nat → Int32} (hk : tabs[k]? = some (n, N, f)) (hown : s.vm.findClass own = some m.cls) (hlink : (Cond.fieldLink own index "CarrierLink" n "[I").before args s = true) (hdg : decode cc pc = .ok (.getstatic index, 3))
    (kk : W p l e R s m args below meth c H locs cells slots Q (F0 m (pc + 3) ls (.ref (tb k) :: rest))) : W p l e R s m args below meth c H locs cells slots Q (F0 m pc ls rest) :=
  va_gets hx hb (hST k _ hk).1 hS hown hlink (fun _ h => h) hdg kk
theorem k_tabN (hx : p.tables.exec = Jvm.exec) (hb : c.code = cc) (hST : ST tb A s s.heap) (hS : va_S A s.heap H locs) (k : Nat) {n own host : String} {N index : Nat} {f : Nat → Int32} (hk : tabs[k]? = some (n, N, f)) (hown : s.vm.findClass own = some m.cls) (hlink : (Cond.fieldLinkNest own index "CarrierLink" n "[I" host).before args s = true) (hdg : decode cc pc = .ok (.getstatic index, 3))
    (kk : W p l e R s m args below meth c H locs cells slots Q (F0 m (pc + 3) ls (.ref (tb k) :: rest))) : W p l e R s m args below meth c H locs cells slots Q (F0 m pc ls rest) :=
  va_getsN hx hb (hST k _ hk).1 hS hown hlink (fun _ h => h) hdg kk
theorem k_tald (hx : p.tables.exec = Jvm.exec) (hb : c.code = cc) (hST : ST tb A s s.heap) (hS : va_S A s.heap H locs) (k : Nat) {n : String} {N : Nat} {f : Nat → Int32} (hk : tabs[k]? = some (n, N, f)) {i : Nat} (hi : i < N) (hN : N < 2 ^ 31) (hdg : decode cc pc = .ok (.iaload, 1))
    (kk : W p l e R s m args below meth c H locs cells slots Q (F0 m (pc + 1) ls (.int (f i) :: rest))) : W p l e R s m args below meth c H locs cells slots Q (F0 m pc ls (.int (nI i) :: .ref (tb k) :: rest)) :=
  va_ti hx hb (hST k _ hk).2 hS (vp_in_nI hi hN) (by rw [nI_clamp (Nat.lt_trans hi hN)]) hdg kk
end Std
/-- words of a call -/
theorem k_good {a b : Cond} (h : b ∈ lw_g) : GoodIn (a :: lw_g) (b :: lw_g) := fun w hw => by
  have hm : w ∈ lw_g := by
    rcases List.mem_cons.mp hw with rfl | h1
    · exact h
    · exact h1
  exact ⟨List.mem_cons_of_mem _ hm, good_of_word (lw_good w hm)⟩
theorem k_goodV {a : Cond} {own C : String} {idx : Nat} {y : MethodName} {cy : ByteArray} {nY : Nat} {ry : Option FieldType} (h1 : Cond.methodLink own idx y ∈ lw_g) (h2 : Cond.instanceMethod y ∈ lw_g) (h3 : Cond.selects C y y ∈ lw_g) (h4 : Cond.initialized C ∈ lw_g) (h5 : Cond.code y cy nY ry ∈ lw_g) : GoodIn (a :: lw_g) (wsV own idx C y (wS y cy nY ry)) := fun w hw => by
  have hm : w ∈ lw_g := by
    rcases List.mem_append.mp hw with h | h
    · simp only [List.mem_cons, List.not_mem_nil, or_false] at h
      rcases h with rfl | rfl | rfl | rfl <;> assumption
    · rcases List.mem_cons.mp h with rfl | h
      · exact h5
      · exact h
  exact ⟨List.mem_cons_of_mem _ hm, good_of_word (lw_good w hm)⟩
theorem k_goodS {a : Cond} {own : String} {idx : Nat} {y : MethodName} {cy : ByteArray} {nY : Nat} {ry : Option FieldType} (h1 : Cond.methodLink own idx y ∈ lw_g) (h2 : Cond.static y ∈ lw_g) (h4 : Cond.initialized y.cls ∈ lw_g) (h5 : Cond.code y cy nY ry ∈ lw_g) : GoodIn (a :: lw_g) (va_wsS own idx y (wS y cy nY ry)) := fun w hw => by
  have hm : w ∈ lw_g := by
    rcases List.mem_append.mp hw with h | h
    · simp only [List.mem_cons, List.not_mem_nil, or_false] at h
      rcases h with rfl | rfl | rfl <;> assumption
    · rcases List.mem_cons.mp h with rfl | h
      · exact h5
      · exact h
  exact ⟨List.mem_cons_of_mem _ hm, good_of_word (lw_good w hm)⟩
