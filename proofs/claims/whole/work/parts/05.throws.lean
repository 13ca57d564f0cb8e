/-! ===== methods that throw: their contracts, a call that throws, a catch whose class may be unresolved ===== -/
def Ft (s t : State) (L : List Loc) (k n : Nat) : Prop := s.WarmedH t.vm ∧ s.sameButNew ({ t with vm := s.vm } : State) L k n
def TQ (below : List Frame) (Qt : Array Value → State → Addr → State → Prop) (a : Array Value) (s : State) (mc ms : Nat) (free : Addr → Prop) : State → Prop := fun t =>
  ∃ x, t.status = .running ∧ Ended t below (.threw x) ∧ Qt a s x t ∧ ∃ L, Ft s t L mc ms ∧ ∀ q ∈ L, free q.base
def MetT (l : Launch) (y : MethodName) (ws : List Cond) (rm : Room) (Pc : Array Value → State → Prop) (Qt : Array Value → State → Addr → State → Prop) (mc ms : Nat) (free : Addr → Prop) : Prop :=
  MetFree l y (headSpec ws rm) Pc (fun _ _ _ _ _ => True) (fun a st o t => ∃ x, o = .threw x ∧ Qt a st x t ∧ ∃ L, Ft st t L mc ms ∧ ∀ q ∈ L, free q.base)
theorem MetT.ofW {l : Launch} {y : MethodName} {ws ws' : List Cond} {rm : Room} {Pc : Array Value → State → Prop} {Qt : Array Value → State → Addr → State → Prop} {mc ms : Nat} {free : Addr → Prop} {cc : ByteArray} {maxL : Nat} {ret : Option FieldType}
    (hy : plainName y.cls = true) (hw : ws = Cond.code y cc maxL ret :: ws')
    (body : ∀ p e s m args below meth c s₁, BodyLoose p l y (headSpec ws rm) cc maxL ret e s m args below meth c s₁ → c.maxLocals = maxL → Pc args s →
      W p l e (headSpec ws rm).room s m args below meth c s.heap [] 0 0 (TQ below Qt args s mc ms free) (entryFrame m args maxL)) : MetT l y ws rm Pc Qt mc ms free := by
  refine MetFree.of_bodyS (code := cc) (maxLocals := maxL) (ret := ret) hy ?_ ?_
  · intro args s m h hn
    obtain ⟨meth, c, h1, h2, h3, h4, h5, h6, -, -⟩ := Cond.code_spec hn (atoms_spec (ws := ws) h _ (by rw [hw]; exact List.mem_cons_self))
    exact ⟨meth, c, h1, h2, h3, h4, h5, h6⟩
  · intro p e s m args below meth c s₁ B hml hP _
    have hh0 : s₁.heap = s.heap := by rw [B.state]; rfl
    obtain ⟨t, a1, x, b1, b2, b3, b4⟩ := body p e s m args below meth c s₁ B hml hP s₁ hh0 (Stand.of_body B)
    exact ⟨t, .threw x, a1, b1, b2, x, rfl, b3, b4⟩
/-- the machine with an exception on its way over the frame g -/
def Wt (p : Program) (l : Launch) (e : Env) (R : Room) (s : State) (m : MethodId) (args : Array Value) (below : List Frame) (meth : Method) (c : Code) (H : Heap) (locs : List Loc) (cells slots : Nat) (Q : State → Prop) (g : JFrame) (x : Addr) : Prop :=
  ∀ T : State, T.heap = H → Stand p l e R s m args below meth c T locs cells slots → ∃ t, Steps p.tables e below ((T.setTop g).pushFrame (.throwing x)) t ∧ Q t
/-- a call that throws -/
def RunT (p : Program) (l : Launch) (e : Env) (R : Room) (s : State) (m : MethodId) (args : Array Value) (below : List Frame) (meth : Method) (c : Code) (H : Heap) (locs : List Loc) (cells slots mc ms : Nat) (g : JFrame) (rest : List Value) (Qa : State → Addr → State → Prop) (free : Addr → Prop) : Prop :=
  ∀ T : State, T.heap = H → Stand p l e R s m args below meth c T locs cells slots → ∃ (x : Addr) (st₀ t T' : State) (L : List Loc), st₀.heap = H ∧ Stand p l e R s m args below meth c T' (locs ++ L) (cells + mc) (slots + ms) ∧ (∀ q ∈ L, free q.base) ∧ T'.heap = t.heap ∧ T'.vm = t.vm ∧ Qa st₀ x t ∧
    ∀ tg, Steps p.tables e below ((T'.setTop { g with stack := rest }).pushFrame (.throwing x)) tg → Steps p.tables e below (T.setTop g) tg
section THR
variable {p : Program} {l : Launch} {e : Env} {R : Room} {s : State} {m : MethodId} {args : Array Value} {below : List Frame} {meth : Method} {c : Code} {H : Heap} {locs : List Loc} {cells slots : Nat} {Q : State → Prop}
theorem Wt.out {Qt : Array Value → State → Addr → State → Prop} {free : Addr → Prop} {g : JFrame} {x : Addr} (hg : g.method = m) (hlk : g.locked = none) (hen : g.entered = []) (hout : ∀ z ∈ c.exceptionTable.toList, covers z g.pc = false) (hlocks : meth.locks = false)
    (hq : ∀ t : State, t.heap = H → s.WarmedH t.vm → Qt args s x t) (hf : ∀ q ∈ locs, free q.base) : Wt p l e R s m args below meth c H locs cells slots (TQ below Qt args s cells slots free) g x := by
  intro T hT X
  obtain ⟨st, hrun, hend, hW, hsame⟩ := X.leaveThrown x hg hlk hen hout hlocks
  exact ⟨_, st, x, hrun, hend, hq _ hT hW, locs, ⟨hW, hsame⟩, hf⟩
theorem callT {mc ms : Nat} {g : JFrame} {rest : List Value} {Qa : State → Addr → State → Prop} {free : Addr → Prop} (hr : RunT p l e R s m args below meth c H locs cells slots mc ms g rest Qa free)
    (kk : ∀ (x : Addr) (st₀ t : State) (H1 : Heap) (L : List Loc), st₀.heap = H → t.heap = H1 → s.WarmedH t.vm → Qa st₀ x t → (∀ q ∈ L, free q.base) → Wt p l e R s m args below meth c H1 (locs ++ L) (cells + mc) (slots + ms) Q { g with stack := rest } x) :
    W p l e R s m args below meth c H locs cells slots Q g := by
  intro T hT X
  obtain ⟨x, st₀, t, T', L, h0, X', hL, e1, e2, hq, st⟩ := hr T hT X
  obtain ⟨t2, a1, b1⟩ := kk x st₀ t t.heap L h0 rfl (by rw [← e2]; exact X'.warmed) hq hL T' e1 X'
  exact ⟨t2, st t2 a1, b1⟩
/-- the callee's throw, seen at the call -/
theorem runT_core {U : State} {y : MethodName} {ws : List Cond} {rm : Room} {Pc : Array Value → State → Prop} {Qt : Array Value → State → Addr → State → Prop} {mc ms : Nat} {free : Addr → Prop} {bytes : ByteArray} {maxL : Nat} {ret : Option FieldType}
    (X : Stand p l e R s m args below meth c U locs cells slots) (hM : MetT l y ws rm Pc Qt mc ms free) {g : JFrame} (hg : g.method = m) (hsize : g.locals.size = c.maxLocals) {ig : Instr} {len : Nat} (hdg : decode c.code g.pc = .ok (ig, len))
    (hW : 2 * g.monitorRoom + (g.stack.map fun v => v.category).sum ≤ 8) {mk : MethodId} (hn : U.methodNamed? y = some mk) {a : Array Value} (h1 : (allAtoms ws).before a U = true) (h2 : (Cond.code y bytes maxL ret).before a U = true) (h3 : (Cond.initialized y.cls).before a U = true)
    (h4 : cells + rm.cells ≤ R.cells) (h5 : slots + rm.slots ≤ R.slots) (hfr : rm.frames + 1 ≤ R.frames) (hlo : 8 + (maxL + 11) + rm.locals ≤ R.locals) (hP : Pc a (U.calling g mk a)) :
    ∃ (x : Addr) (t T' : State) (L : List Loc), Stand p l e R s m args below meth c T' (locs ++ L) (cells + mc) (slots + ms) ∧ (∀ q ∈ L, free q.base) ∧ T'.heap = t.heap ∧ T'.vm = t.vm ∧ Qt a (U.calling g mk a) x t ∧
      Steps p.tables e below (doInvoke e (U.setTop g) [] mk a).1 ((T'.setTop g).pushFrame (.throwing x)) := by
  obtain ⟨methY, cY, hmY, hcY, -, hlY, -, -, -, -⟩ := Cond.code_spec hn h2
  obtain ⟨kY, hkY, -⟩ := className_of_methodNamed hn
  have hinitY : kY.init = .initialized := Cond.initialized_spec (findClass_of_methodNamed hn) hkY h3
  have h : At U g.method c below := by rw [hg]; exact X.here
  have happ : (headSpec ws rm).appliesLoose y e.platform (U.calling g mk a) = true :=
    Spec.appliesLoose_calling (S := headSpec ws rm) (g := g) h hdg hn hkY hinitY (X.room_calling (g := g) (R' := rm) hsize hmY hcY hfr (by rw [hlY]; omega) h4 h5) h1
  obtain ⟨mid, hmid⟩ := h.above
  have hfr' : (U.setTop g).frames = (.java g :: mid) ++ below := by rw [State.frames_setTop' g h.top, hmid]; rfl
  obtain ⟨o, s₂, hsteps, -, hend, hq⟩ := Steps.callFree hM p X.admits X.cas X.clock (acts := []) hfr' happ hP trivial
  obtain ⟨x, rfl, hQ, L, hF, hL⟩ := hq
  rw [State.frames_setTop' g h.top, X.tail] at hend
  obtain ⟨T', X', -, -, ht⟩ := X.outOfThrown hg hend hF.1 hF.2
  refine ⟨x, s₂, T', L, X', hL, ?_, ?_, hQ, ?_⟩
  · rw [ht, Stand.throwing_heap]
  · rw [ht, Stand.throwing_vm]
  · rw [← ht]; exact hsteps
variable {y : MethodName} {bytes cc : ByteArray} {maxL nL mc ms n index : Nat} {ret : Option FieldType} {ws : List Cond} {rm : Room} {Pc : Array Value → State → Prop} {Qt : Array Value → State → Addr → State → Prop} {free : Addr → Prop} {Ts : List Cond} {own C : String} {b : Addr} {As rest : List Value} {g : JFrame}
theorem initd {a' : Array Value} {U : State} {C : String} (hini : (Cond.initialized C).before args s = true) (hW : s.WarmedH U.vm) : (Cond.initialized C).before a' U = true := word_at hW (Or.inl (by first | rfl | simp [Cond.onTables, Cond.keeps, Cond.steady])) hini
theorem runTS (S : CallFix p m c cc nL s args Ts own) (hM : MetT l y ws rm Pc Qt mc ms free) (cw : CallB R s args own index y bytes maxL ret ws rm mc ms n ∧ (Cond.static y).before args s = true) (hp : PreS s H Pc As)
    (hg : g.method = m) (hn : As.length = n) (hsize : g.locals.size = nL) (hstack : g.stack = As.reverse ++ rest) (hW : 2 * g.monitorRoom + (rest.map fun v => v.category).sum ≤ 8) (hdg : decode cc g.pc = .ok (.invokestatic index, 3)) (hf : cells + mc ≤ R.cells ∧ slots + ms ≤ R.slots) :
    RunT p l e R s m args below meth c H locs cells slots mc ms g rest (Qt As.toArray) free := by
  obtain ⟨⟨hrc, hrs, hfr, hlo, hws, hcw, hcode, hini, hy, hlen, hl⟩, hstt⟩ := cw
  obtain ⟨hx, hb, hml, ho, -⟩ := S
  intro T hT X
  obtain ⟨mk, hnamed⟩ := Cond.code_named hcode
  obtain ⟨methM, cM, hmethM, -, -, -, -, -, -, hsigM⟩ := Cond.code_spec hnamed hcode
  have hstatic : methM.isStatic = true := Cond.static_spec hnamed hmethM hstt
  obtain ⟨kP, hkP, -⟩ := className_of_methodNamed hnamed
  have hinitP : kP.init = .initialized := Cond.initialized_spec (findClass_of_methodNamed hnamed) hkP hini
  obtain ⟨vm₁, X₁, hstep₁⟩ := X.invokestatic hx ho hl hnamed hmethM hstatic hkP hinitP hy (g := g) hg (argsL := As) (rest := rest) (hn.trans (hlen _ hsigM)) hstack (by rw [hb]; exact hdg)
  obtain ⟨x, t, T', L, X', hL, e1, e2, hQ, st⟩ := runT_core (bytes := bytes) (maxL := maxL) (ret := ret) X₁ hM (g := { g with stack := rest }) hg (hsize.trans hml.symm) (ig := .invokestatic index) (len := 3) (by rw [hb]; exact hdg) hW (X₁.named hnamed) (a := As.toArray)
    (atoms_intro fun w hw => hws w hw _ _ X₁.warmed) (hws _ hcw _ _ X₁.warmed) (initd hini X₁.warmed) (by rw [hrc]; exact hf.1) (by rw [hrs]; exact hf.2) hfr hlo (hp.1 _ _ _ _ (hp.2 (T.setVm vm₁) hT X₁.warmed))
  exact ⟨x, (T.setVm vm₁).calling { g with stack := rest } mk As.toArray, t, T', L, hT, X', hL, e1, e2, hQ, fun tg h => hstep₁ _ fun acts => by rw [doInvoke_state]; exact st.trans h⟩
theorem runTV (S : CallFix p m c cc nL s args Ts own) (hM : MetT l y ws rm Pc Qt mc ms free) (cw : CallW R s args own C index y bytes maxL ret ws rm mc ms n) (hp : PreV s H C b Pc As)
    (hg : g.method = m) (hn : As.length = n) (hsize : g.locals.size = nL) (hstack : g.stack = As.reverse ++ .ref b :: rest) (hW : 2 * g.monitorRoom + (rest.map fun v => v.category).sum ≤ 8) (hdg : decode cc g.pc = .ok (.invokevirtual index, 3)) (hf : cells + mc ≤ R.cells ∧ slots + ms ≤ R.slots) :
    RunT p l e R s m args below meth c H locs cells slots mc ms g rest (Qt (Value.ref b :: As).toArray) free := by
  obtain ⟨⟨hrc, hrs, hfr, hlo, hws, hcw, hcode, hini, hy, hlen, hl⟩, hin, hse⟩ := cw
  obtain ⟨hx, hb, hml, ho, -⟩ := S
  obtain ⟨hbl, ⟨cellB, hcB, hoB, hclB⟩, hPc⟩ := hp
  intro T hT X
  obtain ⟨mk, methM, hnamed, hmethM, hstM, habM⟩ := Cond.instanceMethod_spec hin
  obtain ⟨methM', cM, hmethM', -, -, -, -, -, -, hsigM⟩ := Cond.code_spec hnamed hcode
  cases hmethM.symm.trans hmethM'
  obtain ⟨c2, r2, m2, q1, q2, q3, q4, kP, hkP, hkPi⟩ := Cond.selects_spec hse
  cases hclB.symm.trans q1
  cases (State.methodFound?_of_named hnamed hy).symm.trans q2
  cases hnamed.symm.trans q3
  have hselP : selectMethod e.platform s.vm cellB.cls mk = .method mk := by rw [Launch.admits_selectMethod X.admits]; exact q4
  obtain ⟨vm₁, X₁, hstep₁⟩ := X.invokevirtual hx ho hl hnamed hmethM hstM hkP hkPi hy (a := b) (cell := cellB) (by rw [hT]; exact hcB)
    (fun z h => by rw [h] at hoB; cases hoB) hselP hmethM habM hkP hkPi (g := g) hg (argsL := As) (rest := rest) (hn.trans (hlen _ hsigM)) hstack (by rw [hb]; exact hdg)
  obtain ⟨x, t, T', L, X', hL, e1, e2, hQ, st⟩ := runT_core (bytes := bytes) (maxL := maxL) (ret := ret) X₁ hM (g := { g with stack := rest }) hg (hsize.trans hml.symm) (ig := .invokevirtual index) (len := 3) (by rw [hb]; exact hdg) hW (X₁.named hnamed) (a := (Value.ref b :: As).toArray)
    (atoms_intro fun w hw => hws w hw _ _ X₁.warmed) (hws _ hcw _ _ X₁.warmed) (initd hini X₁.warmed) (by rw [hrc]; exact hf.1) (by rw [hrs]; exact hf.2) hfr hlo (hbl _ _ _ _ (hPc (T.setVm vm₁) hT X₁.warmed))
  exact ⟨x, (T.setVm vm₁).calling { g with stack := rest } mk (Value.ref b :: As).toArray, t, T', L, hT, X', hL, e1, e2, hQ, fun tg h => hstep₁ _ fun acts => by rw [doInvoke_state]; exact st.trans h⟩
/-! a catch: the search in a table of one row, its class linked or not yet -/
theorem finds1 {u : State} {f : JFrame} {a : Addr} {mt : Method} {cd : Code} (hm : u.vm.method? f.method = some mt) (hc : mt.code = some cd) {z : ExceptionTableEntry} (hz : cd.exceptionTable.toList = [z]) (hx : covers z f.pc = true) (h0 : z.catchType ≠ 0)
    {k : ClassId} {cell : Cell} (hl : u.vm.ClassLinks e.platform f.method.cls z.catchType k) (hcell : u.heap[a]? = some cell) (hobj : cell.vm.isStatics = false) (hk : ∃ q, u.vm.classes[k]? = some q) (hfit : u.vm.assignable cell.cls k = true)
    (P : Handler → Pre) (E : CtlPost) (d : Bool) (acts : List Action) : wp (findHandler f a) P E e d acts u ↔ P (.found z.handlerPc) d acts (u.setVm (u.vm.noted f.method.cls z.catchType (.cls k))) := by
  obtain ⟨g1, g2⟩ := (resolveClass_links e.toSetting hl).op (op := VmOp.resolveClass f.method.cls z.catchType) rfl
  have al1 : u.vm.Alike (u.vm.noted f.method.cls z.catchType (.cls k)) := (Vm.Alike.refl u.vm).noted _ _ _
  obtain ⟨q1, hq1⟩ := Vm.classAt_of_assignable hfit hk
  obtain ⟨q2, hq2⟩ := hk
  obtain ⟨r1, hr1, -⟩ := al1.2.2 _ _ hq1
  obtain ⟨r2, hr2, -⟩ := al1.2.2 _ _ hq2
  have fit1 : (u.vm.noted f.method.cls z.catchType (.cls k)).assignable cell.cls k = true := by rw [al1.assignable]; exact hfit
  have ns : ∀ j, cell.vm ≠ .statics j := VmData.ne_statics_of hobj
  simp only [covers] at hx
  rw [W.findHandler_eq hm hc, hz]
  simp [findHandler.go, hx, h0, g1, g2, hcell, ns, hr1, hr2, fit1, VmOp.dirties, VmOp.acts]
theorem caught1 {tb : Tables} {u tg : State} {f : JFrame} {cd : Code} {a : Addr} (h : At u f.method cd below) {j : Nat} {vm' : Vm}
    (hfind : ∀ (P : Handler → Pre) (E : CtlPost) (d : Bool) (acts : List Action), wp (findHandler f a) P E e d acts ((u.setTop f).pushFrame (.throwing a)) ↔ P (.found j) d acts (((u.setTop f).pushFrame (.throwing a)).setVm vm'))
    (hrest : Steps tb e below ((u.setVm vm').setTop { f with pc := j, stack := [.ref a] }) tg) : Steps tb e below ((u.setTop f).pushFrame (.throwing a)) tg := by
  obtain ⟨hgo, hw⟩ := h.throwing a
  have one : ∀ r, (stepThrowing e ((u.setTop f).pushFrame (.throwing a)) a (.java f :: r)).Is ((((u.setTop f).pushFrame (.throwing a)).setVm vm').setFrames (.java { f with pc := j, stack := [.ref a] } :: r)) [] := by
    intro r
    simp only [stepThrowing, searchFrame, vmDo]
    generalize hr : Sem.go _ e false [] ((u.setTop f).pushFrame (.throwing a)) = res
    obtain ⟨as, rfl, ha⟩ := Sem.eq_ok_of hr (a := Handler.found j) (s' := ((u.setTop f).pushFrame (.throwing a)).setVm vm') (acts' := []) (by simp [hfind _ _ _ _])
    exact ⟨rfl, ha⟩
  refine Steps.head hgo hw ?_
  rw [stepThread_throwing (frames_entered h.top _), (one _).1]
  obtain ⟨g₀, hg⟩ := Option.isSome_iff_exists.mp h.top
  obtain ⟨r, hr⟩ := State.topJava?_eq_some.mp hg
  have hr' : (u.setVm vm').frames = .java g₀ :: r := hr
  rw [State.setTop_of_frames _ hr'] at hrest
  have e1 : ∀ (v : State) (F G : List Frame), ((v.setFrames F).setVm vm').setFrames G = (v.setVm vm').setFrames G := fun v F G => by
    have h1 : (v.setFrames F).setVm vm' = (v.setVm vm').setFrames F := rfl
    rw [h1, State.setFrames_setFrames]
  rw [hr, List.tail_cons, State.pushFrame, e1, State.setTop_of_frames _ hr, e1]
  exact hrest
theorem Wt.caught {g : JFrame} {a : Addr} (hown : s.vm.findClass own = some m.cls) (hg : g.method = m) {z : ExceptionTableEntry} (hz : c.exceptionTable.toList = [z]) (hx : covers z g.pc = true) (h0 : z.catchType ≠ 0) {name : String} (hlink : (Cond.classLink own z.catchType name).before args s = true)
    {k : ClassId} {cell : Cell} (hk : s.vm.findClass name = some k) (hcell : H[a]? = some cell) (hobj : cell.vm.isStatics = false) (hfit : s.vm.assignable cell.cls k = true)
    (kk : W p l e R s m args below meth c H locs cells slots Q { g with pc := z.handlerPc, stack := [.ref a] }) : Wt p l e R s m args below meth c H locs cells slots Q g a := by
  intro T hT X
  have hpl : e.platform.magicAccessors = ({} : Platform).magicAccessors := by rw [X.admits.platform]
  obtain ⟨k', hk', hcl⟩ := Cond.classLink_spec hown hlink e.platform hpl
  cases hk.symm.trans hk'
  obtain ⟨dk, _, _, kt, hd, _, _, _, _, hkt, _, hopen⟩ := hcl.here
  have hcl₀ := X.warmed.classLinks hcl
  have hW' : s.WarmedH (T.vm.noted m.cls z.catchType (.cls k)) := X.warmed.noted hd hopen (State.rightAt_cls hcl)
  have hal := X.warmed.alike
  obtain ⟨kt', hkt', -⟩ := hal.2.2 _ _ hkt
  have hfit' : T.vm.assignable cell.cls k = true := by rw [hal.assignable]; exact hfit
  obtain ⟨t, st, hQ⟩ := kk (T.setVm (T.vm.noted m.cls z.catchType (.cls k))) hT (X.noted hW')
  subst hg
  refine ⟨t, caught1 X.here (finds1 (u := (T.setTop g).pushFrame (.throwing a)) (mt := meth) (cd := c) X.method' X.code hz hx h0 (k := k) (cell := cell) hcl₀ (by rw [Stand.throwing_heap, hT]; exact hcell) hobj ⟨kt', hkt'⟩ hfit') st, hQ⟩
end THR
/-! ===== a new exception is thrown, and nobody in the method catches it ===== -/
def Gr (H H1 : Heap) : Prop := H.size ≤ H1.size ∧ ∀ q : Nat, q < H.size → H1[q]? = H[q]?
theorem Gr.P {D : va_G} {cl : List vw_C} {ws : va_W} {H H1 : Heap} (g : Gr H H1) (hP : va_P D cl ws H) : va_P D cl ws H1 := fun k q hq => (hP k q hq).kept (g.2 q.1 (hP k q hq).lt)
theorem Gr.of {s U : State} {k n : Nat} (h : s.sameButNew ({ U with vm := s.vm } : State) [] k n) : Gr s.heap U.heap := by
  refine ⟨h.2.1, fun q hq => ?_⟩
  obtain ⟨c', h1, h2, h3, h4⟩ := h.2.2.2.2.2 q s.heap[q] (Array.getElem?_eq_getElem hq)
  have h1 : U.heap[q]? = some c' := h1
  have hs : c'.slots = (s.heap[q]).slots := Array.ext_getElem? (fun i => h4 i (by simp))
  rw [h1, Array.getElem?_eq_getElem hq, h2, hs]
/-- a static of references that is only carried: where it lies, outside A -/
def ZS (C n d : String) (A : Nat → Prop) (U : State) (H : Heap) : Prop := ∃ (c : ClassId) (k : Class) (i : Nat) (f : Field) (a : Nat) (cell : Cell), U.vm.findClass C = some c ∧ U.fieldFound? C n d = some (c, k, i, f) ∧ f.isStatic = true ∧ k.statics = some a ∧ H[a]? = some cell ∧ cell.vm.isStatics = true ∧ cell.cls = c ∧ f.slot < cell.slots.size ∧ k.staticTypes[f.slot]? = some f.type ∧ (cell.slots[f.slot]? = some .null ∨ ∃ t, cell.slots[f.slot]? = some (.ref t)) ∧ ¬ A a
theorem ZS.moved {C n d : String} {A : Nat → Prop} {u U : State} {H : Heap} (hvm : u.vm.Alike U.vm) (h : ZS C n d A u H) : ZS C n d A U H := by
  obtain ⟨c, k, i, f, a, cell, h0, h1, h2, h3, h4, h5, h6, h7, h8, h9⟩ := h
  obtain ⟨k', hi', he⟩ := State.fieldFound?_setVm hvm h1
  exact ⟨c, k', i, f, a, cell, by rw [hvm.findClass]; exact h0, hi', h2, by rw [he]; exact h3, h4, h5, h6, h7, by rw [he]; exact h8, h9⟩
theorem ZS.kept {C n d : String} {A : Nat → Prop} {U : State} {H H1 : Heap} (h : ZS C n d A U H) (hq : ∀ a : Nat, a < H.size → ¬ A a → H1[a]? = H[a]?) : ZS C n d A U H1 := by
  obtain ⟨c, k, i, f, a, cell, h0, h1, h2, h3, h4, h5, h6, h7, h8, h9, h10⟩ := h
  exact ⟨c, k, i, f, a, cell, h0, h1, h2, h3, by rw [hq a (Array.getElem?_eq_some_iff.mp h4).1 h10]; exact h4, h5, h6, h7, h8, h9, h10⟩
theorem ZS.of {args : Array Value} {s : State} {C n d : String} {A : Nat → Prop} (hl : (Cond.laysStatic C n d).before args s = true) (h : (Cond.isRef (.static C n d)).before args s = true) (hA : ∀ a : Nat, a < s.heap.size → ¬ A a) : ZS C n d A s s.heap := by
  obtain ⟨c, k, i, f, a, cell, hc, hi, hst, ha, hcell, hs, hcls, hlt, hty⟩ := Cond.laysStatic_spec hl
  refine ⟨c, k, i, f, a, cell, hc, hi, hst, ha, hcell, hs, hcls, hlt, hty, ?_, hA a (Array.getElem?_eq_some_iff.mp hcell).1⟩
  have he : (Term.static C n d).eval args s none [] s = cell.slots[f.slot]? := by simp [Term.eval, State.fieldNamed?, hi, hst, ha, hcell, hs]
  simp only [Cond.before, Cond.holds, Cond.value, he] at h
  cases hv : cell.slots[f.slot]? with
  | none => simp [hv] at h
  | some v => cases v <;> simp_all
theorem ZS.ref {C n d : String} {A : Nat → Prop} {U : State} (h : ZS C n d A U U.heap) (args : Array Value) : (Cond.isRef (.static C n d)).before args U = true := by
  obtain ⟨c, k, i, f, a, cell, h0, h1, h2, h3, h4, h5, h6, h7, h8, h9, h10⟩ := h
  rcases h9 with h9 | ⟨t, h9⟩
  · simp [Cond.before, Cond.holds, Cond.value, Term.eval, State.fieldNamed?, h1, h2, h3, h4, h5, h9]
  · simp [Cond.before, Cond.holds, Cond.value, Term.eval, State.fieldNamed?, h1, h2, h3, h4, h5, h9]
theorem ZS.lay {C n d : String} {A : Nat → Prop} {U : State} (h : ZS C n d A U U.heap) (args : Array Value) : (Cond.laysStatic C n d).before args U = true := by
  obtain ⟨c, k, i, f, a, cell, h0, h1, h2, h3, h4, h5, h6, h7, h8, h9, h10⟩ := h
  simp [Cond.before, Cond.holds, Cond.value, h0, h1, h2, h3, h4, h5, h6, h7, h8]
def ZT (A : Nat → Prop) (U : State) : Prop := ZS Bundle.tN "UNASSIGNED_STACK" Bundle.steD A U U.heap ∧ ZS Bundle.tN "SUPPRESSED_SENTINEL" Bundle.listD A U U.heap
theorem ZT.at {A : Nat → Prop} {s U : State} (h : ZT A s) (hW : s.vm.Alike U.vm) (hq : ∀ a : Nat, a < s.heap.size → ¬ A a → U.heap[a]? = s.heap[a]?) : ZT A U := ⟨(h.1.kept hq).moved hW, (h.2.kept hq).moved hW⟩
def upN : List String := ["java/lang/RuntimeException", "java/lang/Exception"]
/-- an exception cell -/
def ExC (X : String) (x : Addr) (t : State) : Prop := ∃ cell, t.heap[x]? = some cell ∧ cell.vm.isStatics = false ∧ t.vm.findClass X = some cell.cls
section THN
variable {p : Program} {l : Launch} {e : Env} {R : Room} {s : State} {m : MethodId} {args : Array Value} {below : List Frame} {meth : Method} {c : Code} {H : Heap} {locs : List Loc} {cells slots : Nat}
theorem thrNew {cc : ByteArray} {nL pc ix ic : Nat} {own X : String} {ls : Array Slot} {Qt : Array Value → State → Addr → State → Prop} (F : CallFix p m c cc nL s args al own) (htr : l.stackTraces = false) (hX : Bundle.fit X = true) (hw : ∀ a ∈ Bundle.ownAtoms0 own ic X upN, a.before args s = true)
    (hcl : (Cond.classLink own ix X).before args s = true) (hini : (Cond.initialized X).before args s = true) (w : H = s.heap ∧ locs = []) (hsz : ls.size = nL) (hno : c.exceptionTable.toList = [])
    (d0 : decode cc pc = .ok (.new ix, 3)) (d1 : decode cc (pc + 3) = .ok (.dup, 1)) (d2 : decode cc (pc + 4) = .ok (.invokespecial ic, 3)) (d3 : decode cc (pc + 7) = .ok (.athrow, 1)) (hR : 5 < R.frames) (hRl : 100 ≤ R.locals) (hRc : cells + 1 ≤ R.cells) (hRs : slots + 6 ≤ R.slots) (hlk : meth.locks = false)
    (hq : ∀ (x : Addr) (t : State), s.heap.size ≤ x → ExC X x t → Gr s.heap t.heap → s.WarmedH t.vm → Qt args s x t) :
    W p l e R s m args below meth c H locs cells slots (TQ below Qt args s (cells + 1) (slots + 6) (fun _ => False)) (F0 m pc ls []) := by
  intro T hT X0
  obtain ⟨w1, w2⟩ := w
  subst w2
  have htr' : e.platform.stackTraces = false := by rw [X0.admits.platform]; exact htr
  obtain ⟨vm₁, cX, kX, hfX, hkX, -, -, X₁, st1⟩ := X0.newCold F.1 (own := own) (C := X) (index := ix) (n := 6) F.2.2.2.1 hcl (hw (.instantiable X 6) (by simp [Bundle.ownAtoms0])) hini (g := F0 m pc ls []) rfl (by rw [F.2.1]; exact d0) hRc hRs
  generalize hT2 : (T.setVm vm₁).pushCell { cls := cX, slots := kX.instanceTypes.map defaultValue, vm := .none } = T2 at X₁ st1
  have hcellA : T2.heap[T.heap.size]? = some (freshCell cX kX) := by rw [← hT2]; exact State.heap_pushCell_size _ _
  obtain ⟨U, hsteps, hrun, hend, hW, hsame, ce, hce, K⟩ := X₁.ctorThrow0 F.1 htr' (own := own) (cls := X) (names := upN) (ic := ic) F.2.2.2.1 hX (by decide +kernel) hw (fun y hy => by cases hy) hfX hkX hcellA (by rw [hT, w1]; exact Nat.le_refl _)
    (g := F0 m (pc + 4) ls [.ref T.heap.size, .ref T.heap.size]) rfl (by rw [F.2.2.1]; exact hsz) rfl rfl (rest := []) rfl (by rw [F.2.1]; exact d2) (by rw [F.2.1]; exact d3) (by rw [hno]; intro x hx; cases hx) (by simp only [upN, List.length_cons, List.length_nil]; omega) (by
      have h0 : 2 * (F0 m (pc + 4) ls [.ref T.heap.size, .ref T.heap.size]).monitorRoom = 0 := rfl
      simp only [h0, upN, List.length_cons, List.length_nil, List.map, Value.category, List.sum_cons, List.sum_nil]; omega) hlk
  refine ⟨U, ?_, T.heap.size, hrun, hend, hq _ _ (by rw [hT, w1]; exact Nat.le_refl _) ⟨ce, hce, by rw [K.vm]; rfl, by rw [hW.alike.findClass]; exact K.cls⟩ (Gr.of hsame) hW, [], ⟨hW, hsame⟩, by simp⟩
  refine st1 _ ?_
  show Steps p.tables e below (T2.setTop (F0 m (pc + 3) ls [.ref T.heap.size])) _
  jvm_step X₁.here [X₁.here.top, F.1, F.2.1, d1, Value.category]
  exact hsteps
end THN
/-! ===== need, and the methods that throw by it: the heap but grows ===== -/
def PZ (A : Nat → Prop) (as : List Value) : Array Value → State → Prop := va_Pc as (fun U => ZT A U)
def QX (X : String) : Array Value → State → Addr → State → Prop := fun _ st x t => st.heap.size ≤ x ∧ ExC X x t ∧ Gr st.heap t.heap
def QV : Array Value → State → Outcome → State → Prop := fun _ st o t => o = .returned none ∧ t.heap = st.heap
theorem PZ_blind {A : Nat → Prop} {as : List Value} : FrameBlind (PZ A as) := fun _ U _ _ q => ⟨q.1, ZT.at (U := U.calling _ _ _) q.2 (Vm.Alike.refl U.vm) (fun _ _ _ => rfl)⟩
theorem MuT (l : Launch) {y : MethodName} {b : ByteArray} {mL : Nat} {ret : Option FieldType} {rm : Room} {A : Nat → Prop} {as : List Value} {Qt : Array Value → State → Addr → State → Prop} {mc ms : Nat} (hy : plainName y.cls = true) (hent : (lg_sl as).length ≤ mL)
    (body : ∀ (p : Program) (e : Env) (s : State) (m : MethodId) (below : List Frame) (meth : Method) (c : Code) (ls : Array Slot), CallFix p m c b mL s as.toArray al y.cls → c.exceptionTable.toList = [] → meth.locks = false → lv_has ls mL (lv_args 0 as) → ZT A s →
      W p l e rm s m as.toArray below meth c s.heap [] 0 0 (TQ below Qt as.toArray s mc ms (fun _ => False)) (F0 m 0 ls [])) : MetT l y (Cond.code y b mL ret :: al) rm (PZ A as) Qt mc ms (fun _ => False) := by
  refine MetT.ofW (cc := b) (maxL := mL) (ret := ret) hy rfl ?_
  intro p e s m args below meth c s₁ B hml hv
  obtain ⟨rfl, hZ⟩ := hv
  have hl := lv_entry as (n := mL) hent
  rw [lg_entry_eq]
  generalize (lg_sl as ++ List.replicate (mL - (lg_sl as).length) Slot.unset).toArray = ls at hl ⊢
  obtain ⟨mt, cd, h1, h2, -, -, -, -, he, -⟩ := Cond.code_spec B.named (atoms_spec (ws := Cond.code y b mL ret :: al) B.pre _ List.mem_cons_self)
  have hcd : cd = c := by
    have X := Stand.of_body B
    have h3 : mt = meth := Option.some.inj (h1.symm.trans X.method)
    subst h3
    exact Option.some.inj (h2.symm.trans X.code)
  subst hcd
  have h0 : cd.exceptionTable.toList = [] := by
    have h0 : cd.exceptionTable.size = 0 := by simpa [Array.isEmpty] using he
    exact List.eq_nil_of_length_eq_zero (by simpa using h0)
  exact body p e s m below meth cd ls ⟨B.exec, B.bytes, hml, findClass_of_methodNamed B.named, fun w h => atoms_spec (ws := Cond.code y b mL ret :: al) B.pre w (List.mem_cons_of_mem _ h)⟩ h0 B.notSynchronized hl hZ
theorem MuV (l : Launch) {y : MethodName} {b : ByteArray} {mL : Nat} {ret : Option FieldType} {rm : Room} {as : List Value} (hy : plainName y.cls = true) (hent : (lg_sl as).length ≤ mL)
    (body : ∀ (p : Program) (e : Env) (s : State) (m : MethodId) (below : List Frame) (meth : Method) (c : Code) (ls : Array Slot), CallFix p m c b mL s as.toArray al y.cls → meth.sig.returnType = ret → meth.locks = false → lv_has ls mL (lv_args 0 as) →
      W p l e rm s m as.toArray below meth c s.heap [] 0 0 (MQ below QV as.toArray s 0 0 (fun _ => False)) (F0 m 0 ls [])) : Met l y (Cond.code y b mL ret :: al) rm (PU as) QV 0 0 (fun _ => False) := by
  refine Met.ofW (cc := b) (maxL := mL) (ret := ret) hy rfl ?_
  intro p e s m args below meth c s₁ B hml hv
  obtain ⟨rfl, -⟩ := hv
  have hl := lv_entry as (n := mL) hent
  rw [lg_entry_eq]
  generalize (lg_sl as ++ List.replicate (mL - (lg_sl as).length) Slot.unset).toArray = ls at hl ⊢
  exact body p e s m below meth c ls ⟨B.exec, B.bytes, hml, findClass_of_methodNamed B.named, fun w h => atoms_spec (ws := Cond.code y b mL ret :: al) B.pre w (List.mem_cons_of_mem _ h)⟩ B.returns B.notSynchronized hl
section NX
variable {p : Program} {l : Launch} {e : Env} {R : Room} {s : State} {m : MethodId} {args : Array Value} {below : List Frame} {meth : Method} {c : Code} {H : Heap} {locs : List Loc} {cells slots : Nat} {Q : State → Prop} {cc : ByteArray} {pc nL : Nat} {ls : Array Slot} {rest st0 : List Value} {own : String}
variable {y : MethodName} {b : ByteArray} {mL n ix : Nat} {ret : Option FieldType} {rm : Room} {As : List Value}
theorem Usv (F : CallFix p m c cc nL s args al own) (hM : Met l y (Cond.code y b mL ret :: al) rm (PU As) QV 0 0 (fun _ => False)) (hk : Ks y b mL ret n) (hm : Cond.methodLink own ix y ∈ al) (hR1 : rm.frames + 1 ≤ R.frames) (hR2 : 8 + (mL + 11) + rm.locals ≤ R.locals) (hrc : rm.cells = 0 ∧ rm.slots = 0) (hn : As.length = n) (hsz : ls.size = nL) (hst : st0 = As.reverse ++ rest) (hrm : (rest.map fun v => v.category).sum ≤ 8) (hdg : decode cc pc = .ok (.invokestatic ix, 3)) (hcs : cells ≤ R.cells ∧ slots ≤ R.slots)
    (kk : W p l e R s m args below meth c H locs cells slots Q (F0 m (pc + 3) ls rest)) : W p l e R s m args below meth c H locs cells slots Q (F0 m pc ls st0) := by
  intro T hT X
  obtain ⟨v, st₀, t, T', L, h0, X', hL, e1, e2, ⟨hv, ht⟩, st⟩ := va_runS (As := As) (rest := rest) F hM (csA F hk hm hR1 hR2 hrc.1 hrc.2) ⟨PU_blind, fun U _ _ => ⟨rfl, trivial⟩⟩ (g := F0 m pc ls st0) rfl hn hsz hst (lv_room hrm) hdg hcs T hT X
  cases hv
  have hL0 : L = [] := List.eq_nil_iff_forall_not_mem.mpr (fun q hq => hL q hq)
  subst hL0
  rw [List.append_nil] at X'
  obtain ⟨t2, a1, b1⟩ := kk T' (by rw [e1, ht, h0]) X'
  exact ⟨t2, st t2 a1, b1⟩
/-- the call of need throws, and with it the method -/
theorem needT {A : Nat → Prop} {X : String} (F : CallFix p m c cc nL s args al own) (hM : MetT l y (Cond.code y b mL ret :: al) rm (PZ A As) (QX X) 1 6 (fun _ => False)) (hk : Ks y b mL ret n) (hm : Cond.methodLink own ix y ∈ al) (hR1 : rm.frames + 1 ≤ R.frames) (hR2 : 8 + (mL + 11) + rm.locals ≤ R.locals) (hc : 0 + 1 ≤ R.cells) (hs : 0 + 6 ≤ R.slots) (hrc : rm.cells = 1) (hrs : rm.slots = 6) (hsz : ls.size = nL)
    (hZ : ZT A s) (w : H = s.heap ∧ locs = []) (hno : c.exceptionTable.toList = []) (hlk : meth.locks = false) (hdg : decode cc pc = .ok (.invokestatic ix, 3)) (hn : As.length = n := by rfl) (hst : st0 = As.reverse ++ [] := by rfl) :
    W p l e R s m args below meth c H locs 0 0 (TQ below (QX X) args s 1 6 (fun _ => False)) (F0 m pc ls st0) := by
  obtain ⟨w1, w2⟩ := w
  subst w2
  refine callT (mc := 1) (ms := 6) (rest := []) (runTS (As := As) F hM ⟨⟨hrc, hrs, hR1, hR2, pay_in F.2.2.2.2 (al_code hk.2.2.1), List.mem_cons_self, F.2.2.2.2 _ hk.2.2.1, F.2.2.2.2 _ hk.2.1, hk.2.2.2.1, len_of hk.2.2.2.2, F.2.2.2.2 _ hm⟩, F.2.2.2.2 _ hk.1⟩ ⟨PZ_blind, fun U hU hW => ⟨rfl, hZ.at hW.alike (fun a _ _ => by rw [hU, w1])⟩⟩ (g := F0 m pc ls st0) rfl hn hsz hst (lv_room (st := []) (Nat.zero_le _)) hdg ⟨hc, hs⟩) ?_
  intro x st₀ t H1 L h0 ht hW hq hL
  have hL0 : L = [] := List.eq_nil_iff_forall_not_mem.mpr (fun q hq => hL q hq)
  subst hL0
  refine Wt.out rfl rfl rfl (by rw [hno]; intro z hz; cases hz) hlk (fun t' ht' hW' => ?_) (fun q hq => by cases hq)
  obtain ⟨q1, ⟨cell, q2, q3, q4⟩, q5⟩ := hq
  rw [h0, w1] at q1 q5
  rw [ht] at q2 q5
  exact ⟨q1, ⟨cell, by rw [ht']; exact q2, q3, by rw [hW'.alike.findClass, ← hW.alike.findClass]; exact q4⟩, by rw [ht']; exact q5⟩
end NX
