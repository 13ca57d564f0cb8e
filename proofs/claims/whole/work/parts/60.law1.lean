/-! ===== the law's own methods: a table of one row of handlers; calls of them ===== -/
theorem ZS.narrow {C n d : String} {A B : Nat → Prop} {U : State} {H : Heap} (h : ZS C n d A U H) (hAB : ∀ q, B q → A q) : ZS C n d B U H := by
  obtain ⟨c, k, i, f, a, cell, h0, h1, h2, h3, h4, h5, h6, h7, h8, h9, h10⟩ := h
  exact ⟨c, k, i, f, a, cell, h0, h1, h2, h3, h4, h5, h6, h7, h8, h9, fun z => h10 (hAB a z)⟩
theorem ZT.narrow {A B : Nat → Prop} {U : State} (h : ZT A U) (hAB : ∀ q, B q → A q) : ZT B U := ⟨h.1.narrow hAB, h.2.narrow hAB⟩
theorem ML (l : Launch) {y : MethodName} {b : ByteArray} {mL : Nat} {ret : Option FieldType} {h4 : Nat × Nat × Nat × Nat} {rm : Room} {as : List Value} {B0 : State → Prop} {Qc : Array Value → State → Outcome → State → Prop} {mc ms : Nat} {free : Addr → Prop} (hy : plainName y.cls = true) (hent : (lg_sl as).length ≤ mL)
    (body : ∀ (p : Program) (e : Env) (s : State) (m : MethodId) (below : List Frame) (meth : Method) (c : Code) (ls : Array Slot) (z : ExceptionTableEntry), CallFix p m c b mL s as.toArray al y.cls → B0 s → c.exceptionTable.toList = [z] → (z.startPc, z.endPc, z.handlerPc, z.catchType) = h4 → meth.sig.returnType = ret → meth.locks = false → lv_has ls mL (lv_args 0 as) →
      W p l e rm s m as.toArray below meth c s.heap [] 0 0 (MQ below Qc as.toArray s mc ms free) (F0 m 0 ls [])) : Met l y (Cond.codeWith y b mL ret [h4] :: al) rm (va_Pc as B0) Qc mc ms free := by
  refine va_MetW (cc := b) (maxL := mL) (ret := ret) (hh := [h4]) hy rfl ?_
  intro p e s m args below meth c s₁ B hml hv
  obtain ⟨rfl, hB0⟩ := hv
  have hl := lv_entry as (n := mL) hent
  rw [lg_entry_eq]
  generalize (lg_sl as ++ List.replicate (mL - (lg_sl as).length) Slot.unset).toArray = ls at hl ⊢
  obtain ⟨mk, mt, cd, hn9, h1, h2, -, -, he, -, -, -⟩ := Cond.codeWith_spec (atoms_spec (ws := Cond.codeWith y b mL ret [h4] :: al) B.pre _ List.mem_cons_self)
  cases B.named.symm.trans hn9
  have hcd : cd = c := by
    have X := Stand.of_body B
    have h3 : mt = meth := Option.some.inj (h1.symm.trans X.method)
    subst h3
    exact Option.some.inj (h2.symm.trans X.code)
  subst hcd
  obtain ⟨z, hz, hz2⟩ : ∃ z, cd.exceptionTable.toList = [z] ∧ (z.startPc, z.endPc, z.handlerPc, z.catchType) = h4 := by
    cases ht : cd.exceptionTable.toList with
    | nil => rw [ht] at he; cases he
    | cons z r =>
      rw [ht] at he
      cases r with
      | nil => exact ⟨z, rfl, by simpa using he⟩
      | cons z2 r2 => simp at he
  exact body p e s m below meth cd ls z ⟨B.exec, B.bytes, hml, findClass_of_methodNamed B.named, fun w h => atoms_spec (ws := Cond.codeWith y b mL ret [h4] :: al) B.pre w (List.mem_cons_of_mem _ h)⟩ hB0 hz hz2 B.returns B.notSynchronized hl
section LAW1
variable {p : Program} {l : Launch} {e : Env} {R : Room} {s : State} {m : MethodId} {args : Array Value} {below : List Frame} {meth : Method} {c : Code} {H : Heap} {locs : List Loc} {cells slots : Nat} {Q : State → Prop}
variable {y : MethodName} {bytes cc : ByteArray} {maxL nL mc ms n index : Nat} {ret : Option FieldType} {hh : List (Nat × Nat × Nat × Nat)} {ws : List Cond} {rm : Room} {Pc : Array Value → State → Prop} {Qc : Array Value → State → Outcome → State → Prop} {free : Addr → Prop} {Ts : List Cond} {own : String} {As rest : List Value} {g : JFrame}
theorem runSW (S : CallFix p m c cc nL s args Ts own) (hM : Met l y ws rm Pc Qc mc ms free) (hrc : rm.cells = mc) (hrs : rm.slots = ms) (hfr : rm.frames + 1 ≤ R.frames) (hlo : 8 + (maxL + 11) + rm.locals ≤ R.locals) (hws : ∀ w ∈ ws, ∀ (a' : Array Value) (U : State), s.WarmedH U.vm → w.before a' U = true) (hcw : Cond.codeWith y bytes maxL ret hh ∈ ws)
    (hcode : (Cond.codeWith y bytes maxL ret hh).before args s = true) (hini : (Cond.initialized y.cls).before args s = true) (hy : y.cls ≠ "java/lang/invoke/MethodHandle" ∧ y.cls ≠ "java/lang/invoke/VarHandle") (hlen : ∀ sig, parseMethodDescriptor y.desc = some sig → n = sig.parameters.length) (hl : (Cond.methodLink own index y).before args s = true) (hstt : (Cond.static y).before args s = true) (hp : PreS s H Pc As)
    (hg : g.method = m) (hn : As.length = n) (hsize : g.locals.size = nL) (hstack : g.stack = As.reverse ++ rest) (hW : 2 * g.monitorRoom + (rest.map fun v => v.category).sum ≤ 8) (hdg : decode cc g.pc = .ok (.invokestatic index, 3)) (hf : cells + mc ≤ R.cells ∧ slots + ms ≤ R.slots) :
    va_Run p l e R s m args below meth c H locs cells slots mc ms g rest (Qc As.toArray) free := by
  have hK : Back l R p e below s args y 3 8 (PreOf R mc ms Pc) (PostOf Qc mc ms free) := va_backW (hh := hh) (bytes := bytes) (maxL := maxL) (ret := ret) hM hp.1 hrc hrs hfr hlo hws hcw (fun a' U hW => initd hini hW)
  obtain ⟨hx, hb, hml, ho, -⟩ := S
  intro T hT X
  obtain ⟨mk, methM, cM, hnamed, hmethM, -, -, -, -, -, -, hsigM⟩ := Cond.codeWith_spec hcode
  have hstatic : methM.isStatic = true := Cond.static_spec hnamed hmethM hstt
  obtain ⟨kP, hkP, -⟩ := className_of_methodNamed hnamed
  have hinitP : kP.init = .initialized := Cond.initialized_spec (findClass_of_methodNamed hnamed) hkP hini
  obtain ⟨vm₁, X₁, hstep₁⟩ := X.invokestatic hx ho hl hnamed hmethM hstatic hkP hinitP hy (g := g) hg (argsL := As) (rest := rest) (hn.trans (hlen _ hsigM)) hstack (by rw [hb]; exact hdg)
  obtain ⟨v, ⟨U', l2, c2, s2⟩, X', ⟨g', mk', t, L, e1, e2, hq, h1, hL, h2, h3⟩, hsteps⟩ := hK m meth c ⟨T.setVm vm₁, locs, cells, slots⟩ { g with stack := rest } (.invokestatic index) mk As.toArray X₁ hg (hsize.trans hml.symm) (by rw [hb]; exact hdg) hW (X₁.named hnamed) ⟨hf.1, hf.2, hp.2 (T.setVm vm₁) hT X₁.warmed⟩
  dsimp only [Pt.U, Pt.locs, Pt.cells, Pt.slots] at X' e1 e2 h1 h2 h3 hsteps
  subst h1; subst h2; subst h3
  exact ⟨v, (T.setVm vm₁).calling g' mk' As.toArray, t, U', L, hT, X', hL, e1, e2, hq, fun tg h => hstep₁ _ fun acts => by rw [doInvoke_state]; exact hsteps.trans h⟩
end LAW1
/-- what a wrapper of the law asks: the class's world, and the two statics -/
def BL (D : va_G) (cI : ClassId) (ad : Nat → Nat) (σ : Sg) (U : State) : Prop := Bx D cI (wC cI ad) (AC ad) σ U ∧ ZT (AC ad) U
theorem BL_blind {D : va_G} {cI : ClassId} {ad : Nat → Nat} {σ : Sg} {as : List Value} : FrameBlind (va_Pc as (BL D cI ad σ)) := fun a U g mk q => ⟨q.1, (Px_blind a U g mk ⟨q.1, q.2.1⟩).2, ZT.at (U := U.calling g mk a) q.2.2 (Vm.Alike.refl U.vm) (fun _ _ _ => rfl)⟩
