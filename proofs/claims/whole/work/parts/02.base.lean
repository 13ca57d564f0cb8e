/-! ===== what a state of a system is: numbers by cell and place; the world of its cells ===== -/
abbrev Sg : Type := Nat → Nat → Int32
def st (σ : Sg) (c : Nat) (f : Nat → Int32) : Sg := fun b => cond (Nat.beq b c) f (σ b)
abbrev sf (σ : Sg) (c k : Nat) (v : Int32) : Sg := st σ c (upd (σ c) k v)
def Bx (D : va_G) (cI : ClassId) (wd : Sg → va_W) (A1 : Nat → Prop) (σ : Sg) (U : State) : Prop := va_P D vwCl (wd σ) U.heap ∧ va_K D vwCl [(cI, .int)] U ∧ va_D A1 (wd σ) ∧ NW U
def Wx (D : va_G) (cI : ClassId) (wd : Sg → va_W) (A1 A : Nat → Prop) (s : State) (H0 H : Heap) (locs : List Loc) (σ : Sg) : Prop := va_K D vwCl [(cI, .int)] s ∧ va_P D vwCl (wd σ) H ∧ va_D A1 (wd σ) ∧ va_S A H0 H locs ∧ NW s ∧ ∀ q, A1 q → A q
abbrev Px (D : va_G) (cI : ClassId) (wd : Sg → va_W) (A1 : Nat → Prop) (σ : Sg) (as : List Value) : Array Value → State → Prop := va_Pc as (Bx D cI wd A1 σ)
theorem Px_blind {D : va_G} {cI : ClassId} {wd : Sg → va_W} {A1 : Nat → Prop} {σ : Sg} {as : List Value} : FrameBlind (Px D cI wd A1 σ as) := fun a U g mk q => ⟨q.1, q.2.1, va_K.moved (u := U) (U := U.calling g mk a) (Vm.Alike.refl U.vm) q.2.2.1, q.2.2.2.1, NW.same (s := U) (U := U.calling g mk a) rfl q.2.2.2.2⟩
theorem Wx.bx {D : va_G} {cI : ClassId} {wd : Sg → va_W} {A1 A : Nat → Prop} {s : State} {H0 H : Heap} {locs : List Loc} {σ : Sg} (w : Wx D cI wd A1 A s H0 H locs σ) {U : State} (hU : U.heap = H) (hW : s.WarmedH U.vm) : Bx D cI wd A1 σ U := ⟨by rw [hU]; exact w.2.1, va_K.moved hW.alike w.1, w.2.2.1, NW.warm hW w.2.2.2.2.1⟩
theorem Wx.dA {D : va_G} {cI : ClassId} {wd : Sg → va_W} {A1 A : Nat → Prop} {s : State} {H0 H : Heap} {locs : List Loc} {σ : Sg} (w : Wx D cI wd A1 A s H0 H locs σ) : va_D A (wd σ) := w.2.2.1.weaken (fun _ q _ h => w.2.2.2.2.2 q.1 h)
/-- a contract out of a walk of the body -/
theorem Mx (l : Launch) {y : MethodName} {b : ByteArray} {mL : Nat} {ret : Option FieldType} {rm : Room} {D : va_G} {cI : ClassId} {wd : Sg → va_W} {A1 : Nat → Prop} {σ : Sg} {as : List Value} {Qc : Array Value → State → Outcome → State → Prop} (hy : plainName y.cls = true) (hent : (lg_sl as).length ≤ mL)
    (body : ∀ (p : Program) (e : Env) (s : State) (m : MethodId) (below : List Frame) (meth : Method) (c : Code) (ls : Array Slot), CallFix p m c b mL s as.toArray al y.cls → Wx D cI wd A1 A1 s s.heap s.heap [] σ → meth.sig.returnType = ret → meth.locks = false → lv_has ls mL (lv_args 0 as) →
      W p l e rm s m as.toArray below meth c s.heap [] 0 0 (MQ below Qc as.toArray s 0 0 A1) (F0 m 0 ls [])) : Met l y (Cond.code y b mL ret :: al) rm (Px D cI wd A1 σ as) Qc 0 0 A1 := by
  refine Met.ofW (cc := b) (maxL := mL) (ret := ret) hy rfl ?_
  intro p e s m args below meth c s₁ B hml hv
  obtain ⟨rfl, hP, hK, hD, hN⟩ := hv
  have hl := lv_entry as (n := mL) hent
  rw [lg_entry_eq]
  generalize (lg_sl as ++ List.replicate (mL - (lg_sl as).length) Slot.unset).toArray = ls at hl ⊢
  exact body p e s m below meth c ls ⟨B.exec, B.bytes, hml, findClass_of_methodNamed B.named, fun w h => atoms_spec (ws := Cond.code y b mL ret :: al) B.pre w (List.mem_cons_of_mem _ h)⟩ ⟨hK, hP, hD, va_S.rf, hN, fun _ h => h⟩ B.returns B.notSynchronized hl
section BX
variable {p : Program} {l : Launch} {e : Env} {R : Room} {s : State} {m : MethodId} {args : Array Value} {below : List Frame} {meth : Method} {c : Code} {H H0 : Heap} {locs : List Loc} {cells slots : Nat} {Q : State → Prop} {cc : ByteArray} {pc nL : Nat} {ls : Array Slot} {rest st0 : List Value} {own : String} {D : va_G} {cI : ClassId} {wd : Sg → va_W} {A1 A : Nat → Prop} {σ u : Sg}
/-- a cut: what holds where roads meet -/
theorem cutW {g : JFrame} {α : Type} (S : α → Heap → List Loc → Array Slot → Prop) (G : α → Array Slot → JFrame)
    (k1 : ∀ (x : α) (H1 : Heap) (locs1 : List Loc) (ls1 : Array Slot), S x H1 locs1 ls1 → W p l e R s m args below meth c H1 locs1 cells slots Q (G x ls1))
    (k2 : (∀ (x : α) (H1 : Heap) (locs1 : List Loc) (ls1 : Array Slot), S x H1 locs1 ls1 → W p l e R s m args below meth c H1 locs1 cells slots Q (G x ls1)) → W p l e R s m args below meth c H locs cells slots Q g) : W p l e R s m args below meth c H locs cells slots Q g := k2 k1
/-- ends: void, int, boolean; with a state that may have changed (R), or the same (K) -/
theorem Rv (F : CallFix p m c cc nL s args al own) (hr : meth.sig.returnType = none) (hlk : meth.locks = false) (w : Wx D cI wd A1 A1 s s.heap H locs u) {f : Sg} (hf : u = f) (hdg : decode cc pc = .ok (.return_, 1)) :
    W p l e R s m args below meth c H locs 0 0 (MQ below (va_Qv (fun u => u = f) (Bx D cI wd A1) A1) args s 0 0 A1) (F0 m pc ls []) :=
  W.vret F.1 F.2.1 hr (fun t ht hW => ⟨⟨u, rfl, hf, w.bx ht hW⟩, w.2.2.2.1.F ht⟩) w.2.2.2.1.2.2 hdg hlk
theorem Ri (F : CallFix p m c cc nL s args al own) (hr : meth.sig.returnType = some .int) (hlk : meth.locks = false) (w : Wx D cI wd A1 A1 s s.heap H locs u) {v : Int32} {f : Int32 × Sg} (hf : (v, u) = f) (hdg : decode cc pc = .ok (.ireturn, 1)) :
    W p l e R s m args below meth c H locs 0 0 (MQ below (va_Qi (fun r u => (r, u) = f) (Bx D cI wd A1) A1) args s 0 0 A1) (F0 m pc ls [.int v]) :=
  W.iret F.1 F.2.1 hr (fun t ht hW => ⟨⟨v, u, rfl, hf, w.bx ht hW⟩, w.2.2.2.1.F ht⟩) w.2.2.2.1.2.2 hdg hlk
theorem Ki (F : CallFix p m c cc nL s args al own) (hr : meth.sig.returnType = some .int) (hlk : meth.locks = false) (w : Wx D cI wd A1 A1 s s.heap H locs σ) {v f : Int32} (hf : v = f) (hdg : decode cc pc = .ok (.ireturn, 1)) :
    W p l e R s m args below meth c H locs 0 0 (MQ below (va_Qi (fun r u => r = f ∧ u = σ) (Bx D cI wd A1) A1) args s 0 0 A1) (F0 m pc ls [.int v]) :=
  W.iret F.1 F.2.1 hr (fun t ht hW => ⟨⟨v, σ, rfl, ⟨hf, rfl⟩, w.bx ht hW⟩, w.2.2.2.1.F ht⟩) w.2.2.2.1.2.2 hdg hlk
theorem nz {v : Int32} (h : v = 0 ∨ v = 1) : narrow .boolean (.int v) = .int v := by rcases h with rfl | rfl <;> rfl
theorem fz {v : Int32} (h : v = 0 ∨ v = 1) : fits .boolean (.int v) = true := by rcases h with rfl | rfl <;> rfl
theorem Rz (F : CallFix p m c cc nL s args al own) (hr : meth.sig.returnType = some .boolean) (hlk : meth.locks = false) (w : Wx D cI wd A1 A1 s s.heap H locs u) {v : Int32} (hz : v = 0 ∨ v = 1) {f : Int32 × Sg} (hf : (v, u) = f) (hdg : decode cc pc = .ok (.ireturn, 1)) :
    W p l e R s m args below meth c H locs 0 0 (MQ below (va_Qi (fun r u => (r, u) = f) (Bx D cI wd A1) A1) args s 0 0 A1) (F0 m pc ls [.int v]) :=
  W.zret F.1 F.2.1 hr (nz hz) (fun t ht hW => ⟨⟨v, u, rfl, hf, w.bx ht hW⟩, w.2.2.2.1.F ht⟩) w.2.2.2.1.2.2 hdg hlk
theorem Kz (F : CallFix p m c cc nL s args al own) (hr : meth.sig.returnType = some .boolean) (hlk : meth.locks = false) (w : Wx D cI wd A1 A1 s s.heap H locs σ) {v : Int32} (hz : v = 0 ∨ v = 1) {f : Int32} (hf : v = f) (hdg : decode cc pc = .ok (.ireturn, 1)) :
    W p l e R s m args below meth c H locs 0 0 (MQ below (va_Qi (fun r u => r = f ∧ u = σ) (Bx D cI wd A1) A1) args s 0 0 A1) (F0 m pc ls [.int v]) :=
  W.zret F.1 F.2.1 hr (nz hz) (fun t ht hW => ⟨⟨v, σ, rfl, ⟨hf, rfl⟩, w.bx ht hW⟩, w.2.2.2.1.F ht⟩) w.2.2.2.1.2.2 hdg hlk
/-- what the tables say of a method: an instance method, a static one -/
def Kv (y : MethodName) (C : String) (b : ByteArray) (mL : Nat) (ret : Option FieldType) (n : Nat) : Prop := Cond.instanceMethod y ∈ al ∧ Cond.selects C y y ∈ al ∧ Cond.initialized y.cls ∈ al ∧ Cond.code y b mL ret ∈ al ∧ (y.cls ≠ "java/lang/invoke/MethodHandle" ∧ y.cls ≠ "java/lang/invoke/VarHandle") ∧ (parseMethodDescriptor y.desc).map (fun d => d.parameters.length) = some n
def Ks (y : MethodName) (b : ByteArray) (mL : Nat) (ret : Option FieldType) (n : Nat) : Prop := Cond.static y ∈ al ∧ Cond.initialized y.cls ∈ al ∧ Cond.code y b mL ret ∈ al ∧ (y.cls ≠ "java/lang/invoke/MethodHandle" ∧ y.cls ≠ "java/lang/invoke/VarHandle") ∧ (parseMethodDescriptor y.desc).map (fun d => d.parameters.length) = some n
theorem len_of {y : MethodName} {n : Nat} (h : (parseMethodDescriptor y.desc).map (fun d => d.parameters.length) = some n) : ∀ sig, parseMethodDescriptor y.desc = some sig → n = sig.parameters.length := fun sig hs => by
  rw [hs] at h
  exact (Option.some.inj h).symm
variable {y : MethodName} {b : ByteArray} {mL n ix a : Nat} {ret : Option FieldType} {rm : Room} {As : List Value} {Qc : Array Value → State → Outcome → State → Prop}
theorem cwA {C : String} (F : CallFix p m c cc nL s args al own) (hk : Kv y C b mL ret n) (hm : Cond.methodLink own ix y ∈ al) (hR1 : rm.frames + 1 ≤ R.frames) (hR2 : 8 + (mL + 11) + rm.locals ≤ R.locals) (hrc : rm.cells = 0) (hrs : rm.slots = 0) : CallW R s args own C ix y b mL ret (Cond.code y b mL ret :: al) rm 0 0 n :=
  ⟨⟨hrc, hrs, hR1, hR2, pay_in F.2.2.2.2 (al_code hk.2.2.2.1), List.mem_cons_self, F.2.2.2.2 _ hk.2.2.2.1, F.2.2.2.2 _ hk.2.2.1, hk.2.2.2.2.1, len_of hk.2.2.2.2.2, F.2.2.2.2 _ hm⟩, F.2.2.2.2 _ hk.1, F.2.2.2.2 _ hk.2.1⟩
theorem csA (F : CallFix p m c cc nL s args al own) (hk : Ks y b mL ret n) (hm : Cond.methodLink own ix y ∈ al) (hR1 : rm.frames + 1 ≤ R.frames) (hR2 : 8 + (mL + 11) + rm.locals ≤ R.locals) (hrc : rm.cells = 0) (hrs : rm.slots = 0) : CallB R s args own ix y b mL ret (Cond.code y b mL ret :: al) rm 0 0 n ∧ (Cond.static y).before args s = true :=
  ⟨⟨hrc, hrs, hR1, hR2, pay_in F.2.2.2.2 (al_code hk.2.2.1), List.mem_cons_self, F.2.2.2.2 _ hk.2.2.1, F.2.2.2.2 _ hk.2.1, hk.2.2.2.1, len_of hk.2.2.2.2, F.2.2.2.2 _ hm⟩, F.2.2.2.2 _ hk.1⟩
theorem cnA {host : String} (F : CallFix p m c cc nL s args al own) (hN : NW s) (hk : Ks y b mL ret n) (hm : Cond.methodLinkNest own ix y host ∈ nw) (hR1 : rm.frames + 1 ≤ R.frames) (hR2 : 8 + (mL + 11) + rm.locals ≤ R.locals) (hrc : rm.cells = 0) (hrs : rm.slots = 0) : va_CN R s args own ix y host b mL ret (Cond.code y b mL ret :: al) rm 0 0 n ∧ (Cond.static y).before args s = true ∧ True :=
  ⟨⟨⟨hrc, hrs, hR1, hR2, pay_in F.2.2.2.2 (al_code hk.2.2.1), List.mem_cons_self⟩, F.2.2.2.2 _ hk.2.2.1, F.2.2.2.2 _ hk.2.1, hk.2.2.2.1, len_of hk.2.2.2.2, va_Nw.use rfl (hN _ hm)⟩, F.2.2.2.2 _ hk.1, trivial⟩
theorem preA (w : Wx D cI wd A1 A s H0 H locs σ) (q0 : Nat) {ci : Nat} {fs : List Value} {q : vw_C} (he : (wd σ)[q0]? = some (a, .inr (ci, fs))) (hc : vwCl[ci]? = some q) : PreV s H q.1 a (Px D cI wd A1 σ (.ref a :: As)) As := ⟨Px_blind, va_recv w.1 w.2.1 hc he, fun U hU hW => ⟨rfl, w.bx hU hW⟩⟩
theorem preB (w : Wx D cI wd A1 A s H0 H locs σ) : PreS s H (Px D cI wd A1 σ As) As := ⟨Px_blind, fun U hU hW => ⟨rfl, w.bx hU hW⟩⟩
/-- what comes back -/
theorem Wx.back {t : State} {H1 : Heap} {locs1 : List Loc} (w : Wx D cI wd A1 A s H0 H locs σ) (ht : t.heap = H1) (hB : Bx D cI wd A1 u t) (hS : va_S A H0 H1 locs1) : Wx D cI wd A1 A s H0 H1 locs1 u := ⟨w.1, by rw [← ht]; exact hB.1, hB.2.2.1, hS, w.2.2.2.2.1, w.2.2.2.2.2⟩
/-- calls of instance methods: C with a new state, K with the same; i an int, v nothing -/
theorem Cvi (F : CallFix p m c cc nL s args al own) (w : Wx D cI wd A1 A s H0 H locs σ) {f : Int32 × Sg} (hM : Met l y (Cond.code y b mL ret :: al) rm (Px D cI wd A1 σ (.ref a :: As)) (va_Qi (fun r u => (r, u) = f) (Bx D cI wd A1) A1) 0 0 A1) (q0 : Nat) {ci : Nat} {fs : List Value} {q : vw_C} (he : (wd σ)[q0]? = some (a, .inr (ci, fs))) (hc : vwCl[ci]? = some q) (hk : Kv y q.1 b mL ret n) (hm : Cond.methodLink own ix y ∈ al) (hR1 : rm.frames + 1 ≤ R.frames) (hR2 : 8 + (mL + 11) + rm.locals ≤ R.locals) (hrc : rm.cells = 0 ∧ rm.slots = 0) (hn : As.length = n) (hsz : ls.size = nL) (hst : st0 = As.reverse ++ .ref a :: rest) (hrm : (rest.map fun v => v.category).sum ≤ 8) (hdg : decode cc pc = .ok (.invokevirtual ix, 3)) (hcs : cells ≤ R.cells ∧ slots ≤ R.slots)
    (kk : ∀ (r : Int32) (u : Sg) (H1 : Heap) (locs1 : List Loc), r = f.1 → u = f.2 → Wx D cI wd A1 A s H0 H1 locs1 u → W p l e R s m args below meth c H1 locs1 cells slots Q (F0 m (pc + 3) ls (.int r :: rest))) : W p l e R s m args below meth c H locs cells slots Q (F0 m pc ls st0) :=
  va_calli (va_runV (As := As) (rest := rest) (b := a) F hM (cwA F hk hm hR1 hR2 hrc.1 hrc.2) (preA w q0 he hc) rfl hn hsz hst (lv_room hrm) hdg hcs) w.2.2.2.1 (fun q _ h => w.2.2.2.2.2 q h) (fun q h => w.2.2.2.2.2 q h) (fun r u t H1 locs1 ht _ hp hB _ _ hS => kk r u H1 locs1 (congrArg Prod.fst hp) (congrArg Prod.snd hp) (w.back ht hB hS))
theorem Kvi (F : CallFix p m c cc nL s args al own) (w : Wx D cI wd A1 A s H0 H locs σ) {f : Int32} (hM : Met l y (Cond.code y b mL ret :: al) rm (Px D cI wd A1 σ (.ref a :: As)) (va_Qi (fun r u => r = f ∧ u = σ) (Bx D cI wd A1) A1) 0 0 A1) (q0 : Nat) {ci : Nat} {fs : List Value} {q : vw_C} (he : (wd σ)[q0]? = some (a, .inr (ci, fs))) (hc : vwCl[ci]? = some q) (hk : Kv y q.1 b mL ret n) (hm : Cond.methodLink own ix y ∈ al) (hR1 : rm.frames + 1 ≤ R.frames) (hR2 : 8 + (mL + 11) + rm.locals ≤ R.locals) (hrc : rm.cells = 0 ∧ rm.slots = 0) (hn : As.length = n) (hsz : ls.size = nL) (hst : st0 = As.reverse ++ .ref a :: rest) (hrm : (rest.map fun v => v.category).sum ≤ 8) (hdg : decode cc pc = .ok (.invokevirtual ix, 3)) (hcs : cells ≤ R.cells ∧ slots ≤ R.slots)
    (kk : ∀ (r : Int32) (H1 : Heap) (locs1 : List Loc), r = f → Wx D cI wd A1 A s H0 H1 locs1 σ → W p l e R s m args below meth c H1 locs1 cells slots Q (F0 m (pc + 3) ls (.int r :: rest))) : W p l e R s m args below meth c H locs cells slots Q (F0 m pc ls st0) :=
  va_calli (va_runV (As := As) (rest := rest) (b := a) F hM (cwA F hk hm hR1 hR2 hrc.1 hrc.2) (preA w q0 he hc) rfl hn hsz hst (lv_room hrm) hdg hcs) w.2.2.2.1 (fun q _ h => w.2.2.2.2.2 q h) (fun q h => w.2.2.2.2.2 q h) (fun r u t H1 locs1 ht _ hp hB _ _ hS => kk r H1 locs1 hp.1 (hp.2 ▸ w.back ht hB hS))
theorem Cvv (F : CallFix p m c cc nL s args al own) (w : Wx D cI wd A1 A s H0 H locs σ) {f : Sg} (hM : Met l y (Cond.code y b mL ret :: al) rm (Px D cI wd A1 σ (.ref a :: As)) (va_Qv (fun u => u = f) (Bx D cI wd A1) A1) 0 0 A1) (q0 : Nat) {ci : Nat} {fs : List Value} {q : vw_C} (he : (wd σ)[q0]? = some (a, .inr (ci, fs))) (hc : vwCl[ci]? = some q) (hk : Kv y q.1 b mL ret n) (hm : Cond.methodLink own ix y ∈ al) (hR1 : rm.frames + 1 ≤ R.frames) (hR2 : 8 + (mL + 11) + rm.locals ≤ R.locals) (hrc : rm.cells = 0 ∧ rm.slots = 0) (hn : As.length = n) (hsz : ls.size = nL) (hst : st0 = As.reverse ++ .ref a :: rest) (hrm : (rest.map fun v => v.category).sum ≤ 8) (hdg : decode cc pc = .ok (.invokevirtual ix, 3)) (hcs : cells ≤ R.cells ∧ slots ≤ R.slots)
    (kk : ∀ (u : Sg) (H1 : Heap) (locs1 : List Loc), u = f → Wx D cI wd A1 A s H0 H1 locs1 u → W p l e R s m args below meth c H1 locs1 cells slots Q (F0 m (pc + 3) ls rest)) : W p l e R s m args below meth c H locs cells slots Q (F0 m pc ls st0) :=
  va_callv (va_runV (As := As) (rest := rest) (b := a) F hM (cwA F hk hm hR1 hR2 hrc.1 hrc.2) (preA w q0 he hc) rfl hn hsz hst (lv_room hrm) hdg hcs) w.2.2.2.1 (fun q _ h => w.2.2.2.2.2 q h) (fun q h => w.2.2.2.2.2 q h) (fun u t H1 locs1 ht _ hp hB _ _ hS => kk u H1 locs1 hp (w.back ht hB hS))
/-- calls of static methods -/
theorem Ksi (F : CallFix p m c cc nL s args al own) (w : Wx D cI wd A1 A s H0 H locs σ) {f : Int32} (hM : Met l y (Cond.code y b mL ret :: al) rm (Px D cI wd A1 σ As) (va_Qi (fun r u => r = f ∧ u = σ) (Bx D cI wd A1) A1) 0 0 A1) (hk : Ks y b mL ret n) (hm : Cond.methodLink own ix y ∈ al) (hR1 : rm.frames + 1 ≤ R.frames) (hR2 : 8 + (mL + 11) + rm.locals ≤ R.locals) (hrc : rm.cells = 0 ∧ rm.slots = 0) (hn : As.length = n) (hsz : ls.size = nL) (hst : st0 = As.reverse ++ rest) (hrm : (rest.map fun v => v.category).sum ≤ 8) (hdg : decode cc pc = .ok (.invokestatic ix, 3)) (hcs : cells ≤ R.cells ∧ slots ≤ R.slots)
    (kk : ∀ (r : Int32) (H1 : Heap) (locs1 : List Loc), r = f → Wx D cI wd A1 A s H0 H1 locs1 σ → W p l e R s m args below meth c H1 locs1 cells slots Q (F0 m (pc + 3) ls (.int r :: rest))) : W p l e R s m args below meth c H locs cells slots Q (F0 m pc ls st0) :=
  va_calli (va_runS (As := As) (rest := rest) F hM (csA F hk hm hR1 hR2 hrc.1 hrc.2) (preB w) rfl hn hsz hst (lv_room hrm) hdg hcs) w.2.2.2.1 (fun q _ h => w.2.2.2.2.2 q h) (fun q h => w.2.2.2.2.2 q h) (fun r u t H1 locs1 ht _ hp hB _ _ hS => kk r H1 locs1 hp.1 (hp.2 ▸ w.back ht hB hS))
theorem Csv (F : CallFix p m c cc nL s args al own) (w : Wx D cI wd A1 A s H0 H locs σ) {f : Sg} (hM : Met l y (Cond.code y b mL ret :: al) rm (Px D cI wd A1 σ As) (va_Qv (fun u => u = f) (Bx D cI wd A1) A1) 0 0 A1) (hk : Ks y b mL ret n) (hm : Cond.methodLink own ix y ∈ al) (hR1 : rm.frames + 1 ≤ R.frames) (hR2 : 8 + (mL + 11) + rm.locals ≤ R.locals) (hrc : rm.cells = 0 ∧ rm.slots = 0) (hn : As.length = n) (hsz : ls.size = nL) (hst : st0 = As.reverse ++ rest) (hrm : (rest.map fun v => v.category).sum ≤ 8) (hdg : decode cc pc = .ok (.invokestatic ix, 3)) (hcs : cells ≤ R.cells ∧ slots ≤ R.slots)
    (kk : ∀ (u : Sg) (H1 : Heap) (locs1 : List Loc), u = f → Wx D cI wd A1 A s H0 H1 locs1 u → W p l e R s m args below meth c H1 locs1 cells slots Q (F0 m (pc + 3) ls rest)) : W p l e R s m args below meth c H locs cells slots Q (F0 m pc ls st0) :=
  va_callv (va_runS (As := As) (rest := rest) F hM (csA F hk hm hR1 hR2 hrc.1 hrc.2) (preB w) rfl hn hsz hst (lv_room hrm) hdg hcs) w.2.2.2.1 (fun q _ h => w.2.2.2.2.2 q h) (fun q h => w.2.2.2.2.2 q h) (fun u t H1 locs1 ht _ hp hB _ _ hS => kk u H1 locs1 hp (w.back ht hB hS))
theorem KsNi {host : String} (F : CallFix p m c cc nL s args al own) (w : Wx D cI wd A1 A s H0 H locs σ) {f : Int32} (hM : Met l y (Cond.code y b mL ret :: al) rm (Px D cI wd A1 σ As) (va_Qi (fun r u => r = f ∧ u = σ) (Bx D cI wd A1) A1) 0 0 A1) (hk : Ks y b mL ret n) (hm : Cond.methodLinkNest own ix y host ∈ nw) (hR1 : rm.frames + 1 ≤ R.frames) (hR2 : 8 + (mL + 11) + rm.locals ≤ R.locals) (hrc : rm.cells = 0 ∧ rm.slots = 0) (hn : As.length = n) (hsz : ls.size = nL) (hst : st0 = As.reverse ++ rest) (hrm : (rest.map fun v => v.category).sum ≤ 8) (hdg : decode cc pc = .ok (.invokestatic ix, 3)) (hcs : cells ≤ R.cells ∧ slots ≤ R.slots)
    (kk : ∀ (r : Int32) (H1 : Heap) (locs1 : List Loc), r = f → Wx D cI wd A1 A s H0 H1 locs1 σ → W p l e R s m args below meth c H1 locs1 cells slots Q (F0 m (pc + 3) ls (.int r :: rest))) : W p l e R s m args below meth c H locs cells slots Q (F0 m pc ls st0) :=
  va_calli (va_runSN (As := As) (rest := rest) F hM (cnA F w.2.2.2.2.1 hk hm hR1 hR2 hrc.1 hrc.2) (preB w) rfl hn hsz hst (lv_room hrm) hdg hcs) w.2.2.2.1 (fun q _ h => w.2.2.2.2.2 q h) (fun q h => w.2.2.2.2.2 q h) (fun r u t H1 locs1 ht _ hp hB _ _ hS => kk r H1 locs1 hp.1 (hp.2 ▸ w.back ht hB hS))
end BX
/-! ===== static methods on numbers alone: the heap stays ===== -/
def PU (as : List Value) : Array Value → State → Prop := va_Pc as (fun _ => True)
def QU (f : Int32) : Array Value → State → Outcome → State → Prop := fun _ st o t => o = .returned (some (.int f)) ∧ t.heap = st.heap
theorem PU_blind {as : List Value} : FrameBlind (PU as) := fun _ _ _ _ q => ⟨q.1, trivial⟩
theorem Mu (l : Launch) {y : MethodName} {b : ByteArray} {mL : Nat} {ret : Option FieldType} {rm : Room} {as : List Value} {f : Int32} (hy : plainName y.cls = true) (hent : (lg_sl as).length ≤ mL)
    (body : ∀ (p : Program) (e : Env) (s : State) (m : MethodId) (below : List Frame) (meth : Method) (c : Code) (ls : Array Slot), CallFix p m c b mL s as.toArray al y.cls → meth.sig.returnType = ret → meth.locks = false → lv_has ls mL (lv_args 0 as) →
      W p l e rm s m as.toArray below meth c s.heap [] 0 0 (MQ below (QU f) as.toArray s 0 0 (fun _ => False)) (F0 m 0 ls [])) : Met l y (Cond.code y b mL ret :: al) rm (PU as) (QU f) 0 0 (fun _ => False) := by
  refine Met.ofW (cc := b) (maxL := mL) (ret := ret) hy rfl ?_
  intro p e s m args below meth c s₁ B hml hv
  obtain ⟨rfl, -⟩ := hv
  have hl := lv_entry as (n := mL) hent
  rw [lg_entry_eq]
  generalize (lg_sl as ++ List.replicate (mL - (lg_sl as).length) Slot.unset).toArray = ls at hl ⊢
  exact body p e s m below meth c ls ⟨B.exec, B.bytes, hml, findClass_of_methodNamed B.named, fun w h => atoms_spec (ws := Cond.code y b mL ret :: al) B.pre w (List.mem_cons_of_mem _ h)⟩ B.returns B.notSynchronized hl
section UX
variable {p : Program} {l : Launch} {e : Env} {R : Room} {s : State} {m : MethodId} {args : Array Value} {below : List Frame} {meth : Method} {c : Code} {H : Heap} {locs : List Loc} {cells slots : Nat} {Q : State → Prop} {cc : ByteArray} {pc nL : Nat} {ls : Array Slot} {rest st0 : List Value} {own : String}
theorem Ui (F : CallFix p m c cc nL s args al own) (w : H = s.heap ∧ locs = []) (hr : meth.sig.returnType = some .int) (hlk : meth.locks = false) {v f : Int32} (hf : v = f) (hdg : decode cc pc = .ok (.ireturn, 1)) :
    W p l e R s m args below meth c H locs 0 0 (MQ below (QU f) args s 0 0 (fun _ => False)) (F0 m pc ls [.int v]) :=
  W.iret F.1 F.2.1 hr (fun t ht hW => ⟨by rw [hf], ht.trans w.1⟩) (fun q hq => by rw [w.2] at hq; cases hq) hdg hlk
theorem Uz (F : CallFix p m c cc nL s args al own) (w : H = s.heap ∧ locs = []) (hr : meth.sig.returnType = some .boolean) (hlk : meth.locks = false) {v f : Int32} (hz : v = 0 ∨ v = 1) (hf : v = f) (hdg : decode cc pc = .ok (.ireturn, 1)) :
    W p l e R s m args below meth c H locs 0 0 (MQ below (QU f) args s 0 0 (fun _ => False)) (F0 m pc ls [.int v]) :=
  W.zret F.1 F.2.1 hr (nz hz) (fun t ht hW => ⟨by rw [hf], ht.trans w.1⟩) (fun q hq => by rw [w.2] at hq; cases hq) hdg hlk
variable {y : MethodName} {b : ByteArray} {mL n ix : Nat} {ret : Option FieldType} {rm : Room} {As : List Value} {f : Int32}
theorem Usi (F : CallFix p m c cc nL s args al own) (hM : Met l y (Cond.code y b mL ret :: al) rm (PU As) (QU f) 0 0 (fun _ => False)) (hk : Ks y b mL ret n) (hm : Cond.methodLink own ix y ∈ al) (hR1 : rm.frames + 1 ≤ R.frames) (hR2 : 8 + (mL + 11) + rm.locals ≤ R.locals) (hrc : rm.cells = 0 ∧ rm.slots = 0) (hn : As.length = n) (hsz : ls.size = nL) (hst : st0 = As.reverse ++ rest) (hrm : (rest.map fun v => v.category).sum ≤ 8) (hdg : decode cc pc = .ok (.invokestatic ix, 3)) (hcs : cells ≤ R.cells ∧ slots ≤ R.slots)
    (kk : ∀ (r : Int32), r = f → W p l e R s m args below meth c H locs cells slots Q (F0 m (pc + 3) ls (.int r :: rest))) : W p l e R s m args below meth c H locs cells slots Q (F0 m pc ls st0) := by
  intro T hT X
  obtain ⟨v, st₀, t, T', L, h0, X', hL, e1, e2, ⟨hv, ht⟩, st⟩ := va_runS (As := As) (rest := rest) F hM (csA F hk hm hR1 hR2 hrc.1 hrc.2) ⟨PU_blind, fun U _ _ => ⟨rfl, trivial⟩⟩ (g := F0 m pc ls st0) rfl hn hsz hst (lv_room hrm) hdg hcs T hT X
  cases hv
  have hL0 : L = [] := List.eq_nil_iff_forall_not_mem.mpr (fun q hq => hL q hq)
  subst hL0
  rw [List.append_nil] at X'
  obtain ⟨t2, a1, b1⟩ := kk f rfl T' (by rw [e1, ht, h0]) X'
  exact ⟨t2, st t2 a1, b1⟩
theorem UsNi {host : String} (F : CallFix p m c cc nL s args al own) (hN : NW s) (hM : Met l y (Cond.code y b mL ret :: al) rm (PU As) (QU f) 0 0 (fun _ => False)) (hk : Ks y b mL ret n) (hm : Cond.methodLinkNest own ix y host ∈ nw) (hR1 : rm.frames + 1 ≤ R.frames) (hR2 : 8 + (mL + 11) + rm.locals ≤ R.locals) (hrc : rm.cells = 0 ∧ rm.slots = 0) (hn : As.length = n) (hsz : ls.size = nL) (hst : st0 = As.reverse ++ rest) (hrm : (rest.map fun v => v.category).sum ≤ 8) (hdg : decode cc pc = .ok (.invokestatic ix, 3)) (hcs : cells ≤ R.cells ∧ slots ≤ R.slots)
    (kk : ∀ (r : Int32), r = f → W p l e R s m args below meth c H locs cells slots Q (F0 m (pc + 3) ls (.int r :: rest))) : W p l e R s m args below meth c H locs cells slots Q (F0 m pc ls st0) := by
  intro T hT X
  obtain ⟨v, st₀, t, T', L, h0, X', hL, e1, e2, ⟨hv, ht⟩, st⟩ := va_runSN (As := As) (rest := rest) F hM (cnA F hN hk hm hR1 hR2 hrc.1 hrc.2) ⟨PU_blind, fun U _ _ => ⟨rfl, trivial⟩⟩ (g := F0 m pc ls st0) rfl hn hsz hst (lv_room hrm) hdg hcs T hT X
  cases hv
  have hL0 : L = [] := List.eq_nil_iff_forall_not_mem.mpr (fun q hq => hL q hq)
  subst hL0
  rw [List.append_nil] at X'
  obtain ⟨t2, a1, b1⟩ := kk f rfl T' (by rw [e1, ht, h0]) X'
  exact ⟨t2, st t2 a1, b1⟩
end UX
/-! ===== loops: a counter that goes up ===== -/
def itr {α : Type} (f : Nat → α → α) (x : α) : Nat → α
  | 0 => x
  | j + 1 => f j (itr f x j)
theorem ci_0 (c : Int32) : c + nI 0 = c := by rw [nI_0, Int32.add_zero]
theorem ci_s (c : Int32) (j : Nat) : c + nI j + 1 = c + nI (j + 1) := by rw [nI_succ, Int32.add_assoc]
section LOOP
variable {p : Program} {l : Launch} {e : Env} {R : Room} {s : State} {m : MethodId} {args : Array Value} {below : List Frame} {meth : Method} {c : Code} {cells slots : Nat} {Q : State → Prop}
theorem loopW {α : Type} (n : Nat) (S : Nat → α → Heap → List Loc → Array Slot → Prop) (G : α → Array Slot → JFrame)
    (step : ∀ (j : Nat) (x : α) (H1 : Heap) (locs1 : List Loc) (ls1 : Array Slot), j < n → S j x H1 locs1 ls1 →
      (∀ (x' : α) (H' : Heap) (locs' : List Loc) (ls' : Array Slot), S (j + 1) x' H' locs' ls' → W p l e R s m args below meth c H' locs' cells slots Q (G x' ls')) → W p l e R s m args below meth c H1 locs1 cells slots Q (G x ls1))
    (exit : ∀ (x : α) (H1 : Heap) (locs1 : List Loc) (ls1 : Array Slot), S n x H1 locs1 ls1 → W p l e R s m args below meth c H1 locs1 cells slots Q (G x ls1)) :
    ∀ (j : Nat) (x : α) (H1 : Heap) (locs1 : List Loc) (ls1 : Array Slot), j ≤ n → S j x H1 locs1 ls1 → W p l e R s m args below meth c H1 locs1 cells slots Q (G x ls1) := by
  have key : ∀ (d j : Nat) (x : α) (H1 : Heap) (locs1 : List Loc) (ls1 : Array Slot), j + d = n → S j x H1 locs1 ls1 → W p l e R s m args below meth c H1 locs1 cells slots Q (G x ls1) := by
    intro d
    induction d with
    | zero =>
      intro j x H1 locs1 ls1 hj h
      have hj : j = n := hj
      subst hj
      exact exit x H1 locs1 ls1 h
    | succ d ih =>
      intro j x H1 locs1 ls1 hj h
      exact step j x H1 locs1 ls1 (by omega) h (fun x' H' locs' ls' h' => ih (j + 1) x' H' locs' ls' (by omega) h')
  intro j x H1 locs1 ls1 hj h
  exact key (n - j) j x H1 locs1 ls1 (by omega) h
end LOOP
