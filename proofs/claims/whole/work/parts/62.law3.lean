/-! ===== the wrappers with an answer: the law's array of one long beside the class's world ===== -/
abbrev oW (cL : ClassId) (o : Nat) (g : Nat → Int64) : va_W := [(o, .inl (cL, 1, .inr (.inl g)))]
def AO (ad : Nat → Nat) (o : Nat) : Nat → Prop := fun q => AC ad q ∨ q = o
def BO (D : va_G) (cI cL : ClassId) (ad : Nat → Nat) (o : Nat) (u : Sg × (Nat → Int64)) (U : State) : Prop := Bx D cI (wC cI ad) (AC ad) u.1 U ∧ va_P D vwCl (oW cL o u.2) U.heap
def BLo (D : va_G) (cI cL : ClassId) (ad : Nat → Nat) (o : Nat) (σ : Sg) (g : Nat → Int64) (U : State) : Prop := (Bx D cI (wC cI ad) (AC ad) σ U ∧ ZT (AC ad) U) ∧ va_P D vwCl (oW cL o g) U.heap ∧ va_K D vwCl [(cL, .long)] U ∧ ¬ AC ad o
theorem BLo_blind {D : va_G} {cI cL : ClassId} {ad : Nat → Nat} {o : Nat} {σ : Sg} {g : Nat → Int64} {as : List Value} : FrameBlind (va_Pc as (BLo D cI cL ad o σ g)) := fun a U f mk q => ⟨q.1, (BL_blind a U f mk ⟨q.1, q.2.1⟩).2, q.2.2.1, va_K.moved (u := U) (U := U.calling f mk a) (Vm.Alike.refl U.vm) q.2.2.2.1, q.2.2.2.2⟩
theorem P.left {D : va_G} {cl : List vw_C} {w1 w2 : va_W} {H : Heap} (h : va_P D cl (w1 ++ w2) H) : va_P D cl w1 H := fun k q hk => h k q (by rw [List.getElem?_append_left (List.getElem?_eq_some_iff.mp hk).1]; exact hk)
theorem P.right {D : va_G} {cl : List vw_C} {w1 w2 : va_W} {H : Heap} (h : va_P D cl (w1 ++ w2) H) : va_P D cl w2 H := fun k q hk => h (w1.length + k) q (by rw [List.getElem?_append_right (Nat.le_add_right _ _), Nat.add_sub_cancel_left]; exact hk)
section LAW3
variable {p : Program} {l : Launch} {e : Env} {R : Room} {s : State} {m : MethodId} {args : Array Value} {below : List Frame} {meth : Method} {c : Code} {H H0 : Heap} {locs : List Loc} {cells slots : Nat} {Q : State → Prop} {cc : ByteArray} {pc nL : Nat} {ls : Array Slot} {rest st0 : List Value} {own : String} {D : va_G} {cI cL : ClassId} {ad : Nat → Nat} {σ u : Sg} {wd : Sg → va_W} {A1 A : Nat → Prop}
variable {y : MethodName} {b : ByteArray} {mL n ix a : Nat} {ret : Option FieldType} {rm : Room} {As : List Value}
/-- the call of a method, with what it leaves alone -/
theorem CviX (F : CallFix p m c cc nL s args al own) (w : Wx D cI wd A1 A s H0 H locs σ) {f : Int32 × Sg} (hM : Met l y (Cond.code y b mL ret :: al) rm (Px D cI wd A1 σ (.ref a :: As)) (va_Qi (fun r u => (r, u) = f) (Bx D cI wd A1) A1) 0 0 A1) (q0 : Nat) {ci : Nat} {fs : List Value} {q : vw_C} (he : (wd σ)[q0]? = some (a, .inr (ci, fs))) (hc : vwCl[ci]? = some q) (hk : Kv y q.1 b mL ret n) (hm : Cond.methodLink own ix y ∈ al) (hR1 : rm.frames + 1 ≤ R.frames) (hR2 : 8 + (mL + 11) + rm.locals ≤ R.locals) (hrc : rm.cells = 0 ∧ rm.slots = 0) (hn : As.length = n) (hsz : ls.size = nL) (hst : st0 = As.reverse ++ .ref a :: rest) (hrm : (rest.map fun v => v.category).sum ≤ 8) (hdg : decode cc pc = .ok (.invokevirtual ix, 3)) (hcs : cells ≤ R.cells ∧ slots ≤ R.slots)
    (kk : ∀ (r : Int32) (u : Sg) (H1 : Heap) (locs1 : List Loc), r = f.1 → u = f.2 → Wx D cI wd A1 A s H0 H1 locs1 u → (∀ q : Nat, q < H.size → ¬ A1 q → H1[q]? = H[q]?) → W p l e R s m args below meth c H1 locs1 cells slots Q (F0 m (pc + 3) ls (.int r :: rest))) : W p l e R s m args below meth c H locs cells slots Q (F0 m pc ls st0) :=
  va_calli (va_runV (As := As) (rest := rest) (b := a) F hM (cwA F hk hm hR1 hR2 hrc.1 hrc.2) (preA w q0 he hc) rfl hn hsz hst (lv_room hrm) hdg hcs) w.2.2.2.1 (fun q _ h => w.2.2.2.2.2 q h) (fun q h => w.2.2.2.2.2 q h) (fun r u t H1 locs1 ht _ hp hB _ hk1 hS => kk r u H1 locs1 (congrArg Prod.fst hp) (congrArg Prod.snd hp) (w.back ht hB hS) hk1)
/-- the answer is put into the array -/
theorem putO {o : Nat} {g : Nat → Int64} {x : Int64} (F : CallFix p m c cc nL s args al own) (w : Wx D cI (wC cI ad) (AC ad) (AC ad) s s.heap H locs σ) (hP : va_P D vwCl (oW cL o g) H) (hK : va_K D vwCl [(cL, .long)] s) (ho : ¬ AC ad o) (hdg : decode cc pc = .ok (.lastore, 1))
    (kk : ∀ (H1 : Heap) (locs1 : List Loc), va_K D vwCl [(cI, .int)] s → va_P D vwCl (wC cI ad σ) H1 → va_D (AC ad) (wC cI ad σ) → va_P D vwCl (oW cL o (vp_updL g 0 x)) H1 → va_S (AO ad o) s.heap H1 locs1 → W p l e R s m args below meth c H1 locs1 cells slots Q (F0 m (pc + 1) ls rest)) : W p l e R s m args below meth c H locs cells slots Q (F0 m pc ls (.long x :: .int 0 :: .ref o :: rest)) := by
  have hD : va_D (AO ad o) (wC cI ad σ ++ oW cL o g) := va_D.app (w.2.2.1.weaken (fun _ _ _ h => Or.inl h)) ⟨fun i j p q hp hq _ => by
      have hi : i < 1 := (List.getElem?_eq_some_iff.mp hp).1
      have hj : j < 1 := (List.getElem?_eq_some_iff.mp hq).1
      omega, fun k q hk => by
      have hk1 : k < 1 := (List.getElem?_eq_some_iff.mp hk).1
      have : k = 0 := by omega
      subst this
      cases hk
      exact Or.inr rfl⟩ (fun i j x y hx hy hxy => by
      have hj : j < 1 := (List.getElem?_eq_some_iff.mp hy).1
      have : j = 0 := by omega
      subst this
      cases hy
      exact ho (by rw [← show x.1 = o from hxy]; exact w.2.2.1.2 i x hx))
  have hS : va_S (AO ad o) s.heap H locs := ⟨w.2.2.2.1.1, fun q h1 h2 => w.2.2.2.1.2.1 q h1 (fun z => h2 (Or.inl z)), fun q hq => Or.inl (w.2.2.2.1.2.2 q hq)⟩
  refine va_last (tys := [(cI, .int)] ++ [(cL, .long)]) F.1 F.2.1 (w.1.app hK) (w.2.1.app hP) hD hS 19 1 rfl rfl (by unfold vp_in; decide) hdg (fun H1 locs1 hP1 _ hS1 => ?_)
  have hP1 : va_P D vwCl (wC cI ad σ ++ oW cL o (vp_updL g (0 : Int32).toNatClampNeg x)) H1 := hP1
  exact kk H1 locs1 w.1 (P.left hP1) w.2.2.1 (P.right hP1) hS1
end LAW3
