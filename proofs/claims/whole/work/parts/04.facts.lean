/-! ===== constructors: a world that grows ===== -/
def Pw (D : va_G) (cI : ClassId) (sz : Nat) (ws : va_W) (as : List Value) : Array Value → State → Prop := va_Pc as (fun U => U.heap.size = sz ∧ va_P D vwCl ws U.heap ∧ va_K D vwCl [(cI, .int)] U ∧ va_D (fun _ => True) ws ∧ NW U)
theorem Pw_blind {D : va_G} {cI : ClassId} {sz : Nat} {ws : va_W} {as : List Value} : FrameBlind (Pw D cI sz ws as) := fun a U g mk q => ⟨q.1, q.2.1, q.2.2.1, va_K.moved (u := U) (U := U.calling g mk a) (Vm.Alike.refl U.vm) q.2.2.2.1, q.2.2.2.2.1, NW.same (s := U) (U := U.calling g mk a) rfl q.2.2.2.2.2⟩
theorem Mw (l : Launch) {y : MethodName} {b : ByteArray} {mL : Nat} {ret : Option FieldType} {rm : Room} {D : va_G} {cI : ClassId} {sz : Nat} {ws : va_W} {as : List Value} {Qc : Array Value → State → Outcome → State → Prop} {mc ms : Nat} {free : Addr → Prop} (hy : plainName y.cls = true) (hent : (lg_sl as).length ≤ mL)
    (body : ∀ (p : Program) (e : Env) (s : State) (m : MethodId) (below : List Frame) (meth : Method) (c : Code) (ls : Array Slot), CallFix p m c b mL s as.toArray al y.cls → s.heap.size = sz → va_P D vwCl ws s.heap → va_K D vwCl [(cI, .int)] s → va_D (va_A ws sz) ws → NW s → meth.name = y.name → meth.sig.returnType = ret → meth.locks = false → lv_has ls mL (lv_args 0 as) →
      W p l e rm s m as.toArray below meth c s.heap [] 0 0 (MQ below Qc as.toArray s mc ms free) (F0 m 0 ls [])) : Met l y (Cond.code y b mL ret :: al) rm (Pw D cI sz ws as) Qc mc ms free := by
  refine Met.ofW (cc := b) (maxL := mL) (ret := ret) hy rfl ?_
  intro p e s m args below meth c s₁ B hml hv
  obtain ⟨rfl, hsz, hP, hK, hD, hN⟩ := hv
  have hl := lv_entry as (n := mL) hent
  rw [lg_entry_eq]
  generalize (lg_sl as ++ List.replicate (mL - (lg_sl as).length) Slot.unset).toArray = ls at hl ⊢
  exact body p e s m below meth c ls ⟨B.exec, B.bytes, hml, findClass_of_methodNamed B.named, fun w h => atoms_spec (ws := Cond.code y b mL ret :: al) B.pre w (List.mem_cons_of_mem _ h)⟩ hsz hP hK hD.self hN (name_of_methodNamed B.named B.method).1 B.returns B.notSynchronized hl
section CX
variable {p : Program} {l : Launch} {e : Env} {R : Room} {s : State} {m : MethodId} {args : Array Value} {below : List Frame} {meth : Method} {c : Code} {H H0 : Heap} {locs : List Loc} {cells slots : Nat} {Q : State → Prop} {cc : ByteArray} {pc nL : Nat} {ls : Array Slot} {rest : List Value} {own : String} {D : va_G} {cI : ClassId} {A : Nat → Prop} {ws : va_W}
theorem newI (hexec : p.tables.exec = Jvm.exec) (hb : c.code = cc) (harr : (Cond.arrayClass .int).before args s = true) (hK : va_K D vwCl [(cI, .int)] s) (hP : va_P D vwCl ws H) (hD : va_D A ws) (hS : va_S A H0 H locs) (hA : ∀ q, H0.size ≤ q → A q)
    {n : Int32} {N' : Nat} (hn : ¬ n < 0) (hN : n.toNatClampNeg = N') (hbytes : N' * componentBytes .int ≤ 536870912) (hcells : cells + 1 ≤ R.cells) (hslots : slots + N' ≤ R.slots) (hdg : decode cc pc = .ok (.newarray .int, 2))
    (kk : ∀ (q : Nat) (H1 : Heap), va_P D vwCl (ws ++ [(q, .inl (cI, N', .inl (fun _ => 0)))]) H1 → va_D A (ws ++ [(q, .inl (cI, N', .inl (fun _ => 0)))]) → va_S A H0 H1 locs →
      W p l e R s m args below meth c H1 locs (cells + 1) (slots + N') Q (F0 m (pc + 2) ls (.ref q :: rest))) : W p l e R s m args below meth c H locs cells slots Q (F0 m pc ls (.int n :: rest)) :=
  va_newa (atype := .int) (ty := .int) (a0 := (N', .inl (fun _ => 0))) hexec hb harr rfl hK hP hD hS hA (fun _ => rfl) hn hN hbytes hcells hslots hdg (fun q cA H1 hK1 hP1 hD1 hS1 => by
    have h1 := (hK1.2 0 (cI, .int) rfl).2
    have h2 := (hK1.2 1 (cA, .int) rfl).2
    obtain rfl : cI = cA := Option.some.inj (h1.symm.trans h2)
    exact kk q H1 hP1 hD1 hS1)
variable {y : MethodName} {b : ByteArray} {mL n ix mc ms : Nat} {ret : Option FieldType} {rm : Room}
/-- what the tables say of a constructor -/
def Ki0 (y : MethodName) (b : ByteArray) (mL n : Nat) : Prop := y.name = "<init>" ∧ Cond.initialized y.cls ∈ al ∧ Cond.code y b mL none ∈ al ∧ (y.cls ≠ "java/lang/invoke/MethodHandle" ∧ y.cls ≠ "java/lang/invoke/VarHandle") ∧ (parseMethodDescriptor y.desc).map (fun d => d.parameters.length) = some n
theorem ciA (F : CallFix p m c cc nL s args al own) (hk : Ki0 y b mL n) (hi : Cond.instanceMethod y ∈ al) (hm : Cond.methodLink own ix y ∈ al) (hR1 : rm.frames + 1 ≤ R.frames) (hR2 : 8 + (mL + 11) + rm.locals ≤ R.locals) (hrc : rm.cells = mc) (hrs : rm.slots = ms) : CallB R s args own ix y b mL none (Cond.code y b mL none :: al) rm mc ms n ∧ y.name = "<init>" ∧ (Cond.instanceMethod y).before args s = true :=
  ⟨⟨hrc, hrs, hR1, hR2, pay_in F.2.2.2.2 (al_code hk.2.2.1), List.mem_cons_self, F.2.2.2.2 _ hk.2.2.1, F.2.2.2.2 _ hk.2.1, hk.2.2.2.1, len_of hk.2.2.2.2, F.2.2.2.2 _ hm⟩, hk.1, F.2.2.2.2 _ hi⟩
theorem ciN {host : String} (F : CallFix p m c cc nL s args al own) (hN : NW s) (hk : Ki0 y b mL n) (hi : Cond.instanceMethod y ∈ al) (hm : Cond.methodLinkNest own ix y host ∈ nw) (hR1 : rm.frames + 1 ≤ R.frames) (hR2 : 8 + (mL + 11) + rm.locals ≤ R.locals) (hrc : rm.cells = mc) (hrs : rm.slots = ms) : va_CN R s args own ix y host b mL none (Cond.code y b mL none :: al) rm mc ms n ∧ y.name = "<init>" ∧ (Cond.instanceMethod y).before args s = true :=
  ⟨⟨⟨hrc, hrs, hR1, hR2, pay_in F.2.2.2.2 (al_code hk.2.2.1), List.mem_cons_self⟩, F.2.2.2.2 _ hk.2.2.1, F.2.2.2.2 _ hk.2.1, hk.2.2.2.1, len_of hk.2.2.2.2, va_Nw.use rfl (hN _ hm)⟩, hk.1, F.2.2.2.2 _ hi⟩
end CX
theorem k_Pm_init : Ki0 y_Pm_init b_Pm_init 1 0 := ⟨rfl, m_1, m_22, ⟨by decide, by decide⟩, by decide +kernel⟩
theorem k_Pm_poke : Kv y_Pm_poke R_Pm b_Pm_poke 3 none 2 := ⟨m_362, m_363, m_1, m_364, ⟨by decide, by decide⟩, by decide +kernel⟩
theorem k_Pm_peek : Kv y_Pm_peek R_Pm b_Pm_peek 2 (some .int) 1 := ⟨m_444, m_445, m_1, m_446, ⟨by decide, by decide⟩, by decide +kernel⟩
theorem k_Pm_write : Kv y_Pm_write R_Pm b_Pm_write 3 none 2 := ⟨m_455, m_456, m_1, m_457, ⟨by decide, by decide⟩, by decide +kernel⟩
theorem k_Pm_disk : Kv y_Pm_disk R_Pm b_Pm_disk 4 none 3 := ⟨m_502, m_503, m_1, m_504, ⟨by decide, by decide⟩, by decide +kernel⟩
theorem k_Pm_sector : Kv y_Pm_sector R_Pm b_Pm_sector 3 (some .int) 2 := ⟨m_514, m_515, m_1, m_516, ⟨by decide, by decide⟩, by decide +kernel⟩
theorem k_Pm_stick : Kv y_Pm_stick R_Pm b_Pm_stick 2 none 1 := ⟨m_525, m_526, m_1, m_527, ⟨by decide, by decide⟩, by decide +kernel⟩
theorem k_Pm_run : Kv y_Pm_run R_Pm b_Pm_run 4 (some .int) 1 := ⟨m_532, m_533, m_1, m_534, ⟨by decide, by decide⟩, by decide +kernel⟩
theorem k_Pm_dot : Kv y_Pm_dot R_Pm b_Pm_dot 3 (some .int) 2 := ⟨m_747, m_748, m_1, m_749, ⟨by decide, by decide⟩, by decide +kernel⟩
theorem k_Pm_processor : Kv y_Pm_processor R_Pm b_Pm_processor 2 (some .int) 1 := ⟨m_327, m_328, m_1, m_329, ⟨by decide, by decide⟩, by decide +kernel⟩
theorem k_Pm_state : Kv y_Pm_state R_Pm b_Pm_state 2 (some .int) 1 := ⟨m_338, m_339, m_1, m_340, ⟨by decide, by decide⟩, by decide +kernel⟩
theorem k_Pm_passCycle : Kv y_Pm_passCycle R_Pm b_Pm_passCycle 5 (some .boolean) 0 := ⟨m_537, al_sel (q := (y_Pm_passCycle, 2)) (by decide +kernel) (by decide), m_1, m_538, ⟨by decide, by decide⟩, by decide +kernel⟩
theorem k_Pm_endLine : Kv y_Pm_endLine R_Pm b_Pm_endLine 2 none 1 := ⟨m_704, al_sel (q := (y_Pm_endLine, 2)) (by decide +kernel) (by decide), m_1, m_705, ⟨by decide, by decide⟩, by decide +kernel⟩
theorem k_Pm_need : Ks y_Pm_need b_Pm_need 1 none 1 := ⟨m_372, m_1, m_373, ⟨by decide, by decide⟩, by decide +kernel⟩
theorem k_Pm_isMemory : Ks y_Pm_isMemory b_Pm_isMemory 1 (some .boolean) 1 := ⟨m_366, m_1, m_367, ⟨by decide, by decide⟩, by decide +kernel⟩
theorem k_Pm_isByte : Ks y_Pm_isByte b_Pm_isByte 1 (some .boolean) 1 := ⟨m_369, m_1, m_370, ⟨by decide, by decide⟩, by decide +kernel⟩
theorem k_Pm_isPlaceOnDisk : Ks y_Pm_isPlaceOnDisk b_Pm_isPlaceOnDisk 2 (some .boolean) 2 := ⟨m_496, m_1, m_497, ⟨by decide, by decide⟩, by decide +kernel⟩
theorem k_Pm_isShownLine : Ks y_Pm_isShownLine b_Pm_isShownLine 1 (some .boolean) 1 := ⟨m_561, m_1, m_562, ⟨by decide, by decide⟩, by decide +kernel⟩
theorem k_Pm_bit : Ks y_Pm_bit b_Pm_bit 1 (some .int) 1 := ⟨m_335, m_1, m_336, ⟨by decide, by decide⟩, by decide +kernel⟩
theorem k_Bd_init : Ki0 y_Bd_init b_Bd_init 1 0 := ⟨rfl, m_2, m_30, ⟨by decide, by decide⟩, by decide +kernel⟩
theorem k_Bd_load : Kv y_Bd_load R_Bd b_Bd_load 3 (some .int) 1 := ⟨m_615, m_616, m_2, m_617, ⟨by decide, by decide⟩, by decide +kernel⟩
theorem k_Bd_store : Kv y_Bd_store R_Bd b_Bd_store 5 none 2 := ⟨m_459, m_460, m_2, m_461, ⟨by decide, by decide⟩, by decide +kernel⟩
theorem k_Ck_init : Ki0 y_Ck_init b_Ck_init 1 0 := ⟨rfl, m_3, m_36, ⟨by decide, by decide⟩, by decide +kernel⟩
theorem k_Ck_moveOn : Kv y_Ck_moveOn R_Ck b_Ck_moveOn 1 none 0 := ⟨m_739, m_740, m_3, m_741, ⟨by decide, by decide⟩, by decide +kernel⟩
theorem k_Wi_init : Ki0 y_Wi_init b_Wi_init 1 0 := ⟨rfl, m_4, m_56, ⟨by decide, by decide⟩, by decide +kernel⟩
theorem k_Me_init : Ki0 y_Me_init b_Me_init 1 0 := ⟨rfl, m_5, m_74, ⟨by decide, by decide⟩, by decide +kernel⟩
theorem k_Me_at : Kv y_Me_at R_Me b_Me_at 3 (some .int) 1 := ⟨m_448, m_449, m_5, m_450, ⟨by decide, by decide⟩, by decide +kernel⟩
theorem k_Me_put : Kv y_Me_put R_Me b_Me_put 4 none 2 := ⟨m_437, m_438, m_5, m_439, ⟨by decide, by decide⟩, by decide +kernel⟩
theorem k_Ch_init : Ki0 y_Ch_init b_Ch_init 2 1 := ⟨rfl, m_7, m_128, ⟨by decide, by decide⟩, by decide +kernel⟩
theorem k_Ch_passCycle : Kv y_Ch_passCycle R_Ch b_Ch_passCycle 2 none 0 := ⟨m_699, m_700, m_7, m_701, ⟨by decide, by decide⟩, by decide +kernel⟩
theorem k_Ch_startTimer : Kv y_Ch_startTimer R_Ch b_Ch_startTimer 1 none 0 := ⟨m_467, m_468, m_7, m_469, ⟨by decide, by decide⟩, by decide +kernel⟩
theorem k_Ch_takeSign : Kv y_Ch_takeSign R_Ch b_Ch_takeSign 2 (some .int) 0 := ⟨m_620, m_621, m_7, m_622, ⟨by decide, by decide⟩, by decide +kernel⟩
theorem k_Ds_init : Ki0 y_Ds_init b_Ds_init 4 3 := ⟨rfl, m_8, m_151, ⟨by decide, by decide⟩, by decide +kernel⟩
theorem k_Ds_passCycle : Kv y_Ds_passCycle R_Ds b_Ds_passCycle 3 (some .boolean) 2 := ⟨m_540, m_541, m_8, m_542, ⟨by decide, by decide⟩, by decide +kernel⟩
theorem k_Ds_finishRow : Kv y_Ds_finishRow R_Ds b_Ds_finishRow 1 none 0 := ⟨m_731, m_732, m_8, m_733, ⟨by decide, by decide⟩, by decide +kernel⟩
theorem k_Ds_shownByte : Kv y_Ds_shownByte R_Ds b_Ds_shownByte 2 (some .int) 1 := ⟨m_715, m_716, m_8, m_717, ⟨by decide, by decide⟩, by decide +kernel⟩
theorem k_Ds_presentMode : Kv y_Ds_presentMode R_Ds b_Ds_presentMode 1 (some .int) 0 := ⟨m_342, m_343, m_8, m_344, ⟨by decide, by decide⟩, by decide +kernel⟩
theorem k_Ds_rowsDoneOfPresent : Kv y_Ds_rowsDoneOfPresent R_Ds b_Ds_rowsDoneOfPresent 1 (some .int) 0 := ⟨m_354, m_355, m_8, m_356, ⟨by decide, by decide⟩, by decide +kernel⟩
theorem k_Ds_isOn : Kv y_Ds_isOn R_Ds b_Ds_isOn 1 (some .boolean) 0 := ⟨m_565, al_sel (q := (y_Ds_isOn, 14)) (by decide +kernel) (by decide), m_8, m_566, ⟨by decide, by decide⟩, by decide +kernel⟩
theorem k_Ds_hasRow : Kv y_Ds_hasRow R_Ds b_Ds_hasRow 1 (some .boolean) 0 := ⟨m_347, al_sel (q := (y_Ds_hasRow, 14)) (by decide +kernel) (by decide), m_8, m_348, ⟨by decide, by decide⟩, by decide +kernel⟩
theorem k_Ds_mode : Kv y_Ds_mode R_Ds b_Ds_mode 1 (some .int) 0 := ⟨m_351, al_sel (q := (y_Ds_mode, 14)) (by decide +kernel) (by decide), m_8, m_352, ⟨by decide, by decide⟩, by decide +kernel⟩
theorem k_Ds_modeHasData : Kv y_Ds_modeHasData R_Ds b_Ds_modeHasData 1 (some .boolean) 0 := ⟨m_592, al_sel (q := (y_Ds_modeHasData, 14)) (by decide +kernel) (by decide), m_8, m_593, ⟨by decide, by decide⟩, by decide +kernel⟩
theorem k_Ds_beginLine : Kv y_Ds_beginLine R_Ds b_Ds_beginLine 2 none 1 := ⟨m_545, al_sel (q := (y_Ds_beginLine, 14)) (by decide +kernel) (by decide), m_8, m_546, ⟨by decide, by decide⟩, by decide +kernel⟩
theorem k_Ds_fetchShape : Kv y_Ds_fetchShape R_Ds b_Ds_fetchShape 3 (some .boolean) 2 := ⟨m_549, al_sel (q := (y_Ds_fetchShape, 14)) (by decide +kernel) (by decide), m_8, m_550, ⟨by decide, by decide⟩, by decide +kernel⟩
theorem k_Ds_requestNmis : Kv y_Ds_requestNmis R_Ds b_Ds_requestNmis 2 none 1 := ⟨m_554, al_sel (q := (y_Ds_requestNmis, 14)) (by decide +kernel) (by decide), m_8, m_555, ⟨by decide, by decide⟩, by decide +kernel⟩
theorem k_Ds_isInMarkedLastRow : Kv y_Ds_isInMarkedLastRow R_Ds b_Ds_isInMarkedLastRow 1 (some .boolean) 0 := ⟨m_569, al_sel (q := (y_Ds_isInMarkedLastRow, 14)) (by decide +kernel) (by decide), m_8, m_570, ⟨by decide, by decide⟩, by decide +kernel⟩
theorem k_Ds_requestNmi : Kv y_Ds_requestNmi R_Ds b_Ds_requestNmi 2 none 1 := ⟨m_558, al_sel (q := (y_Ds_requestNmi, 14)) (by decide +kernel) (by decide), m_8, m_559, ⟨by decide, by decide⟩, by decide +kernel⟩
theorem k_Ds_fetchForLine : Kv y_Ds_fetchForLine R_Ds b_Ds_fetchForLine 3 (some .boolean) 1 := ⟨m_573, al_sel (q := (y_Ds_fetchForLine, 14)) (by decide +kernel) (by decide), m_8, m_574, ⟨by decide, by decide⟩, by decide +kernel⟩
theorem k_Ds_beginModeLine : Kv y_Ds_beginModeLine R_Ds b_Ds_beginModeLine 1 (some .boolean) 0 := ⟨m_577, al_sel (q := (y_Ds_beginModeLine, 14)) (by decide +kernel) (by decide), m_8, m_578, ⟨by decide, by decide⟩, by decide +kernel⟩
theorem k_Ds_rowsOfMode : Kv y_Ds_rowsOfMode R_Ds b_Ds_rowsOfMode 1 (some .int) 0 := ⟨m_588, al_sel (q := (y_Ds_rowsOfMode, 14)) (by decide +kernel) (by decide), m_8, m_589, ⟨by decide, by decide⟩, by decide +kernel⟩
theorem k_Ds_fetchAddress : Kv y_Ds_fetchAddress R_Ds b_Ds_fetchAddress 4 (some .boolean) 1 := ⟨m_596, al_sel (q := (y_Ds_fetchAddress, 14)) (by decide +kernel) (by decide), m_8, m_597, ⟨by decide, by decide⟩, by decide +kernel⟩
theorem k_Ds_fetchData : Kv y_Ds_fetchData R_Ds b_Ds_fetchData 2 (some .boolean) 1 := ⟨m_600, al_sel (q := (y_Ds_fetchData, 14)) (by decide +kernel) (by decide), m_8, m_601, ⟨by decide, by decide⟩, by decide +kernel⟩
theorem k_Ds_fetchLetterRow : Kv y_Ds_fetchLetterRow R_Ds b_Ds_fetchLetterRow 2 (some .boolean) 1 := ⟨m_604, al_sel (q := (y_Ds_fetchLetterRow, 14)) (by decide +kernel) (by decide), m_8, m_605, ⟨by decide, by decide⟩, by decide +kernel⟩
theorem k_Ds_nextOfList : Kv y_Ds_nextOfList R_Ds b_Ds_nextOfList 2 (some .int) 0 := ⟨m_581, al_sel (q := (y_Ds_nextOfList, 14)) (by decide +kernel) (by decide), m_8, m_582, ⟨by decide, by decide⟩, by decide +kernel⟩
theorem k_Ds_movedOn : Ks y_Ds_movedOn b_Ds_movedOn 1 (some .int) 1 := ⟨m_584, m_8, m_585, ⟨by decide, by decide⟩, by decide +kernel⟩
theorem k_Pc_init : Ki0 y_Pc_init b_Pc_init 3 2 := ⟨rfl, m_9, m_205, ⟨by decide, by decide⟩, by decide +kernel⟩
theorem k_Pc_dotAt : Kv y_Pc_dotAt R_Pc b_Pc_dotAt 3 (some .int) 2 := ⟨m_766, m_767, m_9, m_768, ⟨by decide, by decide⟩, by decide +kernel⟩
theorem k_Pc_forgetCollisions : Kv y_Pc_forgetCollisions R_Pc b_Pc_forgetCollisions 1 none 0 := ⟨m_463, m_464, m_9, m_465, ⟨by decide, by decide⟩, by decide +kernel⟩
theorem k_Pc_drawLine : Kv y_Pc_drawLine R_Pc b_Pc_drawLine 8 none 1 := ⟨m_708, m_709, m_9, m_710, ⟨by decide, by decide⟩, by decide +kernel⟩
theorem k_Pc_firstDotOf : Ks y_Pc_firstDotOf b_Pc_firstDotOf 1 (some .int) 1 := ⟨m_712, m_9, m_713, ⟨by decide, by decide⟩, by decide +kernel⟩
theorem k_Pc_drawnDot : Kv y_Pc_drawnDot R_Pc b_Pc_drawnDot 6 (some .int) 2 := ⟨m_720, al_sel (q := (y_Pc_drawnDot, 5)) (by decide +kernel) (by decide), m_9, m_721, ⟨by decide, by decide⟩, by decide +kernel⟩
theorem k_Pc_collide : Kv y_Pc_collide R_Pc b_Pc_collide 3 none 2 := ⟨m_728, al_sel (q := (y_Pc_collide, 5)) (by decide +kernel) (by decide), m_9, m_729, ⟨by decide, by decide⟩, by decide +kernel⟩
theorem k_Pc_covers : Kv y_Pc_covers R_Pc b_Pc_covers 6 (some .boolean) 2 := ⟨m_724, al_sel (q := (y_Pc_covers, 5)) (by decide +kernel) (by decide), m_9, m_725, ⟨by decide, by decide⟩, by decide +kernel⟩
theorem k_Dr_init : Ki0 y_Dr_init b_Dr_init 1 0 := ⟨rfl, m_6, m_86, ⟨by decide, by decide⟩, by decide +kernel⟩
theorem k_Dr_byteOf : Kv y_Dr_byteOf R_Dr b_Dr_byteOf 3 (some .int) 2 := ⟨m_518, m_519, m_6, m_520, ⟨by decide, by decide⟩, by decide +kernel⟩
theorem k_Dr_putByte : Kv y_Dr_putByte R_Dr b_Dr_putByte 4 none 3 := ⟨m_507, m_508, m_6, m_509, ⟨by decide, by decide⟩, by decide +kernel⟩
theorem k_Dr_gather : Kv y_Dr_gather R_Dr b_Dr_gather 3 none 1 := ⟨m_471, m_472, m_6, m_473, ⟨by decide, by decide⟩, by decide +kernel⟩
theorem k_Dr_sendAnswer : Kv y_Dr_sendAnswer R_Dr b_Dr_sendAnswer 1 none 0 := ⟨m_735, m_736, m_6, m_737, ⟨by decide, by decide⟩, by decide +kernel⟩
theorem k_Dr_takeByte : Kv y_Dr_takeByte R_Dr b_Dr_takeByte 2 (some .int) 0 := ⟨m_624, m_625, m_6, m_626, ⟨by decide, by decide⟩, by decide +kernel⟩
theorem k_Dr_obeyCommand : Kv y_Dr_obeyCommand R_Dr b_Dr_obeyCommand 4 none 0 := ⟨m_493, al_sel (q := (y_Dr_obeyCommand, 10)) (by decide +kernel) (by decide), m_6, m_494, ⟨by decide, by decide⟩, by decide +kernel⟩
theorem k_Dr_storeSector : Kv y_Dr_storeSector R_Dr b_Dr_storeSector 1 none 0 := ⟨m_476, al_sel (q := (y_Dr_storeSector, 10)) (by decide +kernel) (by decide), m_6, m_477, ⟨by decide, by decide⟩, by decide +kernel⟩
theorem k_Dr_answer : Kv y_Dr_answer R_Dr b_Dr_answer 2 none 1 := ⟨m_483, al_sel (q := (y_Dr_answer, 10)) (by decide +kernel) (by decide), m_6, m_484, ⟨by decide, by decide⟩, by decide +kernel⟩
theorem k_Dr_firstByteOf : Ks y_Dr_firstByteOf b_Dr_firstByteOf 1 (some .int) 1 := ⟨m_486, m_6, m_487, ⟨by decide, by decide⟩, by decide +kernel⟩
theorem k_Dr_sum : Ks y_Dr_sum b_Dr_sum 5 (some .int) 3 := ⟨m_479, m_6, m_480, ⟨by decide, by decide⟩, by decide +kernel⟩
theorem k_Pr_init : Ki0 y_Pr_init b_Pr_init 2 1 := ⟨rfl, m_10, m_270, ⟨by decide, by decide⟩, by decide +kernel⟩
theorem k_Pr_flags : Kv y_Pr_flags R_Pr b_Pr_flags 1 (some .int) 0 := ⟨m_331, m_332, m_10, m_333, ⟨by decide, by decide⟩, by decide +kernel⟩
theorem k_Pr_passCycle : Kv y_Pr_passCycle R_Pr b_Pr_passCycle 1 (some .boolean) 0 := ⟨m_607, m_608, m_10, m_609, ⟨by decide, by decide⟩, by decide +kernel⟩
theorem k_Pr_begin : Kv y_Pr_begin R_Pr b_Pr_begin 1 none 0 := ⟨m_612, al_sel (q := (y_Pr_begin, 13)) (by decide +kernel) (by decide), m_10, m_613, ⟨by decide, by decide⟩, by decide +kernel⟩
theorem k_Pr_cyclesOf : Ks y_Pr_cyclesOf b_Pr_cyclesOf 1 (some .int) 1 := ⟨m_628, m_10, m_629, ⟨by decide, by decide⟩, by decide +kernel⟩
theorem k_Pr_enterNmi : Kv y_Pr_enterNmi R_Pr b_Pr_enterNmi 1 none 0 := ⟨m_632, al_sel (q := (y_Pr_enterNmi, 13)) (by decide +kernel) (by decide), m_10, m_633, ⟨by decide, by decide⟩, by decide +kernel⟩
theorem k_Pr_perform : Kv y_Pr_perform R_Pr b_Pr_perform 1 none 0 := ⟨m_647, al_sel (q := (y_Pr_perform, 13)) (by decide +kernel) (by decide), m_10, m_648, ⟨by decide, by decide⟩, by decide +kernel⟩
theorem k_Pr_jam : Kv y_Pr_jam R_Pr b_Pr_jam 1 none 0 := ⟨m_696, al_sel (q := (y_Pr_jam, 13)) (by decide +kernel) (by decide), m_10, m_697, ⟨by decide, by decide⟩, by decide +kernel⟩
theorem k_Pr_nextByte : Kv y_Pr_nextByte R_Pr b_Pr_nextByte 2 (some .int) 0 := ⟨m_651, al_sel (q := (y_Pr_nextByte, 13)) (by decide +kernel) (by decide), m_10, m_652, ⟨by decide, by decide⟩, by decide +kernel⟩
theorem k_Pr_nextAddress : Kv y_Pr_nextAddress R_Pr b_Pr_nextAddress 2 (some .int) 0 := ⟨m_659, al_sel (q := (y_Pr_nextAddress, 13)) (by decide +kernel) (by decide), m_10, m_660, ⟨by decide, by decide⟩, by decide +kernel⟩
theorem k_Pr_result : Kv y_Pr_result R_Pr b_Pr_result 3 (some .int) 1 := ⟨m_655, al_sel (q := (y_Pr_result, 13)) (by decide +kernel) (by decide), m_10, m_656, ⟨by decide, by decide⟩, by decide +kernel⟩
theorem k_Pr_add : Kv y_Pr_add R_Pr b_Pr_add 3 none 1 := ⟨m_664, al_sel (q := (y_Pr_add, 13)) (by decide +kernel) (by decide), m_10, m_665, ⟨by decide, by decide⟩, by decide +kernel⟩
theorem k_Pr_compare : Kv y_Pr_compare R_Pr b_Pr_compare 3 none 2 := ⟨m_668, al_sel (q := (y_Pr_compare, 13)) (by decide +kernel) (by decide), m_10, m_669, ⟨by decide, by decide⟩, by decide +kernel⟩
theorem k_Pr_change : Kv y_Pr_change R_Pr b_Pr_change 3 none 2 := ⟨m_672, al_sel (q := (y_Pr_change, 13)) (by decide +kernel) (by decide), m_10, m_673, ⟨by decide, by decide⟩, by decide +kernel⟩
theorem k_Pr_branchIf : Kv y_Pr_branchIf R_Pr b_Pr_branchIf 4 none 1 := ⟨m_680, al_sel (q := (y_Pr_branchIf, 13)) (by decide +kernel) (by decide), m_10, m_681, ⟨by decide, by decide⟩, by decide +kernel⟩
theorem k_Pr_callPart : Kv y_Pr_callPart R_Pr b_Pr_callPart 2 none 1 := ⟨m_684, al_sel (q := (y_Pr_callPart, 13)) (by decide +kernel) (by decide), m_10, m_685, ⟨by decide, by decide⟩, by decide +kernel⟩
theorem k_Pr_returnFromNmi : Kv y_Pr_returnFromNmi R_Pr b_Pr_returnFromNmi 2 none 0 := ⟨m_692, al_sel (q := (y_Pr_returnFromNmi, 13)) (by decide +kernel) (by decide), m_10, m_693, ⟨by decide, by decide⟩, by decide +kernel⟩
theorem k_Pr_push : Kv y_Pr_push R_Pr b_Pr_push 2 none 1 := ⟨m_640, al_sel (q := (y_Pr_push, 13)) (by decide +kernel) (by decide), m_10, m_641, ⟨by decide, by decide⟩, by decide +kernel⟩
theorem k_Pr_pushPlace : Kv y_Pr_pushPlace R_Pr b_Pr_pushPlace 2 none 1 := ⟨m_636, al_sel (q := (y_Pr_pushPlace, 13)) (by decide +kernel) (by decide), m_10, m_637, ⟨by decide, by decide⟩, by decide +kernel⟩
theorem k_Pr_pull : Kv y_Pr_pull R_Pr b_Pr_pull 1 (some .int) 0 := ⟨m_676, al_sel (q := (y_Pr_pull, 13)) (by decide +kernel) (by decide), m_10, m_677, ⟨by decide, by decide⟩, by decide +kernel⟩
theorem k_Pr_pullPlace : Kv y_Pr_pullPlace R_Pr b_Pr_pullPlace 2 (some .int) 0 := ⟨m_688, al_sel (q := (y_Pr_pullPlace, 13)) (by decide +kernel) (by decide), m_10, m_689, ⟨by decide, by decide⟩, by decide +kernel⟩
theorem k_Mo_init : Ki0 y_Mo_init b_Mo_init 1 0 := ⟨rfl, m_11, m_773, ⟨by decide, by decide⟩, by decide +kernel⟩
theorem k_Mo_thrown : Kv y_Mo_thrown R_Mo b_Mo_thrown 1 (some .int) 0 := ⟨m_924, m_925, m_11, m_926, ⟨by decide, by decide⟩, by decide +kernel⟩
theorem k_Mo_in : Ks y_Mo_in b_Mo_in 3 (some .boolean) 3 := ⟨m_932, m_11, m_933, ⟨by decide, by decide⟩, by decide +kernel⟩
theorem k_Mo_isByte : Ks y_Mo_isByte b_Mo_isByte 1 (some .boolean) 1 := ⟨m_1102, m_11, m_1103, ⟨by decide, by decide⟩, by decide +kernel⟩
theorem k_Mo_fails : Kv y_Mo_fails R_Mo b_Mo_fails 1 (some .int) 0 := ⟨m_936, al_sel (q := (y_Mo_fails, 49)) (by decide +kernel) (by decide), m_11, m_937, ⟨by decide, by decide⟩, by decide +kernel⟩
theorem k_Mo_control : Kv y_Mo_control R_Mo b_Mo_control 2 (some .boolean) 1 := ⟨m_956, al_sel (q := (y_Mo_control, 49)) (by decide +kernel) (by decide), m_11, m_957, ⟨by decide, by decide⟩, by decide +kernel⟩
theorem k_Mo_fetch : Kv y_Mo_fetch R_Mo b_Mo_fetch 2 (some .int) 1 := ⟨m_964, al_sel (q := (y_Mo_fetch, 49)) (by decide +kernel) (by decide), m_11, m_965, ⟨by decide, by decide⟩, by decide +kernel⟩
theorem k_Mo_read : Kv y_Mo_read R_Mo b_Mo_read 3 (some .int) 1 := ⟨m_987, al_sel (q := (y_Mo_read, 49)) (by decide +kernel) (by decide), m_11, m_988, ⟨by decide, by decide⟩, by decide +kernel⟩
theorem k_Mo_readRegister : Kv y_Mo_readRegister R_Mo b_Mo_readRegister 3 (some .int) 1 := ⟨m_991, al_sel (q := (y_Mo_readRegister, 49)) (by decide +kernel) (by decide), m_11, m_992, ⟨by decide, by decide⟩, by decide +kernel⟩
theorem k_Mo_store : Kv y_Mo_store R_Mo b_Mo_store 4 none 2 := ⟨m_1036, al_sel (q := (y_Mo_store, 49)) (by decide +kernel) (by decide), m_11, m_1037, ⟨by decide, by decide⟩, by decide +kernel⟩
theorem k_Mo_change : Kv y_Mo_change R_Mo b_Mo_change 3 none 2 := ⟨m_1040, al_sel (q := (y_Mo_change, 49)) (by decide +kernel) (by decide), m_11, m_1041, ⟨by decide, by decide⟩, by decide +kernel⟩
theorem k_Mo_summed : Ks y_Mo_summed b_Mo_summed 2 (some .int) 2 := ⟨m_1055, m_11, m_1056, ⟨by decide, by decide⟩, by decide +kernel⟩
theorem k_Mo_answer : Kv y_Mo_answer R_Mo b_Mo_answer 2 none 1 := ⟨m_1059, al_sel (q := (y_Mo_answer, 49)) (by decide +kernel) (by decide), m_11, m_1060, ⟨by decide, by decide⟩, by decide +kernel⟩
theorem k_Mo_sumOf : Kv y_Mo_sumOf R_Mo b_Mo_sumOf 4 (some .int) 1 := ⟨m_1052, al_sel (q := (y_Mo_sumOf, 49)) (by decide +kernel) (by decide), m_11, m_1053, ⟨by decide, by decide⟩, by decide +kernel⟩
theorem k_Mo_sent : Kv y_Mo_sent R_Mo b_Mo_sent 4 none 1 := ⟨m_1044, al_sel (q := (y_Mo_sent, 49)) (by decide +kernel) (by decide), m_11, m_1045, ⟨by decide, by decide⟩, by decide +kernel⟩
theorem k_Mo_command : Kv y_Mo_command R_Mo b_Mo_command 4 none 0 := ⟨m_1048, al_sel (q := (y_Mo_command, 49)) (by decide +kernel) (by decide), m_11, m_1049, ⟨by decide, by decide⟩, by decide +kernel⟩
theorem k_Mo_deliver : Kv y_Mo_deliver R_Mo b_Mo_deliver 2 none 0 := ⟨m_1095, al_sel (q := (y_Mo_deliver, 49)) (by decide +kernel) (by decide), m_11, m_1096, ⟨by decide, by decide⟩, by decide +kernel⟩
theorem k_Mo_coded : Ks y_Mo_coded b_Mo_coded 3 (some .int) 3 := ⟨m_997, m_11, m_998, ⟨by decide, by decide⟩, by decide +kernel⟩
theorem k_Mo_meaning : Ks y_Mo_meaning b_Mo_meaning 1 (some .int) 1 := ⟨m_994, m_11, m_995, ⟨by decide, by decide⟩, by decide +kernel⟩
theorem k_Mo_single : Ks y_Mo_single b_Mo_single 1 (some .int) 1 := ⟨m_1000, m_11, m_1001, ⟨by decide, by decide⟩, by decide +kernel⟩
theorem k_Mo_push : Kv y_Mo_push R_Mo b_Mo_push 2 none 1 := ⟨m_1008, al_sel (q := (y_Mo_push, 49)) (by decide +kernel) (by decide), m_11, m_1009, ⟨by decide, by decide⟩, by decide +kernel⟩
theorem k_Mo_pull : Kv y_Mo_pull R_Mo b_Mo_pull 1 (some .int) 0 := ⟨m_1028, al_sel (q := (y_Mo_pull, 49)) (by decide +kernel) (by decide), m_11, m_1029, ⟨by decide, by decide⟩, by decide +kernel⟩
theorem k_Mo_flags : Kv y_Mo_flags R_Mo b_Mo_flags 1 (some .int) 0 := ⟨m_1012, al_sel (q := (y_Mo_flags, 49)) (by decide +kernel) (by decide), m_11, m_1013, ⟨by decide, by decide⟩, by decide +kernel⟩
theorem k_Mo_set : Kv y_Mo_set R_Mo b_Mo_set 2 (some .int) 1 := ⟨m_1063, al_sel (q := (y_Mo_set, 49)) (by decide +kernel) (by decide), m_11, m_1064, ⟨by decide, by decide⟩, by decide +kernel⟩
theorem k_Mo_sum : Kv y_Mo_sum R_Mo b_Mo_sum 3 (some .int) 1 := ⟨m_1071, al_sel (q := (y_Mo_sum, 49)) (by decide +kernel) (by decide), m_11, m_1072, ⟨by decide, by decide⟩, by decide +kernel⟩
theorem k_Mo_compare : Kv y_Mo_compare R_Mo b_Mo_compare 3 none 2 := ⟨m_1075, al_sel (q := (y_Mo_compare, 49)) (by decide +kernel) (by decide), m_11, m_1076, ⟨by decide, by decide⟩, by decide +kernel⟩
theorem k_Mo_interrupt : Kv y_Mo_interrupt R_Mo b_Mo_interrupt 1 none 0 := ⟨m_1004, al_sel (q := (y_Mo_interrupt, 49)) (by decide +kernel) (by decide), m_11, m_1005, ⟨by decide, by decide⟩, by decide +kernel⟩
theorem k_Mo_steps : Kv y_Mo_steps R_Mo b_Mo_steps 1 (some .boolean) 0 := ⟨m_983, al_sel (q := (y_Mo_steps, 49)) (by decide +kernel) (by decide), m_11, m_984, ⟨by decide, by decide⟩, by decide +kernel⟩
theorem k_Mo_execute : Kv y_Mo_execute R_Mo b_Mo_execute 7 none 0 := ⟨m_1016, al_sel (q := (y_Mo_execute, 49)) (by decide +kernel) (by decide), m_11, m_1017, ⟨by decide, by decide⟩, by decide +kernel⟩
theorem k_Mo_use : Kv y_Mo_use R_Mo b_Mo_use 3 none 2 := ⟨m_1067, al_sel (q := (y_Mo_use, 49)) (by decide +kernel) (by decide), m_11, m_1068, ⟨by decide, by decide⟩, by decide +kernel⟩
theorem k_Mo_alter : Kv y_Mo_alter R_Mo b_Mo_alter 2 none 1 := ⟨m_1079, al_sel (q := (y_Mo_alter, 49)) (by decide +kernel) (by decide), m_11, m_1080, ⟨by decide, by decide⟩, by decide +kernel⟩
theorem k_Mo_isTaken : Kv y_Mo_isTaken R_Mo b_Mo_isTaken 1 (some .boolean) 0 := ⟨m_1024, al_sel (q := (y_Mo_isTaken, 49)) (by decide +kernel) (by decide), m_11, m_1025, ⟨by decide, by decide⟩, by decide +kernel⟩
theorem k_Mo_go : Kv y_Mo_go R_Mo b_Mo_go 5 none 3 := ⟨m_1020, al_sel (q := (y_Mo_go, 49)) (by decide +kernel) (by decide), m_11, m_1021, ⟨by decide, by decide⟩, by decide +kernel⟩
theorem k_Mo_comeBack : Kv y_Mo_comeBack R_Mo b_Mo_comeBack 3 none 1 := ⟨m_1032, al_sel (q := (y_Mo_comeBack, 49)) (by decide +kernel) (by decide), m_11, m_1033, ⟨by decide, by decide⟩, by decide +kernel⟩
theorem k_Mo_moved : Ks y_Mo_moved b_Mo_moved 1 (some .int) 1 := ⟨m_975, m_11, m_976, ⟨by decide, by decide⟩, by decide +kernel⟩
theorem k_Mo_isPicture : Kv y_Mo_isPicture R_Mo b_Mo_isPicture 1 (some .boolean) 0 := ⟨m_952, al_sel (q := (y_Mo_isPicture, 49)) (by decide +kernel) (by decide), m_11, m_953, ⟨by decide, by decide⟩, by decide +kernel⟩
theorem k_Mo_hasRows : Kv y_Mo_hasRows R_Mo b_Mo_hasRows 1 (some .boolean) 0 := ⟨m_960, al_sel (q := (y_Mo_hasRows, 49)) (by decide +kernel) (by decide), m_11, m_961, ⟨by decide, by decide⟩, by decide +kernel⟩
theorem k_Mo_displays : Kv y_Mo_displays R_Mo b_Mo_displays 2 (some .boolean) 0 := ⟨m_944, al_sel (q := (y_Mo_displays, 49)) (by decide +kernel) (by decide), m_11, m_945, ⟨by decide, by decide⟩, by decide +kernel⟩
theorem k_Mo_asks : Kv y_Mo_asks R_Mo b_Mo_asks 3 none 0 := ⟨m_948, al_sel (q := (y_Mo_asks, 49)) (by decide +kernel) (by decide), m_11, m_949, ⟨by decide, by decide⟩, by decide +kernel⟩
theorem k_Mo_fetches : Kv y_Mo_fetches R_Mo b_Mo_fetches 3 (some .boolean) 0 := ⟨m_968, al_sel (q := (y_Mo_fetches, 49)) (by decide +kernel) (by decide), m_11, m_969, ⟨by decide, by decide⟩, by decide +kernel⟩
theorem k_Mo_begin : Kv y_Mo_begin R_Mo b_Mo_begin 3 none 1 := ⟨m_972, al_sel (q := (y_Mo_begin, 49)) (by decide +kernel) (by decide), m_11, m_973, ⟨by decide, by decide⟩, by decide +kernel⟩
theorem k_Mo_addressed : Kv y_Mo_addressed R_Mo b_Mo_addressed 3 (some .boolean) 0 := ⟨m_979, al_sel (q := (y_Mo_addressed, 49)) (by decide +kernel) (by decide), m_11, m_980, ⟨by decide, by decide⟩, by decide +kernel⟩
theorem k_Mo_numberOf : Kv y_Mo_numberOf R_Mo b_Mo_numberOf 3 (some .int) 1 := ⟨m_1087, al_sel (q := (y_Mo_numberOf, 49)) (by decide +kernel) (by decide), m_11, m_1088, ⟨by decide, by decide⟩, by decide +kernel⟩
theorem k_Mo_isCovered : Kv y_Mo_isCovered R_Mo b_Mo_isCovered 4 (some .boolean) 2 := ⟨m_1091, al_sel (q := (y_Mo_isCovered, 49)) (by decide +kernel) (by decide), m_11, m_1092, ⟨by decide, by decide⟩, by decide +kernel⟩
theorem k_Mo_draw : Kv y_Mo_draw R_Mo b_Mo_draw 6 none 0 := ⟨m_1083, al_sel (q := (y_Mo_draw, 49)) (by decide +kernel) (by decide), m_11, m_1084, ⟨by decide, by decide⟩, by decide +kernel⟩
theorem k_Mo_tick : Kv y_Mo_tick R_Mo b_Mo_tick 4 (some .boolean) 0 := ⟨m_940, al_sel (q := (y_Mo_tick, 49)) (by decide +kernel) (by decide), m_11, m_941, ⟨by decide, by decide⟩, by decide +kernel⟩
theorem k_Mo_run : Kv y_Mo_run R_Mo b_Mo_run 4 (some .int) 1 := ⟨m_928, m_929, m_11, m_930, ⟨by decide, by decide⟩, by decide +kernel⟩
theorem k_Mo_poke : Kv y_Mo_poke R_Mo b_Mo_poke 3 none 2 := ⟨m_1098, m_1099, m_11, m_1100, ⟨by decide, by decide⟩, by decide +kernel⟩
theorem k_Mo_peek : Kv y_Mo_peek R_Mo b_Mo_peek 2 (some .int) 1 := ⟨m_1105, m_1106, m_11, m_1107, ⟨by decide, by decide⟩, by decide +kernel⟩
theorem k_Mo_write : Kv y_Mo_write R_Mo b_Mo_write 3 none 2 := ⟨m_1109, m_1110, m_11, m_1111, ⟨by decide, by decide⟩, by decide +kernel⟩
theorem k_Mo_isPlace : Ks y_Mo_isPlace b_Mo_isPlace 2 (some .boolean) 2 := ⟨m_1117, m_11, m_1118, ⟨by decide, by decide⟩, by decide +kernel⟩
theorem k_Mo_disk : Kv y_Mo_disk R_Mo b_Mo_disk 4 none 3 := ⟨m_1113, m_1114, m_11, m_1115, ⟨by decide, by decide⟩, by decide +kernel⟩
theorem k_Mo_sector : Kv y_Mo_sector R_Mo b_Mo_sector 3 (some .int) 2 := ⟨m_1120, m_1121, m_11, m_1122, ⟨by decide, by decide⟩, by decide +kernel⟩
theorem k_Mo_stick : Kv y_Mo_stick R_Mo b_Mo_stick 2 none 1 := ⟨m_1124, m_1125, m_11, m_1126, ⟨by decide, by decide⟩, by decide +kernel⟩
theorem k_Mo_dot : Kv y_Mo_dot R_Mo b_Mo_dot 3 (some .int) 2 := ⟨m_1128, m_1129, m_11, m_1130, ⟨by decide, by decide⟩, by decide +kernel⟩
theorem k_Mo_processor : Kv y_Mo_processor R_Mo b_Mo_processor 2 (some .int) 1 := ⟨m_1132, m_1133, m_11, m_1134, ⟨by decide, by decide⟩, by decide +kernel⟩
theorem k_Mo_state : Kv y_Mo_state R_Mo b_Mo_state 2 (some .int) 1 := ⟨m_1136, m_1137, m_11, m_1138, ⟨by decide, by decide⟩, by decide +kernel⟩
/-! ===== numbers: sums without overflow, masks, places in arrays ===== -/
theorem ti_add {x y : Int32} (h1 : -2147483648 ≤ x.toInt + y.toInt) (h2 : x.toInt + y.toInt < 2147483648) : (x + y).toInt = x.toInt + y.toInt := by
  rw [Int32.toInt_add]
  exact Int.bmod_eq_of_le (by omega) (by omega)
theorem ti_sub {x y : Int32} (h1 : -2147483648 ≤ x.toInt - y.toInt) (h2 : x.toInt - y.toInt < 2147483648) : (x - y).toInt = x.toInt - y.toInt := by
  rw [Int32.toInt_sub]
  exact Int.bmod_eq_of_le (by omega) (by omega)
theorem ti_mul {x y : Int32} (h1 : -2147483648 ≤ x.toInt * y.toInt) (h2 : x.toInt * y.toInt < 2147483648) : (x * y).toInt = x.toInt * y.toInt := by
  rw [Int32.toInt_mul]
  exact Int.bmod_eq_of_le (by omega) (by omega)
theorem ti_le {x y : Int32} : x ≤ y ↔ x.toInt ≤ y.toInt := Int32.le_iff_toInt_le
theorem ti_lt {x y : Int32} : x < y ↔ x.toInt < y.toInt := Int32.lt_iff_toInt_lt
theorem ti_eq {x y : Int32} : x = y ↔ x.toInt = y.toInt := Int32.toInt_inj.symm
/-- x between two numbers -/
def bt2 (a : Int) (x : Int32) (b : Int) : Prop := a ≤ x.toInt ∧ x.toInt ≤ b
theorem bt_in {a b : Int} {x : Int32} {n : Nat} (h : bt2 a x b) (ha : 0 ≤ a) (hb : b < n) : vp_in x n := vp_in_iff.mpr ⟨Int.le_trans ha h.1, Int.lt_of_le_of_lt h.2 hb⟩
theorem bt_and (x : Int32) {m : Int32} (k : Nat) (hm : m.toBitVec.toNat = 2 ^ k - 1) (hk : k ≤ 30) : bt2 0 (x &&& m) (2 ^ k - 1) := by
  have h := vp_in_iff.mp (pk_andIn x k hm hk)
  refine ⟨h.1, ?_⟩
  have h2 := h.2
  have e : ((2 ^ k : Nat) : Int) = (2 : Int) ^ k := by simp
  rw [e] at h2
  omega
theorem bt_10 (x : Int32) : bt2 0 (x &&& 1023) 1023 := bt_and x 10 (by decide) (by decide)
theorem bt_8 (x : Int32) : bt2 0 (x &&& 255) 255 := bt_and x 8 (by decide) (by decide)
theorem bt_2 (x : Int32) : bt2 0 (x &&& 3) 3 := bt_and x 2 (by decide) (by decide)
theorem i768 : (768 : Int32).toInt = 768 := by decide
theorem in768 {x : Int32} (h : ¬ (768 : Int32) ≤ x &&& 1023) : vp_in (x &&& 1023) 768 := by
  have h0 := bt_10 x
  rw [ti_le, i768] at h
  exact bt_in (a := 0) (b := 767) ⟨h0.1, by omega⟩ (by decide) (by decide)
theorem in768' {x : Int32} (h : (x &&& 1023) < 768) : vp_in (x &&& 1023) 768 := in768 (by rw [ti_le]; rw [ti_lt] at h; omega)
theorem in32 {x : Int32} (h1 : ¬ (x &&& 1023) < 768) (h2 : ¬ (32 : Int32) ≤ (x &&& 1023) - 768) : vp_in ((x &&& 1023) - 768) 32 := by
  have h0 := bt_10 x
  have e32 : (32 : Int32).toInt = 32 := by decide
  rw [ti_lt, i768] at h1
  have hs : ((x &&& 1023) - 768).toInt = (x &&& 1023).toInt - 768 := by
    rw [ti_sub] <;> rw [i768] <;> have a1 := h0.1 <;> have a2 := h0.2 <;> omega
  rw [ti_le, hs, e32] at h2
  exact vp_in_iff.mpr ⟨by rw [hs]; omega, by rw [hs]; omega⟩
theorem am0 (x : Int32) : (x &&& 1023) &&& 1023 = x &&& 1023 := by rw [Int32.and_assoc]; rfl
theorem am8 (x : Int32) : (x &&& 255) &&& 255 = x &&& 255 := by rw [Int32.and_assoc]; rfl
theorem bn_add (x y : Int32) : (x + y).toBitVec.toNat = (x.toBitVec.toNat + y.toBitVec.toNat) % 2 ^ 32 := BitVec.toNat_add ..
theorem am1 (x y : Int32) : ((x &&& 1023) + y) &&& 1023 = (x + y) &&& 1023 := by
  rw [pk_and ((x &&& 1023) + y) 10 (by decide), pk_and (x + y) 10 (by decide), pk_and x 10 (by decide), bn_add, bn_add, pk_tn (by omega)]
  congr 1
  omega
theorem nI_cl {x : Int32} (h : 0 ≤ x.toInt) : nI x.toNatClampNeg = x := by
  obtain ⟨j, hj, rfl⟩ := nI_of (x := x) (by rw [ti_lt]; exact Int.not_lt.mpr h)
  rw [nI_clamp hj]
theorem cl_toInt {x : Int32} (h : 0 ≤ x.toInt) : ((x.toNatClampNeg : Nat) : Int) = x.toInt := by
  obtain ⟨j, hj, rfl⟩ := nI_of (x := x) (by rw [ti_lt]; exact Int.not_lt.mpr h)
  rw [nI_clamp hj, nI_toInt hj]
theorem lp_lt {j n : Nat} {N : Int32} (h : j < n) (hN : N = nI n) (hn : n < 2 ^ 31) : ¬ (N ≤ 0 + nI j) := by
  rw [Int32.zero_add, hN]
  exact nI_ge h hn
theorem lp_ge {n : Nat} {N : Int32} (hN : N = nI n) : N ≤ 0 + nI n := by
  rw [Int32.zero_add, hN]
  exact Int32.le_refl _
theorem lp_in {j n : Nat} (h : j < n) (hn : n < 2 ^ 31) : vp_in (0 + nI j) n := by
  rw [Int32.zero_add]
  exact vp_in_nI h hn
theorem cl_lt (x : Int32) : x.toNatClampNeg < 2 ^ 31 := by
  by_cases h : x < 0
  · have h0 : x.toNatClampNeg = 0 := Int32.toNatClampNeg_eq_zero_iff.mpr (by rw [ti_le]; rw [ti_lt] at h; exact Int.le_of_lt h)
    rw [h0]
    decide
  · obtain ⟨j, hj, rfl⟩ := nI_of h
    rw [nI_clamp hj]
    exact hj
theorem cl_le {x : Int32} {n : Nat} (h : bt2 0 x n) : x.toNatClampNeg ≤ n := by
  have h1 := cl_toInt h.1
  have h2 := h.2
  omega
theorem lp_inL {j n N : Nat} (h : j < n) (hn : n ≤ N) (hN : N < 2 ^ 31 := by decide) : vp_in (0 + nI j) N := lp_in (Nat.lt_of_lt_of_le h hn) hN
/-- a sum over places from .. from + count - 1 of a row of N places -/
def SmOk (x y : Int32) (N : Nat) : Prop := 0 ≤ x.toInt ∧ 0 ≤ y.toInt ∧ x.toInt + y.toInt ≤ N ∧ N < 1000
theorem sm_at {x y : Int32} {N j : Nat} (h : SmOk x y N) (hj : j ≤ y.toNatClampNeg) : (x + nI j).toInt = x.toInt + j ∧ j < 1000 := by
  obtain ⟨h1, h2, h3, h4⟩ := h
  have hc := cl_toInt h2
  have hjn : (nI j).toInt = (j : Int) := nI_toInt (by omega)
  exact ⟨by rw [ti_add (by omega) (by omega), hjn], by omega⟩
theorem sm_sum {x y : Int32} {N : Nat} (h : SmOk x y N) : (x + y).toInt = x.toInt + y.toInt := by
  obtain ⟨h1, h2, h3, h4⟩ := h
  exact ti_add (by omega) (by omega)
theorem sm_lt {x y : Int32} {N j : Nat} (h : SmOk x y N) (hj : j < y.toNatClampNeg) : ¬ (x + y ≤ x + nI j) := by
  have h5 := (sm_at h (Nat.le_of_lt hj)).1
  have hc := cl_toInt h.2.1
  rw [ti_le, sm_sum h, h5]
  omega
theorem sm_ge {x y : Int32} {N : Nat} (h : SmOk x y N) : x + y ≤ x + nI y.toNatClampNeg := by
  have h5 := (sm_at h (Nat.le_refl _)).1
  have hc := cl_toInt h.2.1
  rw [ti_le, sm_sum h, h5]
  omega
theorem sm_in {x y : Int32} {N j : Nat} (h : SmOk x y N) (hj : j < y.toNatClampNeg) : vp_in (x + nI j) N := by
  have h5 := (sm_at h (Nat.le_of_lt hj)).1
  have hc := cl_toInt h.2.1
  obtain ⟨h1, h2, h3, h4⟩ := h
  exact vp_in_iff.mpr ⟨by rw [h5]; omega, by rw [h5]; omega⟩
/-! ===== what holds between calls: of the class's state, of the reference's ===== -/
def IC (σ : Sg) : Prop := bt2 0 (σ 8 3) 8 ∧ bt2 1 (σ 8 5) 8 ∧ bt2 0 (σ 8 6) 39 ∧ bt2 0 (σ 8 7) 40 ∧ (σ 3 1 = 0 ∨ σ 3 1 = 1) ∧ bt2 0 (σ 2 2) 23
def JM (τ : Sg) : Prop := bt2 0 (τ 0 43) 8 ∧ bt2 0 (τ 0 44) 8 ∧ bt2 0 (τ 0 46) 40 ∧ bt2 0 (τ 0 9) 255 ∧ bt2 0 (τ 0 5) 23 ∧ bt2 0 (τ 0 4) 15 ∧ (τ 0 16 = 0 ∨ τ 0 16 = 1) ∧ (τ 0 11 = 0 ∨ τ 0 11 = 1) ∧ (τ 0 12 = 0 ∨ τ 0 12 = 1) ∧ (τ 0 13 = 0 ∨ τ 0 13 = 1) ∧ (τ 0 44 = 0 → bt2 0 (τ 0 43) 3)
def RB (τ : Sg) : Prop := (∀ i, bt2 0 (τ 1 i) 255) ∧ bt2 0 (τ 0 4) 255 ∧ bt2 0 (τ 0 33) 255 ∧ (∀ i, bt2 0 (τ 5 i) 255) ∧ bt2 0 (τ 0 35) 255 ∧ bt2 0 (τ 0 39) 255 ∧ bt2 0 (τ 0 48) 255 ∧ bt2 0 (τ 0 40) 255
