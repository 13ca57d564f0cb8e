/-! ===== the wrappers: a call that throws is caught; ends with one cell of six slots at most ===== -/
section LAW2
variable {p : Program} {l : Launch} {e : Env} {R : Room} {s : State} {m : MethodId} {args : Array Value} {below : List Frame} {meth : Method} {c : Code} {H : Heap} {locs : List Loc} {cells slots : Nat} {Q : State → Prop} {cc : ByteArray} {pc nL : Nat} {ls : Array Slot} {rest st0 : List Value} {own : String} {D : va_G} {cI : ClassId} {ad : Nat → Nat} {σ u : Sg}
variable {y : MethodName} {b : ByteArray} {mL n ix : Nat} {ret : Option FieldType} {rm : Room} {As : List Value}
theorem Wx.gr {wd : Sg → va_W} {A1 : Nat → Prop} {H1 : Heap} (w : Wx D cI wd A1 A1 s s.heap s.heap [] σ) (g : Gr s.heap H1) : Wx D cI wd A1 A1 s s.heap H1 [] σ := ⟨w.1, g.P w.2.1, w.2.2.1, ⟨g.1, fun q h1 _ => g.2 q h1, fun _ h => by cases h⟩, w.2.2.2.2.1, w.2.2.2.2.2⟩
theorem thL {X : String} {z : ExceptionTableEntry} {ep hp ct : Nat} (F : CallFix p m c cc nL s args al own) (w : Wx D cI (wC cI ad) (AC ad) (AC ad) s s.heap s.heap [] σ) (hZ : ZT (AC ad) s) (hM : MetT l y (Cond.code y b mL ret :: al) rm (PZ (AC ad) (.ref (ad 0) :: As)) (QX X) 1 6 (fun _ => False)) (hk : Kv y R_Pm b mL ret n) (hm : Cond.methodLink own ix y ∈ al)
    (hR1 : rm.frames + 1 ≤ R.frames) (hR2 : 8 + (mL + 11) + rm.locals ≤ R.locals) (hrc : rm.cells = 1) (hrs : rm.slots = 6) (hf : 0 + 1 ≤ R.cells ∧ 0 + 6 ≤ R.slots) (hn : As.length = n) (hsz : ls.size = nL) (hst : st0 = As.reverse ++ .ref (ad 0) :: rest) (hrm : (rest.map fun v => v.category).sum ≤ 8) (hdg : decode cc pc = .ok (.invokevirtual ix, 3))
    (hz : c.exceptionTable.toList = [z]) (hz4 : (z.startPc, z.endPc, z.handlerPc, z.catchType) = (0, ep, hp, ct)) (hcov : pc < ep) (hct : ct ≠ 0) (hlink : Cond.classLink own ct X ∈ al)
    (kk : ∀ (x : Addr) (H1 : Heap), Gr s.heap H1 → W p l e R s m args below meth c H1 [] 1 6 Q (F0 m hp ls [.ref x])) : W p l e R s m args below meth c s.heap [] 0 0 Q (F0 m pc ls st0) := by
  have e1 : z.startPc = 0 := congrArg (fun q => q.1) hz4
  have e2 : z.endPc = ep := congrArg (fun q => q.2.1) hz4
  have e3 : z.handlerPc = hp := congrArg (fun q => q.2.2.1) hz4
  have e4 : z.catchType = ct := congrArg (fun q => q.2.2.2) hz4
  refine callT (mc := 1) (ms := 6) (rest := rest) (runTV (As := As) (b := ad 0) (C := R_Pm) F hM ⟨⟨hrc, hrs, hR1, hR2, pay_in F.2.2.2.2 (al_code hk.2.2.2.1), List.mem_cons_self, F.2.2.2.2 _ hk.2.2.2.1, F.2.2.2.2 _ hk.2.2.1, hk.2.2.2.2.1, len_of hk.2.2.2.2.2, F.2.2.2.2 _ hm⟩, F.2.2.2.2 _ hk.1, F.2.2.2.2 _ hk.2.1⟩
    ⟨PZ_blind, va_recv (q0 := 0) (ci := 0) w.1 w.2.1 rfl rfl, fun U hU hW => ⟨rfl, hZ.at hW.alike (fun a _ _ => by rw [hU])⟩⟩ (g := F0 m pc ls st0) rfl hn hsz hst (lv_room hrm) hdg hf) ?_
  intro x st₀ t H1 L h0 ht hW hq hL
  have hL0 : L = [] := List.eq_nil_iff_forall_not_mem.mpr (fun q hq => hL q hq)
  subst hL0
  obtain ⟨q1, ⟨cell, q2, q3, q4⟩, q5⟩ := hq
  rw [h0] at q5
  rw [ht] at q2 q5
  refine Wt.caught (own := own) (name := X) (k := cell.cls) F.2.2.2.1 rfl hz (by simp only [covers, e1, e2]; simpa using hcov) (by rw [e4]; exact hct) (by rw [e4]; exact F.2.2.2.2 _ hlink) (by rw [← hW.alike.findClass]; exact q4) q2 q3 (as_self _ _) ?_
  rw [e3]
  exact kk x H1 q5
theorem RiL {wd : Sg → va_W} {A1 : Nat → Prop} (F : CallFix p m c cc nL s args al own) (hr : meth.sig.returnType = some .int) (hlk : meth.locks = false) (w : Wx D cI wd A1 A1 s s.heap H locs u) {v : Int32} {f : Int32 × Sg} (hf : (v, u) = f) (hdg : decode cc pc = .ok (.ireturn, 1)) :
    W p l e R s m args below meth c H locs 1 6 (MQ below (va_Qi (fun r u => (r, u) = f) (Bx D cI wd A1) A1) args s 1 6 A1) (F0 m pc ls [.int v]) :=
  W.iret F.1 F.2.1 hr (fun t ht hW => ⟨⟨v, u, rfl, hf, w.bx ht hW⟩, w.2.2.2.1.F ht⟩) w.2.2.2.1.2.2 hdg hlk
end LAW2
abbrev b_La_poke : ByteArray := method_3_code
def y_La_poke : MethodName := ⟨"PictureMachineLaw", "poke", "(LPictureMachine;II)I"⟩
theorem mw_poke : Cond.codeWith y_La_poke b_La_poke 4 (some .int) [(0, 6, 9, 13)] ∈ al := al_in (ck_2 (List.mem_of_getElem? (i := 119) rfl)) (by decide)
theorem d_La_poke_0 : decode b_La_poke 0 = .ok (.aload_n 0, 1) := by decide +kernel
theorem d_La_poke_1 : decode b_La_poke 1 = .ok (.iload_n 1, 1) := by decide +kernel
theorem d_La_poke_2 : decode b_La_poke 2 = .ok (.iload_n 2, 1) := by decide +kernel
theorem d_La_poke_3 : decode b_La_poke 3 = .ok (.invokevirtual 7, 3) := by decide +kernel
theorem d_La_poke_6 : decode b_La_poke 6 = .ok (.goto 6, 3) := by decide +kernel
theorem d_La_poke_9 : decode b_La_poke 9 = .ok (.astore_n 3, 1) := by decide +kernel
theorem d_La_poke_10 : decode b_La_poke 10 = .ok (.iconst 1, 1) := by decide +kernel
theorem d_La_poke_11 : decode b_La_poke 11 = .ok (.ireturn, 1) := by decide +kernel
theorem d_La_poke_12 : decode b_La_poke 12 = .ok (.iconst 0, 1) := by decide +kernel
theorem d_La_poke_13 : decode b_La_poke 13 = .ok (.ireturn, 1) := by decide +kernel
abbrev b_La_peek : ByteArray := method_4_code
def y_La_peek : MethodName := ⟨"PictureMachineLaw", "peek", "(LPictureMachine;I[J)I"⟩
theorem mw_peek : Cond.codeWith y_La_peek b_La_peek 4 (some .int) [(0, 9, 12, 13)] ∈ al := al_in (ck_2 (List.mem_of_getElem? (i := 202) rfl)) (by decide)
theorem d_La_peek_0 : decode b_La_peek 0 = .ok (.aload_n 2, 1) := by decide +kernel
theorem d_La_peek_1 : decode b_La_peek 1 = .ok (.iconst 0, 1) := by decide +kernel
theorem d_La_peek_2 : decode b_La_peek 2 = .ok (.aload_n 0, 1) := by decide +kernel
theorem d_La_peek_3 : decode b_La_peek 3 = .ok (.iload_n 1, 1) := by decide +kernel
theorem d_La_peek_4 : decode b_La_peek 4 = .ok (.invokevirtual 15, 3) := by decide +kernel
theorem d_La_peek_7 : decode b_La_peek 7 = .ok (.i2l, 1) := by decide +kernel
theorem d_La_peek_8 : decode b_La_peek 8 = .ok (.lastore, 1) := by decide +kernel
theorem d_La_peek_9 : decode b_La_peek 9 = .ok (.goto 6, 3) := by decide +kernel
theorem d_La_peek_12 : decode b_La_peek 12 = .ok (.astore_n 3, 1) := by decide +kernel
theorem d_La_peek_13 : decode b_La_peek 13 = .ok (.iconst 1, 1) := by decide +kernel
theorem d_La_peek_14 : decode b_La_peek 14 = .ok (.ireturn, 1) := by decide +kernel
theorem d_La_peek_15 : decode b_La_peek 15 = .ok (.iconst 0, 1) := by decide +kernel
theorem d_La_peek_16 : decode b_La_peek 16 = .ok (.ireturn, 1) := by decide +kernel
abbrev b_La_write : ByteArray := method_5_code
def y_La_write : MethodName := ⟨"PictureMachineLaw", "write", "(LPictureMachine;II)I"⟩
theorem mw_write : Cond.codeWith y_La_write b_La_write 4 (some .int) [(0, 6, 9, 13)] ∈ al := al_in (ck_2 (List.mem_of_getElem? (i := 213) rfl)) (by decide)
theorem d_La_write_0 : decode b_La_write 0 = .ok (.aload_n 0, 1) := by decide +kernel
theorem d_La_write_1 : decode b_La_write 1 = .ok (.iload_n 1, 1) := by decide +kernel
theorem d_La_write_2 : decode b_La_write 2 = .ok (.iload_n 2, 1) := by decide +kernel
theorem d_La_write_3 : decode b_La_write 3 = .ok (.invokevirtual 19, 3) := by decide +kernel
theorem d_La_write_6 : decode b_La_write 6 = .ok (.goto 6, 3) := by decide +kernel
theorem d_La_write_9 : decode b_La_write 9 = .ok (.astore_n 3, 1) := by decide +kernel
theorem d_La_write_10 : decode b_La_write 10 = .ok (.iconst 1, 1) := by decide +kernel
theorem d_La_write_11 : decode b_La_write 11 = .ok (.ireturn, 1) := by decide +kernel
theorem d_La_write_12 : decode b_La_write 12 = .ok (.iconst 0, 1) := by decide +kernel
theorem d_La_write_13 : decode b_La_write 13 = .ok (.ireturn, 1) := by decide +kernel
abbrev b_La_disk : ByteArray := method_6_code
def y_La_disk : MethodName := ⟨"PictureMachineLaw", "disk", "(LPictureMachine;III)I"⟩
theorem mw_disk : Cond.codeWith y_La_disk b_La_disk 5 (some .int) [(0, 7, 10, 13)] ∈ al := al_in (ck_3 (List.mem_of_getElem? (i := 20) rfl)) (by decide)
theorem d_La_disk_0 : decode b_La_disk 0 = .ok (.aload_n 0, 1) := by decide +kernel
theorem d_La_disk_1 : decode b_La_disk 1 = .ok (.iload_n 1, 1) := by decide +kernel
theorem d_La_disk_2 : decode b_La_disk 2 = .ok (.iload_n 2, 1) := by decide +kernel
theorem d_La_disk_3 : decode b_La_disk 3 = .ok (.iload_n 3, 1) := by decide +kernel
theorem d_La_disk_4 : decode b_La_disk 4 = .ok (.invokevirtual 22, 3) := by decide +kernel
theorem d_La_disk_7 : decode b_La_disk 7 = .ok (.goto 7, 3) := by decide +kernel
theorem d_La_disk_10 : decode b_La_disk 10 = .ok (.astore 4, 2) := by decide +kernel
theorem d_La_disk_12 : decode b_La_disk 12 = .ok (.iconst 1, 1) := by decide +kernel
theorem d_La_disk_13 : decode b_La_disk 13 = .ok (.ireturn, 1) := by decide +kernel
theorem d_La_disk_14 : decode b_La_disk 14 = .ok (.iconst 0, 1) := by decide +kernel
theorem d_La_disk_15 : decode b_La_disk 15 = .ok (.ireturn, 1) := by decide +kernel
abbrev b_La_sector : ByteArray := method_7_code
def y_La_sector : MethodName := ⟨"PictureMachineLaw", "sector", "(LPictureMachine;II[J)I"⟩
theorem mw_sector : Cond.codeWith y_La_sector b_La_sector 5 (some .int) [(0, 10, 13, 13)] ∈ al := al_in (ck_3 (List.mem_of_getElem? (i := 32) rfl)) (by decide)
theorem d_La_sector_0 : decode b_La_sector 0 = .ok (.aload_n 3, 1) := by decide +kernel
theorem d_La_sector_1 : decode b_La_sector 1 = .ok (.iconst 0, 1) := by decide +kernel
theorem d_La_sector_2 : decode b_La_sector 2 = .ok (.aload_n 0, 1) := by decide +kernel
theorem d_La_sector_3 : decode b_La_sector 3 = .ok (.iload_n 1, 1) := by decide +kernel
theorem d_La_sector_4 : decode b_La_sector 4 = .ok (.iload_n 2, 1) := by decide +kernel
theorem d_La_sector_5 : decode b_La_sector 5 = .ok (.invokevirtual 26, 3) := by decide +kernel
theorem d_La_sector_8 : decode b_La_sector 8 = .ok (.i2l, 1) := by decide +kernel
theorem d_La_sector_9 : decode b_La_sector 9 = .ok (.lastore, 1) := by decide +kernel
theorem d_La_sector_10 : decode b_La_sector 10 = .ok (.goto 7, 3) := by decide +kernel
theorem d_La_sector_13 : decode b_La_sector 13 = .ok (.astore 4, 2) := by decide +kernel
theorem d_La_sector_15 : decode b_La_sector 15 = .ok (.iconst 1, 1) := by decide +kernel
theorem d_La_sector_16 : decode b_La_sector 16 = .ok (.ireturn, 1) := by decide +kernel
theorem d_La_sector_17 : decode b_La_sector 17 = .ok (.iconst 0, 1) := by decide +kernel
theorem d_La_sector_18 : decode b_La_sector 18 = .ok (.ireturn, 1) := by decide +kernel
abbrev b_La_stick : ByteArray := method_8_code
def y_La_stick : MethodName := ⟨"PictureMachineLaw", "stick", "(LPictureMachine;I)I"⟩
theorem mw_stick : Cond.codeWith y_La_stick b_La_stick 3 (some .int) [(0, 5, 8, 13)] ∈ al := al_in (ck_3 (List.mem_of_getElem? (i := 43) rfl)) (by decide)
theorem d_La_stick_0 : decode b_La_stick 0 = .ok (.aload_n 0, 1) := by decide +kernel
theorem d_La_stick_1 : decode b_La_stick 1 = .ok (.iload_n 1, 1) := by decide +kernel
theorem d_La_stick_2 : decode b_La_stick 2 = .ok (.invokevirtual 30, 3) := by decide +kernel
theorem d_La_stick_5 : decode b_La_stick 5 = .ok (.goto 6, 3) := by decide +kernel
theorem d_La_stick_8 : decode b_La_stick 8 = .ok (.astore_n 2, 1) := by decide +kernel
theorem d_La_stick_9 : decode b_La_stick 9 = .ok (.iconst 1, 1) := by decide +kernel
theorem d_La_stick_10 : decode b_La_stick 10 = .ok (.ireturn, 1) := by decide +kernel
theorem d_La_stick_11 : decode b_La_stick 11 = .ok (.iconst 0, 1) := by decide +kernel
theorem d_La_stick_12 : decode b_La_stick 12 = .ok (.ireturn, 1) := by decide +kernel
abbrev b_La_run : ByteArray := method_9_code
def y_La_run : MethodName := ⟨"PictureMachineLaw", "run", "(LPictureMachine;I[J)I"⟩
theorem mw_run : Cond.codeWith y_La_run b_La_run 4 (some .int) [(0, 9, 12, 13)] ∈ al := al_in (ck_3 (List.mem_of_getElem? (i := 50) rfl)) (by decide)
theorem d_La_run_0 : decode b_La_run 0 = .ok (.aload_n 2, 1) := by decide +kernel
theorem d_La_run_1 : decode b_La_run 1 = .ok (.iconst 0, 1) := by decide +kernel
theorem d_La_run_2 : decode b_La_run 2 = .ok (.aload_n 0, 1) := by decide +kernel
theorem d_La_run_3 : decode b_La_run 3 = .ok (.iload_n 1, 1) := by decide +kernel
theorem d_La_run_4 : decode b_La_run 4 = .ok (.invokevirtual 34, 3) := by decide +kernel
theorem d_La_run_7 : decode b_La_run 7 = .ok (.i2l, 1) := by decide +kernel
theorem d_La_run_8 : decode b_La_run 8 = .ok (.lastore, 1) := by decide +kernel
theorem d_La_run_9 : decode b_La_run 9 = .ok (.goto 6, 3) := by decide +kernel
theorem d_La_run_12 : decode b_La_run 12 = .ok (.astore_n 3, 1) := by decide +kernel
theorem d_La_run_13 : decode b_La_run 13 = .ok (.iconst 1, 1) := by decide +kernel
theorem d_La_run_14 : decode b_La_run 14 = .ok (.ireturn, 1) := by decide +kernel
theorem d_La_run_15 : decode b_La_run 15 = .ok (.iconst 0, 1) := by decide +kernel
theorem d_La_run_16 : decode b_La_run 16 = .ok (.ireturn, 1) := by decide +kernel
abbrev b_La_dot : ByteArray := method_10_code
def y_La_dot : MethodName := ⟨"PictureMachineLaw", "dot", "(LPictureMachine;II[J)I"⟩
theorem mw_dot : Cond.codeWith y_La_dot b_La_dot 5 (some .int) [(0, 10, 13, 40)] ∈ al := al_in (ck_4 (List.mem_of_getElem? (i := 24) rfl)) (by decide)
theorem d_La_dot_0 : decode b_La_dot 0 = .ok (.aload_n 3, 1) := by decide +kernel
theorem d_La_dot_1 : decode b_La_dot 1 = .ok (.iconst 0, 1) := by decide +kernel
theorem d_La_dot_2 : decode b_La_dot 2 = .ok (.aload_n 0, 1) := by decide +kernel
theorem d_La_dot_3 : decode b_La_dot 3 = .ok (.iload_n 1, 1) := by decide +kernel
theorem d_La_dot_4 : decode b_La_dot 4 = .ok (.iload_n 2, 1) := by decide +kernel
theorem d_La_dot_5 : decode b_La_dot 5 = .ok (.invokevirtual 37, 3) := by decide +kernel
theorem d_La_dot_8 : decode b_La_dot 8 = .ok (.i2l, 1) := by decide +kernel
theorem d_La_dot_9 : decode b_La_dot 9 = .ok (.lastore, 1) := by decide +kernel
theorem d_La_dot_10 : decode b_La_dot 10 = .ok (.goto 7, 3) := by decide +kernel
theorem d_La_dot_13 : decode b_La_dot 13 = .ok (.astore 4, 2) := by decide +kernel
theorem d_La_dot_15 : decode b_La_dot 15 = .ok (.iconst 1, 1) := by decide +kernel
theorem d_La_dot_16 : decode b_La_dot 16 = .ok (.ireturn, 1) := by decide +kernel
theorem d_La_dot_17 : decode b_La_dot 17 = .ok (.iconst 0, 1) := by decide +kernel
theorem d_La_dot_18 : decode b_La_dot 18 = .ok (.ireturn, 1) := by decide +kernel
def fL_poke (σ : Sg) (x1 x2 : Int32) : Int32 × Sg := if f_Pm_poke_r4 x2 (f_Pm_isMemory x1) = 0 then (1, σ) else (0, f_Pm_poke σ x1 x2)
theorem c_La_poke (l : Launch) (htr : l.stackTraces = false) (D : va_G) (cI : ClassId) (ad : Nat → Nat) (σ : Sg) (x1 x2 : Int32) : Met l y_La_poke (Cond.codeWith y_La_poke b_La_poke 4 (some .int) [(0, 6, 9, 13)] :: al) { frames := 8, cells := 1, slots := 6, locals := 150 } (va_Pc [.ref (ad 0), .int x1, .int x2] (BL D cI ad σ)) (va_Qi (fun r u => (r, u) = fL_poke σ x1 x2) (Bx D cI (wC cI ad) (AC ad)) (AC ad)) 1 6 (AC ad) := by
  refine ML l (by decide) (Nat.le_of_ble_eq_true rfl) ?_
  intro p e s m below meth c ls z F hB hz hz4 hr hlk hl
  obtain ⟨⟨hP, hK, hD, hN⟩, hZ⟩ := hB
  have F : CallFix p m c b_La_poke 4 s _ al "PictureMachineLaw" := F
  have hl : lv_has ls 4 [(0, .ref (ad 0)), (1, .int x1), (2, .int x2)] := hl
  have w : Wx D cI (wC cI ad) (AC ad) (AC ad) s s.heap s.heap [] σ := ⟨hK, hP, hD, va_S.rf, hN, fun _ h => h⟩
  have hcs : (0 : Nat) ≤ 1 ∧ (0 : Nat) ≤ 6 := ⟨Nat.zero_le _, Nat.zero_le _⟩
  refine lv_aload_n (pc := 0) F.1 F.2.1 d_La_poke_0 rfl (lv_at hl 0 rfl) ?_
  refine lv_iload_n (pc := 1) F.1 F.2.1 d_La_poke_1 rfl (lv_at hl 1 rfl) ?_
  refine lv_iload_n (pc := 2) F.1 F.2.1 d_La_poke_2 rfl (lv_at hl 2 rfl) ?_
  by_cases hv : f_Pm_poke_r4 x2 (f_Pm_isMemory x1) = 0
  · refine thL (pc := 3) (As := [.int x1, .int x2]) (rest := []) F w hZ (t_Pm_poke l htr (AC ad) ad x1 x2 hv) k_Pm_poke m_361 (Nat.le_of_ble_eq_true rfl) (Nat.le_of_ble_eq_true rfl) rfl rfl ⟨Nat.le_refl _, Nat.le_refl _⟩ rfl hl.1 rfl (Nat.zero_le _) d_La_poke_3 hz hz4 (by decide) (by decide) m_360 (fun x H g => ?_)
    refine lv_astore_n (pc := 9) F.1 F.2.1 d_La_poke_9 rfl hl (by decide) rfl (fun ls hl => ?_)
    refine lv_iconst (pc := 10) (v := 1) F.1 F.2.1 d_La_poke_10 (by decide) ?_
    exact RiL (pc := 11) F hr hlk (w.gr g) (by exact Eq.symm (if_pos hv)) d_La_poke_11
  · refine Cvv (pc := 3) (As := [.int x1, .int x2]) (rest := []) F w (c_Pm_poke l D cI ad σ x1 x2 hv) 0 rfl rfl k_Pm_poke m_361 (Nat.le_of_ble_eq_true rfl) (Nat.le_of_ble_eq_true rfl) ⟨rfl, rfl⟩ rfl hl.1 rfl (Nat.zero_le _) d_La_poke_3 hcs (fun u H locs e_u w => ?_)
    refine lv_goto (pc := 6) F.1 F.2.1 d_La_poke_6 (tgt := 12) (by decide) ?_
    refine lv_iconst (pc := 12) (v := 0) F.1 F.2.1 d_La_poke_12 (by decide) ?_
    refine W.widen (k := 1) (n := 6) (Nat.zero_le _) (Nat.zero_le _) ?_
    exact RiL (pc := 13) F hr hlk w (by rw [e_u]; exact Eq.symm (if_neg hv)) d_La_poke_13
def fL_write (σ : Sg) (x1 x2 : Int32) : Int32 × Sg := if f_Pm_write_r1 x1 x2 = 0 then (1, σ) else (0, f_Pm_write σ x1 x2)
theorem c_La_write (l : Launch) (htr : l.stackTraces = false) (D : va_G) (cI : ClassId) (ad : Nat → Nat) (σ : Sg) (x1 x2 : Int32) (hI : IC σ) : Met l y_La_write (Cond.codeWith y_La_write b_La_write 4 (some .int) [(0, 6, 9, 13)] :: al) { frames := 8, cells := 1, slots := 6, locals := 152 } (va_Pc [.ref (ad 0), .int x1, .int x2] (BL D cI ad σ)) (va_Qi (fun r u => (r, u) = fL_write σ x1 x2) (Bx D cI (wC cI ad) (AC ad)) (AC ad)) 1 6 (AC ad) := by
  refine ML l (by decide) (Nat.le_of_ble_eq_true rfl) ?_
  intro p e s m below meth c ls z F hB hz hz4 hr hlk hl
  obtain ⟨⟨hP, hK, hD, hN⟩, hZ⟩ := hB
  have F : CallFix p m c b_La_write 4 s _ al "PictureMachineLaw" := F
  have hl : lv_has ls 4 [(0, .ref (ad 0)), (1, .int x1), (2, .int x2)] := hl
  have w : Wx D cI (wC cI ad) (AC ad) (AC ad) s s.heap s.heap [] σ := ⟨hK, hP, hD, va_S.rf, hN, fun _ h => h⟩
  have hcs : (0 : Nat) ≤ 1 ∧ (0 : Nat) ≤ 6 := ⟨Nat.zero_le _, Nat.zero_le _⟩
  refine lv_aload_n (pc := 0) F.1 F.2.1 d_La_write_0 rfl (lv_at hl 0 rfl) ?_
  refine lv_iload_n (pc := 1) F.1 F.2.1 d_La_write_1 rfl (lv_at hl 1 rfl) ?_
  refine lv_iload_n (pc := 2) F.1 F.2.1 d_La_write_2 rfl (lv_at hl 2 rfl) ?_
  by_cases hv : f_Pm_write_r1 x1 x2 = 0
  · refine thL (pc := 3) (As := [.int x1, .int x2]) (rest := []) F w hZ (t_Pm_write l htr (AC ad) ad x1 x2 hv) k_Pm_write m_454 (Nat.le_of_ble_eq_true rfl) (Nat.le_of_ble_eq_true rfl) rfl rfl ⟨Nat.le_refl _, Nat.le_refl _⟩ rfl hl.1 rfl (Nat.zero_le _) d_La_write_3 hz hz4 (by decide) (by decide) m_360 (fun x H g => ?_)
    refine lv_astore_n (pc := 9) F.1 F.2.1 d_La_write_9 rfl hl (by decide) rfl (fun ls hl => ?_)
    refine lv_iconst (pc := 10) (v := 1) F.1 F.2.1 d_La_write_10 (by decide) ?_
    exact RiL (pc := 11) F hr hlk (w.gr g) (by exact Eq.symm (if_pos hv)) d_La_write_11
  · refine Cvv (pc := 3) (As := [.int x1, .int x2]) (rest := []) F w (c_Pm_write l D cI ad σ x1 x2 hI hv) 0 rfl rfl k_Pm_write m_454 (Nat.le_of_ble_eq_true rfl) (Nat.le_of_ble_eq_true rfl) ⟨rfl, rfl⟩ rfl hl.1 rfl (Nat.zero_le _) d_La_write_3 hcs (fun u H locs e_u w => ?_)
    refine lv_goto (pc := 6) F.1 F.2.1 d_La_write_6 (tgt := 12) (by decide) ?_
    refine lv_iconst (pc := 12) (v := 0) F.1 F.2.1 d_La_write_12 (by decide) ?_
    refine W.widen (k := 1) (n := 6) (Nat.zero_le _) (Nat.zero_le _) ?_
    exact RiL (pc := 13) F hr hlk w (by rw [e_u]; exact Eq.symm (if_neg hv)) d_La_write_13
def fL_disk (σ : Sg) (x1 x2 x3 : Int32) : Int32 × Sg := if f_Pm_disk_r5 x3 (f_Pm_isPlaceOnDisk x1 x2) = 0 then (1, σ) else (0, f_Pm_disk σ x1 x2 x3)
theorem c_La_disk (l : Launch) (htr : l.stackTraces = false) (D : va_G) (cI : ClassId) (ad : Nat → Nat) (σ : Sg) (x1 x2 x3 : Int32) : Met l y_La_disk (Cond.codeWith y_La_disk b_La_disk 5 (some .int) [(0, 7, 10, 13)] :: al) { frames := 8, cells := 1, slots := 6, locals := 151 } (va_Pc [.ref (ad 0), .int x1, .int x2, .int x3] (BL D cI ad σ)) (va_Qi (fun r u => (r, u) = fL_disk σ x1 x2 x3) (Bx D cI (wC cI ad) (AC ad)) (AC ad)) 1 6 (AC ad) := by
  refine ML l (by decide) (Nat.le_of_ble_eq_true rfl) ?_
  intro p e s m below meth c ls z F hB hz hz4 hr hlk hl
  obtain ⟨⟨hP, hK, hD, hN⟩, hZ⟩ := hB
  have F : CallFix p m c b_La_disk 5 s _ al "PictureMachineLaw" := F
  have hl : lv_has ls 5 [(0, .ref (ad 0)), (1, .int x1), (2, .int x2), (3, .int x3)] := hl
  have w : Wx D cI (wC cI ad) (AC ad) (AC ad) s s.heap s.heap [] σ := ⟨hK, hP, hD, va_S.rf, hN, fun _ h => h⟩
  have hcs : (0 : Nat) ≤ 1 ∧ (0 : Nat) ≤ 6 := ⟨Nat.zero_le _, Nat.zero_le _⟩
  refine lv_aload_n (pc := 0) F.1 F.2.1 d_La_disk_0 rfl (lv_at hl 0 rfl) ?_
  refine lv_iload_n (pc := 1) F.1 F.2.1 d_La_disk_1 rfl (lv_at hl 1 rfl) ?_
  refine lv_iload_n (pc := 2) F.1 F.2.1 d_La_disk_2 rfl (lv_at hl 2 rfl) ?_
  refine lv_iload_n (pc := 3) F.1 F.2.1 d_La_disk_3 rfl (lv_at hl 3 rfl) ?_
  by_cases hv : f_Pm_disk_r5 x3 (f_Pm_isPlaceOnDisk x1 x2) = 0
  · refine thL (pc := 4) (As := [.int x1, .int x2, .int x3]) (rest := []) F w hZ (t_Pm_disk l htr (AC ad) ad x1 x2 x3 hv) k_Pm_disk m_501 (Nat.le_of_ble_eq_true rfl) (Nat.le_of_ble_eq_true rfl) rfl rfl ⟨Nat.le_refl _, Nat.le_refl _⟩ rfl hl.1 rfl (Nat.zero_le _) d_La_disk_4 hz hz4 (by decide) (by decide) m_360 (fun x H g => ?_)
    refine lv_astore (pc := 10) F.1 F.2.1 d_La_disk_10 hl (by decide) rfl (fun ls hl => ?_)
    refine lv_iconst (pc := 12) (v := 1) F.1 F.2.1 d_La_disk_12 (by decide) ?_
    exact RiL (pc := 13) F hr hlk (w.gr g) (by exact Eq.symm (if_pos hv)) d_La_disk_13
  · refine Cvv (pc := 4) (As := [.int x1, .int x2, .int x3]) (rest := []) F w (c_Pm_disk l D cI ad σ x1 x2 x3 hv) 0 rfl rfl k_Pm_disk m_501 (Nat.le_of_ble_eq_true rfl) (Nat.le_of_ble_eq_true rfl) ⟨rfl, rfl⟩ rfl hl.1 rfl (Nat.zero_le _) d_La_disk_4 hcs (fun u H locs e_u w => ?_)
    refine lv_goto (pc := 7) F.1 F.2.1 d_La_disk_7 (tgt := 14) (by decide) ?_
    refine lv_iconst (pc := 14) (v := 0) F.1 F.2.1 d_La_disk_14 (by decide) ?_
    refine W.widen (k := 1) (n := 6) (Nat.zero_le _) (Nat.zero_le _) ?_
    exact RiL (pc := 15) F hr hlk w (by rw [e_u]; exact Eq.symm (if_neg hv)) d_La_disk_15
def fL_stick (σ : Sg) (x1 : Int32) : Int32 × Sg := if f_Pm_isByte x1 = 0 then (1, σ) else (0, f_Pm_stick σ x1)
theorem c_La_stick (l : Launch) (htr : l.stackTraces = false) (D : va_G) (cI : ClassId) (ad : Nat → Nat) (σ : Sg) (x1 : Int32) : Met l y_La_stick (Cond.codeWith y_La_stick b_La_stick 3 (some .int) [(0, 5, 8, 13)] :: al) { frames := 8, cells := 1, slots := 6, locals := 149 } (va_Pc [.ref (ad 0), .int x1] (BL D cI ad σ)) (va_Qi (fun r u => (r, u) = fL_stick σ x1) (Bx D cI (wC cI ad) (AC ad)) (AC ad)) 1 6 (AC ad) := by
  refine ML l (by decide) (Nat.le_of_ble_eq_true rfl) ?_
  intro p e s m below meth c ls z F hB hz hz4 hr hlk hl
  obtain ⟨⟨hP, hK, hD, hN⟩, hZ⟩ := hB
  have F : CallFix p m c b_La_stick 3 s _ al "PictureMachineLaw" := F
  have hl : lv_has ls 3 [(0, .ref (ad 0)), (1, .int x1)] := hl
  have w : Wx D cI (wC cI ad) (AC ad) (AC ad) s s.heap s.heap [] σ := ⟨hK, hP, hD, va_S.rf, hN, fun _ h => h⟩
  have hcs : (0 : Nat) ≤ 1 ∧ (0 : Nat) ≤ 6 := ⟨Nat.zero_le _, Nat.zero_le _⟩
  refine lv_aload_n (pc := 0) F.1 F.2.1 d_La_stick_0 rfl (lv_at hl 0 rfl) ?_
  refine lv_iload_n (pc := 1) F.1 F.2.1 d_La_stick_1 rfl (lv_at hl 1 rfl) ?_
  by_cases hv : f_Pm_isByte x1 = 0
  · refine thL (pc := 2) (As := [.int x1]) (rest := []) F w hZ (t_Pm_stick l htr (AC ad) ad x1 hv) k_Pm_stick m_524 (Nat.le_of_ble_eq_true rfl) (Nat.le_of_ble_eq_true rfl) rfl rfl ⟨Nat.le_refl _, Nat.le_refl _⟩ rfl hl.1 rfl (Nat.zero_le _) d_La_stick_2 hz hz4 (by decide) (by decide) m_360 (fun x H g => ?_)
    refine lv_astore_n (pc := 8) F.1 F.2.1 d_La_stick_8 rfl hl (by decide) rfl (fun ls hl => ?_)
    refine lv_iconst (pc := 9) (v := 1) F.1 F.2.1 d_La_stick_9 (by decide) ?_
    exact RiL (pc := 10) F hr hlk (w.gr g) (by exact Eq.symm (if_pos hv)) d_La_stick_10
  · refine Cvv (pc := 2) (As := [.int x1]) (rest := []) F w (c_Pm_stick l D cI ad σ x1 hv) 0 rfl rfl k_Pm_stick m_524 (Nat.le_of_ble_eq_true rfl) (Nat.le_of_ble_eq_true rfl) ⟨rfl, rfl⟩ rfl hl.1 rfl (Nat.zero_le _) d_La_stick_2 hcs (fun u H locs e_u w => ?_)
    refine lv_goto (pc := 5) F.1 F.2.1 d_La_stick_5 (tgt := 11) (by decide) ?_
    refine lv_iconst (pc := 11) (v := 0) F.1 F.2.1 d_La_stick_11 (by decide) ?_
    refine W.widen (k := 1) (n := 6) (Nat.zero_le _) (Nat.zero_le _) ?_
    exact RiL (pc := 12) F hr hlk w (by rw [e_u]; exact Eq.symm (if_neg hv)) d_La_stick_12
