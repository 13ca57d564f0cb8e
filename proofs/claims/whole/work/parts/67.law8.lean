/-! THE CLAIM OUT OF ONE WALK OF THE LAW'S BODY. Your part is whole_start (and what it stands on); all else here is the same for every law, but numbers. -/
def R_law : String := "PictureMachineLaw"
def lw_P (b : Addr) (xs : List Int32) (args : Array Value) (s : State) : Prop := args = #[.ref b] ∧ s.IntsAt b xs ∧ xs.length ≤ 2048 ∧ (Jvm.Cond.and given_1 narrow_1).before args s = true
def lw_Q (_ : Array Value) (s : State) (o : Outcome) (t : State) : Prop := o = .returned (some (.int 1)) ∧ Framed s o t [] 1056 10947
def lw_Z (below : List Frame) (a : Array Value) (s : State) : State → Prop := fun t => ∃ o, t.status = .running ∧ Ended t below o ∧ lw_Q a s o t
/-- the law's own end, with 1 on the stack, nothing written that was there before, its room as the claim has it -/
theorem lw_ret {p : Program} {l : Launch} {e : Env} {s : State} {m : MethodId} {below : List Frame} {meth : Method} {c : Code} {b : Nat} (hx : p.tables.exec = Jvm.exec) (hb : c.code = code) (hr : meth.sig.returnType = ret) (hlocks : meth.locks = false) {pc : Nat} {H : Heap} {ls : Array Slot} (hdg : decode code pc = .ok (.ireturn, 1)) : W p l e room_1 s m #[Value.ref b] below meth c H [] 1056 10947 (lw_Z below #[Value.ref b] s) (F0 m pc ls [.int 1]) := by
  intro T hT X
  obtain ⟨fs, hret, hrun, hended, hW, hframe⟩ := X.leave (v := some (.int 1)) (hlocks := hlocks) (fun h => by rw [hr] at h; cases h)
  have hmeth' : T.vm.method? m = some meth := X.method'
  refine ⟨T.setFrames fs, ?_, .returned (some (.int 1)), hrun, hended, rfl, ⟨_, rfl⟩, hW, hframe⟩
  jvm_step X.here [X.here.top, hx, hb, hdg, hmeth', hr, ret, narrow_b1]
  (try refine ⟨rfl, ?_⟩); (try refine ⟨rfl, ?_⟩)
  first | (intro acts; rw [hret _ acts rfl rfl rfl]) | rw [hret _ _ rfl rfl rfl]
  exact Steps.refl _
/-- what holds at the law's entry: the machine, the code, the tables' words (any of lw_tbl by 'hts w (by decide +kernel)'), the script of L ints xs at the cell b, what the Statement gives of the start (any of its parts by flat_of_before) -/
def lw_At (p : Program) (s : State) (m : MethodId) (meth : Method) (c : Code) (b L : Nat) (xs : Nat → Int32) : Prop :=
  p.tables.exec = Jvm.exec ∧ c.code = code ∧ meth.sig.returnType = ret ∧ c.maxLocals = 7 ∧ s.vm.findClass R_law = some m.cls ∧ (∀ w ∈ lw_tbl, w.before #[Value.ref b] s = true) ∧ va_X b L xs s s.heap ∧ b < s.heap.size ∧ meth.locks = false ∧ (Jvm.Cond.and given_1 narrow_1).before #[Value.ref b] s = true
theorem hd_sub {L : Nat} (hL : L ≤ 2048) : (Int32.ofNat L - 4).toInt = (L : Int) - 4 := by
  rw [Int32.toInt_sub, show (Int32.ofNat L).toInt = (L : Int) from nI_toInt (n := L) (by omega), show (4 : Int32).toInt = 4 from rfl]
  exact Int.bmod_eq_of_le (by omega) (by omega)
theorem hd_lt {L k : Nat} (hL : L ≤ 2048) (hk : k ≤ 2048) : (Int32.ofNat L - 4 < nI k) ↔ L < k + 4 := by
  rw [Int32.lt_iff_toInt_lt, hd_sub hL, nI_toInt (n := k) (by omega)]
  omega
theorem nI_k {c N k : Nat} (h : c + k < N) (hN : N < 2 ^ 31) (x : Int32) (hx : x = nI k) : vp_in (nI c + x) N := by
  rw [hx, nI_add]
  exact nI_in h hN
section LAW8
variable {Rel : Sg → Sg → Prop} {p : Program} {l : Launch} {e : Env} {s : State} {m : MethodId} {below : List Frame} {meth : Method} {c : Code} {H : Heap} {locs : List Loc} {cells slots : Nat} {Q : State → Prop} {ls : Array Slot} {D : va_G} {cI cL : ClassId} {ad am : Nat → Nat} {o : Nat} {A : Nat → Prop} {σ τ : Sg} {g : Nat → Int64} {b L : Nat} {xs : Nat → Int32} {i : Int32}
theorem law_loop (hR : RelOk Rel) (htr : l.stackTraces = false) (F : CallFix p m c code 7 s #[Value.ref b] al "PictureMachineLaw") (x : FX D cI cL ad am o A s) (hX : va_X b L xs s s.heap) (hb1 : b < s.heap.size) (hb2 : ¬ A b) (hA : ∀ q, A q → s.heap.size ≤ q) (hL : L ≤ 2048) (hret : meth.sig.returnType = ret) (hlk : meth.locks = false) : ∀ (d j : Nat) (σ τ : Sg) (g : Nat → Int64) (H : Heap) (locs : List Loc) (ls : Array Slot), L < 4 * j + 4 * d + 4 → 4 * j ≤ L → LW D cI cL ad am o A s H locs σ τ g → Rel σ τ → lv_has ls 7 [(0, .ref b), (1, .ref (ad 0)), (2, .ref (am 0)), (3, .ref o), (4, .int (nI (4 * j)))] → W p l e room_1 s m #[Value.ref b] below meth c H locs (30 + j) (2743 + 6 * j) (lw_Z below #[Value.ref b] s) (F0 m 23 ls []) := by
  intro d
  induction d with
  | zero =>
    intro j σ τ g H locs ls hd hj w hr hl
    refine lv_iload (pc := 23) F.1 F.2.1 d_La_law_23 (lv_at hl 4 rfl) ?_
    refine lv_aload_n (pc := 25) F.1 F.2.1 d_La_law_25 rfl (lv_at hl 0 rfl) ?_
    refine va_slen (pc := 26) F.1 F.2.1 hX hb1 hb2 w.2.2.2 d_La_law_26 ?_
    refine lv_iconst (pc := 27) (v := 4) F.1 F.2.1 d_La_law_27 (by decide) ?_
    refine lv_isub (pc := 28) F.1 F.2.1 d_La_law_28 ?_
    refine lv_icmp_gt (pc := 29) F.1 F.2.1 d_La_law_29 (tgt := 588) (by decide) (fun _ => ?_) (fun hn => absurd ((hd_lt hL (by omega)).mpr (by omega)) hn)
    refine lv_iconst (pc := 588) (v := 1) F.1 F.2.1 d_La_law_588 (by decide) ?_
    refine va_forget (fun q hq => hA _ (w.2.2.2.2.2 q hq)) ?_
    refine W.widen (k := 1056) (n := 10947) (by omega) (by omega) ?_
    exact lw_ret F.1 F.2.1 hret hlk d_La_law_589
  | succ d ih =>
    intro j σ τ g H locs ls hd hj w hr hl
    refine lv_iload (pc := 23) F.1 F.2.1 d_La_law_23 (lv_at hl 4 rfl) ?_
    refine lv_aload_n (pc := 25) F.1 F.2.1 d_La_law_25 rfl (lv_at hl 0 rfl) ?_
    refine va_slen (pc := 26) F.1 F.2.1 hX hb1 hb2 w.2.2.2 d_La_law_26 ?_
    refine lv_iconst (pc := 27) (v := 4) F.1 F.2.1 d_La_law_27 (by decide) ?_
    refine lv_isub (pc := 28) F.1 F.2.1 d_La_law_28 ?_
    refine lv_icmp_gt (pc := 29) F.1 F.2.1 d_La_law_29 (tgt := 588) (by decide) (fun _ => ?_) (fun hn => ?_)
    · refine lv_iconst (pc := 588) (v := 1) F.1 F.2.1 d_La_law_588 (by decide) ?_
      refine va_forget (fun q hq => hA _ (w.2.2.2.2.2 q hq)) ?_
      refine W.widen (k := 1056) (n := 10947) (by omega) (by omega) ?_
      exact lw_ret F.1 F.2.1 hret hlk d_La_law_589
    · have h4 : 4 * j + 4 ≤ L := Nat.not_lt.mp (fun h => hn ((hd_lt hL (by omega)).mpr h))
      refine law_round hR htr F x hX hb1 hb2 (nI_k (k := 1) (by omega) (by omega) 1 rfl) (nI_k (k := 2) (by omega) (by omega) 2 rfl) (nI_k (k := 3) (by omega) (by omega) 3 rfl) ⟨show 30 + j + 1 ≤ 1056 by omega, show 2743 + 6 * j + 6 ≤ 10947 by omega⟩ w hr hl (nI_in (by omega) (by omega)) (fun σ τ g H locs ls w hr hl => ?_)
      have e4 : nI (4 * j) + 4 = nI (4 * (j + 1)) := nI_add (4 * j) 4
      rw [e4] at hl
      exact ih (j + 1) σ τ g H locs ls (by omega) h4 w hr hl
end LAW8
