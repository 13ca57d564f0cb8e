/-! ===== side conditions of the walks: places in the class's arrays ===== -/
theorem bt_nI {x : Int32} {n : Nat} (h : bt2 0 x n) : ∃ j : Nat, j ≤ n ∧ x = nI j := by
  obtain ⟨j, hj, rfl⟩ := nI_of (x := x) (by rw [ti_lt]; exact Int.not_lt.mpr h.1)
  have h2 := h.2
  rw [nI_toInt hj] at h2
  exact ⟨j, by omega, rfl⟩
theorem bt_nI1 {x : Int32} {n : Nat} (h : bt2 1 x n) : ∃ j : Nat, j + 1 ≤ n ∧ x = nI (j + 1) := by
  have h1 := h.1
  have h2 := h.2
  obtain ⟨j, hj, rfl⟩ := nI_of (x := x) (by rw [ti_lt, show (0 : Int32).toInt = 0 by decide]; omega)
  rw [nI_toInt hj] at h1 h2
  exact ⟨j - 1, by omega, by rw [show j - 1 + 1 = j by omega]⟩
theorem in32' {x : Int32} (h1 : (768 : Int32) ≤ x &&& 1023) (h2 : ¬ (32 : Int32) ≤ (x &&& 1023) - 768) : vp_in ((x &&& 1023) - 768) 32 := in32 (by rw [ti_lt]; rw [ti_le] at h1; omega) h2
theorem rg_in {a b : Int32} (ha : bt2 0 a 39) (hb : bt2 0 b 40) : vp_in ((a + b) - (a + b) / 40 * 40) 40 := by
  obtain ⟨i, hi, rfl⟩ := bt_nI (n := 39) ha
  obtain ⟨j, hj, rfl⟩ := bt_nI (n := 40) hb
  have e : (40 : Int32) = nI 40 := by decide
  rw [nI_add, e, pk_rem (by omega) (by omega) (by omega)]
  exact vp_in_nI (Nat.mod_lt _ (by omega)) (by omega)
theorem fb_in {x y : Int32} (hx : bt2 1 x 8) (hy : bt2 0 y 7) : vp_in ((x - 1) * 8 + y) 64 := by
  obtain ⟨i, hi, rfl⟩ := bt_nI1 (n := 8) hx
  obtain ⟨j, hj, rfl⟩ := bt_nI (n := 7) hy
  have e : (8 : Int32) = nI 8 := by decide
  rw [nI_pred, e, pk_mul, nI_add]
  exact vp_in_nI (by omega) (by omega)
theorem dt_in {x y : Int32} (hx : bt2 1 x 12) (hy : bt2 0 y 31) : vp_in ((x - 1) * 32 + y) 384 := by
  obtain ⟨i, hi, rfl⟩ := bt_nI1 (n := 12) hx
  obtain ⟨j, hj, rfl⟩ := bt_nI (n := 31) hy
  have e : (32 : Int32) = nI 32 := by decide
  rw [nI_pred, e, pk_mul, nI_add]
  exact vp_in_nI (by omega) (by omega)
theorem bt_n {k n : Nat} (h : k ≤ n) (hn : n < 2 ^ 31) : bt2 0 (nI k) n := ⟨by rw [nI_toInt (by omega)]; omega, by rw [nI_toInt (by omega)]; omega⟩
theorem dl_in {x : Int32} {j i : Nat} (hx : bt2 1 x 12) (hj : j < 8) (hi : i < 4) : vp_in ((x - 1) * 32 + ((4 * (0 + nI j)) + (0 + nI i))) 384 := by
  have e : (4 : Int32) = nI 4 := by decide
  rw [Int32.zero_add, Int32.zero_add, e, pk_mul, nI_add]
  exact dt_in hx (bt_n (n := 31) (by omega) (by omega))
theorem cy_in {x : Int32} (h1 : (3 : Int32) < x) (h2 : x ≤ 19) : vp_in ((x - 4) / 2) 8 := by
  rw [ti_lt, show (3 : Int32).toInt = 3 by decide] at h1
  rw [ti_le, show (19 : Int32).toInt = 19 by decide] at h2
  obtain ⟨j, hj, rfl⟩ := bt_nI (x := x) (n := 19) ⟨by omega, h2⟩
  rw [nI_toInt (by omega)] at h1
  have e4 : (4 : Int32) = nI 4 := by decide
  have e2 : (2 : Int32) = nI 2 := by decide
  rw [e4, e2, pk_sub (by omega), pk_div (by omega) (by omega) (by omega)]
  exact vp_in_nI (by omega) (by omega)
theorem cy_19 {x : Int32} (h : bt2 0 x 23) (h0 : ¬ x = 20) (h1 : ¬ x = 21) (h2 : ¬ x = 22) (h3 : ¬ x = 23) : x ≤ 19 := by
  obtain ⟨j, hj, rfl⟩ := bt_nI (n := 23) h
  have e : ∀ k : Nat, k < 24 → (¬ nI j = nI k → j ≠ k) := fun k hk q e => q (by rw [e])
  have a0 := e 20 (by omega) (by rw [show nI 20 = 20 by decide]; exact h0)
  have a1 := e 21 (by omega) (by rw [show nI 21 = 21 by decide]; exact h1)
  have a2 := e 22 (by omega) (by rw [show nI 22 = 22 by decide]; exact h2)
  have a3 := e 23 (by omega) (by rw [show nI 23 = 23 by decide]; exact h3)
  rw [show (19 : Int32) = nI 19 by decide]
  exact nI_le (by omega) (by omega)
theorem cy_8 {x : Int32} (h : x = 8) : x ≤ 19 := by rw [h]; decide
theorem ad_in {x : Int32} {a b n : Nat} (hx : bt2 0 x b) (h : a + b < n) (hn : n < 2 ^ 31) : vp_in (nI a + x) n := by
  obtain ⟨i, hi, rfl⟩ := bt_nI hx
  rw [nI_add]
  exact vp_in_nI (by omega) hn
theorem col_in {x : Int32} (hx : bt2 0 x 3) : vp_in (8 + x) 32 := by
  rw [show (8 : Int32) = nI 8 by decide]
  exact ad_in (b := 3) hx (by decide) (by decide)
theorem IC.ringok {σ : Sg} (h : IC σ) : vp_in (((σ 8 6) + (σ 8 7)) - ((σ 8 6) + (σ 8 7)) / 40 * 40) 40 := rg_in h.2.2.1 h.2.2.2.1
section CPY
variable {p : Program} {l : Launch} {e : Env} {R : Room} {s : State} {m : MethodId} {args : Array Value} {below : List Frame} {meth : Method} {c : Code} {H H0 : Heap} {locs : List Loc} {cells slots : Nat} {Q : State → Prop} {cc : ByteArray} {pc nL ix : Nat} {ls : Array Slot} {rest : List Value} {own : String} {D : va_G} {cI : ClassId} {A1 A : Nat → Prop} {σ : Sg} {ad : Nat → Nat}
theorem cpC (F : CallFix p m c cc nL s args al own) (w : Wx D cI (wC cI ad) A1 A s H0 H locs σ) (hsz : ls.size = nL) (hm : Cond.methodLink own ix arraycopyName ∈ al) (hnat : Cond.native arraycopyName ∈ al) (hst : Cond.static arraycopyName ∈ al) (hini : Cond.initialized "java/lang/System" ∈ al)
    {sp dp n : Int32} (h1 : ¬ sp < 0) (h2 : ¬ dp < 0) (h3 : ¬ n < 0) (h4 : sp.toNatClampNeg + n.toNatClampNeg ≤ 9) (h5 : dp.toNatClampNeg + n.toNatClampNeg ≤ 64) (hframes : 1 ≤ R.frames) (hlocals : (rest.map fun v => v.category).sum + (nativeFrameWords "java/lang/System" "arraycopy" 5 + 11) ≤ R.locals) (hdg : decode cc pc = .ok (.invokestatic ix, 3))
    (kk : ∀ (H1 : Heap) (locs1 : List Loc) (u : Sg), u = st σ 16 (va_cpy (σ 17) (σ 16) sp.toNatClampNeg dp.toNatClampNeg n.toNatClampNeg) → Wx D cI (wC cI ad) A1 A s H0 H1 locs1 u → W p l e R s m args below meth c H1 locs1 cells slots Q (F0 m (pc + 3) ls rest)) : W p l e R s m args below meth c H locs cells slots Q (F0 m pc ls (.int n :: .int dp :: .ref (ad 16) :: .int sp :: .ref (ad 17) :: rest)) :=
  va_copyi (ty := .int) F.1 F.2.1 (F.2.2.1.trans hsz.symm) F.2.2.2.1 (F.2.2.2.2 _ hm) (F.2.2.2.2 _ hnat) (F.2.2.2.2 _ hst) (F.2.2.2.2 _ hini) w.1 w.2.1 w.dA w.2.2.2.1 17 16 0 0 rfl rfl rfl rfl rfl h1 h2 h3 h4 h5 (fun _ _ => rfl) hframes hlocals hdg (fun H1 locs1 hP _ hS => kk H1 locs1 _ rfl ⟨w.1, hP, w.2.2.1.set (p := 16) rfl, hS, w.2.2.2.2⟩)
end CPY
theorem cp_dp {x : Int32} (hx : bt2 1 x 8) : ¬ ((x - 1) * 8 < 0) ∧ ((x - 1) * 8).toNatClampNeg + (8 : Int32).toNatClampNeg ≤ 64 := by
  obtain ⟨i, hi, rfl⟩ := bt_nI1 (n := 8) hx
  have e : (8 : Int32) = nI 8 := by decide
  rw [nI_pred, e, pk_mul, nI_clamp (by omega), nI_clamp (by omega)]
  exact ⟨nI_pos (by omega), by omega⟩
theorem itr_inv {α : Type} {f : Nat → α → α} {x : α} (P : α → Prop) (h0 : P x) (hs : ∀ j y, P y → P (f j y)) : ∀ n, P (itr f x n)
  | 0 => h0
  | n + 1 => hs n _ (itr_inv P h0 hs n)
