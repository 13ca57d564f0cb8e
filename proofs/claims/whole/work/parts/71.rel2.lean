def bt (x : Int32) (i : Nat) : Bool := x.toBitVec.getLsbD i
theorem b_ext {x y : Int32} (h : ∀ i, i < 32 → bt x i = bt y i) : x = y := Int32.toBitVec_inj.mp (BitVec.eq_of_getLsbD_eq (fun i hi => h i hi))
theorem b_or (x y : Int32) (i : Nat) : bt (x ||| y) i = (bt x i || bt y i) := by unfold bt; rw [Int32.toBitVec_or, BitVec.getLsbD_or]
theorem b_and (x y : Int32) (i : Nat) : bt (x &&& y) i = (bt x i && bt y i) := by unfold bt; rw [Int32.toBitVec_and, BitVec.getLsbD_and]
theorem b_xor (x y : Int32) (i : Nat) : bt (x ^^^ y) i = (bt x i ^^ bt y i) := by unfold bt; rw [Int32.toBitVec_xor, BitVec.getLsbD_xor]
theorem b_big {x : Int32} {i : Nat} (h : 32 ≤ i) : bt x i = false := BitVec.getLsbD_of_ge _ _ h
theorem b_m1 : ∀ i, i < 32 → bt (-1) i = true := by decide +kernel
theorem b_0 (i : Nat) : bt 0 i = false := BitVec.getLsbD_zero
theorem s_l : ∀ n, n < 32 → ((nI n &&& 31).toBitVec.smod 32).toNat = n := by decide +kernel
theorem s_u : ∀ n, n < 32 → (((nI n).toUInt32 &&& Int32.toUInt32 31).toBitVec % 32).toNat = n := by decide +kernel
theorem b_shl (n : Nat) (hn : n < 32) (x : Int32) {i : Nat} (hi : i < 32) : bt (x <<< (nI n &&& 31)) i = (decide (n ≤ i) && bt x (i - n)) := by
  unfold bt
  rw [Int32.toBitVec_shiftLeft]
  show (x.toBitVec <<< ((nI n &&& 31).toBitVec.smod 32).toNat).getLsbD i = _
  rw [s_l n hn, BitVec.getLsbD_shiftLeft]
  rcases Nat.lt_or_ge i n with h | h
  · simp [h, Nat.not_le.mpr h]
  · simp [hi, h, Nat.not_lt.mpr h]
theorem b_sshr (n : Nat) (hn : n < 32) (x : Int32) {i : Nat} (hi : i < 32) : bt (x >>> (nI n &&& 31)) i = if n + i < 32 then bt x (n + i) else bt x 31 := by
  unfold bt
  rw [Int32.toBitVec_shiftRight]
  show (x.toBitVec.sshiftRight ((nI n &&& 31).toBitVec.smod 32).toNat).getLsbD i = _
  rw [s_l n hn, BitVec.getLsbD_sshiftRight, BitVec.msb_eq_getLsbD_last]
  simp [hi]
/-! ===== numbers and bits for the relation ===== -/
theorem al256 {P : Int32 → Prop} (h : ∀ j, j < 256 → P (nI j)) {x : Int32} (hx : bt2 0 x 255) : P x := by
  obtain ⟨j, hj, rfl⟩ := bt_nI (n := 255) hx
  exact h j (by omega)
theorem al1024 {P : Int32 → Prop} (h : ∀ j, j < 1024 → P (nI j)) {x : Int32} (hx : bt2 0 x 1023) : P x := by
  obtain ⟨j, hj, rfl⟩ := bt_nI (n := 1023) hx
  exact h j (by omega)
theorem bt_bo {w : Int32} (h : w = 0 ∨ w = 1) : bt2 0 w 255 := by
  rcases h with h | h <;> rw [h] <;> exact ⟨by decide, by decide⟩
theorem bo_if {p : Prop} [Decidable p] : (if p then (0 : Int32) else 1) = 0 ∨ (if p then (0 : Int32) else 1) = 1 := by
  split
  · exact Or.inl rfl
  · exact Or.inr rfl
theorem bo_if' {p : Prop} [Decidable p] : (if p then (1 : Int32) else 0) = 0 ∨ (if p then (1 : Int32) else 0) = 1 := by
  split
  · exact Or.inr rfl
  · exact Or.inl rfl
theorem bit1 (x : Int32) : x &&& 1 = 0 ∨ x &&& 1 = 1 := by
  have h := bt_and x (m := 1) 1 (by decide) (by decide)
  obtain ⟨j, hj, e⟩ := bt_nI (n := 1) h
  rw [e]
  have : j = 0 ∨ j = 1 := by omega
  rcases this with h | h <;> rw [h]
  · exact Or.inl rfl
  · exact Or.inr rfl
theorem bit1n {x : Int32} : (x &&& 1 = 1) ↔ ¬ (x &&& 1 = 0) := by
  constructor
  · intro h
    rw [h]
    decide
  · intro h
    exact (bit1 x).resolve_left h
theorem sh0 (x : Int32) : x >>> ((0 : Int32) &&& 31) = x := by
  refine b_ext fun i hi => ?_
  rw [show (0 : Int32) = nI 0 from rfl, b_sshr 0 (by omega) x hi, if_pos (by omega), Nat.zero_add]
theorem bitk1 (x : Int32) : ((x >>> ((1 : Int32) &&& 31)) &&& 1 = 1) ↔ ¬ (x &&& 2 = 0) := by
  have e0 : ∀ i, i < 32 → bt 1 i = decide (i = 0) := by decide +kernel
  have e1 : ∀ i, i < 32 → bt 2 i = decide (i = 1) := by decide +kernel
  constructor
  · intro h1 h2
    have a := congrArg (fun y => bt y 0) h1
    have b := congrArg (fun y => bt y 1) h2
    simp only [b_and, b_0] at a b
    rw [show (1 : Int32) = nI 1 from rfl, b_sshr 1 (by omega) x (by omega), if_pos (by omega)] at a
    rw [e1 1 (by omega)] at b
    rw [show nI 1 = (1 : Int32) from rfl, e0 0 (by omega)] at a
    simp at a b
    rw [a] at b
    cases b
  · intro h
    refine (bit1 _).resolve_left (fun h0 => h (b_ext fun i hi => ?_))
    rw [b_and, b_0, e1 i hi]
    have a := congrArg (fun y => bt y 0) h0
    simp only [b_and, b_0] at a
    rw [show (1 : Int32) = nI 1 from rfl, b_sshr 1 (by omega) x (by omega), if_pos (by omega), show nI 1 = (1 : Int32) from rfl, e0 0 (by omega)] at a
    by_cases hi1 : i = 1
    · rw [hi1]
      simp at a ⊢
      exact a
    · simp [hi1]
theorem chx (x : Int32) : (x ^^^ (x >>> ((4 : Int32) &&& 31))) &&& 1 = (x &&& 1) ^^^ ((x >>> ((4 : Int32) &&& 31)) &&& 1) := by
  refine b_ext fun i hi => ?_
  simp only [b_and, b_xor]
  cases bt x i <;> cases bt (x >>> ((4 : Int32) &&& 31)) i <;> cases bt 1 i <;> rfl
theorem and255_128 (x : Int32) : (x &&& 255) &&& 128 = x &&& 128 := by
  rw [Int32.and_assoc]
  rfl
theorem neg_eq (x : Int32) : f_Pr_result_r11 x = f_Mo_set_r6 x := by
  unfold f_Pr_result_r11 f_Mo_set_r6
  rw [← and255_128 x]
  exact al256 (P := fun y => (if y < 128 then (0 : Int32) else 1) = (if (y &&& 128) = 0 then 0 else 1)) (by decide +kernel) (bt_8 x)
theorem zer_eq (x : Int32) : f_Pr_result_r24 x = f_Mo_set_r23 x := rfl
theorem moved_eq {x : Int32} (h : bt2 0 x 1023) : f_Ds_movedOn x = f_Mo_moved x := al1024 (P := fun x => f_Ds_movedOn x = f_Mo_moved x) (by decide +kernel) h
theorem bt2_dec (a : Int) (x : Int32) (b : Int) : (decide (a ≤ x.toInt) && decide (x.toInt ≤ b)) = true → bt2 a x b := by
  intro h
  simp at h
  exact h
theorem moved_b {x : Int32} (h : bt2 0 x 1023) : bt2 0 (f_Mo_moved x) 1023 := bt2_dec _ _ _ (al1024 (P := fun x => (decide (0 ≤ (f_Mo_moved x).toInt) && decide ((f_Mo_moved x).toInt ≤ 1023)) = true) (by decide +kernel) h)
theorem m10 {x : Int32} (h : bt2 0 x 1023) : x &&& 1023 = x := al1024 (P := fun x => x &&& 1023 = x) (by decide +kernel) h
theorem b10 {x : Int32} (h : bt2 0 x 255) : bt2 0 x 1023 := ⟨h.1, Int.le_trans h.2 (by decide)⟩
theorem bm {x : Int32} (h : bt2 0 x 255) : x &&& 1023 = x := m10 (b10 h)
theorem blt {x : Int32} (h : bt2 0 x 255) : ¬ 768 ≤ x := by
  rw [ti_le, i768]
  have := h.2
  omega
theorem b255 {x : Int32} (h : bt2 0 x 255) : x &&& 255 = x := al256 (P := fun x => x &&& 255 = x) (by decide +kernel) h
theorem stk {x : Int32} (h : bt2 0 x 255) : bt2 0 (256 + x) 511 := by
  have e : (256 + x).toInt = 256 + x.toInt := by
    have h1 := h.1
    have h2 := h.2
    rw [ti_add] <;> rw [show (256 : Int32).toInt = 256 from rfl] <;> omega
  have h1 := h.1
  have h2 := h.2
  exact ⟨by omega, by omega⟩
theorem stk_m {x : Int32} (h : bt2 0 x 255) : (256 + x) &&& 1023 = 256 + x := m10 ⟨(stk h).1, Int.le_trans (stk h).2 (by decide)⟩
theorem stk_l {x : Int32} (h : bt2 0 x 255) : ¬ 768 ≤ 256 + x := by
  rw [ti_le, i768]
  have := (stk h).2
  omega
theorem am_sub1 (x : Int32) : ((x &&& 1023) - 1) &&& 1023 = (x - 1) &&& 1023 := by
  rw [Int32.sub_eq_add_neg, Int32.sub_eq_add_neg]
  exact am1 x (-1)
theorem pc_2 (x : Int32) : (((x + 1) &&& 1023) + 1) &&& 1023 = (x + 2) &&& 1023 := by
  rw [am1, Int32.add_assoc]
  rfl
theorem pc_3 (x : Int32) : (((x + 2) &&& 1023) + 1) &&& 1023 = (x + 3) &&& 1023 := by
  rw [am1, Int32.add_assoc]
  rfl
theorem pc_32 (x : Int32) : (((x + 3) &&& 1023) - 1) &&& 1023 = (x + 2) &&& 1023 := by
  rw [am_sub1, Int32.sub_eq_add_neg, Int32.add_assoc]
  rfl
theorem pc_10 {x : Int32} (h : bt2 0 x 1023) : (((x + 1) &&& 1023) - 1) &&& 1023 = x := by
  rw [am_sub1, Int32.sub_eq_add_neg, Int32.add_assoc, show (1 : Int32) + -1 = 0 from rfl, Int32.add_zero, m10 h]
theorem flg {a b c : Int32} (ha : a = 0 ∨ a = 1) (hb : b = 0 ∨ b = 1) (hc : c = 0 ∨ c = 1) : ((if a = 0 then (0 : Int32) else 128) ||| (if b = 0 then 0 else 2)) ||| (if c = 0 then 0 else 1) = ((if a = 0 then 0 else 128) + (if b = 0 then 0 else 2)) + (if c = 0 then 0 else 1) := by
  rcases ha with h | h <;> rcases hb with h2 | h2 <;> rcases hc with h3 | h3 <;> rw [h, h2, h3] <;> decide
theorem flg_b {a b c : Int32} (ha : a = 0 ∨ a = 1) (hb : b = 0 ∨ b = 1) (hc : c = 0 ∨ c = 1) : bt2 0 (((if a = 0 then (0 : Int32) else 128) + (if b = 0 then 0 else 2)) + (if c = 0 then 0 else 1)) 255 := by
  rcases ha with h | h <;> rcases hb with h2 | h2 <;> rcases hc with h3 | h3 <;> rw [h, h2, h3] <;> exact ⟨by decide, by decide⟩
theorem off_eq {r : Int32} (h : bt2 0 r 255) : f_Pr_branchIf_r13 r = f_Mo_go_r21 r := al256 (P := fun r => f_Pr_branchIf_r13 r = f_Mo_go_r21 r) (by decide +kernel) h
theorem or_b {x y : Int32} (hx : bt2 0 x 255) (hy : bt2 0 y 255) : bt2 0 (x ||| y) 255 := by
  have : (x ||| y) = (x ||| y) &&& 255 := by
    refine b_ext fun i hi => ?_
    have ex := congrArg (fun z => bt z i) (b255 hx)
    have ey := congrArg (fun z => bt z i) (b255 hy)
    simp only [b_and, b_or] at ex ey ⊢
    cases h1 : bt x i <;> cases h2 : bt y i <;> rw [h1] at ex <;> rw [h2] at ey <;> simp at ex ey ⊢ <;> first | exact ex | exact ey
  rw [this]
  exact bt_8 _
theorem hi8 {x : Int32} (h : bt2 0 x 1023) : bt2 0 (x >>> ((8 : Int32) &&& 31)) 255 := bt2_dec _ _ _ (al1024 (P := fun x => (decide (0 ≤ (x >>> ((8 : Int32) &&& 31)).toInt) && decide ((x >>> ((8 : Int32) &&& 31)).toInt ≤ 255)) = true) (by decide +kernel) h)
