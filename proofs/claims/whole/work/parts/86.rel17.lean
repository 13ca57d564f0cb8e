/-! ===== the calls keep the relation ===== -/
section CALL
variable {σ τ : Sg}
theorem Rel.thr (r : Rel σ τ) (v : Int32) : Rel σ (sf τ 0 0 v) := by
  obtain ⟨q, ⟨h, e, b, e4⟩, s1, s2⟩ := r
  exact ⟨upd q 11 v, ⟨u_thr h, e, b, e4⟩, s1, s2⟩
theorem Rel.mv {s t : Sg} (r : Rel σ τ) (k : ∀ q, R q σ τ → R q s t) : Rel s t ∧ t 0 0 = τ 0 0 := by
  obtain ⟨q, ⟨h, e, b, e4⟩, s1, s2⟩ := r
  have h' := k q h
  have e18 : t 0 18 = τ 0 18 := h'.lf.symm.trans (h'.q8.trans (h.q8.symm.trans h.lf))
  have e5 : t 0 5 = τ 0 5 := h'.k2.symm.trans (h'.q9.trans (h.q9.symm.trans h.k2))
  refine ⟨⟨q, ⟨h', e, b, ?_⟩, ?_, ?_⟩, h'.q11.trans h.q11.symm⟩
  · rw [e18]
    exact e4
  · rw [e5]
    exact s1
  · rw [e5]
    exact s2
theorem in_ne {x a b : Int32} (h : ¬ f_Mo_in x a b = 0) : a.toInt ≤ x.toInt ∧ x.toInt ≤ b.toInt := by
  have e : f_Mo_in x a b = if x < a then 0 else (if b < x then 0 else 1) := rfl
  rw [e] at h
  by_cases c : x < a
  · rw [if_pos c] at h
    exact absurd rfl h
  · rw [if_neg c] at h
    by_cases d : b < x
    · rw [if_pos d] at h
      exact absurd rfl h
    · rw [ti_lt] at c d
      exact ⟨Int.not_lt.mp c, Int.not_lt.mp d⟩
theorem in_z {x a b : Int32} (h : f_Mo_in x a b = 0) : x < a ∨ b < x := by
  have e : f_Mo_in x a b = if x < a then 0 else (if b < x then 0 else 1) := rfl
  rw [e] at h
  by_cases c : x < a
  · exact Or.inl c
  · rw [if_neg c] at h
    by_cases d : b < x
    · exact Or.inr d
    · rw [if_neg d] at h
      exact absurd h (by decide)
theorem byt {x : Int32} (h : ¬ f_Mo_isByte x = 0) : bt2 0 x 255 := by
  have k := in_ne (x := x) (a := 0) (b := 255) h
  exact ⟨k.1, k.2⟩
theorem ite_iff2 {α : Type} {p p' : Prop} [Decidable p] [Decidable p'] (h : p ↔ p') (a b : α) : (if p then a else b) = (if p' then a else b) := by
  by_cases c : p
  · rw [if_pos c, if_pos (h.mp c)]
  · rw [if_neg c, if_neg (fun z => c (h.mpr z))]
theorem zi767 : (767 : Int32).toInt = 767 := by decide
theorem zi32 : (32 : Int32).toInt = 32 := by decide
theorem zi31 : (31 : Int32).toInt = 31 := by decide
theorem zi8 : (8 : Int32).toInt = 8 := by decide
theorem zi7 : (7 : Int32).toInt = 7 := by decide
theorem zi0 : (0 : Int32).toInt = 0 := by decide
theorem zlt768 (x : Int32) : ((768 : Int32) ≤ x) ↔ ((767 : Int32) < x) := by
  rw [ti_le, ti_lt, i768, zi767]
  omega
theorem zlt32 (x : Int32) : ((32 : Int32) ≤ x) ↔ ((31 : Int32) < x) := by
  rw [ti_le, ti_lt, zi32, zi31]
  omega
theorem zlt8 (x : Int32) : ((8 : Int32) ≤ x) ↔ ((7 : Int32) < x) := by
  rw [ti_le, ti_lt, zi8, zi7]
  omega
theorem mem_eq (x : Int32) : f_Pm_isMemory x = f_Mo_in x 0 767 := by
  show (if x < 0 then (0 : Int32) else (if 768 ≤ x then 0 else 1)) = (if x < 0 then (0 : Int32) else (if 767 < x then 0 else 1))
  rw [ite_iff2 (zlt768 x)]
theorem wr_eq (x y : Int32) : f_Pm_write_r1 x y = if f_Mo_in x 0 31 = 0 then 0 else (if f_Mo_isByte y = 0 then 0 else 1) := by
  show (if x < 0 then (0 : Int32) else (if 32 ≤ x then 0 else (if f_Mo_isByte y = 0 then 0 else 1))) = if (if x < 0 then (0 : Int32) else (if 31 < x then 0 else 1)) = 0 then 0 else (if f_Mo_isByte y = 0 then 0 else 1)
  by_cases c : x < 0
  · rw [if_pos c, if_pos c]
    try rfl
  · rw [if_neg c, if_neg c]
    by_cases d : 31 < x
    · rw [if_pos ((zlt32 x).mpr d), if_pos d]
      try rfl
    · rw [if_neg (fun z => d ((zlt32 x).mp z)), if_neg d]
      try rfl
theorem pl_eq (x y : Int32) : f_Pm_isPlaceOnDisk x y = f_Mo_isPlace x y := by
  show (if x < 1 then (0 : Int32) else (if 8 < x then 0 else (if y < 0 then 0 else (if 8 ≤ y then 0 else 1)))) = (if (if x < 1 then (0 : Int32) else (if 8 < x then 0 else 1)) = 0 then 0 else (if (if y < 0 then (0 : Int32) else (if 7 < y then 0 else 1)) = 0 then 0 else 1))
  by_cases c : x < 1
  · rw [if_pos c, if_pos c]
    try rfl
  · rw [if_neg c, if_neg c]
    by_cases d : 8 < x
    · rw [if_pos d, if_pos d]
      try rfl
    · rw [if_neg d, if_neg d]
      by_cases e : y < 0
      · rw [if_pos e, if_pos e]
        try rfl
      · rw [if_neg e, if_neg e]
        by_cases f : 7 < y
        · rw [if_pos ((zlt8 y).mpr f), if_pos f]
          try rfl
        · rw [if_neg (fun z => f ((zlt8 y).mp z)), if_neg f]
          try rfl
theorem zval2 (r b : Int32) : ((if r = 0 then (0 : Int32) else (if b = 0 then 0 else 1)) = 0 ∧ (if r = 0 then (1 : Int32) else (if b = 0 then 1 else 0)) = 1) ∨ (¬ (if r = 0 then (0 : Int32) else (if b = 0 then 0 else 1)) = 0 ∧ (if r = 0 then (1 : Int32) else (if b = 0 then 1 else 0)) = 0 ∧ ¬ r = 0 ∧ ¬ b = 0) := by
  by_cases c : r = 0
  · rw [if_pos c, if_pos c]
    exact Or.inl ⟨rfl, rfl⟩
  · rw [if_neg c, if_neg c]
    by_cases d : b = 0
    · rw [if_pos d, if_pos d]
      exact Or.inl ⟨rfl, rfl⟩
    · rw [if_neg d, if_neg d]
      exact Or.inr ⟨by decide, rfl, c, d⟩
theorem C_poke (x1 x2 : Int32) (r : Rel σ τ) : (fL_poke σ x1 x2).1 = (f_Mo_poke τ x1 x2) 0 0 ∧ Rel (fL_poke σ x1 x2).2 (f_Mo_poke τ x1 x2) := by
  have eC : fL_poke σ x1 x2 = if (if f_Mo_in x1 0 767 = 0 then (0 : Int32) else (if f_Mo_isByte x2 = 0 then 0 else 1)) = 0 then ((1 : Int32), σ) else (0, f_Me_put σ x1 x2) := by
    unfold fL_poke
    rw [mem_eq]
    try rfl
  have eM : f_Mo_poke τ x1 x2 = f_Mo_poke_r31 x1 x2 (sf τ 0 0 (if f_Mo_in x1 0 767 = 0 then (1 : Int32) else (if f_Mo_isByte x2 = 0 then 1 else 0))) := rfl
  rw [eC, eM]
  rcases zval2 (f_Mo_in x1 0 767) (f_Mo_isByte x2) with ⟨a, b⟩ | ⟨a, b, c, d⟩
  · rw [if_pos a, b]
    exact ⟨rfl, r.thr 1⟩
  · rw [if_neg a, b]
    have hb := in_ne c
    have ex : x1 &&& 1023 = x1 := m10 ⟨hb.1, Int.le_trans hb.2 (by decide)⟩
    have eP : f_Me_put σ x1 x2 = sf σ 10 x1.toNatClampNeg x2 := by
      have e0 : f_Me_put σ x1 x2 = if 768 ≤ (x1 &&& 1023) then σ else sf σ 10 (x1 &&& 1023).toNatClampNeg x2 := rfl
      have hn : ¬ (768 : Int32) ≤ x1 := by
        rw [zlt768, ti_lt]
        exact Int.not_lt.mpr hb.2
      rw [e0, ex, if_neg hn]
    have e31 : f_Mo_poke_r31 x1 x2 (sf τ 0 0 0) = sf (sf τ 0 0 0) 1 x1.toNatClampNeg x2 := if_pos rfl
    rw [e31, eP]
    exact ⟨rfl, ((r.thr 0).mv (s := sf σ 10 x1.toNatClampNeg x2) (t := sf (sf τ 0 0 0) 1 x1.toNatClampNeg x2) (fun q h => u_mem h rfl rfl (byt d))).1⟩
theorem b31 {x : Int32} (h : bt2 0 x 31) : bt2 0 x 255 := ⟨h.1, Int.le_trans h.2 (by decide)⟩
theorem le31 {x : Int32} (h : bt2 0 x 31) : x ≤ 31 := by
  rw [ti_le, zi31]
  exact h.2
theorem wr_z {x : Int32} (h : bt2 0 x 31) : ((768 + x) &&& 1023) - 768 = x := al256 (P := fun x => x ≤ 31 → ((768 + x) &&& 1023) - 768 = x) (by decide +kernel) (b31 h) (le31 h)
theorem wr_g {x : Int32} (h : bt2 0 x 31) : 768 ≤ ((768 + x) &&& 1023) := al256 (P := fun x => x ≤ 31 → 768 ≤ ((768 + x) &&& 1023)) (by decide +kernel) (b31 h) (le31 h)
theorem wr_l {x : Int32} (h : bt2 0 x 31) : x < 32 := by
  rw [ti_lt, zi32]
  have := h.2
  omega
theorem C_write (x1 x2 : Int32) (r : Rel σ τ) : (fL_write σ x1 x2).1 = (f_Mo_write τ x1 x2) 0 0 ∧ Rel (fL_write σ x1 x2).2 (f_Mo_write τ x1 x2) := by
  have eC : fL_write σ x1 x2 = if (if f_Mo_in x1 0 31 = 0 then (0 : Int32) else (if f_Mo_isByte x2 = 0 then 0 else 1)) = 0 then ((1 : Int32), σ) else (0, f_Bd_store σ (768 + x1) x2) := by
    unfold fL_write
    rw [wr_eq]
    try rfl
  have eM : f_Mo_write τ x1 x2 = f_Mo_write_r30 x1 x2 (sf τ 0 0 (if f_Mo_in x1 0 31 = 0 then (1 : Int32) else (if f_Mo_isByte x2 = 0 then 1 else 0))) := rfl
  rw [eC, eM]
  rcases zval2 (f_Mo_in x1 0 31) (f_Mo_isByte x2) with ⟨a, b⟩ | ⟨a, b, c, d⟩
  · rw [if_pos a, b]
    exact ⟨rfl, r.thr 1⟩
  · rw [if_neg a, b]
    have hb : bt2 0 x1 31 := ⟨(in_ne c).1, (in_ne c).2⟩
    have e30 : f_Mo_write_r30 x1 x2 (sf τ 0 0 0) = f_Mo_change (sf τ 0 0 0) x1 x2 := if_pos rfl
    have eS : f_Bd_store σ (768 + x1) x2 = f_Bd_store_r49 (768 + x1) x2 (sf σ 11 x1.toNatClampNeg x2) := by
      have e0 : f_Bd_store σ (768 + x1) x2 = if 768 ≤ ((768 + x1) &&& 1023) then (if (((768 + x1) &&& 1023) - 768) < 32 then f_Bd_store_r49 (768 + x1) x2 (sf σ 11 (((768 + x1) &&& 1023) - 768).toNatClampNeg x2) else σ) else sf σ 10 ((768 + x1) &&& 1023).toNatClampNeg x2 := rfl
      rw [e0, if_pos (wr_g hb), wr_z hb, if_pos (wr_l hb)]
    rw [e30, eS]
    have k := (r.thr 0).mv (s := f_Bd_store_r49 (768 + x1) x2 (sf σ 11 x1.toNatClampNeg x2)) (t := f_Mo_change (sf τ 0 0 0) x1 x2) (fun q h => L_chg h (wr_z hb) rfl (byt d))
    exact ⟨k.2.symm, k.1⟩
theorem ix8 (x y : Int32) : (x - 1) * 8 + y = (8 * x - 8) + y := by grind
theorem ix32 (x y : Int32) : (x - 1) * 32 + y = (32 * (x - 1)) + y := by grind
theorem C_disk (x1 x2 x3 : Int32) (r : Rel σ τ) : (fL_disk σ x1 x2 x3).1 = (f_Mo_disk τ x1 x2 x3) 0 0 ∧ Rel (fL_disk σ x1 x2 x3).2 (f_Mo_disk τ x1 x2 x3) := by
  have eC : fL_disk σ x1 x2 x3 = if (if f_Mo_isPlace x1 x2 = 0 then (0 : Int32) else (if f_Mo_isByte x3 = 0 then 0 else 1)) = 0 then ((1 : Int32), σ) else (0, sf σ 16 ((x1 - 1) * 8 + x2).toNatClampNeg x3) := by
    unfold fL_disk
    rw [pl_eq]
    try rfl
  have eM : f_Mo_disk τ x1 x2 x3 = f_Mo_disk_r28 x1 x2 x3 (sf τ 0 0 (if f_Mo_isPlace x1 x2 = 0 then (1 : Int32) else (if f_Mo_isByte x3 = 0 then 1 else 0))) := rfl
  rw [eC, eM]
  rcases zval2 (f_Mo_isPlace x1 x2) (f_Mo_isByte x3) with ⟨a, b⟩ | ⟨a, b, c, d⟩
  · rw [if_pos a, b]
    exact ⟨rfl, r.thr 1⟩
  · rw [if_neg a, b]
    have e28 : f_Mo_disk_r28 x1 x2 x3 (sf τ 0 0 0) = sf (sf τ 0 0 0) 7 ((8 * x1 - 8) + x2).toNatClampNeg x3 := if_pos rfl
    rw [e28]
    exact ⟨rfl, ((r.thr 0).mv (s := sf σ 16 ((x1 - 1) * 8 + x2).toNatClampNeg x3) (t := sf (sf τ 0 0 0) 7 ((8 * x1 - 8) + x2).toNatClampNeg x3) (fun q h => u_sec h (congrArg Int32.toNatClampNeg (ix8 x1 x2)) rfl (byt d))).1⟩
theorem C_stick (x1 : Int32) (r : Rel σ τ) : (fL_stick σ x1).1 = (f_Mo_stick τ x1) 0 0 ∧ Rel (fL_stick σ x1).2 (f_Mo_stick τ x1) := by
  have eC : fL_stick σ x1 = if f_Mo_isByte x1 = 0 then ((1 : Int32), σ) else (0, sf σ 1 8 x1) := rfl
  have eM : f_Mo_stick τ x1 = f_Mo_stick_r20 x1 (sf τ 0 0 (if f_Mo_isByte x1 = 0 then (1 : Int32) else 0)) := rfl
  rw [eC, eM]
  by_cases c : f_Mo_isByte x1 = 0
  · rw [if_pos c, if_pos c]
    exact ⟨rfl, r.thr 1⟩
  · rw [if_neg c, if_neg c]
    have e20 : f_Mo_stick_r20 x1 (sf τ 0 0 0) = sf (sf τ 0 0 0) 0 40 x1 := if_pos rfl
    rw [e20]
    exact ⟨rfl, ((r.thr 0).mv (s := sf σ 1 8 x1) (t := sf (sf τ 0 0 0) 0 40 x1) (fun q h => u_stick h rfl (byt c))).1⟩
theorem no1 {P : Prop} : (1 : Int32) = 0 → P := fun z => absurd z (by decide)
theorem C_peek (g : Nat → Int64) (x1 : Int32) (r : Rel σ τ) : (fL_peek σ g x1).1 = (f_Mo_peek τ x1).2 0 0 ∧ ((fL_peek σ g x1).1 = 0 → (fL_peek σ g x1).2.2 0 = (f_Mo_peek τ x1).1.toInt64) ∧ Rel (fL_peek σ g x1).2.1 (f_Mo_peek τ x1).2 := by
  have eC : fL_peek σ g x1 = if f_Mo_in x1 0 767 = 0 then ((1 : Int32), σ, g) else (0, σ, vp_updL g 0 (f_Me_at σ x1).toInt64) := by
    unfold fL_peek
    rw [mem_eq]
    try rfl
  have eM : f_Mo_peek τ x1 = (f_Mo_peek_r24 x1 (sf τ 0 0 (if f_Mo_in x1 0 767 = 0 then (1 : Int32) else 0)), sf τ 0 0 (if f_Mo_in x1 0 767 = 0 then (1 : Int32) else 0)) := rfl
  rw [eC, eM]
  by_cases c : f_Mo_in x1 0 767 = 0
  · rw [if_pos c, if_pos c]
    exact ⟨rfl, no1, r.thr 1⟩
  · rw [if_neg c, if_neg c]
    have hb := in_ne c
    have ex : x1 &&& 1023 = x1 := m10 ⟨hb.1, Int.le_trans hb.2 (by decide)⟩
    have hn : ¬ (768 : Int32) ≤ x1 := by
      rw [zlt768, ti_lt]
      exact Int.not_lt.mpr hb.2
    have eA : f_Me_at σ x1 = τ 1 x1.toNatClampNeg := by
      have e0 : f_Me_at σ x1 = if 768 ≤ (x1 &&& 1023) then 255 else σ 10 (x1 &&& 1023).toNatClampNeg := rfl
      obtain ⟨q, ⟨h, _⟩, _⟩ := r
      rw [e0, ex, if_neg hn, h.m10]
    have e24 : f_Mo_peek_r24 x1 (sf τ 0 0 0) = τ 1 x1.toNatClampNeg := if_pos rfl
    rw [eA, e24]
    exact ⟨rfl, fun _ => rfl, r.thr 0⟩
theorem C_sector (g : Nat → Int64) (x1 x2 : Int32) (r : Rel σ τ) : (fL_sector σ g x1 x2).1 = (f_Mo_sector τ x1 x2).2 0 0 ∧ ((fL_sector σ g x1 x2).1 = 0 → (fL_sector σ g x1 x2).2.2 0 = (f_Mo_sector τ x1 x2).1.toInt64) ∧ Rel (fL_sector σ g x1 x2).2.1 (f_Mo_sector τ x1 x2).2 := by
  have eC : fL_sector σ g x1 x2 = if f_Mo_isPlace x1 x2 = 0 then ((1 : Int32), σ, g) else (0, σ, vp_updL g 0 (σ 16 ((x1 - 1) * 8 + x2).toNatClampNeg).toInt64) := by
    unfold fL_sector
    rw [pl_eq]
    try rfl
  have eM : f_Mo_sector τ x1 x2 = (f_Mo_sector_r21 x1 x2 (sf τ 0 0 (if f_Mo_isPlace x1 x2 = 0 then (1 : Int32) else 0)), sf τ 0 0 (if f_Mo_isPlace x1 x2 = 0 then (1 : Int32) else 0)) := rfl
  rw [eC, eM]
  by_cases c : f_Mo_isPlace x1 x2 = 0
  · rw [if_pos c, if_pos c]
    exact ⟨rfl, no1, r.thr 1⟩
  · rw [if_neg c, if_neg c]
    have eA : σ 16 ((x1 - 1) * 8 + x2).toNatClampNeg = τ 7 ((8 * x1 - 8) + x2).toNatClampNeg := by
      obtain ⟨q, ⟨h, _⟩, _⟩ := r
      rw [h.v16, ix8]
    have e21 : f_Mo_sector_r21 x1 x2 (sf τ 0 0 0) = τ 7 ((8 * x1 - 8) + x2).toNatClampNeg := if_pos rfl
    rw [eA, e21]
    exact ⟨rfl, fun _ => rfl, r.thr 0⟩
theorem C_dot (g : Nat → Int64) (x1 x2 : Int32) (r : Rel σ τ) : (fL_dot σ g x1 x2).1 = (f_Mo_dot τ x1 x2).2 0 0 ∧ ((fL_dot σ g x1 x2).1 = 0 → (fL_dot σ g x1 x2).2.2 0 = (f_Mo_dot τ x1 x2).1.toInt64) ∧ Rel (fL_dot σ g x1 x2).2.1 (f_Mo_dot τ x1 x2).2 := by
  have eC : fL_dot σ g x1 x2 = if f_Mo_in x1 1 12 = 0 ∨ x2 < 0 ∨ ¬ x2 < 32 then ((1 : Int32), σ, g) else (0, σ, vp_updL g 0 (σ 14 ((x1 - 1) * 32 + x2).toNatClampNeg).toInt64) := rfl
  have eM : f_Mo_dot τ x1 x2 = (f_Mo_dot_r33 x1 x2 (sf τ 0 0 (if f_Mo_in x1 1 12 = 0 then (1 : Int32) else (if f_Mo_in x2 0 31 = 0 then 1 else 0))), sf τ 0 0 (if f_Mo_in x1 1 12 = 0 then (1 : Int32) else (if f_Mo_in x2 0 31 = 0 then 1 else 0))) := rfl
  rw [eC, eM]
  rcases zval2 (f_Mo_in x1 1 12) (f_Mo_in x2 0 31) with ⟨a, b⟩ | ⟨_, b, c, d⟩
  · have hc : f_Mo_in x1 1 12 = 0 ∨ x2 < 0 ∨ ¬ x2 < 32 := by
      by_cases c : f_Mo_in x1 1 12 = 0
      · exact Or.inl c
      · by_cases d : f_Mo_in x2 0 31 = 0
        · refine Or.inr ((in_z d).imp (fun z => z) (fun z => ?_))
          rw [ti_lt, zi31] at z
          rw [ti_lt, zi32]
          omega
        · rw [if_neg c, if_neg d] at a
          exact absurd a (by decide)
    rw [if_pos hc, b]
    exact ⟨rfl, no1, r.thr 1⟩
  · have hb : bt2 0 x2 31 := ⟨(in_ne d).1, (in_ne d).2⟩
    have hc : ¬ (f_Mo_in x1 1 12 = 0 ∨ x2 < 0 ∨ ¬ x2 < 32) := by
      intro z
      rcases z with z | z | z
      · exact c z
      · rw [ti_lt, zi0] at z
        have := hb.1
        omega
      · exact z (wr_l hb)
    rw [if_neg hc, b]
    have eA : σ 14 ((x1 - 1) * 32 + x2).toNatClampNeg = τ 6 ((32 * (x1 - 1)) + x2).toNatClampNeg := by
      obtain ⟨q, ⟨h, _⟩, _⟩ := r
      rw [h.p14, ix32]
    have e33 : f_Mo_dot_r33 x1 x2 (sf τ 0 0 0) = τ 6 ((32 * (x1 - 1)) + x2).toNatClampNeg := if_pos rfl
    rw [eA, e33]
    exact ⟨rfl, fun _ => rfl, r.thr 0⟩
theorem L_run (r : Rel σ τ) : ∀ j, (it_Pm_run_23 σ j).1 = (it_Mo_run_25 τ j).1 ∧ Rel (it_Pm_run_23 σ j).2 (it_Mo_run_25 τ j).2 ∧ (it_Mo_run_25 τ j).2 0 0 = τ 0 0 := by
  intro j
  induction j with
  | zero =>
    have eC : it_Pm_run_23 σ 0 = (0, σ) := rfl
    have eM : it_Mo_run_25 τ 0 = (0, τ) := rfl
    rw [eC, eM]
    exact ⟨rfl, r, rfl⟩
  | succ j ih =>
    obtain ⟨i1, i2, i3⟩ := ih
    have eC : it_Pm_run_23 σ (j + 1) = (f_Pm_run_r32 (it_Pm_run_23 σ j).1 (f_Pm_passCycle (it_Pm_run_23 σ j).2).1, (f_Pm_passCycle (it_Pm_run_23 σ j).2).2) := rfl
    have eM : it_Mo_run_25 τ (j + 1) = ((it_Mo_run_25 τ j).1 + f_Mo_run_r35 (f_Mo_tick (it_Mo_run_25 τ j).2).1, (f_Mo_tick (it_Mo_run_25 τ j).2).2) := rfl
    rw [eC, eM]
    obtain ⟨t1, t2, t3, _, _⟩ := L_tick i2
    generalize f_Pm_passCycle (it_Pm_run_23 σ j).2 = A at t1 t2 ⊢
    generalize f_Mo_tick (it_Mo_run_25 τ j).2 = B at t1 t2 t3 ⊢
    refine ⟨?_, t2, t3.trans i3⟩
    show (if A.1 = 0 then (it_Pm_run_23 σ j).1 else (it_Pm_run_23 σ j).1 + 1) = (it_Mo_run_25 τ j).1 + (if B.1 = 0 then 0 else 1)
    rw [t1, i1]
    by_cases c : B.1 = 0
    · rw [if_pos c, if_pos c, Int32.add_zero]
    · rw [if_neg c, if_neg c]
theorem C_run (g : Nat → Int64) (x1 : Int32) (r : Rel σ τ) : (fL_run σ g x1).1 = (f_Mo_run τ x1).2 0 0 ∧ ((fL_run σ g x1).1 = 0 → (fL_run σ g x1).2.2 0 = (f_Mo_run τ x1).1.toInt64) ∧ Rel (fL_run σ g x1).2.1 (f_Mo_run τ x1).2 := by
  have eC : fL_run σ g x1 = if f_Mo_in x1 0 1000 = 0 then ((1 : Int32), σ, g) else (0, (it_Pm_run_23 σ x1.toNatClampNeg).2, vp_updL g 0 (it_Pm_run_23 σ x1.toNatClampNeg).1.toInt64) := rfl
  have eM : f_Mo_run τ x1 = if f_Mo_in x1 0 1000 = 0 then ((0 : Int32), sf (sf τ 0 0 0) 0 0 1) else ((it_Mo_run_25 (sf τ 0 0 0) x1.toNatClampNeg).1, (it_Mo_run_25 (sf τ 0 0 0) x1.toNatClampNeg).2) := rfl
  rw [eC, eM]
  by_cases c : f_Mo_in x1 0 1000 = 0
  · rw [if_pos c, if_pos c]
    exact ⟨rfl, no1, (r.thr 0).thr 1⟩
  · rw [if_neg c, if_neg c]
    obtain ⟨i1, i2, i3⟩ := L_run (r.thr 0) x1.toNatClampNeg
    exact ⟨i3.symm, fun _ => congrArg Int32.toInt64 i1, i2⟩
theorem C_processor (x1 : Int32) (r : Rel σ τ) : f_Pm_processor σ x1 = (f_Mo_processor τ x1).1 ∧ Rel σ (f_Mo_processor τ x1).2 := by
  have r0 := r.thr 0
  obtain ⟨q, ⟨h, e, _, _⟩, _, _⟩ := r
  by_cases c0 : x1 = 0
  · rw [c0]
    exact ⟨h.q6.trans (e.trans h.q7.symm), r0⟩
  by_cases c1 : x1 = 1
  · rw [c1]
    exact ⟨h.ra, r0⟩
  by_cases c2 : x1 = 2
  · rw [c2]
    exact ⟨h.rx, r0⟩
  by_cases c3 : x1 = 3
  · rw [c3]
    exact ⟨h.ry, r0⟩
  by_cases c4 : x1 = 4
  · rw [c4]
    exact ⟨h.rs, r0⟩
  by_cases c5 : x1 = 5
  · rw [c5]
    exact ⟨(L_flags (u_thr (v := 0) h)).1, r0⟩
  by_cases c6 : x1 = 6
  · rw [c6]
    exact ⟨congrArg f_Pm_bit h.rj, r0⟩
  by_cases c7 : x1 = 7
  · rw [c7]
    exact ⟨congrArg f_Pm_bit h.w0, r0⟩
  by_cases c8 : x1 = 8
  · rw [c8]
    exact ⟨congrArg f_Pm_bit h.w1, r0⟩
  by_cases c9 : x1 = 9
  · rw [c9]
    exact ⟨h.lf, r0⟩
  have eC : f_Pm_processor σ x1 = -1 := ((if_neg c0).trans ((if_neg c1).trans ((if_neg c2).trans ((if_neg c3).trans ((if_neg c4).trans ((if_neg c5).trans ((if_neg c6).trans ((if_neg c7).trans ((if_neg c8).trans (if_neg c9))))))))))
  have eM : f_Mo_processor τ x1 = ((-1 : Int32), sf τ 0 0 0) := ((if_neg c0).trans ((if_neg c1).trans ((if_neg c2).trans ((if_neg c3).trans ((if_neg c4).trans ((if_neg c5).trans ((if_neg c6).trans ((if_neg c7).trans ((if_neg c8).trans (if_neg c9))))))))))
  rw [eC, eM]
  exact ⟨rfl, r0⟩
theorem S_6 {q : Nat → Int32} (h : R q σ τ) : f_Ds_presentMode σ = f_Mo_state_r105 6 τ (f_Mo_hasRows τ) := by
  have eC : f_Ds_presentMode σ = if f_Ds_hasRow σ = 0 then -1 else (σ 6 8 &&& 15) := rfl
  have eM : f_Mo_state_r105 6 τ (f_Mo_hasRows τ) = if f_Mo_hasRows τ = 0 then -1 else τ 0 27 := rfl
  rw [eC, eM, L_has h]
  by_cases c : f_Mo_hasRows τ = 0
  · rw [if_pos c, if_pos c]
  · rw [if_neg c, if_neg c]
    exact (has_ml h c).2.2.1.symm
theorem S_7 {q : Nat → Int32} (h : R q σ τ) : f_Ds_rowsDoneOfPresent σ = f_Mo_state_r105 7 τ (f_Mo_hasRows τ) := by
  have eC : f_Ds_rowsDoneOfPresent σ = if f_Ds_hasRow σ = 0 then 0 else σ 6 10 := rfl
  have eM : f_Mo_state_r105 7 τ (f_Mo_hasRows τ) = if f_Mo_hasRows τ = 0 then 0 else τ 0 28 := rfl
  rw [eC, eM, L_has h]
  by_cases c : f_Mo_hasRows τ = 0
  · rw [if_pos c, if_pos c]
  · rw [if_neg c, if_neg c]
    exact (has_ml h c).2.2.2.1
theorem S_13 {q : Nat → Int32} (h : R q σ τ) : f_Pm_bit (σ 7 4) = τ 0 35 := by
  rw [h.p4]
  rcases h.p4b with z | z <;> rw [z] <;> rfl
theorem S_20 {q : Nat → Int32} (h : R q σ τ) : f_Pm_bit (σ 8 4) = if τ 0 44 ≤ 0 then 0 else 1 := by
  rcases h.tgt with ⟨a, b, _⟩ | ⟨a, b⟩
  · rw [a, b]
    rfl
  · have hn : ¬ τ 0 44 ≤ 0 := by
      rw [b, ti_le, zi0]
      have := h.v5b.1
      omega
    rw [a, if_neg hn]
    rfl
theorem b20 {x : Int32} (h : bt2 0 x 20) : bt2 0 x 255 := ⟨h.1, Int.le_trans h.2 (by decide)⟩
theorem le20 {x : Int32} (h : bt2 0 x 20) : x ≤ 20 := by
  rw [ti_le, show (20 : Int32).toInt = 20 from rfl]
  exact h.2
theorem C_state (x1 : Int32) (r : Rel σ τ) : f_Pm_state σ x1 = (f_Mo_state τ x1).1 ∧ Rel σ (f_Mo_state τ x1).2 := by
  have r0 := r.thr 0
  obtain ⟨q, ⟨h, _, _, _⟩, _, _⟩ := r
  by_cases c0 : x1 = 0
  · rw [c0]
    exact ⟨h.k0, r0⟩
  by_cases c1 : x1 = 1
  · rw [c1]
    exact ⟨h.k1, r0⟩
  by_cases c2 : x1 = 2
  · rw [c2]
    exact ⟨h.k2, r0⟩
  by_cases c3 : x1 = 3
  · rw [c3]
    exact ⟨h.d6, r0⟩
  by_cases c4 : x1 = 4
  · rw [c4]
    exact ⟨h.d7, r0⟩
  by_cases c5 : x1 = 5
  · rw [c5]
    exact ⟨congrArg f_Pm_bit h.d11, r0⟩
  by_cases c6 : x1 = 6
  · rw [c6]
    exact ⟨S_6 (u_thr (v := 0) h), r0⟩
  by_cases c7 : x1 = 7
  · rw [c7]
    exact ⟨S_7 (u_thr (v := 0) h), r0⟩
  by_cases c8 : x1 = 8
  · rw [c8]
    exact ⟨congrFun h.r11 19, r0⟩
  by_cases c9 : x1 = 9
  · rw [c9]
    exact ⟨congrFun h.r11 20, r0⟩
  by_cases c10 : x1 = 10
  · rw [c10]
    exact ⟨h.d5, r0⟩
  by_cases c11 : x1 = 11
  · rw [c11]
    exact ⟨congrFun h.p15 0, r0⟩
  by_cases c12 : x1 = 12
  · rw [c12]
    exact ⟨congrFun h.p15 1, r0⟩
  by_cases c13 : x1 = 13
  · rw [c13]
    exact ⟨S_13 h, r0⟩
  by_cases c14 : x1 = 14
  · rw [c14]
    exact ⟨h.c1, r0⟩
  by_cases c15 : x1 = 15
  · rw [c15]
    exact ⟨h.c2, r0⟩
  by_cases c16 : x1 = 16
  · rw [c16]
    exact ⟨h.c3, r0⟩
  by_cases c17 : x1 = 17
  · rw [c17]
    exact ⟨congrArg f_Pm_bit h.v8, r0⟩
  by_cases c18 : x1 = 18
  · rw [c18]
    exact ⟨h.v7, r0⟩
  by_cases c19 : x1 = 19
  · rw [c19]
    exact ⟨h.v3, r0⟩
  by_cases c20 : x1 = 20
  · rw [c20]
    exact ⟨S_20 (u_thr (v := 0) h), r0⟩
  have eC : f_Pm_state σ x1 = -1 := ((if_neg c0).trans ((if_neg c1).trans ((if_neg c2).trans ((if_neg c3).trans ((if_neg c4).trans ((if_neg c5).trans ((if_neg c6).trans ((if_neg c7).trans ((if_neg c8).trans ((if_neg c9).trans ((if_neg c10).trans ((if_neg c11).trans ((if_neg c12).trans ((if_neg c13).trans ((if_neg c14).trans ((if_neg c15).trans ((if_neg c16).trans ((if_neg c17).trans ((if_neg c18).trans ((if_neg c19).trans (if_neg c20)))))))))))))))))))))
  have eM : f_Mo_state τ x1 = ((-1 : Int32), sf τ 0 0 0) := by
    by_cases a : x1 < 0
    · exact if_pos a
    · have b : ¬ x1 ≤ 20 := by
        intro z
        rw [ti_lt, zi0] at a
        rw [ti_le, show (20 : Int32).toInt = 20 from rfl] at z
        obtain ⟨j, hj, ej⟩ := bt_nI (x := x1) (n := 20) ⟨Int.not_lt.mp a, z⟩
        rcases (show j = 0 ∨ j = 1 ∨ j = 2 ∨ j = 3 ∨ j = 4 ∨ j = 5 ∨ j = 6 ∨ j = 7 ∨ j = 8 ∨ j = 9 ∨ j = 10 ∨ j = 11 ∨ j = 12 ∨ j = 13 ∨ j = 14 ∨ j = 15 ∨ j = 16 ∨ j = 17 ∨ j = 18 ∨ j = 19 ∨ j = 20 by omega) with w | w | w | w | w | w | w | w | w | w | w | w | w | w | w | w | w | w | w | w | w
        · rw [w] at ej
          exact c0 ej
        · rw [w] at ej
          exact c1 ej
        · rw [w] at ej
          exact c2 ej
        · rw [w] at ej
          exact c3 ej
        · rw [w] at ej
          exact c4 ej
        · rw [w] at ej
          exact c5 ej
        · rw [w] at ej
          exact c6 ej
        · rw [w] at ej
          exact c7 ej
        · rw [w] at ej
          exact c8 ej
        · rw [w] at ej
          exact c9 ej
        · rw [w] at ej
          exact c10 ej
        · rw [w] at ej
          exact c11 ej
        · rw [w] at ej
          exact c12 ej
        · rw [w] at ej
          exact c13 ej
        · rw [w] at ej
          exact c14 ej
        · rw [w] at ej
          exact c15 ej
        · rw [w] at ej
          exact c16 ej
        · rw [w] at ej
          exact c17 ej
        · rw [w] at ej
          exact c18 ej
        · rw [w] at ej
          exact c19 ej
        · rw [w] at ej
          exact c20 ej
      exact (if_neg a).trans (if_neg b)
  rw [eC, eM]
  exact ⟨rfl, r0⟩
def q00 : Nat → Int32 := fun i => if i = 6 then 512 else (if i = 7 then 512 else 0)
theorem s0_rK : rK sC0 sM0 := ⟨rfl, rfl, rfl, (⟨by decide, by decide⟩ : bt2 0 (0 : Int32) 23), (⟨by decide, by decide⟩ : bt2 0 (0 : Int32) 15)⟩
theorem s0_rW : rW sC0 sM0 := ⟨rfl, rfl, (Or.inl rfl)⟩
theorem s0_rC : rC sC0 sM0 := ⟨rfl, rfl, rfl, (Or.inl rfl)⟩
theorem s0_rS : rS sC0 sM0 := ⟨rfl, (⟨by decide, by decide⟩ : bt2 0 (0 : Int32) 255)⟩
theorem s0_rD : rD sC0 sM0 := ⟨rfl, (⟨by decide, by decide⟩ : bt2 0 (0 : Int32) 255), rfl, (⟨by decide, by decide⟩ : bt2 0 (0 : Int32) 1023), rfl, (⟨by decide, by decide⟩ : bt2 0 (0 : Int32) 1023), rfl, (Or.inl rfl), rfl⟩
theorem s0_rL : rL sC0 sM0 := Or.inl ⟨rfl, rfl, rfl, rfl⟩
theorem s0_rP : rP sC0 sM0 := ⟨rfl, (Or.inl rfl), rfl, (fun _ => (⟨by decide, by decide⟩ : bt2 0 (0 : Int32) 255)), rfl⟩
theorem s0_rA : rA sC0 sM0 := ⟨rfl, (fun _ => (⟨by decide, by decide⟩ : bt2 0 (0 : Int32) 255)), rfl, rfl, rfl⟩
theorem s0_rV : rV sC0 sM0 := ⟨rfl, (⟨by decide, by decide⟩ : bt2 0 (0 : Int32) 8), rfl, (⟨by decide, by decide⟩ : bt2 0 (0 : Int32) 40), rfl, rfl, (⟨by decide, by decide⟩ : bt2 0 (0 : Int32) 255), rfl, (fun _ => (⟨by decide, by decide⟩ : bt2 0 (0 : Int32) 255)), rfl, (fun _ => (⟨by decide, by decide⟩ : bt2 0 (0 : Int32) 255)), (fun _ => (⟨by decide, by decide⟩ : bt2 0 (0 : Int32) 255)), (⟨by decide, by decide⟩ : bt2 0 (0 : Int32) 39), (⟨by decide, by decide⟩ : bt2 1 (1 : Int32) 8), (fun j hj => absurd (show j < 0 from hj) (Nat.not_lt_zero j)), Or.inl ⟨rfl, rfl, (⟨by decide, by decide⟩ : bt2 0 (0 : Int32) 3)⟩⟩
theorem s0_rR : rR sC0 sM0 := ⟨rfl, (⟨by decide, by decide⟩ : bt2 0 (0 : Int32) 255), rfl, (⟨by decide, by decide⟩ : bt2 0 (0 : Int32) 255), rfl, (⟨by decide, by decide⟩ : bt2 0 (0 : Int32) 255), rfl, (⟨by decide, by decide⟩ : bt2 0 (255 : Int32) 255), rfl, (Or.inl rfl), rfl, (Or.inl rfl), rfl, (Or.inl rfl), rfl⟩
theorem s0_rF : rF sC0 sM0 := ⟨rfl, (⟨by decide, by decide⟩ : bt2 0 (0 : Int32) 7)⟩
theorem s0_rQ : rQ q00 sC0 sM0 := ⟨rfl, rfl, rfl, rfl, rfl, rfl, rfl, rfl, rfl, rfl, rfl, rfl⟩
theorem s0_R : R q00 sC0 sM0 := ⟨s0_rK, s0_rW, s0_rC, s0_rS, s0_rD, s0_rL, s0_rP, s0_rA, s0_rV, s0_rR, s0_rF, s0_rQ⟩
theorem rel_start : Rel sC0 sM0 := ⟨q00, ⟨s0_R, rfl, (⟨by decide, by decide⟩ : bt2 0 (512 : Int32) 1023), fun z => absurd rfl z⟩, fun _ => rfl, fun _ => rfl⟩
theorem rel_ok : RelOk Rel := by
  refine ⟨?_, ?_, ?_, ?_, ?_, ?_, ?_, ?_, ?_, ?_, ?_, ?_, ?_, ?_⟩
  · rintro σ τ ⟨q, ⟨h, _⟩, _⟩
    exact h.ic
  · rintro σ τ ⟨q, ⟨h, _⟩, _⟩
    exact h.jm
  · intro σ τ r j
    exact (L_tick (L_run r j).2.1).2.2.2.1
  · intro σ τ r j
    exact (L_tick (L_run (r.thr 0) j).2.1).2.2.2.2
  · exact fun σ τ x1 x2 r => C_poke x1 x2 r
  · exact fun σ τ x1 x2 r => C_write x1 x2 r
  · exact fun σ τ x1 x2 x3 r => C_disk x1 x2 x3 r
  · exact fun σ τ x1 r => C_stick x1 r
  · exact fun σ τ g x1 r => C_peek g x1 r
  · exact fun σ τ g x1 x2 r => C_sector g x1 x2 r
  · exact fun σ τ g x1 r => C_run g x1 r
  · exact fun σ τ g x1 x2 r => C_dot g x1 x2 r
  · exact fun σ τ x1 r => C_processor x1 r
  · exact fun σ τ x1 r => C_state x1 r
end CALL
theorem rel_all : ∃ Rel : Sg → Sg → Prop, RelOk Rel ∧ Rel sC0 sM0 := ⟨Rel, rel_ok, rel_start⟩
