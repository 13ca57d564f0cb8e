/-! ===== side conditions of the reference's walks ===== -/
def LN (τ : Sg) : Prop := bt2 1 (τ 0 4) 12
theorem wa_in {x : Int32} (h : bt2 0 x 40) (hn : ¬ x = 40) : vp_in x 40 := by
  obtain ⟨j, hj, rfl⟩ := bt_nI (n := 40) h
  have : j ≠ 40 := fun e => hn (by rw [e]; decide)
  exact vp_in_nI (by omega) (by omega)
theorem st_in {x : Int32} (h : bt2 0 x 255) : vp_in (256 + x) 768 := by
  rw [show (256 : Int32) = nI 256 by decide]
  exact ad_in (b := 255) h (by decide) (by decide)
theorem sp_in (x : Int32) : vp_in (256 + (x &&& 255)) 768 := st_in (bt_8 x)
theorem q4_in {x : Int32} (h : bt2 0 x 31) : vp_in (x / 4) 8 := by
  obtain ⟨j, hj, rfl⟩ := bt_nI (n := 31) h
  rw [show (4 : Int32) = nI 4 by decide, pk_div (by omega) (by omega) (by omega)]
  exact vp_in_nI (by omega) (by omega)
theorem bz_n {j n : Nat} (h : j ≤ n) (hn : n < 2 ^ 31) : bt2 0 (0 + nI j) n := by
  rw [Int32.zero_add]
  exact bt_n h hn
theorem dr_in {x : Int32} {j : Nat} (hx : bt2 1 x 12) (hj : j < 32) : vp_in ((32 * (x - 1)) + (0 + nI j)) 384 := by
  obtain ⟨i, hi, rfl⟩ := bt_nI1 (n := 12) hx
  rw [Int32.zero_add, nI_pred, show (32 : Int32) = nI 32 by decide, pk_mul, nI_add]
  exact vp_in_nI (by omega) (by omega)
theorem d2_in {x y : Int32} (hx : bt2 1 x 12) (hy : bt2 0 y 31) : vp_in ((32 * (x - 1)) + y) 384 := by
  obtain ⟨i, hi, rfl⟩ := bt_nI1 (n := 12) hx
  obtain ⟨j, hj, rfl⟩ := bt_nI (n := 31) hy
  rw [nI_pred, show (32 : Int32) = nI 32 by decide, pk_mul, nI_add]
  exact vp_in_nI (by omega) (by omega)
theorem se_in {x y : Int32} (hx : bt2 1 x 8) (hy : bt2 0 y 7) : vp_in (((8 * x) - 8) + y) 64 := by
  obtain ⟨i, hi, rfl⟩ := bt_nI1 (n := 8) hx
  obtain ⟨j, hj, rfl⟩ := bt_nI (n := 7) hy
  rw [show (8 : Int32) = nI 8 by decide, pk_mul, pk_sub (by omega), nI_add]
  exact vp_in_nI (by omega) (by omega)
theorem i8_in {x : Int32} (h1 : (8 : Int32) ≤ x) (h2 : ¬ (10 : Int32) ≤ x) : vp_in (11 + x) 32 := by
  rw [ti_le, show (8 : Int32).toInt = 8 by decide] at h1
  rw [ti_le, show (10 : Int32).toInt = 10 by decide] at h2
  rw [show (11 : Int32) = nI 11 by decide]
  exact ad_in (b := 9) ⟨by omega, by omega⟩ (by decide) (by decide)
theorem i11_in {x : Int32} (h1 : (10 : Int32) ≤ x) (h2 : ¬ (14 : Int32) ≤ x) (h3 : ¬ x = 10) (h4 : ¬ x = 13) : vp_in (x - 11) 2 := by
  rw [ti_le, show (10 : Int32).toInt = 10 by decide] at h1
  rw [ti_le, show (14 : Int32).toInt = 14 by decide] at h2
  obtain ⟨j, hj, rfl⟩ := bt_nI (x := x) (n := 13) ⟨by omega, by omega⟩
  rw [nI_toInt (by omega)] at h1
  have a3 : j ≠ 10 := fun e => h3 (by rw [e]; decide)
  have a4 : j ≠ 13 := fun e => h4 (by rw [e]; decide)
  rw [show (11 : Int32) = nI 11 by decide, pk_sub (by omega)]
  exact vp_in_nI (by omega) (by omega)
theorem JM.same {σ u : Sg} (h : JM σ) (h1 : u 0 43 = σ 0 43) (h2 : u 0 44 = σ 0 44) (h3 : u 0 46 = σ 0 46) (h4 : u 0 9 = σ 0 9) (h5 : u 0 5 = σ 0 5) (h6 : u 0 4 = σ 0 4) (h7 : u 0 16 = σ 0 16) (h8 : u 0 11 = σ 0 11) (h9 : u 0 12 = σ 0 12) (h10 : u 0 13 = σ 0 13) : JM u := by
  unfold JM
  rw [h1, h2, h3, h4, h5, h6, h7, h8, h9, h10]
  exact h
theorem JM.neg {σ : Sg} {v : Int32} (h : JM σ) (hv : v = 0 ∨ v = 1) : JM (sf σ 0 11 v) := ⟨h.1, h.2.1, h.2.2.1, h.2.2.2.1, h.2.2.2.2.1, h.2.2.2.2.2.1, h.2.2.2.2.2.2.1, hv, h.2.2.2.2.2.2.2.2⟩
theorem JM.zer {σ : Sg} {v : Int32} (h : JM σ) (hv : v = 0 ∨ v = 1) : JM (sf σ 0 12 v) := ⟨h.1, h.2.1, h.2.2.1, h.2.2.2.1, h.2.2.2.2.1, h.2.2.2.2.2.1, h.2.2.2.2.2.2.1, h.2.2.2.2.2.2.2.1, hv, h.2.2.2.2.2.2.2.2.2⟩
theorem JM.car {σ : Sg} {v : Int32} (h : JM σ) (hv : v = 0 ∨ v = 1) : JM (sf σ 0 13 v) := ⟨h.1, h.2.1, h.2.2.1, h.2.2.2.1, h.2.2.2.2.1, h.2.2.2.2.2.1, h.2.2.2.2.2.2.1, h.2.2.2.2.2.2.2.1, h.2.2.2.2.2.2.2.2.1, hv, h.2.2.2.2.2.2.2.2.2.2⟩
theorem JM.req {σ : Sg} {v : Int32} (h : JM σ) (hv : v = 0 ∨ v = 1) : JM (sf σ 0 16 v) := ⟨h.1, h.2.1, h.2.2.1, h.2.2.2.1, h.2.2.2.2.1, h.2.2.2.2.2.1, hv, h.2.2.2.2.2.2.2⟩
theorem in32c {x : Int32} (h1 : (768 : Int32) ≤ x &&& 1023) (h2 : ¬ (800 : Int32) ≤ x &&& 1023) : vp_in ((x &&& 1023) - 768) 32 := by
  refine in32' h1 ?_
  have h0 := bt_10 x
  have e32 : (32 : Int32).toInt = 32 := by decide
  have e8 : (800 : Int32).toInt = 800 := by decide
  rw [ti_le, i768] at h1
  rw [ti_le, e8] at h2
  have a1 := h0.1
  have a2 := h0.2
  have hs : ((x &&& 1023) - 768).toInt = (x &&& 1023).toInt - 768 := by rw [ti_sub] <;> rw [i768] <;> omega
  rw [ti_le, hs, e32]
  omega
/-- waiting answers, one less -/
theorem dv_0 {x : Int32} (h : bt2 0 x 40) (hn : ¬ x = 0) : bt2 0 (x - 1) 39 := by
  obtain ⟨j, hj, rfl⟩ := bt_nI (n := 40) h
  have h0 : j ≠ 0 := fun e => hn (by rw [e]; decide)
  obtain ⟨i, rfl⟩ : ∃ i, j = i + 1 := ⟨j - 1, by omega⟩
  rw [nI_pred]
  exact bt_n (n := 39) (by omega) (by omega)
theorem dv_in {x : Int32} {j : Nat} (h : bt2 0 x 39) (hj : j < x.toNatClampNeg) : vp_in ((0 + nI j) + 1) 40 ∧ vp_in (0 + nI j) 40 := by
  have h1 := cl_le (n := 39) h
  rw [Int32.zero_add, nI_1]
  exact ⟨vp_in_nI (by omega) (by omega), vp_in_nI (by omega) (by omega)⟩
theorem cm_c {g : Int32} {j : Nat} (h : bt2 1 g 8) (hj : j ≤ 8) : ∃ i : Nat, i + 1 ≤ 8 ∧ g = nI (i + 1) ∧ (8 * g) - 8 + nI j = nI (8 * i + j) ∧ 8 * g = nI (8 * i + 8) := by
  obtain ⟨i, hi, rfl⟩ := bt_nI1 (n := 8) h
  have e8 : (8 : Int32) = nI 8 := by decide
  have e1 : 8 * nI (i + 1) = nI (8 * i + 8) := by rw [e8, pk_mul]; congr 1; 
  refine ⟨i, hi, rfl, ?_, e1⟩
  rw [e1, e8, pk_sub (by omega), nI_add]
  congr 1
theorem cm_lt {g : Int32} {j : Nat} (h : bt2 1 g 8) (hj : j < 8) : ¬ (8 * g ≤ (8 * g) - 8 + nI j) := by
  obtain ⟨i, hi, -, e1, e2⟩ := cm_c h (Nat.le_of_lt hj)
  rw [e1, e2]
  exact nI_ge (by omega) (by omega)
theorem cm_ge {g : Int32} (h : bt2 1 g 8) : 8 * g ≤ (8 * g) - 8 + nI 8 := by
  obtain ⟨i, hi, -, e1, e2⟩ := cm_c h (Nat.le_refl 8)
  rw [e1, e2]
  exact Int32.le_refl _
theorem cm_in {g : Int32} {j : Nat} (h : bt2 1 g 8) (hj : j < 8) : vp_in ((8 * g) - 8 + nI j) 64 := by
  obtain ⟨i, hi, -, e1, e2⟩ := cm_c h (Nat.le_of_lt hj)
  rw [e1]
  exact vp_in_nI (by omega) (by omega)
theorem sn_in {t g : Int32} {j : Nat} (ht : bt2 0 t 8) (hi : t = 0 → bt2 0 g 3) (h9 : g + 1 = 9) (hj : j < 8) : vp_in (((8 * t) - 8) + (0 + nI j)) 64 := by
  have h0 : ¬ t = 0 := by
    intro h
    obtain ⟨k, hk, rfl⟩ := bt_nI (n := 3) (hi h)
    rw [nI_1, show (9 : Int32) = nI 9 by decide, nI_eq (by omega) (by omega)] at h9
    omega
  obtain ⟨i, hi8, rfl⟩ := bt_nI (n := 8) ht
  have hi0 : i ≠ 0 := fun e => h0 (by rw [e]; decide)
  rw [Int32.zero_add]
  exact cm_in ⟨by rw [nI_toInt (by omega)]; omega, by rw [nI_toInt (by omega)]; omega⟩ hj
