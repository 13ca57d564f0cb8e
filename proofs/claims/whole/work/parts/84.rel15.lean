theorem u_row {q : Nat → Int32} {σ τ : Sg} {v w z : Int32} (h : R q σ τ) (ml : rMl (sf σ 6 10 v) (sf (sf τ 0 28 w) 0 23 z)) (e : z = τ 0 23) : R q (sf σ 6 10 v) (sf (sf τ 0 28 w) 0 23 z) := ⟨h.1, h.2.1, h.2.2.1, h.2.2.2.1, ⟨h.d5, h.d5b, h.d6, h.d6b, h.d7, h.d7b, h.d11.trans e.symm, e.symm ▸ h.d11b, h.d13⟩, ml, h.2.2.2.2.2.2.1, h.2.2.2.2.2.2.2.1, h.2.2.2.2.2.2.2.2.1, h.2.2.2.2.2.2.2.2.2.1, h.2.2.2.2.2.2.2.2.2.2.1, h.2.2.2.2.2.2.2.2.2.2.2⟩
theorem u_row1 {q : Nat → Int32} {σ τ : Sg} {v w z : Int32} (h : R q σ τ) (ml : rMl (sf (sf σ 6 10 v) 6 11 1) (sf (sf τ 0 28 w) 0 23 z)) (e : z = 1) : R q (sf (sf σ 6 10 v) 6 11 1) (sf (sf τ 0 28 w) 0 23 z) := ⟨h.1, h.2.1, h.2.2.1, h.2.2.2.1, ⟨h.d5, h.d5b, h.d6, h.d6b, h.d7, h.d7b, e.symm, Or.inr e, h.d13⟩, ml, h.2.2.2.2.2.2.1, h.2.2.2.2.2.2.2.1, h.2.2.2.2.2.2.2.2.1, h.2.2.2.2.2.2.2.2.2.1, h.2.2.2.2.2.2.2.2.2.2.1, h.2.2.2.2.2.2.2.2.2.2.2⟩
/-! ===== a line is drawn ===== -/
section LIN
variable {q : Nat → Int32} {s t σ τ : Sg}
theorem L_26 (r1 : Int32) {j : Nat} (h : R q s (it_Mo_draw_2 τ (4 * j))) (hj : j < 8) (hl : r1 = (s 2 1 - 1) * 32) : ∀ k, k ≤ 4 → R q (it_Pc_drawLine_26 r1 s j (f_Ds_shownByte s (0 + nI j)) k) (it_Mo_draw_2 τ (4 * j + k)) ∧ (it_Pc_drawLine_26 r1 s j (f_Ds_shownByte s (0 + nI j)) k) 2 = s 2 ∧ (it_Pc_drawLine_26 r1 s j (f_Ds_shownByte s (0 + nI j)) k) 11 = s 11 ∧ (it_Pc_drawLine_26 r1 s j (f_Ds_shownByte s (0 + nI j)) k) 6 = s 6 ∧ (it_Pc_drawLine_26 r1 s j (f_Ds_shownByte s (0 + nI j)) k) 12 = s 12 ∧ (it_Pc_drawLine_26 r1 s j (f_Ds_shownByte s (0 + nI j)) k) 13 = s 13 := by
  intro k
  induction k with
  | zero => intro _; exact ⟨h, rfl, rfl, rfl, rfl, rfl⟩
  | succ k ih =>
    intro hk
    obtain ⟨i1, i2, i3, i4, i5, i6⟩ := ih (by omega)
    have eC : it_Pc_drawLine_26 r1 s j (f_Ds_shownByte s (0 + nI j)) (k + 1) = bd_Pc_drawLine_26 r1 s j (f_Ds_shownByte s (0 + nI j)) (it_Pc_drawLine_26 r1 s j (f_Ds_shownByte s (0 + nI j)) k) k := rfl
    have eM : it_Mo_draw_2 τ (4 * j + (k + 1)) = bd_Mo_draw_2 τ (it_Mo_draw_2 τ (4 * j + k)) (4 * j + k) := rfl
    rw [eC, eM]
    generalize it_Pc_drawLine_26 r1 s j (f_Ds_shownByte s (0 + nI j)) k = u at i1 i2 i3 i4 i5 i6 ⊢
    generalize it_Mo_draw_2 τ (4 * j + k) = w at i1 ⊢
    refine ⟨L_bd r1 i1 hj (by omega) (sb_eq i3.symm i4.symm i5.symm i6.symm _) (by rw [i2]; exact hl), ?_, ?_, ?_, ?_, ?_⟩
    · exact (bd_c r1 _ rfl rfl rfl).trans i2
    · exact (bd_c r1 _ rfl rfl rfl).trans i3
    · exact (bd_c r1 _ rfl rfl rfl).trans i4
    · exact (bd_c r1 _ rfl rfl rfl).trans i5
    · exact (bd_c r1 _ rfl rfl rfl).trans i6
theorem L_7 (r1 : Int32) (h : R q σ τ) (hl : r1 = (σ 2 1 - 1) * 32) : ∀ j, j ≤ 8 → R q (it_Pc_drawLine_7 σ r1 j) (it_Mo_draw_2 τ (4 * j)) ∧ (it_Pc_drawLine_7 σ r1 j) 2 = σ 2 := by
  intro j
  induction j with
  | zero => intro _; exact ⟨h, rfl⟩
  | succ j ih =>
    intro hj
    obtain ⟨i1, i2⟩ := ih (by omega)
    have eC : it_Pc_drawLine_7 σ r1 (j + 1) = it_Pc_drawLine_26 r1 (it_Pc_drawLine_7 σ r1 j) j (f_Ds_shownByte (it_Pc_drawLine_7 σ r1 j) (0 + nI j)) 4 := rfl
    have k := L_26 (τ := τ) r1 (j := j) i1 (by omega) (by rw [i2]; exact hl) 4 (by omega)
    rw [eC]
    exact ⟨k.1, k.2.1.trans i2⟩
theorem L_line (h : R q σ τ) : R q (f_Pc_drawLine σ (σ 2 1)) (it_Mo_draw_2 τ 32) ∧ (f_Pc_drawLine σ (σ 2 1)) 2 = σ 2 := L_7 _ h rfl 8 (by omega)
theorem L_fin (h : R q s t) : R q (f_Ds_finishRow s) (f_Mo_draw_r189 t (f_Mo_control t 0)) := by
  have eC : f_Ds_finishRow s = if f_Ds_isOn s = 0 then s else (if f_Ds_hasRow s = 0 then s else (if (s 6 8 &&& 15) = 1 then (if (s 6 8 &&& 64) = 0 then sf s 6 10 (s 6 10 + 1) else sf (sf s 6 10 (s 6 10 + 1)) 6 11 1) else sf s 6 10 (s 6 10 + 1))) := rfl
  have eM : f_Mo_draw_r189 t (f_Mo_control t 0) = if f_Mo_control t 0 = 0 then t else (if f_Mo_hasRows t = 0 then t else sf (sf t 0 28 (t 0 28 + 1)) 0 23 (if (t 0 23) = 0 then (if (t 0 28 + 1) = (t 0 29) then (if (t 0 24) = 0 then 0 else 1) else 0) else 1)) := rfl
  rw [eC, eM, ctl0 h, L_has h]
  by_cases c1 : f_Mo_control t 0 = 0
  · rw [if_pos c1, if_pos c1]
    exact h
  rw [if_neg c1, if_neg c1]
  by_cases c2 : f_Mo_hasRows t = 0
  · rw [if_pos c2, if_pos c2]
    exact h
  rw [if_neg c2, if_neg c2]
  obtain ⟨hlt, hth, h27, hrow, hrows, h25, h24, b28, b29, hone⟩ := has_ml h c2
  have b28' : bt2 0 (t 0 28 + 1) 8 := by
    obtain ⟨a, ha, ea⟩ := bt_nI (n := 8) b28
    obtain ⟨d, hd, ed⟩ := bt_nI1 (n := 8) b29
    rw [ea, ed] at hlt
    have : a < d + 1 := Nat.lt_of_not_le (fun z => hlt (nI_le z (by omega)))
    rw [ea, nI_1]
    exact bt_n (n := 8) (by omega) (by omega)
  by_cases c3 : (s 6 8 &&& 15) = 1
  · have e29 : t 0 29 = 1 := hone (h27.trans c3)
    have e28 : t 0 28 = 0 := by
      rw [e29] at hlt
      obtain ⟨a, ha, ea⟩ := bt_nI (n := 8) b28
      rw [ea] at hlt ⊢
      have : ¬ 1 ≤ a := fun z => hlt (nI_le (a := 1) z (by omega))
      have : a = 0 := by omega
      rw [this]
      rfl
    have ez : t 0 28 + 1 = t 0 29 := by rw [e28, e29]; rfl
    rw [if_pos c3, if_pos ez]
    rw [if_pos c3] at h24
    by_cases c4 : (s 6 8 &&& 64) = 0
    · rw [if_pos c4] at h24
      rw [if_pos c4, if_pos h24]
      have ev : (if t 0 23 = 0 then (0 : Int32) else 1) = t 0 23 := by
        rcases h.d11b with e | e <;> rw [e] <;> rfl
      refine u_row h ?_ ev
      exact Or.inr ⟨hth, h27, congrArg (· + 1) hrow, hrows, h25, by rw [show (sf (sf t 0 28 (t 0 28 + 1)) 0 23 (if t 0 23 = 0 then (0 : Int32) else 1)) 0 24 = t 0 24 from rfl, h24]; exact ((if_pos c3).trans (if_pos c4)).symm, b28', b29, hone⟩
    · rw [if_neg c4] at h24
      rw [if_neg c4, if_neg (show ¬ t 0 24 = 0 by rw [h24]; decide)]
      have ev : (if t 0 23 = 0 then (1 : Int32) else 1) = 1 := by
        split <;> rfl
      refine u_row1 h ?_ ev
      exact Or.inr ⟨hth, h27, congrArg (· + 1) hrow, hrows, h25, by rw [show (sf (sf t 0 28 (t 0 28 + 1)) 0 23 (if t 0 23 = 0 then (1 : Int32) else 1)) 0 24 = t 0 24 from rfl, h24]; exact ((if_pos c3).trans (if_neg c4)).symm, b28', b29, hone⟩
  · rw [if_neg c3] at h24
    rw [if_neg c3, if_pos h24]
    have ev : (if t 0 23 = 0 then (if (t 0 28 + 1) = (t 0 29) then (0 : Int32) else 0) else 1) = t 0 23 := by
      have : (if (t 0 28 + 1) = (t 0 29) then (0 : Int32) else 0) = 0 := by split <;> rfl
      rw [this]
      rcases h.d11b with e | e <;> rw [e] <;> rfl
    refine u_row h ?_ ev
    exact Or.inr ⟨hth, h27, congrArg (· + 1) hrow, hrows, h25, by rw [show (sf (sf t 0 28 (t 0 28 + 1)) 0 23 _) 0 24 = t 0 24 from rfl, h24]; exact (if_neg c3).symm, b28', b29, hone⟩
theorem L_draw (h : R q σ τ) : R q (f_Pm_endLine_r4 σ (σ 2 1) (f_Pm_isShownLine (σ 2 1))) (f_Mo_tick_r105 τ (f_Mo_in (τ 0 4) 1 12)) := by
  have e : f_Mo_in (τ 0 4) 1 12 = f_Pm_isShownLine (σ 2 1) := by rw [h.k1]; rfl
  rw [e]
  unfold f_Pm_endLine_r4 f_Mo_tick_r105
  by_cases c : f_Pm_isShownLine (σ 2 1) = 0
  · rw [if_pos c, if_pos c]
    exact h
  · rw [if_neg c, if_neg c]
    exact L_fin (L_line h).1
theorem L_end (h : R q σ τ) : R q (f_Pm_endLine σ (σ 2 1)) (f_Mo_deliver (f_Mo_tick_r105 τ (f_Mo_in (τ 0 4) 1 12))) := L_send (L_draw h)
end LIN
