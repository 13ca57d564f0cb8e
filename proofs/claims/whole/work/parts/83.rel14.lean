/-! ===== the picture ===== -/
theorem zshr (z : Int32) : (0 : Int32) >>> z = 0 := by
  rw [ti_eq, pk_shr 0 z _ rfl, show (0 : Int32).toInt = 0 from rfl]
  exact Int.zero_shiftRight _
section PIC
variable {q : Nat → Int32} {s t σ τ : Sg}
theorem in07 {v : Int32} : f_Mo_in v 0 7 = if v < 0 then 0 else (if 7 < v then 0 else 1) := rfl
theorem le8 {v : Int32} : (8 ≤ v) ↔ (7 < v) := by
  rw [ti_le, ti_lt, show (8 : Int32).toInt = 8 from rfl, show (7 : Int32).toInt = 7 from rfl]
  omega
theorem half_nn {d : Int32} (h : ¬ d < 0) : ¬ d / 2 < 0 := by
  rw [ti_lt, show (0 : Int32).toInt = 0 from rfl] at h
  have e : d = nI d.toNatClampNeg := (nI_cl (by omega)).symm
  have hl := cl_lt d
  rw [e, show (2 : Int32) = nI 2 from rfl, pk_div hl (by omega) (by omega)]
  exact nI_pos (by omega)
/-- a pattern's bit, whether it's asked one way or the other -/
theorem cov_core {S w d : Int32} (z : Int32 → Int32) : (if S = 0 then (0 : Int32) else (if 0 ≤ d then (if 8 ≤ (if w &&& 1 = 0 then d else d / 2) then 0 else (if (S >>> z (if w &&& 1 = 0 then d else d / 2)) &&& 1 = 0 then 0 else 1)) else 0)) = (if f_Mo_in (if w &&& 1 = 1 then (if d < 0 then d else d / 2) else d) 0 7 = 0 then 0 else (if (S >>> z (if w &&& 1 = 1 then (if d < 0 then d else d / 2) else d)) &&& 1 = 1 then 1 else 0)) := by
  have hge : (0 ≤ d) ↔ ¬ d < 0 := by
    rw [ti_le, ti_lt]
    omega
  by_cases hd : d < 0
  · have e1 : (if w &&& 1 = 1 then (if d < 0 then d else d / 2) else d) = d := by
      rw [if_pos hd]
      split <;> rfl
    have e2 : f_Mo_in d 0 7 = 0 := by rw [in07, if_pos hd]
    rw [e1, e2, if_pos rfl, if_neg (fun h => hge.mp h hd)]
    split <;> rfl
  · have e1 : (if w &&& 1 = 1 then (if d < 0 then d else d / 2) else d) = (if w &&& 1 = 0 then d else d / 2) := by
      rw [if_neg hd]
      by_cases c : w &&& 1 = 0
      · rw [if_pos c, if_neg (by rw [c]; decide)]
      · rw [if_neg c, if_pos (bit1n.mpr c)]
    have nn : ¬ (if w &&& 1 = 0 then d else d / 2) < 0 := by
      split
      · exact hd
      · exact half_nn hd
    rw [e1, if_pos (hge.mpr hd), in07, if_neg nn]
    generalize (if w &&& 1 = 0 then d else d / 2) = v
    by_cases hS : S = 0
    · rw [if_pos hS, hS, zshr]
      split
      · rfl
      · rfl
    · rw [if_neg hS]
      by_cases h8 : 8 ≤ v
      · rw [if_pos h8, if_pos (le8.mp h8), if_pos rfl]
      · rw [if_neg h8, if_neg (fun h => h8 (le8.mpr h)), if_neg (show ¬ (1 : Int32) = 0 by decide)]
        by_cases hb : (S >>> z v) &&& 1 = 0
        · rw [if_pos hb, if_neg (by rw [hb]; decide)]
        · rw [if_neg hb, if_pos (bit1n.mpr hb)]
theorem cov_eq (h : R q s t) (k x : Int32) : f_Pc_covers s k x = f_Mo_isCovered t k x := by
  show (if (s 11 (19 + k).toNatClampNeg) = 0 then (0 : Int32) else (if 0 ≤ (x - (s 11 (14 + k).toNatClampNeg)) then (if 8 ≤ (if (((s 11 (16 : Int32).toNatClampNeg) >>> (k &&& 31)) &&& 1) = 0 then (x - (s 11 (14 + k).toNatClampNeg)) else ((x - (s 11 (14 + k).toNatClampNeg)) / 2)) then 0 else (if (((s 11 (19 + k).toNatClampNeg) >>> ((7 - (if (((s 11 (16 : Int32).toNatClampNeg) >>> (k &&& 31)) &&& 1) = 0 then (x - (s 11 (14 + k).toNatClampNeg)) else ((x - (s 11 (14 + k).toNatClampNeg)) / 2))) &&& 31)) &&& 1) = 0 then 0 else 1)) else 0)) = (if f_Mo_in (if (((t 2 (16 : Int32).toNatClampNeg) >>> (k &&& 31)) &&& 1) = 1 then (if (x - (t 2 (14 + k).toNatClampNeg)) < 0 then (x - (t 2 (14 + k).toNatClampNeg)) else ((x - (t 2 (14 + k).toNatClampNeg)) / 2)) else (x - (t 2 (14 + k).toNatClampNeg))) 0 7 = 0 then 0 else (if (((t 2 (19 + k).toNatClampNeg) >>> ((7 - (if (((t 2 (16 : Int32).toNatClampNeg) >>> (k &&& 31)) &&& 1) = 1 then (if (x - (t 2 (14 + k).toNatClampNeg)) < 0 then (x - (t 2 (14 + k).toNatClampNeg)) else ((x - (t 2 (14 + k).toNatClampNeg)) / 2)) else (x - (t 2 (14 + k).toNatClampNeg)))) &&& 31)) &&& 1) = 1 then 1 else 0))
  rw [h.r11]
  exact cov_core (fun v => (7 - v) &&& 31)
theorem n3 {n : Int32} (h : bt2 0 n 3) : (n ≤ 0 ↔ n = 0) ∧ bt2 0 ((1 : Int32) <<< (n &&& 31)) 255 := by
  obtain ⟨j, hj, rfl⟩ := bt_nI (n := 3) h
  have : j = 0 ∨ j = 1 ∨ j = 2 ∨ j = 3 := by omega
  rcases this with e | e | e | e <;> rw [e] <;> exact ⟨by decide, ⟨by decide, by decide⟩⟩
/-- a player meets a colour -/
theorem L_hit {k n r : Int32} (h : R q s t) (b : bt2 0 n 3) : R q (if r = 0 then s else f_Pc_collide s k n) (if r = 0 then t else (if n ≤ 0 then t else sf t 5 k.toNatClampNeg ((t 5 k.toNatClampNeg) ||| ((1 : Int32) <<< (n &&& 31))))) := by
  by_cases c : r = 0
  · rw [if_pos c, if_pos c]
    exact h
  · rw [if_neg c, if_neg c]
    show R q (if n = 0 then s else sf s 15 k.toNatClampNeg ((s 15 k.toNatClampNeg) ||| ((1 : Int32) <<< (n &&& 31)))) _
    by_cases c2 : n = 0
    · rw [if_pos c2, if_pos ((n3 b).1.mpr c2)]
      exact h
    · rw [if_neg c2, if_neg (fun z => c2 ((n3 b).1.mp z))]
      exact u_col h rfl (by rw [h.p15]) (or_b (h.p15b _) (n3 b).2)
def s8C (s : Sg) (x n : Int32) : Sg := f_Pc_drawnDot_r37 (f_Pc_covers s 0 x) (f_Pc_covers s 1 x) (f_Pc_drawnDot_r27 n (f_Pc_covers s 1 x) (f_Pc_drawnDot_r16 s n (f_Pc_covers s 0 x)))
theorem dd_eq (s : Sg) (x n : Int32) : f_Pc_drawnDot s x n = (if f_Pc_drawnDot_r59 n (s8C s x n) = 0 then (if f_Pc_covers s 0 x = 0 then (if f_Pc_covers s 1 x = 0 then (((s8C s x n) 11 (8 + n).toNatClampNeg), s8C s x n) else (((s8C s x n) 11 (13 : Int32).toNatClampNeg), s8C s x n)) else (((s8C s x n) 11 (12 : Int32).toNatClampNeg), s8C s x n)) else (((s8C s x n) 11 (8 + n).toNatClampNeg), s8C s x n)) := rfl
theorem L_dot {x n : Int32} (h : R q s t) (b : bt2 0 n 3) : (f_Pc_drawnDot s x n).1 = f_Mo_draw_r141 n (f_Mo_isCovered t 0 x) (f_Mo_draw_r79 (f_Mo_isCovered t 0 x) (f_Mo_isCovered t 1 x) (f_Mo_draw_r55 n (f_Mo_isCovered t 1 x) (f_Mo_draw_r30 t n (f_Mo_isCovered t 0 x)))) (f_Mo_draw_r93 n (f_Mo_isCovered t 0 x) (f_Mo_isCovered t 1 x) (f_Mo_draw_r79 (f_Mo_isCovered t 0 x) (f_Mo_isCovered t 1 x) (f_Mo_draw_r55 n (f_Mo_isCovered t 1 x) (f_Mo_draw_r30 t n (f_Mo_isCovered t 0 x))))) ∧ R q (f_Pc_drawnDot s x n).2 (f_Mo_draw_r79 (f_Mo_isCovered t 0 x) (f_Mo_isCovered t 1 x) (f_Mo_draw_r55 n (f_Mo_isCovered t 1 x) (f_Mo_draw_r30 t n (f_Mo_isCovered t 0 x)))) := by
  have e0 := cov_eq h 0 x
  have e1 := cov_eq h 1 x
  have h4 : R q (f_Pc_drawnDot_r16 s n (f_Mo_isCovered t 0 x)) (f_Mo_draw_r30 t n (f_Mo_isCovered t 0 x)) := L_hit (k := 0) h b
  have h6 : R q (f_Pc_drawnDot_r27 n (f_Mo_isCovered t 1 x) (f_Pc_drawnDot_r16 s n (f_Mo_isCovered t 0 x))) (f_Mo_draw_r55 n (f_Mo_isCovered t 1 x) (f_Mo_draw_r30 t n (f_Mo_isCovered t 0 x))) := L_hit (k := 1) h4 b
  have h8 : R q (f_Pc_drawnDot_r37 (f_Mo_isCovered t 0 x) (f_Mo_isCovered t 1 x) (f_Pc_drawnDot_r27 n (f_Mo_isCovered t 1 x) (f_Pc_drawnDot_r16 s n (f_Mo_isCovered t 0 x)))) (f_Mo_draw_r79 (f_Mo_isCovered t 0 x) (f_Mo_isCovered t 1 x) (f_Mo_draw_r55 n (f_Mo_isCovered t 1 x) (f_Mo_draw_r30 t n (f_Mo_isCovered t 0 x)))) := by
    unfold f_Pc_drawnDot_r37 f_Mo_draw_r79
    by_cases c0 : f_Mo_isCovered t 0 x = 0
    · rw [if_pos c0, if_pos c0]
      exact h6
    · rw [if_neg c0, if_neg c0]
      by_cases c1 : f_Mo_isCovered t 1 x = 0
      · rw [if_pos c1, if_pos c1]
        exact h6
      · rw [if_neg c1, if_neg c1]
        exact u_met h6 rfl (Or.inr rfl)
  rw [dd_eq]
  have e8 : s8C s x n = f_Pc_drawnDot_r37 (f_Mo_isCovered t 0 x) (f_Mo_isCovered t 1 x) (f_Pc_drawnDot_r27 n (f_Mo_isCovered t 1 x) (f_Pc_drawnDot_r16 s n (f_Mo_isCovered t 0 x))) := by
    unfold s8C
    rw [e0, e1]
  rw [← e8] at h8
  rw [e0, e1]
  generalize s8C s x n = s8 at h8 ⊢
  generalize f_Mo_draw_r79 (f_Mo_isCovered t 0 x) (f_Mo_isCovered t 1 x) (f_Mo_draw_r55 n (f_Mo_isCovered t 1 x) (f_Mo_draw_r30 t n (f_Mo_isCovered t 0 x))) = t8 at h8 ⊢
  generalize f_Mo_isCovered t 0 x = a
  generalize f_Mo_isCovered t 1 x = d
  unfold f_Pc_drawnDot_r59 f_Mo_draw_r141 f_Mo_draw_r93
  rw [h8.r11]
  by_cases c0 : a = 0
  · by_cases c1 : d = 0
    · by_cases c2 : (t8 2 (17 : Int32).toNatClampNeg) &&& 1 = 0
      · simp only [c0, c1, c2, if_true]
        first | exact ⟨trivial, h8⟩ | exact ⟨rfl, h8⟩
      · by_cases c3 : n = 0
        · simp only [c0, c1, c2, c3, if_true, if_false]
          first | exact ⟨trivial, h8⟩ | exact ⟨rfl, h8⟩
        · simp only [c0, c1, c2, c3, if_true, if_false]
          first | exact ⟨trivial, h8⟩ | exact ⟨rfl, h8⟩
    · by_cases c2 : (t8 2 (17 : Int32).toNatClampNeg) &&& 1 = 0
      · simp only [c0, c1, c2, if_true, if_false]
        exact ⟨rfl, h8⟩
      · by_cases c3 : n = 0
        · simp only [c0, c1, c2, c3, if_true, if_false]
          exact ⟨rfl, h8⟩
        · simp only [c0, c1, c2, c3, if_true, if_false]
          exact ⟨rfl, h8⟩
  · by_cases c2 : (t8 2 (17 : Int32).toNatClampNeg) &&& 1 = 0
    · simp only [c0, c2, if_true, if_false]
      exact ⟨rfl, h8⟩
    · by_cases c3 : n = 0
      · simp only [c0, c2, c3, if_true, if_false]
        exact ⟨rfl, h8⟩
      · simp only [c0, c2, c3, if_true, if_false]
        exact ⟨rfl, h8⟩
/-- what a dot leaves alone -/
theorem dd_c {x n : Int32} {c : Nat} (h15 : Nat.beq c 15 = false) (h7 : Nat.beq c 7 = false) : (f_Pc_drawnDot s x n).2 c = s c := by
  have hc : ∀ (u : Sg) (k m : Int32), (f_Pc_collide u k m) c = u c := by
    intro u k m
    show (if m = 0 then u else st u 15 _) c = u c
    split
    · rfl
    · show cond (Nat.beq c 15) _ (u c) = u c
      rw [h15]
      rfl
  have h16 : ∀ r, (f_Pc_drawnDot_r16 s n r) c = s c := by
    intro r
    show (if r = 0 then s else f_Pc_collide s 0 n) c = s c
    split
    · rfl
    · exact hc _ _ _
  have h27 : ∀ (u : Sg) r, (f_Pc_drawnDot_r27 n r u) c = u c := by
    intro u r
    show (if r = 0 then u else f_Pc_collide u 1 n) c = u c
    split
    · rfl
    · exact hc _ _ _
  have h37 : ∀ (u : Sg) r r', (f_Pc_drawnDot_r37 r r' u) c = u c := by
    intro u r r'
    show (if r = 0 then u else (if r' = 0 then u else st u 7 _)) c = u c
    split
    · rfl
    · split
      · rfl
      · show cond (Nat.beq c 7) _ (u c) = u c
        rw [h7]
        rfl
  have e : (f_Pc_drawnDot s x n).2 = f_Pc_drawnDot_r37 (f_Pc_covers s 0 x) (f_Pc_covers s 1 x) (f_Pc_drawnDot_r27 n (f_Pc_covers s 1 x) (f_Pc_drawnDot_r16 s n (f_Pc_covers s 0 x))) := by
    rw [dd_eq]
    (repeat' split) <;> rfl
  rw [e, h37, h27, h16]
theorem sb_eq {s s' : Sg} (h11 : s 11 = s' 11) (h6 : s 6 = s' 6) (h12 : s 12 = s' 12) (h13 : s 13 = s' 13) (x : Int32) : f_Ds_shownByte s x = f_Ds_shownByte s' x := by
  have e : ∀ u : Sg, f_Ds_shownByte u x = if (if ((u 11 (0 : Int32).toNatClampNeg) &&& 1) = 0 then (0 : Int32) else 1) = 0 then 0 else (if (if (u 6 9) ≤ (u 6 10) then (0 : Int32) else 1) = 0 then 0 else (if (if (u 6 8 &&& 15) < 2 then (0 : Int32) else (if 4 < (u 6 8 &&& 15) then 0 else 1)) = 0 then 0 else (if (u 6 8 &&& 15) = 2 then (u 13 x.toNatClampNeg) else (u 12 x.toNatClampNeg)))) := fun u => rfl
  rw [e, e, h11, h6, h12, h13]
theorem num_eq (h : R q s t) {j k : Nat} (hj : j < 8) (hk : k < 4) : f_Mo_numberOf t (0 + nI (4 * j + k)) = ((f_Ds_shownByte s (0 + nI j)) >>> ((6 - (2 * (0 + nI k))) &&& 31)) &&& 3 := by
  have e4 : (4 : Int32) = nI 4 := rfl
  have ed : (0 + nI (4 * j + k)) / 4 = nI j := by
    rw [Int32.zero_add, e4, pk_div (by omega) (by omega) (by omega)]
    congr 1
    omega
  have er : (0 + nI (4 * j + k)) - (0 + nI (4 * j + k)) / 4 * 4 = nI k := by
    rw [ed, Int32.zero_add, e4, pk_mul, pk_sub (by omega)]
    congr 1
    omega
  have eM : f_Mo_numberOf t (0 + nI (4 * j + k)) = if f_Mo_control t 0 = 0 then 0 else (if f_Mo_hasRows t = 0 then 0 else (if f_Mo_in (t 0 27) 2 4 = 0 then 0 else (((if (t 0 27) = 2 then (t 4 ((0 + nI (4 * j + k)) / 4).toNatClampNeg) else (t 3 ((0 + nI (4 * j + k)) / 4).toNatClampNeg)) >>> ((6 - (2 * ((0 + nI (4 * j + k)) - (0 + nI (4 * j + k)) / 4 * 4))) &&& 31)) &&& 3))) := rfl
  have eC : f_Ds_shownByte s (0 + nI j) = if f_Ds_isOn s = 0 then 0 else (if f_Ds_hasRow s = 0 then 0 else (if f_Ds_modeHasData s = 0 then 0 else (if f_Ds_mode s = 2 then (s 13 (0 + nI j).toNatClampNeg) else (s 12 (0 + nI j).toNatClampNeg)))) := rfl
  have z0 : ∀ w : Int32, (0 : Int32) = (0 >>> w) &&& 3 := by
    intro w
    rw [zshr]
    rfl
  rw [eM, eC, ctl0 h, L_has h, er, ed, Int32.zero_add, Int32.zero_add]
  by_cases c1 : f_Mo_control t 0 = 0
  · rw [if_pos c1, if_pos c1]
    exact z0 _
  rw [if_neg c1, if_neg c1]
  by_cases c2 : f_Mo_hasRows t = 0
  · rw [if_pos c2, if_pos c2]
    exact z0 _
  rw [if_neg c2, if_neg c2]
  obtain ⟨hlt, hth, h27, -⟩ := has_ml h c2
  rw [L_hasData h27]
  by_cases c3 : f_Mo_in (t 0 27) 2 4 = 0
  · rw [if_pos c3, if_pos c3]
    exact z0 _
  rw [if_neg c3, if_neg c3, show f_Ds_mode s = t 0 27 from h27.symm, h.a12, h.a13]
theorem dot_ix (l : Int32) (j k : Nat) : (l - 1) * 32 + ((4 * (0 + nI j)) + (0 + nI k)) = (32 * (l - 1)) + (0 + nI (4 * j + k)) := by
  have e : 4 * (0 + nI j) + (0 + nI k) = 0 + nI (4 * j + k) := by
    rw [Int32.zero_add, Int32.zero_add, Int32.zero_add, show (4 : Int32) = nI 4 from rfl, pk_mul, nI_add]
  rw [e]
  grind
theorem dot_x (j k : Nat) : (4 * (0 + nI j)) + (0 + nI k) = 0 + nI (4 * j + k) := by
  rw [Int32.zero_add, Int32.zero_add, Int32.zero_add, show (4 : Int32) = nI 4 from rfl, pk_mul, nI_add]
/-- one dot -/
theorem L_bd (r1 : Int32) (h : R q s t) {s2 : Sg} {j k : Nat} (hj : j < 8) (hk : k < 4) (hr : f_Ds_shownByte s2 (0 + nI j) = f_Ds_shownByte s (0 + nI j)) (hl : r1 = (s 2 1 - 1) * 32) : R q (bd_Pc_drawLine_26 r1 s2 j (f_Ds_shownByte s2 (0 + nI j)) s k) (bd_Mo_draw_2 τ t (4 * j + k)) := by
  have hn := num_eq h hj hk
  have hb : bt2 0 (f_Mo_numberOf t (0 + nI (4 * j + k))) 3 := by rw [hn]; exact bt_2 _
  have hd := L_dot (x := 0 + nI (4 * j + k)) h hb
  have e2 : (f_Pc_drawnDot s (0 + nI (4 * j + k)) (f_Mo_numberOf t (0 + nI (4 * j + k)))).2 2 = s 2 := dd_c rfl rfl
  have hk1 := hd.2.k1
  unfold bd_Pc_drawLine_26 bd_Mo_draw_2
  rw [dot_x, hr, ← hn]
  refine u_dot hd.2 ?_ hd.1
  rw [← hk1, e2, hl]
  rw [show (0 + nI (4 * j + k)) = (4 * (0 + nI j)) + (0 + nI k) from (dot_x j k).symm, dot_ix, dot_x]
theorem bd_c (r1 r3 : Int32) {s2 : Sg} {j k c : Nat} (h15 : Nat.beq c 15 = false) (h7 : Nat.beq c 7 = false) (h14 : Nat.beq c 14 = false) : (bd_Pc_drawLine_26 r1 s2 j r3 s k) c = s c := by
  show cond (Nat.beq c 14) _ ((f_Pc_drawnDot s ((4 * (0 + nI j)) + (0 + nI k)) ((r3 >>> ((6 - (2 * (0 + nI k))) &&& 31)) &&& 3)).2 c) = s c
  rw [h14]
  exact dd_c h15 h7
end PIC
