/-! ===== the display's cycle ===== -/
section DS3
variable {q : Nat → Int32} {σ τ t : Sg} {c : Prop} {a a' b b' : Int32 × Sg}
theorem DDl_pos [Decidable c] (hc : c) (k : DD q t a b) : DD q t (if c then a else a') b := by rw [if_pos hc]; exact k
theorem DDl_neg [Decidable c] (hc : ¬ c) (k : DD q t a' b) : DD q t (if c then a else a') b := by rw [if_neg hc]; exact k
theorem L_bl (h : R q σ τ) (h0 : τ 0 5 = 0) : R (upd q 0 0) (f_Ds_beginLine σ (σ 2 1)) (f_Mo_displays_r4 τ) := by
  have h1 : R (upd q 0 0) (sf σ 6 12 0) τ := u_s0 h
  have eM : f_Mo_displays_r4 τ = if (τ 0 4) = 0 then sf (sf (sf τ 0 20 (((τ 2 (2 : Int32).toNatClampNeg) + (256 * (τ 2 (3 : Int32).toNatClampNeg))) &&& 1023)) 0 22 0) 0 23 0 else τ := if_pos h0
  have eC : f_Ds_beginLine σ (σ 2 1) = if (σ 2 1) = 0 then sf (sf (sf (sf (sf σ 6 12 0) 6 6 (((256 * (σ 11 (3 : Int32).toNatClampNeg)) + (σ 11 (2 : Int32).toNatClampNeg)) &&& 1023)) 6 9 0) 6 10 0) 6 11 0 else sf σ 6 12 0 := rfl
  rw [eM, eC, h.k1]
  by_cases c : τ 0 4 = 0
  · rw [if_pos c, if_pos c]
    exact u_new h1 (by rw [h.r11, Int32.add_comm]) (bt_10 _) rfl
  · rw [if_neg c, if_neg c]
    exact h1
theorem r4_5' (h0 : τ 0 5 = 0) : (f_Mo_displays_r4 τ) 0 5 = 0 := by
  unfold f_Mo_displays_r4
  (repeat' split) <;> exact h0
theorem r4_x (h0 : ¬ τ 0 5 = 0) : f_Mo_displays_r4 τ = τ := if_neg h0
theorem r54_x (h0 : ¬ τ 0 5 = 1) : f_Mo_displays_r54 τ = τ := if_neg h0
theorem r68_x (h0 : ¬ τ 0 5 = 8) : f_Mo_displays_r68 τ = τ := if_neg h0
theorem r81_x (h0 : ¬ τ 0 5 = 22) : f_Mo_displays_r81 τ = τ := if_neg h0
theorem r95_0 (h0 : ¬ τ 0 5 = 20) (h1 : ¬ τ 0 5 = 21) : f_Mo_displays_r95 τ = 0 := (if_neg h0).trans (if_neg h1)
theorem upd_same (q : Nat → Int32) (k : Nat) (v : Int32) (h : q k = v) : upd q k v = q := by
  funext j
  unfold upd
  by_cases hj : j = k
  · rw [if_pos hj, hj, h]
  · rw [if_neg hj]
theorem D_0 (h : R q σ τ) (h0 : τ 0 5 = 0) : DD q τ (f_Ds_fetchShape (f_Ds_beginLine σ (σ 2 1)) 19 (σ 2 1)) (f_Mo_displays τ) := by
  have hb := L_bl h h0
  have c5 := r4_5' h0
  have e21 : (f_Ds_beginLine σ (σ 2 1)) 2 1 = σ 2 1 := by
    show (if (σ 2 1) = 0 then sf (sf (sf (sf (sf σ 6 12 0) 6 6 _) 6 9 0) 6 10 0) 6 11 0 else sf σ 6 12 0) 2 1 = _
    split <;> rfl
  have ex : σ 2 1 = (f_Mo_displays_r4 τ) 0 4 := e21.symm.trans hb.k1
  have sh := L_shape (k := 19) hb ex
  generalize f_Ds_beginLine σ (σ 2 1) = s at hb sh ⊢
  generalize e4 : f_Mo_displays_r4 τ = t at hb sh c5 ex
  have n1 : ¬ t 0 5 = 1 := by rw [c5]; decide
  have n8 : ¬ t 0 5 = 8 := by rw [c5]; decide
  have n22 : ¬ t 0 5 = 22 := by rw [c5]; decide
  have n20 : ¬ t 0 5 = 20 := by rw [c5]; decide
  have n21 : ¬ t 0 5 = 21 := by rw [c5]; decide
  have e18 : f_Mo_displays_r118 t 0 (f_Mo_control t 1) = (if f_Mo_control t 1 = 0 then ((0 : Int32), t) else (1, sf t 2 (19 : Int32).toNatClampNeg (f_Mo_fetch t ((256 * (t 2 (4 : Int32).toNatClampNeg)) + t 0 4)))) := by
    unfold f_Mo_displays_r118
    by_cases cc : f_Mo_control t 1 = 0
    · rw [if_pos cc, if_pos cc]
    · rw [if_neg cc, if_neg cc]
      refine (if_pos c5).trans ?_
      rw [Int32.add_zero]
  have ed := dis_eq (v17 := (if f_Mo_control t 1 = 0 then ((0 : Int32), t) else (1, sf t 2 (19 : Int32).toNatClampNeg (f_Mo_fetch t ((256 * (t 2 (4 : Int32).toNatClampNeg)) + t 0 4)))).1) (s18 := (if f_Mo_control t 1 = 0 then ((0 : Int32), t) else (1, sf t 2 (19 : Int32).toNatClampNeg (f_Mo_fetch t ((256 * (t 2 (4 : Int32).toNatClampNeg)) + t 0 4)))).2) e4 (r54_x n1) (r68_x n8) (r81_x n22) (r95_0 n20 n21) e18
  rw [ed]
  have hp5 : (if f_Mo_control t 1 = 0 then ((0 : Int32), t) else (1, sf t 2 (19 : Int32).toNatClampNeg (f_Mo_fetch t ((256 * (t 2 (4 : Int32).toNatClampNeg)) + t 0 4)))).2 0 5 = 0 := by
    split
    · exact c5
    · exact c5
  have hp1 : (if f_Mo_control t 1 = 0 then ((0 : Int32), t) else (1, sf t 2 (19 : Int32).toNatClampNeg (f_Mo_fetch t ((256 * (t 2 (4 : Int32).toNatClampNeg)) + t 0 4)))).1 = 0 ∨ (if f_Mo_control t 1 = 0 then ((0 : Int32), t) else (1, sf t 2 (19 : Int32).toNatClampNeg (f_Mo_fetch t ((256 * (t 2 (4 : Int32).toNatClampNeg)) + t 0 4)))).1 = 1 := by
    split
    · exact Or.inl rfl
    · exact Or.inr rfl
  generalize (if f_Mo_control t 1 = 0 then ((0 : Int32), t) else (1, sf t 2 (19 : Int32).toNatClampNeg (f_Mo_fetch t ((256 * (t 2 (4 : Int32).toNatClampNeg)) + t 0 4)))) = p at sh hp5 hp1 ⊢
  rw [r195_out (fet_out hp5 (by decide) (by decide) (by decide) (by decide)) hp1]
  refine ⟨sh.1, 0, q 1, sh.2.cq ?_, fun _ => rfl, fun z => absurd h0 z⟩
  exact (upd_same _ 1 _ rfl).symm
theorem D_1 (h : R q σ τ) (h1 : τ 0 5 = 1) (s1 : q 0 = 0) : DD q τ (f_Ds_passCycle_r108 1 σ (f_Pm_isShownLine (σ 2 1))) (f_Mo_displays τ) := by
  have h' : R (upd q 1 0) σ (sf τ 0 26 0) := u_q1 h
  have e6 : f_Mo_displays_r54 τ = sf τ 0 26 0 := if_pos h1
  have ed := dis_eq (τ := τ) (r4_x (by rw [h1]; decide)) e6 (r68_x (show ¬ τ 0 5 = 8 by rw [h1]; decide)) (r81_x (show ¬ τ 0 5 = 22 by rw [h1]; decide)) (r95_0 (show ¬ τ 0 5 = 20 by rw [h1]; decide) (show ¬ τ 0 5 = 21 by rw [h1]; decide)) (r118_mid (show ¬ τ 0 5 = 0 by rw [h1]; decide) (show ¬ τ 0 5 = 23 by rw [h1]; decide))
  rw [ed]
  obtain ⟨a1, d, a2⟩ := L_mid h' s1.symm (FF1 h' s1.symm h1)
  refine ⟨a1, d, d, a2.cq ?_, fun z => absurd (h1.symm.trans z) (by decide), fun _ => rfl⟩
  funext j
  unfold upd
  by_cases j1 : j = 1
  · rw [if_pos j1, if_pos j1]
  · rw [if_neg j1, if_neg j1, if_neg j1]
theorem D_8 (h : R q σ τ) (h1 : τ 0 5 = 8) (e : q 1 = q 0) : DD q τ (f_Ds_passCycle_r108 8 (f_Ds_requestNmis σ (σ 2 1)) (f_Pm_isShownLine (σ 2 1))) (f_Mo_displays τ) := by
  have h' := L_asks h
  have c5 : (f_Mo_asks τ) 0 5 = 8 := asks_5.trans h1
  have e21 : (f_Ds_requestNmis σ (σ 2 1)) 2 1 = σ 2 1 := rq_21
  have e8 : f_Mo_displays_r68 τ = f_Mo_asks τ := if_pos h1
  have ed := dis_eq (τ := τ) (r4_x (by rw [h1]; decide)) (r54_x (by rw [h1]; decide)) e8 (r81_x (by rw [c5]; decide)) (r95_0 (by rw [c5]; decide) (by rw [c5]; decide)) (r118_mid (by rw [c5]; decide) (by rw [c5]; decide))
  rw [ed]
  have k := L_mid (c := 8) h' e (FF4 h' e c5 ⟨by decide, by decide⟩)
  rw [e21] at k
  exact DD.of k (by rw [h1]; decide)
theorem D_20 (h : R q σ τ) (h1 : τ 0 5 = 20 ∨ τ 0 5 = 21) (e : q 1 = q 0) : DD q τ (1, σ) (f_Mo_displays τ) := by
  have n : ∀ k : Int32, ¬ k = 20 → ¬ k = 21 → ¬ τ 0 5 = k := by
    intro k a b z
    rcases h1 with h1 | h1
    · exact a (z.symm.trans h1)
    · exact b (z.symm.trans h1)
  have e95 : f_Mo_displays_r95 τ = 1 := by
    rcases h1 with h1 | h1
    · exact if_pos h1
    · exact (if_neg (by rw [h1]; decide)).trans (if_pos h1)
  have ed := dis_eq (τ := τ) (r4_x (n 0 (by decide) (by decide))) (r54_x (n 1 (by decide) (by decide))) (r68_x (n 8 (by decide) (by decide))) (r81_x (n 22 (by decide) (by decide))) e95 (r118_mid (n 0 (by decide) (by decide)) (n 23 (by decide) (by decide)))
  have hf : f_Mo_fetches τ = (0, τ) := by
    rcases h1 with h1 | h1
    · exact fet_out h1 (by decide) (by decide) (by decide) (by decide)
    · exact fet_out h1 (by decide) (by decide) (by decide) (by decide)
  rw [ed, r195_out hf (Or.inr rfl)]
  exact DD.of (DP.keep h e) (n 0 (by decide) (by decide))
theorem D_22 (h : R q σ τ) (h1 : τ 0 5 = 22) (e : q 1 = q 0) : DD q τ (0, sf σ 3 0 0) (f_Mo_displays τ) := by
  have e81 : f_Mo_displays_r81 τ = sf τ 0 15 0 := if_pos h1
  have c5 : (sf τ 0 15 0) 0 5 = 22 := h1
  have ed := dis_eq (τ := τ) (r4_x (by rw [h1]; decide)) (r54_x (by rw [h1]; decide)) (r68_x (by rw [h1]; decide)) e81 (r95_0 (by rw [c5]; decide) (by rw [c5]; decide)) (r118_mid (by rw [c5]; decide) (by rw [c5]; decide))
  rw [ed, r195_out (fet_out c5 (by decide) (by decide) (by decide) (by decide)) (Or.inl rfl)]
  exact DD.of (DP.keep (u_held h rfl) e) (by rw [h1]; decide)
theorem D_23 (h : R q σ τ) (h1 : τ 0 5 = 23) (e : q 1 = q 0) : DD q τ (f_Ds_fetchShape σ 20 (16 + σ 2 1)) (f_Mo_displays τ) := by
  have sh := L_shape (k := 20) (x := 16 + σ 2 1) (y := 16 + τ 0 4) h (by rw [h.k1])
  have e18 : f_Mo_displays_r118 τ 0 (f_Mo_control τ 1) = (if f_Mo_control τ 1 = 0 then ((0 : Int32), τ) else (1, sf τ 2 (20 : Int32).toNatClampNeg (f_Mo_fetch τ ((256 * (τ 2 (4 : Int32).toNatClampNeg)) + (16 + τ 0 4))))) := by
    unfold f_Mo_displays_r118
    by_cases cc : f_Mo_control τ 1 = 0
    · rw [if_pos cc, if_pos cc]
    · rw [if_neg cc, if_neg cc]
      refine (if_neg (by rw [h1]; decide)).trans ((if_pos h1).trans ?_)
      rw [Int32.add_comm 16, ← Int32.add_assoc]
  have ed := dis_eq (τ := τ) (v17 := (if f_Mo_control τ 1 = 0 then ((0 : Int32), τ) else (1, sf τ 2 (20 : Int32).toNatClampNeg (f_Mo_fetch τ ((256 * (τ 2 (4 : Int32).toNatClampNeg)) + (16 + τ 0 4))))).1) (s18 := (if f_Mo_control τ 1 = 0 then ((0 : Int32), τ) else (1, sf τ 2 (20 : Int32).toNatClampNeg (f_Mo_fetch τ ((256 * (τ 2 (4 : Int32).toNatClampNeg)) + (16 + τ 0 4))))).2) (r4_x (by rw [h1]; decide)) (r54_x (by rw [h1]; decide)) (r68_x (by rw [h1]; decide)) (r81_x (by rw [h1]; decide)) (r95_0 (by rw [h1]; decide) (by rw [h1]; decide)) e18
  rw [ed]
  have hp5 : (if f_Mo_control τ 1 = 0 then ((0 : Int32), τ) else (1, sf τ 2 (20 : Int32).toNatClampNeg (f_Mo_fetch τ ((256 * (τ 2 (4 : Int32).toNatClampNeg)) + (16 + τ 0 4))))).2 0 5 = 23 := by
    split
    · exact h1
    · exact h1
  have hp1 : (if f_Mo_control τ 1 = 0 then ((0 : Int32), τ) else (1, sf τ 2 (20 : Int32).toNatClampNeg (f_Mo_fetch τ ((256 * (τ 2 (4 : Int32).toNatClampNeg)) + (16 + τ 0 4))))).1 = 0 ∨ (if f_Mo_control τ 1 = 0 then ((0 : Int32), τ) else (1, sf τ 2 (20 : Int32).toNatClampNeg (f_Mo_fetch τ ((256 * (τ 2 (4 : Int32).toNatClampNeg)) + (16 + τ 0 4))))).1 = 1 := by
    split
    · exact Or.inl rfl
    · exact Or.inr rfl
  generalize (if f_Mo_control τ 1 = 0 then ((0 : Int32), τ) else (1, sf τ 2 (20 : Int32).toNatClampNeg (f_Mo_fetch τ ((256 * (τ 2 (4 : Int32).toNatClampNeg)) + (16 + τ 0 4))))) = p at sh hp5 hp1 ⊢
  rw [r195_out (fet_out hp5 (by decide) (by decide) (by decide) (by decide)) hp1]
  have k := DP.keep (x := 0) sh.2 e
  exact ⟨sh.1, (DD.of k (by rw [h1]; decide)).2⟩
theorem D_m {c : Int32} (h : R q σ τ) (h1 : τ 0 5 = c) (e : q 1 = q 0) (n0 : ¬ c = 0) (n1 : ¬ c = 1) (n8 : ¬ c = 8) (n20 : ¬ c = 20) (n21 : ¬ c = 21) (n22 : ¬ c = 22) (n23 : ¬ c = 23) : DD q τ (f_Ds_passCycle_r108 c σ (f_Pm_isShownLine (σ 2 1))) (f_Mo_displays τ) := by
  have ed := dis_eq (τ := τ) (r4_x (by rw [h1]; exact n0)) (r54_x (by rw [h1]; exact n1)) (r68_x (by rw [h1]; exact n8)) (r81_x (by rw [h1]; exact n22)) (r95_0 (by rw [h1]; exact n20) (by rw [h1]; exact n21)) (r118_mid (by rw [h1]; exact n0) (by rw [h1]; exact n23))
  rw [ed]
  refine DD.of (L_mid h e ?_) (by rw [h1]; exact n0)
  by_cases c2 : c = 2
  · rw [c2] at h1 ⊢
    exact FF2 h e h1
  by_cases c3 : c = 3
  · rw [c3] at h1 ⊢
    exact FF3 h e h1
  · refine FF4 h e h1 ?_
    have hb := h.kc
    rw [h1] at hb
    obtain ⟨j, hj, ej⟩ := bt_nI (n := 23) hb
    rw [ej] at n0 n1 c2 c3 n20 n21 n22 n23 ⊢
    have k0 : j ≠ 0 := fun z => n0 (by rw [z]; rfl)
    have k1 : j ≠ 1 := fun z => n1 (by rw [z]; rfl)
    have k2 : j ≠ 2 := fun z => c2 (by rw [z]; rfl)
    have k3 : j ≠ 3 := fun z => c3 (by rw [z]; rfl)
    have k20 : j ≠ 20 := fun z => n20 (by rw [z]; rfl)
    have k21 : j ≠ 21 := fun z => n21 (by rw [z]; rfl)
    have k22 : j ≠ 22 := fun z => n22 (by rw [z]; rfl)
    have k23 : j ≠ 23 := fun z => n23 (by rw [z]; rfl)
    exact ⟨by rw [nI_toInt (by omega)]; omega, by rw [nI_toInt (by omega)]; omega⟩
theorem L_disp (h : R q σ τ) (s1 : τ 0 5 = 1 → q 0 = 0) (s2 : ¬ τ 0 5 = 1 → q 1 = q 0) : DD q τ (f_Ds_passCycle σ (σ 2 1) (σ 2 2)) (f_Mo_displays τ) := by
  rw [h.k2]
  unfold f_Ds_passCycle
  by_cases c0 : τ 0 5 = 0
  · exact DDl_pos c0 (D_0 h c0)
  refine DDl_neg c0 ?_
  by_cases c1 : τ 0 5 = 1
  · refine DDl_neg (by rw [c1]; decide) (DDl_neg (by rw [c1]; decide) (DDl_neg (by rw [c1]; decide) (DDl_neg (by rw [c1]; decide) (DDl_neg (by rw [c1]; decide) ?_))))
    rw [c1]
    exact D_1 h c1 (s1 c1)
  have e := s2 c1
  by_cases c8 : τ 0 5 = 8
  · refine DDl_pos c8 ?_
    rw [c8]
    exact D_8 h c8 e
  refine DDl_neg c8 ?_
  by_cases c20 : τ 0 5 = 20
  · exact DDl_pos c20 (D_20 h (Or.inl c20) e)
  refine DDl_neg c20 ?_
  by_cases c21 : τ 0 5 = 21
  · exact DDl_pos c21 (D_20 h (Or.inr c21) e)
  refine DDl_neg c21 ?_
  by_cases c22 : τ 0 5 = 22
  · exact DDl_pos c22 (D_22 h c22 e)
  refine DDl_neg c22 ?_
  by_cases c23 : τ 0 5 = 23
  · exact DDl_pos c23 (D_23 h c23 e)
  refine DDl_neg c23 ?_
  exact D_m h rfl e c0 c1 c8 c20 c21 c22 c23
end DS3
