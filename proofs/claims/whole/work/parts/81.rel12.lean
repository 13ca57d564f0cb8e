/-! ===== the display: requests, shapes, its cycle ===== -/
section DS2
variable {q : Nat → Int32} {σ τ : Sg}
theorem L_req {x : Int32} (h : R q σ τ) (b : bt2 0 x 255) : R q (f_Ds_requestNmi σ x) (if ((τ 2 (6 : Int32).toNatClampNeg) &&& x) = 0 then τ else sf (sf τ 0 33 ((τ 0 33) ||| x)) 0 16 1) := by
  show R q (if ((σ 11 (6 : Int32).toNatClampNeg) &&& x) = 0 then σ else sf (sf σ 6 5 ((σ 6 5) ||| x)) 3 1 1) _
  rw [h.r11]
  by_cases c : ((τ 2 (6 : Int32).toNatClampNeg) &&& x) = 0
  · rw [if_pos c, if_pos c]
    exact h
  · rw [if_neg c, if_neg c]
    exact u_nmi (u_cau h (by rw [h.d5]) (or_b h.d5b b)) rfl (Or.inr rfl)
theorem mk_eq (h : R q σ τ) : (¬ f_Ds_isInMarkedLastRow σ = 0) ↔ (¬ f_Mo_hasRows τ = 0 ∧ ¬ τ 0 25 = 0 ∧ τ 0 28 = τ 0 29 - 1) := by
  have ed : f_Ds_isInMarkedLastRow σ = if ((σ 6 10) + 1) = (σ 6 9) then (if ((σ 6 8) &&& 128) = 0 then 0 else 1) else 0 := rfl
  rw [ed]
  constructor
  · intro hn
    by_cases c1 : ((σ 6 10) + 1) = (σ 6 9)
    · rw [if_pos c1] at hn
      by_cases c2 : ((σ 6 8) &&& 128) = 0
      · rw [if_pos c2] at hn
        exact absurd rfl hn
      · rcases h.ml with ⟨a, b, c, d⟩ | ⟨a, b, c, d, m, w, r1, r2, -⟩
        · rw [b, c] at c1
          exact absurd c1 (by decide)
        · rw [c, d] at c1
          refine ⟨?_, ?_, ?_⟩
          · have e : f_Mo_hasRows τ = 1 := by
              show (if (τ 0 22) = 0 then (0 : Int32) else (if (τ 0 29) ≤ (τ 0 28) then 0 else 1)) = 1
              rw [if_neg (by rw [a]; decide), if_neg]
              rw [← c1]
              obtain ⟨j, hj, ej⟩ := bt_nI (n := 8) r1
              rw [ej, nI_1]
              exact nI_ge (by omega) (by omega)
            rw [e]
            decide
          · rw [m, if_neg c2]
            decide
          · rw [← c1]
            grind
    · rw [if_neg c1] at hn
      exact absurd rfl hn
  · rintro ⟨c1, c2, c3⟩
    obtain ⟨hlt, hth, h27, hrow, hrows, m, -⟩ := has_ml h c1
    rw [if_pos (show (σ 6 10) + 1 = σ 6 9 by rw [hrow, hrows, c3]; grind)]
    rw [m] at c2
    by_cases c4 : ((σ 6 8) &&& 128) = 0
    · rw [if_pos c4] at c2
      exact absurd rfl c2
    · rw [if_neg c4]
      decide
theorem pic_eq (h : R q σ τ) : f_Mo_isPicture τ = if f_Pm_isShownLine (σ 2 1) = 0 then 0 else (if f_Ds_isOn σ = 0 then 0 else 1) := by
  rw [h.k1, ctl0 h]
  rfl
theorem L_asks (h : R q σ τ) : R q (f_Ds_requestNmis σ (σ 2 1)) (f_Mo_asks τ) := by
  have e3 : f_Mo_asks_r4 τ (f_Mo_isPicture τ) = if f_Mo_isPicture τ = 0 then 0 else (if f_Mo_hasRows τ = 0 then 0 else (if (τ 0 25) = 0 then 0 else (if (τ 0 28) = ((τ 0 29) - 1) then (if ((τ 2 (6 : Int32).toNatClampNeg) &&& 128) = 0 then 0 else 1) else 0))) := rfl
  have e4 : f_Mo_asks_r60 τ = if (τ 0 4) = 13 then (if ((τ 2 (6 : Int32).toNatClampNeg) &&& 64) = 0 then 0 else 1) else 0 := rfl
  have eM : f_Mo_asks τ = if f_Mo_asks_r4 τ (f_Mo_isPicture τ) = 0 then (if f_Mo_asks_r60 τ = 0 then τ else sf (sf τ 0 33 ((τ 0 33) ||| 64)) 0 16 1) else sf (sf τ 0 33 ((τ 0 33) ||| 128)) 0 16 1 := rfl
  have eC : f_Ds_requestNmis σ (σ 2 1) = if (σ 2 1) = 13 then f_Ds_requestNmi σ 64 else (if f_Pm_isShownLine (σ 2 1) = 0 then σ else (if f_Ds_isOn σ = 0 then σ else (if f_Ds_isInMarkedLastRow σ = 0 then σ else f_Ds_requestNmi σ 128))) := rfl
  have hp := pic_eq h
  have hmk := mk_eq h
  have r64 := L_req (x := 64) h ⟨by decide, by decide⟩
  have r128 := L_req (x := 128) h ⟨by decide, by decide⟩
  rw [eC, eM]
  by_cases c : σ 2 1 = 13
  · have hp0 : f_Mo_isPicture τ = 0 := by
      rw [hp, c]
      rfl
    rw [if_pos c, e3, if_pos hp0, if_pos rfl, e4, if_pos (h.k1.symm.trans c)]
    by_cases c2 : ((τ 2 (6 : Int32).toNatClampNeg) &&& 64) = 0
    · rw [if_pos c2] at r64
      rw [if_pos c2, if_pos rfl]
      exact r64
    · rw [if_neg c2] at r64
      rw [if_neg c2, if_neg (by decide)]
      exact r64
  · have e40 : f_Mo_asks_r60 τ = 0 := by
      rw [e4, if_neg (fun z => c (h.k1.trans z))]
    rw [if_neg c, e40, if_pos rfl]
    by_cases p1 : f_Pm_isShownLine (σ 2 1) = 0
    · rw [if_pos p1] at hp
      rw [if_pos p1, e3, if_pos hp, if_pos rfl]
      exact h
    · rw [if_neg p1] at hp
      rw [if_neg p1]
      by_cases p2 : f_Ds_isOn σ = 0
      · rw [if_pos p2] at hp
        rw [if_pos p2, e3, if_pos hp, if_pos rfl]
        exact h
      · rw [if_neg p2] at hp
        rw [if_neg p2]
        have hp1 : ¬ f_Mo_isPicture τ = 0 := by rw [hp]; decide
        by_cases p3 : f_Ds_isInMarkedLastRow σ = 0
        · have : f_Mo_asks_r4 τ (f_Mo_isPicture τ) = 0 := by
            rw [e3, if_neg hp1]
            by_cases a1 : f_Mo_hasRows τ = 0
            · rw [if_pos a1]
            · rw [if_neg a1]
              by_cases a2 : τ 0 25 = 0
              · rw [if_pos a2]
              · rw [if_neg a2]
                by_cases a3 : τ 0 28 = τ 0 29 - 1
                · exact absurd p3 (hmk.mpr ⟨a1, a2, a3⟩)
                · rw [if_neg a3]
          rw [if_pos p3, this, if_pos rfl]
          exact h
        · obtain ⟨a1, a2, a3⟩ := hmk.mp p3
          rw [if_neg p3, e3, if_neg hp1, if_neg a1, if_neg a2, if_pos a3]
          by_cases c2 : ((τ 2 (6 : Int32).toNatClampNeg) &&& 128) = 0
          · rw [if_pos c2] at r128
            rw [if_pos c2, if_pos rfl]
            exact r128
          · rw [if_neg c2] at r128
            rw [if_neg c2, if_neg (by decide)]
            exact r128
/-- a shape is fetched -/
theorem L_shape {k x y : Int32} (h : R q σ τ) (e : x = y) : (f_Ds_fetchShape σ k x).1 = (if f_Mo_control τ 1 = 0 then ((0 : Int32), τ) else (1, sf τ 2 k.toNatClampNeg (f_Mo_fetch τ ((256 * (τ 2 (4 : Int32).toNatClampNeg)) + y)))).1 ∧ R q (f_Ds_fetchShape σ k x).2 (if f_Mo_control τ 1 = 0 then ((0 : Int32), τ) else (1, sf τ 2 k.toNatClampNeg (f_Mo_fetch τ ((256 * (τ 2 (4 : Int32).toNatClampNeg)) + y)))).2 := by
  have eC : f_Ds_fetchShape σ k x = if ((σ 11 (0 : Int32).toNatClampNeg) &&& 2) = 0 then (0, σ) else (1, sf σ 11 k.toNatClampNeg (f_Me_at σ ((256 * (σ 11 (4 : Int32).toNatClampNeg)) + x))) := rfl
  rw [eC]
  by_cases c : f_Mo_control τ 1 = 0
  · rw [if_pos c, if_pos ((ctl1 h).mp c)]
    exact ⟨rfl, h⟩
  · rw [if_neg c, if_neg (fun z => c ((ctl1 h).mpr z))]
    exact ⟨rfl, u_reg h rfl (by rw [L_at h, h.r11, e])⟩
/-! the reference's cycle -/
theorem fet_out {c : Int32} (hc : τ 0 5 = c) (h1 : ¬ c = 1) (h2 : ¬ c = 2) (h3 : ¬ c = 3) (h4 : f_Mo_in c 4 19 = 0) : f_Mo_fetches τ = (0, τ) := by
  have e8 : ∀ r, f_Mo_fetches_r78 τ r = 0 := by
    intro r
    show (if r = 0 then (0 : Int32) else (if f_Mo_in (τ 0 27) 2 4 = 0 then 0 else (if f_Mo_in (τ 0 5) 4 19 = 0 then 0 else 1))) = 0
    rw [hc, if_pos h4]
    split
    · rfl
    · split <;> rfl
  unfold f_Mo_fetches
  rw [hc]
  exact (if_neg h1).trans ((if_neg h2).trans ((if_neg h3).trans (if_pos (e8 _))))
theorem r195_out {v r : Int32} (hf : f_Mo_fetches τ = (0, τ)) (hv : v = 0 ∨ v = 1) : f_Mo_displays_r195 v τ r = (v, τ) := by
  unfold f_Mo_displays_r195
  rw [hf]
  rcases hv with e | e
  · rw [e]
    by_cases c : r = 0
    · exact (if_pos c).trans (if_pos rfl)
    · exact (if_neg c).trans ((if_pos rfl).trans (if_pos rfl))
  · rw [e]
    by_cases c : r = 0
    · exact (if_pos c).trans (if_neg (by decide))
    · exact (if_neg c).trans ((if_pos rfl).trans (if_neg (by decide)))
theorem dis_eq {s4 s6 s8 s10 s18 : Sg} {v11 v17 : Int32} (e4 : f_Mo_displays_r4 τ = s4) (e6 : f_Mo_displays_r54 s4 = s6) (e8 : f_Mo_displays_r68 s6 = s8) (e10 : f_Mo_displays_r81 s8 = s10) (e11 : f_Mo_displays_r95 s10 = v11) (e18 : f_Mo_displays_r118 s10 v11 (f_Mo_control s10 1) = (v17, s18)) : f_Mo_displays τ = f_Mo_displays_r195 v17 s18 (f_Mo_isPicture s18) := by
  unfold f_Mo_displays
  simp only [e4, e6, e8, e10, e11, e18]
theorem r118_mid {s : Sg} {v r : Int32} (h0 : ¬ s 0 5 = 0) (h23 : ¬ s 0 5 = 23) : f_Mo_displays_r118 s v r = (v, s) := by
  unfold f_Mo_displays_r118
  by_cases c : r = 0
  · exact if_pos c
  · exact (if_neg c).trans ((if_neg h0).trans (if_neg h23))
/-- a cycle in the middle of a line: class and reference fetch for the line -/
theorem L_mid {c : Int32} (h : R q σ τ) (e : q 1 = q 0) (ff : DP q (f_Ds_fetchForLine σ c) (f_Mo_fetches τ)) : DP q (f_Ds_passCycle_r108 c σ (f_Pm_isShownLine (σ 2 1))) (f_Mo_displays_r195 0 τ (f_Mo_isPicture τ)) := by
  have hp := pic_eq h
  unfold f_Ds_passCycle_r108 f_Mo_displays_r195
  by_cases p1 : f_Pm_isShownLine (σ 2 1) = 0
  · rw [if_pos p1] at hp
    exact Dl_pos p1 (Dr_pos hp (Dr_pos rfl (DP.keep h e)))
  · rw [if_neg p1] at hp
    refine Dl_neg p1 ?_
    by_cases p2 : f_Ds_isOn σ = 0
    · rw [if_pos p2] at hp
      exact Dl_pos p2 (Dr_pos hp (Dr_pos rfl (DP.keep h e)))
    · rw [if_neg p2] at hp
      refine Dl_neg p2 (Dr_neg (by rw [hp]; decide) ?_)
      generalize f_Ds_fetchForLine σ c = n at ff ⊢
      generalize f_Mo_fetches τ = m at ff ⊢
      obtain ⟨f1, d, f2⟩ := ff
      by_cases c1 : m.1 = 0
      · exact Dl_pos (f1.trans c1) (Dr_pos c1 (Dr_pos rfl ⟨rfl, d, f2⟩))
      · exact Dl_neg (fun z => c1 (f1.symm.trans z)) (Dr_neg c1 ⟨rfl, d, f2⟩)
/-- what a display's cycle leaves -/
def DD (q : Nat → Int32) (τ : Sg) (a b : Int32 × Sg) : Prop := a.1 = b.1 ∧ ∃ d f, R (upd (upd q 0 d) 1 f) a.2 b.2 ∧ (τ 0 5 = 0 → d = 0) ∧ (¬ τ 0 5 = 0 → f = d)
theorem DD.of {a b : Int32 × Sg} (h : DP q a b) (hc : ¬ τ 0 5 = 0) : DD q τ a b := by
  obtain ⟨h1, d, h2⟩ := h
  exact ⟨h1, d, d, h2, fun z => absurd z hc, fun _ => rfl⟩
theorem asks_5 : (f_Mo_asks τ) 0 5 = τ 0 5 := by
  unfold f_Mo_asks
  show (if f_Mo_asks_r4 τ (f_Mo_isPicture τ) = 0 then (if f_Mo_asks_r60 τ = 0 then τ else sf (sf τ 0 33 ((τ 0 33) ||| 64)) 0 16 1) else sf (sf τ 0 33 ((τ 0 33) ||| 128)) 0 16 1) 0 5 = τ 0 5
  (repeat' split) <;> rfl
theorem rq_21 {x : Int32} : (f_Ds_requestNmis σ x) 2 1 = σ 2 1 := by
  have e : ∀ y, (f_Ds_requestNmi σ y) 2 1 = σ 2 1 := by
    intro y
    show (if ((σ 11 (6 : Int32).toNatClampNeg) &&& y) = 0 then σ else sf (sf σ 6 5 ((σ 6 5) ||| y)) 3 1 1) 2 1 = _
    split <;> rfl
  show (if x = 13 then f_Ds_requestNmi σ 64 else (if f_Pm_isShownLine x = 0 then σ else (if f_Ds_isOn σ = 0 then σ else (if f_Ds_isInMarkedLastRow σ = 0 then σ else f_Ds_requestNmi σ 128)))) 2 1 = _
  (repeat' split) <;> first | rfl | exact e _
end DS2
