/-! ===== the display ===== -/
section DSP
variable {q : Nat → Int32} {σ τ : Sg}
theorem ctl0 (h : R q σ τ) : f_Ds_isOn σ = f_Mo_control τ 0 := by
  show (if ((σ 11 (0 : Int32).toNatClampNeg) &&& 1) = 0 then (0 : Int32) else 1) = (if (((τ 2 (0 : Int32).toNatClampNeg) >>> ((0 : Int32) &&& 31)) &&& 1) = 1 then 1 else 0)
  rw [h.r11, sh0]
  rcases bit1 (τ 2 (0 : Int32).toNatClampNeg) with e | e <;> rw [e] <;> rfl
theorem ctl1 (h : R q σ τ) : (f_Mo_control τ 1 = 0) ↔ ((σ 11 (0 : Int32).toNatClampNeg) &&& 2) = 0 := by
  show ((if (((τ 2 (0 : Int32).toNatClampNeg) >>> ((1 : Int32) &&& 31)) &&& 1) = 1 then (1 : Int32) else 0) = 0) ↔ _
  rw [h.r11]
  by_cases c : (((τ 2 (0 : Int32).toNatClampNeg) >>> ((1 : Int32) &&& 31)) &&& 1) = 1
  · rw [if_pos c]
    have := (bitk1 _).mp c
    exact ⟨fun z => absurd z (by decide), fun z => absurd z this⟩
  · rw [if_neg c]
    have : ((τ 2 (0 : Int32).toNatClampNeg) &&& 2) = 0 := Decidable.not_not.mp (fun z => c ((bitk1 _).mpr z))
    exact ⟨fun _ => this, fun _ => rfl⟩
theorem L_has (h : R q σ τ) : f_Ds_hasRow σ = f_Mo_hasRows τ := by
  show (if (σ 6 9) ≤ (σ 6 10) then (0 : Int32) else 1) = (if (τ 0 22) = 0 then 0 else (if (τ 0 29) ≤ (τ 0 28) then 0 else 1))
  rcases h.ml with ⟨a, b, c, d⟩ | ⟨a, b, c, d, -⟩
  · rw [a, b, c]
    rfl
  · rw [a, c, d]
    rfl
theorem has_ml (h : R q σ τ) (hr : ¬ f_Mo_hasRows τ = 0) : ¬ (τ 0 29) ≤ (τ 0 28) ∧ τ 0 22 = 1 ∧ τ 0 27 = (σ 6 8 &&& 15) ∧ σ 6 10 = τ 0 28 ∧ σ 6 9 = τ 0 29 ∧ (τ 0 25 = if (σ 6 8 &&& 128) = 0 then 0 else 1) ∧ (τ 0 24 = if (σ 6 8 &&& 15) = 1 then (if (σ 6 8 &&& 64) = 0 then 0 else 1) else 0) ∧ bt2 0 (τ 0 28) 8 ∧ bt2 1 (τ 0 29) 8 ∧ (τ 0 27 = 1 → τ 0 29 = 1) := by
  have hr : ¬ (if (τ 0 22) = 0 then (0 : Int32) else (if (τ 0 29) ≤ (τ 0 28) then 0 else 1)) = 0 := hr
  rcases h.ml with ⟨a, b, c, d⟩ | hm
  · rw [if_pos a] at hr
    exact absurd rfl hr
  · refine ⟨?_, hm⟩
    intro z
    rw [if_pos z] at hr
    split at hr
    · exact hr rfl
    · exact hr rfl
theorem L_hasData (hm : τ 0 27 = (σ 6 8 &&& 15)) : f_Ds_modeHasData σ = f_Mo_in (τ 0 27) 2 4 := by
  rw [hm]
  rfl
theorem ml_s0 (h : rMl σ τ) : rMl (sf σ 6 12 0) τ := by
  rcases h with ⟨a, b, c, d⟩ | h
  · exact Or.inl ⟨a, b, c, rfl⟩
  · exact Or.inr h
theorem u_s0 {q : Nat → Int32} {σ τ : Sg}  (h : R q σ τ)  : R (upd q 0 0) (sf σ 6 12 0) (τ) := ⟨h.1, h.2.1, h.2.2.1, h.2.2.2.1, h.2.2.2.2.1, ml_s0 h.ml, h.2.2.2.2.2.2.1, h.2.2.2.2.2.2.2.1, h.2.2.2.2.2.2.2.2.1, h.2.2.2.2.2.2.2.2.2.1, h.2.2.2.2.2.2.2.2.2.2.1, ⟨rfl, h.q1, h.q2, h.q3, h.q4, h.q5, h.q6, h.q7, h.q8, h.q9, h.q10, h.q11⟩⟩
theorem u_new {q : Nat → Int32} {σ τ : Sg} {v w : Int32} (h : R q σ τ) (e : v = w) (b : bt2 0 w 1023) (h12 : σ 6 12 = 0) : R q (sf (sf (sf (sf σ 6 6 v) 6 9 0) 6 10 0) 6 11 0) (sf (sf (sf τ 0 20 w) 0 22 0) 0 23 0) := ⟨h.1, h.2.1, h.2.2.1, h.2.2.2.1, ⟨h.d5, h.d5b, e, b, h.d7, h.d7b, rfl, Or.inl rfl, h.d13⟩, Or.inl ⟨rfl, rfl, rfl, h12⟩, h.2.2.2.2.2.2.1, h.2.2.2.2.2.2.2.1, h.2.2.2.2.2.2.2.2.1, h.2.2.2.2.2.2.2.2.2.1, h.2.2.2.2.2.2.2.2.2.2.1, h.2.2.2.2.2.2.2.2.2.2.2⟩
theorem u_beg {q : Nat → Int32} {σ τ : Sg} {v w x r r' m z d d' : Int32} (h : R q σ τ) (e6 : v = w) (b6 : bt2 0 w 1023) (er : r = r') (em : m = if (x &&& 128) = 0 then 0 else 1) (ez : z = if (x &&& 15) = 1 then (if (x &&& 64) = 0 then 0 else 1) else 0) (br : bt2 1 r' 8) (hm : (x &&& 15) = 1 → r' = 1) (ed : d' = d) : R (upd (upd q 0 d) 1 d) (sf (sf (sf (sf (sf σ 6 6 v) 6 8 x) 6 9 r) 6 10 0) 6 12 d) (sf (sf (sf (sf (sf (sf (sf (sf τ 0 20 w) 0 27 (x &&& 15)) 0 22 1) 0 28 0) 0 29 r') 0 25 m) 0 26 d') 0 24 z) := ⟨h.1, h.2.1, h.2.2.1, h.2.2.2.1, ⟨h.d5, h.d5b, e6, b6, h.d7, h.d7b, h.d11, h.d11b, h.d13⟩, Or.inr ⟨rfl, rfl, rfl, er, em, ez, (⟨by decide, by decide⟩ : bt2 0 (0 : Int32) 8), br, hm⟩, h.2.2.2.2.2.2.1, h.2.2.2.2.2.2.2.1, h.2.2.2.2.2.2.2.2.1, h.2.2.2.2.2.2.2.2.2.1, h.2.2.2.2.2.2.2.2.2.2.1, ⟨rfl, ed, h.q2, h.q3, h.q4, h.q5, h.q6, h.q7, h.q8, h.q9, h.q10, h.q11⟩⟩
def rowsC (x : Int32) : Int32 := if (x &&& 15) = 0 then (((x >>> ((4 : Int32) &&& 31)) &&& 7) + 1) else if (x &&& 15) = 1 then 1 else if (x &&& 15) = 2 then 4 else if (x &&& 15) = 3 then 1 else if (x &&& 15) = 4 then 2 else 1
def rowsM (x : Int32) : Int32 := if (x &&& 15) = 0 then (((x >>> ((4 : Int32) &&& 31)) &&& 7) + 1) else (if (x &&& 15) = 2 then 4 else (if (x &&& 15) = 4 then 2 else 1))
def saidC (x : Int32) : Int32 := if (x &&& 15) = 1 then 1 else (if (if (x &&& 15) < 2 then (0 : Int32) else (if 4 < (x &&& 15) then 0 else 1)) = 0 then 0 else (if (x &&& 64) = 0 then 0 else 1))
def saidM (x : Int32) : Int32 := if (x &&& 15) = 1 then 1 else (if f_Mo_in (x &&& 15) 2 4 = 0 then 0 else (if f_Mo_begin_r95 x = 0 then 0 else 1))
def restM (x : Int32) : Int32 := if (x &&& 15) = 1 then (if f_Mo_begin_r95 x = 0 then 0 else 1) else 0
theorem bg_all {x : Int32} (h : bt2 0 x 255) : rowsC x = rowsM x ∧ (decide (1 ≤ (rowsM x).toInt) && decide ((rowsM x).toInt ≤ 8)) = true ∧ ((x &&& 15) = 1 → rowsM x = 1) ∧ saidC x = saidM x ∧ f_Mo_begin_r80 x = (if (x &&& 128) = 0 then 0 else 1) ∧ restM x = (if (x &&& 15) = 1 then (if (x &&& 64) = 0 then 0 else 1) else 0) := al256 (P := fun x => rowsC x = rowsM x ∧ (decide (1 ≤ (rowsM x).toInt) && decide ((rowsM x).toInt ≤ 8)) = true ∧ ((x &&& 15) = 1 → rowsM x = 1) ∧ saidC x = saidM x ∧ f_Mo_begin_r80 x = (if (x &&& 128) = 0 then 0 else 1) ∧ restM x = (if (x &&& 15) = 1 then (if (x &&& 64) = 0 then 0 else 1) else 0)) (by decide +kernel) h
/-- pairs: alike answers; the states related, with what is said -/
def DP (q : Nat → Int32) (a b : Int32 × Sg) : Prop := a.1 = b.1 ∧ ∃ d, R (upd (upd q 0 d) 1 d) a.2 b.2
theorem DP.keep {x : Int32} (h : R q σ τ) (e : q 1 = q 0) : DP q (x, σ) (x, τ) := by
  refine ⟨rfl, q 0, h.cq ?_⟩
  funext j
  unfold upd
  by_cases h1 : j = 1
  · rw [if_pos h1, h1]
    exact e
  · rw [if_neg h1]
    by_cases h0 : j = 0
    · rw [if_pos h0, h0]
    · rw [if_neg h0]
section DIF
variable {c : Prop} {a a' b b' : Int32 × Sg}
theorem Dr_pos [Decidable c] (hc : c) (k : DP q a b) : DP q a (if c then b else b') := by rw [if_pos hc]; exact k
theorem Dr_neg [Decidable c] (hc : ¬ c) (k : DP q a b') : DP q a (if c then b else b') := by rw [if_neg hc]; exact k
theorem Dl_pos [Decidable c] (hc : c) (k : DP q a b) : DP q (if c then a else a') b := by rw [if_pos hc]; exact k
theorem Dl_neg [Decidable c] (hc : ¬ c) (k : DP q a' b) : DP q (if c then a else a') b := by rw [if_neg hc]; exact k
end DIF
theorem FF1 (h : R q σ τ) (e : q 1 = q 0) (hc : τ 0 5 = 1) : DP q (f_Ds_fetchForLine σ 1) (f_Mo_fetches τ) := by
  have eh := L_has h
  show DP q (f_Ds_beginModeLine σ) (f_Mo_fetches τ)
  unfold f_Mo_fetches
  refine Dr_pos hc ?_
  unfold f_Ds_beginModeLine
  by_cases c1 : f_Mo_hasRows τ = 0
  · refine Dl_pos (eh.trans c1) (Dr_pos c1 ?_)
    by_cases c2 : τ 0 23 = 0
    · refine Dl_pos (h.d11.trans c2) (Dr_pos c2 ⟨rfl, ?_⟩)
      have b6 : bt2 0 (σ 6 6) 1023 := by rw [h.d6]; exact h.d6b
      have eat : f_Me_at σ (σ 6 6) = f_Mo_fetch τ (τ 0 20) := by rw [L_at h, h.d6]
      have hb := fetch_b h (τ 0 20)
      have g := bg_all hb
      refine ⟨saidC (f_Mo_fetch τ (τ 0 20)), ?_⟩
      show R _ (sf (sf (sf (sf (sf σ 6 6 (f_Ds_movedOn (σ 6 6))) 6 8 (f_Me_at σ (σ 6 6))) 6 9 (rowsC (f_Me_at σ (σ 6 6)))) 6 10 0) 6 12 (saidC (f_Me_at σ (σ 6 6)))) (sf (sf (sf (sf (sf (sf (sf (sf τ 0 20 (f_Mo_moved (τ 0 20))) 0 27 (f_Mo_fetch τ (τ 0 20) &&& 15)) 0 22 1) 0 28 0) 0 29 (rowsM (f_Mo_fetch τ (τ 0 20)))) 0 25 (f_Mo_begin_r80 (f_Mo_fetch τ (τ 0 20)))) 0 26 (saidM (f_Mo_fetch τ (τ 0 20)))) 0 24 (restM (f_Mo_fetch τ (τ 0 20))))
      rw [eat]
      exact u_beg h (by rw [moved_eq b6, h.d6]) (moved_b h.d6b) g.1 g.2.2.2.2.1 g.2.2.2.2.2 (bt2_dec _ _ _ g.2.1) g.2.2.1 g.2.2.2.1.symm
    · exact Dl_neg (fun z => c2 (h.d11.symm.trans z)) (Dr_neg c2 (DP.keep h e))
  · exact Dl_neg (fun z => c1 (eh.symm.trans z)) (Dr_neg c1 (DP.keep h e))
theorem L_next (h : R q σ τ) : LdR q (f_Ds_nextOfList σ) (f_Mo_fetch τ (τ 0 20), sf τ 0 20 (f_Mo_moved (τ 0 20))) := by
  have b6 : bt2 0 (σ 6 6) 1023 := by rw [h.d6]; exact h.d6b
  refine ⟨?_, u_list h (by rw [moved_eq b6, h.d6]) (moved_b h.d6b), fetch_b h _⟩
  show f_Me_at σ (σ 6 6) = _
  rw [L_at h, h.d6]
theorem said_ml (h : R q σ τ) (hs : ¬ σ 6 12 = 0) : τ 0 27 = (σ 6 8 &&& 15) := by
  rcases h.ml with ⟨a, b, c, d⟩ | hm
  · exact absurd d hs
  · exact hm.2.1
theorem FF2 (h : R q σ τ) (e : q 1 = q 0) (hc : τ 0 5 = 2) : DP q (f_Ds_fetchForLine σ 2) (f_Mo_fetches τ) := by
  have es : σ 6 12 = τ 0 26 := by rw [h.q0, h.q1, e]
  show DP q (f_Ds_fetchAddress σ 0) (f_Mo_fetches τ)
  unfold f_Mo_fetches
  refine Dr_neg (by rw [hc]; decide) (Dr_pos hc ?_)
  show DP q (f_Ds_fetchAddress σ 0) (f_Mo_fetches_r58 τ)
  unfold f_Ds_fetchAddress f_Mo_fetches_r58
  by_cases c1 : τ 0 26 = 0
  · exact Dl_pos (es.trans c1) (Dr_pos c1 (DP.keep h e))
  · refine Dl_neg (fun z => c1 (es.symm.trans z)) (Dr_neg c1 ?_)
    have ea : f_Mo_addressed τ = (1, sf (sf τ 0 20 (f_Mo_moved (τ 0 20))) 0 30 (f_Mo_fetch τ (τ 0 20))) := if_pos hc
    rw [ea]
    have n := L_next h
    exact DP.keep (x := 1) (u_low n.2.1 n.1) e
theorem FF3 (h : R q σ τ) (e : q 1 = q 0) (hc : τ 0 5 = 3) : DP q (f_Ds_fetchForLine σ 3) (f_Mo_fetches τ) := by
  have es : σ 6 12 = τ 0 26 := by rw [h.q0, h.q1, e]
  show DP q (f_Ds_fetchAddress σ 1) (f_Mo_fetches τ)
  unfold f_Mo_fetches
  refine Dr_neg (by rw [hc]; decide) (Dr_neg (by rw [hc]; decide) (Dr_pos hc ?_))
  show DP q (f_Ds_fetchAddress σ 1) (f_Mo_fetches_r58_2 τ)
  unfold f_Ds_fetchAddress f_Mo_fetches_r58_2
  by_cases c1 : τ 0 26 = 0
  · exact Dl_pos (es.trans c1) (Dr_pos c1 (DP.keep h e))
  · have c1' : ¬ σ 6 12 = 0 := fun z => c1 (es.symm.trans z)
    refine Dl_neg c1' (Dr_neg c1 ?_)
    have ea : f_Mo_addressed τ = (1, f_Mo_addressed_r55 (f_Mo_fetch τ (τ 0 20)) (sf τ 0 20 (f_Mo_moved (τ 0 20)))) := if_neg (show ¬ τ 0 5 = 2 by rw [hc]; decide)
    rw [ea]
    have n := L_next h
    have hm : τ 0 27 = (σ 6 8 &&& 15) := said_ml h c1'
    have ex : ((256 * (f_Ds_nextOfList σ).1) + ((f_Ds_nextOfList σ).2 6 13)) &&& 1023 = ((τ 0 30) + (256 * f_Mo_fetch τ (τ 0 20))) &&& 1023 := by
      rw [n.1, n.2.1.d13, Int32.add_comm]
      rfl
    show DP q (1, (if (σ 6 8 &&& 15) = 1 then sf (f_Ds_nextOfList σ).2 6 6 (((256 * (f_Ds_nextOfList σ).1) + ((f_Ds_nextOfList σ).2 6 13)) &&& 1023) else sf (f_Ds_nextOfList σ).2 6 7 (((256 * (f_Ds_nextOfList σ).1) + ((f_Ds_nextOfList σ).2 6 13)) &&& 1023))) (1, (if (τ 0 27) = 1 then sf (sf τ 0 20 (f_Mo_moved (τ 0 20))) 0 20 (((τ 0 30) + (256 * f_Mo_fetch τ (τ 0 20))) &&& 1023) else sf (sf τ 0 20 (f_Mo_moved (τ 0 20))) 0 21 (((τ 0 30) + (256 * f_Mo_fetch τ (τ 0 20))) &&& 1023)))
    rw [hm]
    by_cases c2 : (σ 6 8 &&& 15) = 1
    · rw [if_pos c2, if_pos c2]
      exact DP.keep (x := 1) (u_list n.2.1 ex (bt_10 _)) e
    · rw [if_neg c2, if_neg c2]
      exact DP.keep (x := 1) (u_data n.2.1 ex (bt_10 _)) e
theorem in419 {c : Int32} (h : bt2 4 c 19) : f_Mo_in c 4 19 = 1 := by
  show (if c < 4 then (0 : Int32) else (if 19 < c then 0 else 1)) = 1
  rw [if_neg (by rw [ti_lt, show (4 : Int32).toInt = 4 from rfl]; have := h.1; omega), if_neg (by rw [ti_lt, show (19 : Int32).toInt = 19 from rfl]; have := h.2; omega)]
theorem c4_ne {c : Int32} (h : bt2 4 c 19) : ¬ c = 1 ∧ ¬ c = 2 ∧ ¬ c = 3 ∧ 3 < c := by
  refine ⟨fun z => ?_, fun z => ?_, fun z => ?_, ?_⟩
  · rw [z] at h
    exact absurd h.1 (by decide)
  · rw [z] at h
    exact absurd h.1 (by decide)
  · rw [z] at h
    exact absurd h.1 (by decide)
  · rw [ti_lt, show (3 : Int32).toInt = 3 from rfl]
    have := h.1
    omega
theorem FF4 {c : Int32} (h : R q σ τ) (e : q 1 = q 0) (hc : τ 0 5 = c) (hb : bt2 4 c 19) : DP q (f_Ds_fetchForLine σ c) (f_Mo_fetches τ) := by
  obtain ⟨n1, n2, n3, n4⟩ := c4_ne hb
  unfold f_Ds_fetchForLine f_Mo_fetches
  refine Dl_neg n1 (Dl_pos n4 ?_)
  refine Dr_neg (by rw [hc]; exact n1) (Dr_neg (by rw [hc]; exact n2) (Dr_neg (by rw [hc]; exact n3) ?_))
  have eh := L_has h
  by_cases c1 : f_Mo_hasRows τ = 0
  · have e8 : f_Mo_fetches_r78 τ (f_Mo_hasRows τ) = 0 := if_pos c1
    exact Dl_pos (eh.trans c1) (Dr_pos e8 (DP.keep h e))
  · refine Dl_neg (fun z => c1 (eh.symm.trans z)) ?_
    obtain ⟨hlt, hth, h27, hrow, hrows, -⟩ := has_ml h c1
    have ed := L_hasData h27
    by_cases c2 : f_Mo_in (τ 0 27) 2 4 = 0
    · have e8 : f_Mo_fetches_r78 τ (f_Mo_hasRows τ) = 0 := (if_neg c1).trans (if_pos c2)
      exact Dl_pos (ed.trans c2) (Dr_pos e8 (DP.keep h e))
    · have e8 : f_Mo_fetches_r78 τ (f_Mo_hasRows τ) = 1 := (if_neg c1).trans ((if_neg c2).trans (if_neg (by rw [hc, in419 hb]; decide)))
      refine Dl_neg (fun z => c2 (ed.symm.trans z)) (Dr_neg (by rw [e8]; decide) ?_)
      rw [hc]
      show DP q (if (c - c / 2 * 2) = 0 then f_Ds_fetchData σ ((c - 4) / 2) else f_Ds_fetchLetterRow σ ((c - 4) / 2)) _
      by_cases c3 : (c - c / 2 * 2) = 0
      · refine Dl_pos c3 (Dr_pos c3 ?_)
        unfold f_Ds_fetchData
        rw [hrow]
        by_cases c4 : τ 0 28 = 0
        · refine Dl_pos c4 (Dr_pos c4 ?_)
          have b7 : bt2 0 (σ 6 7) 1023 := by rw [h.d7]; exact h.d7b
          refine DP.keep (x := 1) (u_data (u_dat h rfl (by rw [L_at h, h.d7])) ?_ (moved_b h.d7b)) e
          show f_Ds_movedOn (σ 6 7) = f_Mo_moved (τ 0 21)
          rw [moved_eq b7, h.d7]
        · exact Dl_neg c4 (Dr_neg c4 (DP.keep h e))
      · refine Dl_neg c3 (Dr_neg c3 ?_)
        unfold f_Ds_fetchLetterRow
        have em : f_Ds_mode σ = τ 0 27 := h27.symm
        by_cases c4 : τ 0 27 = 2
        · refine Dl_pos (em.trans c4) (Dr_pos c4 ?_)
          refine DP.keep (x := 1) (u_let h rfl ?_) e
          rw [L_at h, h.r11, h.a12, hrow]
        · exact Dl_neg (fun z => c4 (em.symm.trans z)) (Dr_neg c4 (DP.keep h e))
end DSP
