/-! ===== the processor's cycle ===== -/
theorem cyc_eq {x : Int32} (h : bt2 0 x 255) : f_Pr_cyclesOf x = (f_Mo_meaning x - f_Mo_meaning x / 10 * 10) := al256 (P := fun x => f_Pr_cyclesOf x = (f_Mo_meaning x - f_Mo_meaning x / 10 * 10)) (by decide +kernel) h
theorem cyc_b {x : Int32} (h : bt2 0 x 255) : bt2 1 (f_Mo_meaning x - f_Mo_meaning x / 10 * 10) 7 := bt2_dec _ _ _ (al256 (P := fun x => (decide (1 ≤ (f_Mo_meaning x - f_Mo_meaning x / 10 * 10).toInt) && decide ((f_Mo_meaning x - f_Mo_meaning x / 10 * 10).toInt ≤ 7)) = true) (by decide +kernel) h)
theorem b17 {x : Int32} (h : bt2 1 x 7) : bt2 0 x 7 := ⟨Int.le_trans (by decide) h.1, h.2⟩
/-- what stands between the instructions -/
def Zq (q : Nat → Int32) (σ τ : Sg) : Prop := R q σ τ ∧ q 6 = q 7 ∧ bt2 0 (q 7) 1023 ∧ (¬ τ 0 18 = 0 → q 2 = q 3 ∧ (q 3 = 0 → q 4 = q 5))
theorem L_begin {q : Nat → Int32} {σ τ : Sg} (h : R q σ τ) (e : q 6 = q 7) (h0 : τ 0 18 = 0) : ∃ q', R q' (f_Pr_passCycle_r26 σ) (f_Mo_steps_r20 τ) ∧ Kq q q' ∧ q' 6 = q 6 ∧ q' 7 = q 7 ∧ q' 2 = q' 3 ∧ (q' 3 = 0 → q' 4 = q' 5) ∧ bt2 1 ((f_Mo_steps_r20 τ) 0 18) 7 := by
  have h1 : R (upd (upd q 2 (σ 3 1)) 3 (τ 0 16)) (sf σ 9 10 (σ 3 1)) (sf τ 0 17 (τ 0 16)) := u_q3 (u_q2 h)
  have eC : f_Pr_passCycle_r26 σ = f_Pr_begin_r18 (sf σ 9 10 (σ 3 1)) := if_pos (h.lf.trans h0)
  have eM : f_Mo_steps_r20 τ = sf (sf (f_Mo_steps_r36 (sf τ 0 17 (τ 0 16))).2 0 19 (f_Mo_steps_r36 (sf τ 0 17 (τ 0 16))).1) 0 18 (f_Mo_steps_r59 (sf (f_Mo_steps_r36 (sf τ 0 17 (τ 0 16))).2 0 19 (f_Mo_steps_r36 (sf τ 0 17 (τ 0 16))).1)) := if_pos h0
  rw [eC, eM]
  by_cases hn : τ 0 16 = 0
  · have hnC : (sf σ 9 10 (σ 3 1)) 9 10 = 0 := h.w1.trans hn
    have e36 : f_Mo_steps_r36 (sf τ 0 17 (τ 0 16)) = f_Mo_read (sf τ 0 17 (τ 0 16)) (τ 0 10) := if_pos hn
    have e18 : f_Pr_begin_r18 (sf σ 9 10 (σ 3 1)) = sf (sf (f_Bd_load (sf σ 9 10 (σ 3 1)) (σ 9 1)).2 9 11 (f_Bd_load (sf σ 9 10 (σ 3 1)) (σ 9 1)).1) 9 12 (f_Pr_cyclesOf (f_Bd_load (sf σ 9 10 (σ 3 1)) (σ 9 1)).1) := if_pos hnC
    rw [e36, e18]
    have l := L_ld (x := σ 9 1) (y := τ 0 10) h1 (by rw [h.q6, h.q7, e])
    have l3 := l.2.1.q3
    generalize f_Bd_load (sf σ 9 10 (σ 3 1)) (σ 9 1) = n at l ⊢
    generalize f_Mo_read (sf τ 0 17 (τ 0 16)) (τ 0 10) = m at l l3 ⊢
    have e59 : f_Mo_steps_r59 (sf m.2 0 19 m.1) = f_Mo_meaning m.1 - f_Mo_meaning m.1 / 10 * 10 := if_pos (show m.2 0 17 = 0 from l3.trans hn)
    rw [e59]
    refine ⟨_, u_left (u_q5 (u_q4 l.2.1)) ?_ (b17 (cyc_b l.2.2)), ⟨rfl, rfl, rfl, rfl, rfl⟩, rfl, rfl, ?_, ?_, cyc_b l.2.2⟩
    · rw [l.1]
      exact cyc_eq l.2.2
    · exact h.w1
    · intro _
      exact l.1
  · have hnC : ¬ (sf σ 9 10 (σ 3 1)) 9 10 = 0 := fun z => hn (h.w1.symm.trans z)
    have e36 : f_Mo_steps_r36 (sf τ 0 17 (τ 0 16)) = (0, sf τ 0 17 (τ 0 16)) := if_neg hn
    have e18 : f_Pr_begin_r18 (sf σ 9 10 (σ 3 1)) = sf (sf σ 9 10 (σ 3 1)) 9 12 7 := if_neg hnC
    rw [e36, e18]
    have e59 : f_Mo_steps_r59 (sf (sf τ 0 17 (τ 0 16)) 0 19 0) = 7 := if_neg hn
    rw [e59]
    refine ⟨_, u_left (u_q5 (v := 0) h1) rfl ⟨by decide, by decide⟩, ⟨rfl, rfl, rfl, rfl, rfl⟩, rfl, rfl, ?_, ?_, (⟨by decide, by decide⟩ : bt2 1 (7 : Int32) 7)⟩
    · exact h.w1
    · intro z
      exact absurd z hn
theorem dec_b {x : Int32} (h : bt2 1 x 7) : bt2 0 (x - 1) 7 ∧ ((x - 1 ≤ 0) ↔ (x - 1 = 0)) := by
  obtain ⟨j, hj, rfl⟩ := bt_nI1 (n := 7) h
  rw [nI_pred]
  refine ⟨bt_n (n := 7) (by omega) (by omega), ?_⟩
  rw [show (0 : Int32) = nI 0 from rfl, nI_leI (by omega) (by omega), nI_eq (by omega) (by omega)]
  omega
theorem L_dec0 {q1 : Nat → Int32} {s t : Sg} (h1 : R q1 (sf s 9 12 (s 9 12 - 1)) (sf t 0 18 (t 0 18 - 1))) (e : q1 6 = q1 7) (b : bt2 0 (q1 7) 1023) (e2 : q1 2 = q1 3) (e3 : q1 3 = 0 → q1 4 = q1 5) (hb : bt2 1 (t 0 18) 7) : (if (sf s 9 12 (s 9 12 - 1)) 9 12 ≤ 0 then ((1 : Int32), f_Pr_passCycle_r56 (sf s 9 12 (s 9 12 - 1))) else (1, sf s 9 12 (s 9 12 - 1))).1 = 1 ∧ ∃ q', Kq q1 q' ∧ Zq q' (if (sf s 9 12 (s 9 12 - 1)) 9 12 ≤ 0 then ((1 : Int32), f_Pr_passCycle_r56 (sf s 9 12 (s 9 12 - 1))) else (1, sf s 9 12 (s 9 12 - 1))).2 (f_Mo_steps_r94 (sf t 0 18 (t 0 18 - 1))) := by
  have e18 : (sf t 0 18 (t 0 18 - 1)) 0 18 = t 0 18 - 1 := rfl
  have e12 : (sf s 9 12 (s 9 12 - 1)) 9 12 = t 0 18 - 1 := h1.lf
  generalize sf s 9 12 (s 9 12 - 1) = s3 at h1 e12 ⊢
  generalize sf t 0 18 (t 0 18 - 1) = t3 at h1 e18 ⊢
  rw [e12]
  have e94 : f_Mo_steps_r94 t3 = if t3 0 18 = 0 then (if t3 0 17 = 0 then f_Mo_execute t3 else f_Mo_interrupt t3) else t3 := rfl
  rw [e94, e18]
  by_cases c : t 0 18 - 1 = 0
  · rw [if_pos ((dec_b hb).2.mpr c), if_pos c]
    refine ⟨rfl, ?_⟩
    show ∃ q', Kq q1 q' ∧ Zq q' (if s3 9 10 = 0 then f_Pr_perform s3 else f_Pr_enterNmi s3) (if t3 0 17 = 0 then f_Mo_execute t3 else f_Mo_interrupt t3)
    rw [show s3 9 10 = q1 3 from h1.q2.trans e2, show t3 0 17 = q1 3 from h1.q3]
    by_cases c3 : q1 3 = 0
    · rw [if_pos c3, if_pos c3]
      obtain ⟨v, bv, hv⟩ := L_perf h1 e b (e3 c3)
      exact ⟨upd (upd q1 6 v) 7 v, ⟨rfl, rfl, rfl, rfl, rfl⟩, hv, rfl, bv, fun _ => ⟨e2, e3⟩⟩
    · rw [if_neg c3, if_neg c3]
      obtain ⟨v, bv, hv⟩ := L_int h1 e b
      refine ⟨upd (upd (upd q1 6 v) 7 v) 3 0, ⟨rfl, rfl, rfl, rfl, rfl⟩, hv, rfl, bv, fun z => absurd ?_ z⟩
      show t3 0 18 = 0
      rw [e18, c]
  · rw [if_neg (fun z => c ((dec_b hb).2.mp z)), if_neg c]
    exact ⟨rfl, q1, ⟨rfl, rfl, rfl, rfl, rfl⟩, h1, e, b, fun _ => ⟨e2, e3⟩⟩
theorem L_dec {q : Nat → Int32} {s t : Sg} (h : R q s t) (e : q 6 = q 7) (b : bt2 0 (q 7) 1023) (e2 : q 2 = q 3) (e3 : q 3 = 0 → q 4 = q 5) (hb : bt2 1 (t 0 18) 7) : (if (sf s 9 12 (s 9 12 - 1)) 9 12 ≤ 0 then ((1 : Int32), f_Pr_passCycle_r56 (sf s 9 12 (s 9 12 - 1))) else (1, sf s 9 12 (s 9 12 - 1))).1 = 1 ∧ ∃ q', Kq q q' ∧ Zq q' (if (sf s 9 12 (s 9 12 - 1)) 9 12 ≤ 0 then ((1 : Int32), f_Pr_passCycle_r56 (sf s 9 12 (s 9 12 - 1))) else (1, sf s 9 12 (s 9 12 - 1))).2 (f_Mo_steps_r94 (sf t 0 18 (t 0 18 - 1))) := by
  obtain ⟨a, q', k, z⟩ := L_dec0 (q1 := upd q 8 (s 9 12 - 1)) (u_left h (by rw [h.lf]) (dec_b hb).1) e b e2 e3 hb
  exact ⟨a, q', ⟨k.1, k.2.1, k.2.2.1, k.2.2.2.1, k.2.2.2.2⟩, z⟩
theorem L_steps {q : Nat → Int32} {σ τ : Sg} (z : Zq q σ τ) : (f_Pr_passCycle σ).1 = (f_Mo_steps τ).1 ∧ ∃ q', Kq q q' ∧ Zq q' (f_Pr_passCycle σ).2 (f_Mo_steps τ).2 := by
  obtain ⟨h, e, b, e4⟩ := z
  show (if (σ 9 9) = 0 then (if (σ 3 0) = 0 then (if (sf (f_Pr_passCycle_r26 σ) 9 12 ((f_Pr_passCycle_r26 σ) 9 12 - 1)) 9 12 ≤ 0 then ((1 : Int32), f_Pr_passCycle_r56 (sf (f_Pr_passCycle_r26 σ) 9 12 ((f_Pr_passCycle_r26 σ) 9 12 - 1))) else (1, sf (f_Pr_passCycle_r26 σ) 9 12 ((f_Pr_passCycle_r26 σ) 9 12 - 1))) else (0, σ)) else (0, σ)).1 = (if (τ 0 15) = 0 then (if (τ 0 14) = 0 then ((1 : Int32), f_Mo_steps_r94 (sf (f_Mo_steps_r20 τ) 0 18 ((f_Mo_steps_r20 τ) 0 18 - 1))) else (0, τ)) else (0, τ)).1 ∧ ∃ q', Kq q q' ∧ Zq q' (if (σ 9 9) = 0 then (if (σ 3 0) = 0 then (if (sf (f_Pr_passCycle_r26 σ) 9 12 ((f_Pr_passCycle_r26 σ) 9 12 - 1)) 9 12 ≤ 0 then ((1 : Int32), f_Pr_passCycle_r56 (sf (f_Pr_passCycle_r26 σ) 9 12 ((f_Pr_passCycle_r26 σ) 9 12 - 1))) else (1, sf (f_Pr_passCycle_r26 σ) 9 12 ((f_Pr_passCycle_r26 σ) 9 12 - 1))) else (0, σ)) else (0, σ)).2 (if (τ 0 15) = 0 then (if (τ 0 14) = 0 then ((1 : Int32), f_Mo_steps_r94 (sf (f_Mo_steps_r20 τ) 0 18 ((f_Mo_steps_r20 τ) 0 18 - 1))) else (0, τ)) else (0, τ)).2
  rw [h.rj, h.w0]
  have keep : (0 : Int32) = 0 ∧ ∃ q', Kq q q' ∧ Zq q' σ τ := ⟨rfl, q, ⟨rfl, rfl, rfl, rfl, rfl⟩, h, e, b, e4⟩
  by_cases cj : τ 0 14 = 0
  · by_cases ch : τ 0 15 = 0
    · rw [if_pos cj, if_pos ch, if_pos ch, if_pos cj]
      have hx : ∃ q', R q' (f_Pr_passCycle_r26 σ) (f_Mo_steps_r20 τ) ∧ Kq q q' ∧ q' 6 = q 6 ∧ q' 7 = q 7 ∧ q' 2 = q' 3 ∧ (q' 3 = 0 → q' 4 = q' 5) ∧ bt2 1 ((f_Mo_steps_r20 τ) 0 18) 7 := by
        by_cases c0 : τ 0 18 = 0
        · exact L_begin h e c0
        · have eC : f_Pr_passCycle_r26 σ = σ := if_neg (fun z => c0 (h.lf.symm.trans z))
          have eM : f_Mo_steps_r20 τ = τ := if_neg c0
          rw [eC, eM]
          obtain ⟨j, hj, ej⟩ := bt_nI (n := 7) h.lfb
          have hj0 : j ≠ 0 := fun z => c0 (by rw [ej, z]; rfl)
          refine ⟨q, h, ⟨rfl, rfl, rfl, rfl, rfl⟩, rfl, rfl, (e4 c0).1, (e4 c0).2, ?_⟩
          rw [ej]
          exact ⟨by rw [nI_toInt (by omega)]; omega, by rw [nI_toInt (by omega)]; omega⟩
      obtain ⟨q', r1, a0, a6, a7, a2, a3, ab⟩ := hx
      obtain ⟨d1, q'', b0, d2⟩ := L_dec r1 (by rw [a6, a7, e]) (by rw [a7]; exact b) a2 a3 ab
      exact ⟨d1, q'', a0.trans b0, d2⟩
    · rw [if_pos cj, if_neg ch, if_neg ch]
      exact keep
  · by_cases ch : τ 0 15 = 0
    · rw [if_neg cj, if_pos ch, if_neg cj]
      exact keep
    · rw [if_neg cj, if_neg ch]
      exact keep
