/-! ===== a cycle of the whole ===== -/
theorem u_ckA {q : Nat → Int32} {σ τ : Sg} {v w l f : Int32} (h : R q σ τ) (e2 : v = w) (b2 : bt2 0 w 23) (e1 : σ 2 1 = l) (b1 : bt2 0 l 15) (e0 : σ 2 0 = f) : R (upd (upd q 9 v) 10 (σ 2 1)) (sf σ 2 2 v) (sf (sf (sf τ 0 5 w) 0 4 l) 0 3 f) := ⟨⟨e0, e1, e2, b2, b1⟩, h.2.1, h.2.2.1, h.2.2.2.1, h.2.2.2.2.1, h.2.2.2.2.2.1, h.2.2.2.2.2.2.1, h.2.2.2.2.2.2.2.1, h.2.2.2.2.2.2.2.2.1, h.2.2.2.2.2.2.2.2.2.1, h.2.2.2.2.2.2.2.2.2.2.1, ⟨h.q0, h.q1, h.q2, h.q3, h.q4, h.q5, h.q6, h.q7, h.q8, rfl, rfl, h.q11⟩⟩
theorem u_ckB {q : Nat → Int32} {σ τ : Sg} {v0 v w k l f : Int32} (h : R q σ τ) (e2 : v = w) (b2 : bt2 0 w 23) (e1 : k = l) (b1 : bt2 0 l 15) (e0 : σ 2 0 = f) : R (upd (upd q 9 v) 10 k) (sf (sf (sf σ 2 2 v0) 2 2 v) 2 1 k) (sf (sf (sf τ 0 5 w) 0 4 l) 0 3 f) := ⟨⟨e0, e1, e2, b2, b1⟩, h.2.1, h.2.2.1, h.2.2.2.1, h.2.2.2.2.1, h.2.2.2.2.2.1, h.2.2.2.2.2.2.1, h.2.2.2.2.2.2.2.1, h.2.2.2.2.2.2.2.2.1, h.2.2.2.2.2.2.2.2.2.1, h.2.2.2.2.2.2.2.2.2.2.1, ⟨h.q0, h.q1, h.q2, h.q3, h.q4, h.q5, h.q6, h.q7, h.q8, rfl, rfl, h.q11⟩⟩
theorem u_ckC {q : Nat → Int32} {σ τ : Sg} {v0 v w k0 k l g f : Int32} (h : R q σ τ) (e2 : v = w) (b2 : bt2 0 w 23) (e1 : k = l) (b1 : bt2 0 l 15) (e0 : g = f) : R (upd (upd q 9 v) 10 k) (sf (sf (sf (sf (sf σ 2 2 v0) 2 2 v) 2 1 k0) 2 1 k) 2 0 g) (sf (sf (sf τ 0 5 w) 0 4 l) 0 3 f) := ⟨⟨e0, e1, e2, b2, b1⟩, h.2.1, h.2.2.1, h.2.2.2.1, h.2.2.2.2.1, h.2.2.2.2.2.1, h.2.2.2.2.2.2.1, h.2.2.2.2.2.2.2.1, h.2.2.2.2.2.2.2.2.1, h.2.2.2.2.2.2.2.2.2.1, h.2.2.2.2.2.2.2.2.2.2.1, ⟨h.q0, h.q1, h.q2, h.q3, h.q4, h.q5, h.q6, h.q7, h.q8, rfl, rfl, h.q11⟩⟩
section TK
variable {q : Nat → Int32} {s t σ τ : Sg}
/-- what a start of a call knows -/
def Rel (σ τ : Sg) : Prop := ∃ q, Zq q σ τ ∧ (τ 0 5 = 1 → q 0 = 0) ∧ (¬ τ 0 5 = 1 → q 1 = q 0)
theorem R.ic (h : R q σ τ) : IC σ := ⟨by rw [h.v3]; exact h.v3b, h.v5b, h.v6b, by rw [h.v7]; exact h.v7b, by rw [h.w1]; exact h.wb, by rw [h.k2]; exact h.kc⟩
theorem R.t44 (h : R q σ τ) : bt2 0 (τ 0 44) 8 := by
  rcases h.tgt with ⟨_, e, _⟩ | ⟨_, e⟩
  · rw [e]
    exact (⟨by decide, by decide⟩ : bt2 0 (0 : Int32) 8)
  · rw [e]
    exact ⟨Int.le_trans (by decide) h.v5b.1, h.v5b.2⟩
theorem R.t43 (h : R q σ τ) (z : τ 0 44 = 0) : bt2 0 (τ 0 43) 3 := by
  rcases h.tgt with ⟨_, _, b⟩ | ⟨_, e⟩
  · exact b
  · have k := h.v5b.1
    rw [← e, z] at k
    exact absurd k (by decide)
theorem R.jm (h : R q σ τ) : JM τ := ⟨h.v3b, h.t44, h.v7b, h.rsb, h.kc, h.kl, h.wb, h.rnb, h.rzb, h.rcb, h.t43⟩
theorem b15 {x : Int32} (h : bt2 0 x 15) : bt2 0 x 255 := ⟨h.1, Int.le_trans h.2 (by decide)⟩
theorem b01 {x : Int32} (h : x = 0 ∨ x = 1) : bt2 0 x 255 := by
  rcases h with h | h
  · rw [h]
    exact (⟨by decide, by decide⟩ : bt2 0 (0 : Int32) 255)
  · rw [h]
    exact (⟨by decide, by decide⟩ : bt2 0 (1 : Int32) 255)
theorem R.rb (h : R q σ τ) : RB τ := ⟨h.m10b, b15 h.kl, h.d5b, h.p15b, b01 h.p4b, b01 h.cb, h.v9b, h.skb⟩
theorem L_36 {x y : Int32} (e : x = y) (z : Zq q s t) : (f_Pm_passCycle_r36 x s).1 = (f_Mo_tick_r6 y t).1 ∧ ∃ p, Kq q p ∧ Zq p (f_Pm_passCycle_r36 x s).2 (f_Mo_tick_r6 y t).2 := by
  have eC : f_Pm_passCycle_r36 y s = if y = 0 then (if (f_Pr_passCycle s).1 = 0 then ((0 : Int32), (f_Pr_passCycle s).2) else (1, (f_Pr_passCycle s).2)) else (0, s) := rfl
  have eM : f_Mo_tick_r6 y t = if y = 0 then (if (f_Mo_steps t).1 = 0 then ((0 : Int32), (f_Mo_steps t).2) else (1, (f_Mo_steps t).2)) else (0, t) := rfl
  rw [e, eC, eM]
  by_cases c : y = 0
  · rw [if_pos c, if_pos c]
    obtain ⟨a, p, k, z'⟩ := L_steps z
    rw [a]
    by_cases d : (f_Mo_steps t).1 = 0
    · rw [if_pos d, if_pos d]
      exact ⟨rfl, p, k, z'⟩
    · rw [if_neg d, if_neg d]
      exact ⟨rfl, p, k, z'⟩
  · rw [if_neg c, if_neg c]
    exact ⟨rfl, q, ⟨rfl, rfl, rfl, rfl, rfl⟩, z⟩
theorem L_43 (h : R q s t) : R q (f_Ch_passCycle_r43 s) (f_Mo_tick_r67 t) := by
  have eC : f_Ch_passCycle_r43 s = if 0 ≤ s 5 2 then s else sf (sf s 5 2 (s 11 (21 : Int32).toNatClampNeg)) 5 3 1 := rfl
  have eM : f_Mo_tick_r67 t = if 0 ≤ t 0 38 then t else sf (sf t 0 38 (t 2 (21 : Int32).toNatClampNeg)) 0 39 1 := rfl
  rw [eC, eM, h.c2]
  by_cases c : 0 ≤ t 0 38
  · rw [if_pos c, if_pos c]
    exact h
  · rw [if_neg c, if_neg c]
    exact u_sg (u_tm h (congrFun h.r11 _)) rfl (Or.inr rfl)
theorem L_ch (h : R q s t) : R q (f_Ch_passCycle s) (mTm t) := by
  have h1 : R q (sf s 5 1 (((s 5 1) >>> ((1 : Int32) &&& 31)) ||| ((((s 5 1) ^^^ ((s 5 1) >>> ((4 : Int32) &&& 31))) &&& 1) <<< ((8 : Int32) &&& 31)))) (sf t 0 37 (((t 0 37) >>> ((1 : Int32) &&& 31)) ||| ((((t 0 37) &&& 1) ^^^ (((t 0 37) >>> ((4 : Int32) &&& 31)) &&& 1)) <<< ((8 : Int32) &&& 31)))) := u_ch h (by rw [h.c1, chx])
  exact L_43 (u_tm h1 (congrArg (fun z => z - 1) h1.c2))
theorem L_69 (h : R q s t) (e1 : s 2 1 = σ 2 1) (e2 : s 2 2 = σ 2 2) : R q (f_Pm_passCycle_r69 σ s) (f_Mo_tick_r92 t) := by
  have eC : f_Pm_passCycle_r69 σ s = if σ 2 2 = 23 then f_Pm_endLine s (σ 2 1) else s := rfl
  have eM : f_Mo_tick_r92 t = if t 0 5 = 23 then f_Mo_deliver (f_Mo_tick_r105 t (f_Mo_in (t 0 4) 1 12)) else t := rfl
  rw [eC, eM, ← e2, ← e1, h.k2]
  by_cases c : t 0 5 = 23
  · rw [if_pos c, if_pos c]
    exact L_end h
  · rw [if_neg c, if_neg c]
    exact h
/-- the reference's clock -/
def cyW (c : Int32) : Int32 := (c + 1) - (c + 1) / 24 * 24
def liW (l : Int32) : Int32 := (l + 1) - (l + 1) / 16 * 16
def mCk (t : Sg) : Sg := sf (sf (sf t 0 5 (cyW (t 0 5))) 0 4 (f_Mo_tick_r134 (sf t 0 5 (cyW (t 0 5))))) 0 3 (f_Mo_tick_r161 (sf (sf t 0 5 (cyW (t 0 5))) 0 4 (f_Mo_tick_r134 (sf t 0 5 (cyW (t 0 5))))))
theorem le23 {c : Int32} (h : bt2 0 c 23) : c ≤ 23 := by
  rw [ti_le, show (23 : Int32).toInt = 23 from rfl]
  exact h.2
theorem le15 {c : Int32} (h : bt2 0 c 15) : c ≤ 15 := by
  rw [ti_le, show (15 : Int32).toInt = 15 from rfl]
  exact h.2
theorem b23 {x : Int32} (h : bt2 0 x 23) : bt2 0 x 255 := ⟨h.1, Int.le_trans h.2 (by decide)⟩
theorem cyA {c : Int32} (h : bt2 0 c 23) : c + 1 = 24 → cyW c = 0 := al256 (P := fun c => c ≤ 23 → (c + 1 = 24 → cyW c = 0)) (by decide +kernel) (b23 h) (le23 h)
theorem cyB {c : Int32} (h : bt2 0 c 23) : ¬ c + 1 = 24 → cyW c = c + 1 := al256 (P := fun c => c ≤ 23 → (¬ c + 1 = 24 → cyW c = c + 1)) (by decide +kernel) (b23 h) (le23 h)
theorem cyC {c : Int32} (h : bt2 0 c 23) : ¬ c + 1 = 0 := al256 (P := fun c => c ≤ 23 → ¬ c + 1 = 0) (by decide +kernel) (b23 h) (le23 h)
theorem cyD {c : Int32} (h : bt2 0 c 23) : cyW c = 1 → c = 0 := al256 (P := fun c => c ≤ 23 → (cyW c = 1 → c = 0)) (by decide +kernel) (b23 h) (le23 h)
theorem cyE {c : Int32} (h : bt2 0 c 23) : ¬ cyW c = 1 → ¬ c = 0 := al256 (P := fun c => c ≤ 23 → (¬ cyW c = 1 → ¬ c = 0)) (by decide +kernel) (b23 h) (le23 h)
theorem cyF {c : Int32} (h : bt2 0 c 23) : bt2 0 (cyW c) 23 := bt2_dec _ _ _ (al256 (P := fun c => c ≤ 23 → (decide (0 ≤ (cyW c).toInt) && decide ((cyW c).toInt ≤ 23)) = true) (by decide +kernel) (b23 h) (le23 h))
theorem liA {c : Int32} (h : bt2 0 c 15) : c + 1 = 16 → liW c = 0 := al256 (P := fun c => c ≤ 15 → (c + 1 = 16 → liW c = 0)) (by decide +kernel) (b15 h) (le15 h)
theorem liB {c : Int32} (h : bt2 0 c 15) : ¬ c + 1 = 16 → liW c = c + 1 := al256 (P := fun c => c ≤ 15 → (¬ c + 1 = 16 → liW c = c + 1)) (by decide +kernel) (b15 h) (le15 h)
theorem liC {c : Int32} (h : bt2 0 c 15) : ¬ c + 1 = 0 := al256 (P := fun c => c ≤ 15 → ¬ c + 1 = 0) (by decide +kernel) (b15 h) (le15 h)
theorem liD {c : Int32} (h : bt2 0 c 15) : ¬ c = 16 := al256 (P := fun c => c ≤ 15 → ¬ c = 16) (by decide +kernel) (b15 h) (le15 h)
theorem liF {c : Int32} (h : bt2 0 c 15) : bt2 0 (liW c) 15 := bt2_dec _ _ _ (al256 (P := fun c => c ≤ 15 → (decide (0 ≤ (liW c).toInt) && decide ((liW c).toInt ≤ 15)) = true) (by decide +kernel) (b15 h) (le15 h))
theorem mCk_eq (t : Sg) : mCk t = sf (sf (sf t 0 5 (cyW (t 0 5))) 0 4 (if cyW (t 0 5) = 0 then liW (t 0 4) else t 0 4)) 0 3 (if cyW (t 0 5) = 0 then (if (if cyW (t 0 5) = 0 then liW (t 0 4) else t 0 4) = 0 then t 0 3 + 1 else t 0 3) else t 0 3) := rfl
theorem L_mv (h : R q s t) : ∃ v k, R (upd (upd q 9 v) 10 k) (f_Ck_moveOn s) (mCk t) := by
  have eC : f_Ck_moveOn s = f_Ck_moveOn_r40 (f_Ck_moveOn_r16 (sf s 2 2 (s 2 2 + 1))) := rfl
  rw [eC, mCk_eq]
  by_cases c : t 0 5 + 1 = 24
  · have w0 := cyA h.kc c
    have e16 : f_Ck_moveOn_r16 (sf s 2 2 (s 2 2 + 1)) = sf (sf (sf s 2 2 (s 2 2 + 1)) 2 2 0) 2 1 (s 2 1 + 1) := if_pos (show s 2 2 + 1 = 24 by rw [h.k2]; exact c)
    rw [e16, w0, if_pos (rfl : (0 : Int32) = 0), if_pos (rfl : (0 : Int32) = 0)]
    by_cases d : t 0 4 + 1 = 16
    · have e40 : f_Ck_moveOn_r40 (sf (sf (sf s 2 2 (s 2 2 + 1)) 2 2 0) 2 1 (s 2 1 + 1)) = sf (sf (sf (sf (sf s 2 2 (s 2 2 + 1)) 2 2 0) 2 1 (s 2 1 + 1)) 2 1 0) 2 0 (s 2 0 + 1) := if_pos (show s 2 1 + 1 = 16 by rw [h.k1]; exact d)
      rw [e40, liA h.kl d, if_pos (rfl : (0 : Int32) = 0)]
      exact ⟨0, 0, u_ckC h rfl (⟨by decide, by decide⟩ : bt2 0 (0 : Int32) 23) rfl (⟨by decide, by decide⟩ : bt2 0 (0 : Int32) 15) (congrArg (· + 1) h.k0)⟩
    · have e40 : f_Ck_moveOn_r40 (sf (sf (sf s 2 2 (s 2 2 + 1)) 2 2 0) 2 1 (s 2 1 + 1)) = sf (sf (sf s 2 2 (s 2 2 + 1)) 2 2 0) 2 1 (s 2 1 + 1) := if_neg (show ¬ s 2 1 + 1 = 16 by rw [h.k1]; exact d)
      have bl := liF h.kl
      rw [liB h.kl d] at bl ⊢
      rw [e40, if_neg (liC h.kl)]
      exact ⟨0, s 2 1 + 1, u_ckB h rfl (⟨by decide, by decide⟩ : bt2 0 (0 : Int32) 23) (congrArg (· + 1) h.k1) bl h.k0⟩
  · have w0 := cyB h.kc c
    have bw := cyF h.kc
    rw [w0] at bw ⊢
    have e16 : f_Ck_moveOn_r16 (sf s 2 2 (s 2 2 + 1)) = sf s 2 2 (s 2 2 + 1) := if_neg (show ¬ s 2 2 + 1 = 24 by rw [h.k2]; exact c)
    have e40 : f_Ck_moveOn_r40 (sf s 2 2 (s 2 2 + 1)) = sf s 2 2 (s 2 2 + 1) := if_neg (show ¬ s 2 1 = 16 by rw [h.k1]; exact liD h.kl)
    rw [e16, e40, if_neg (cyC h.kc), if_neg (cyC h.kc)]
    exact ⟨s 2 2 + 1, s 2 1, u_ckA h (congrArg (· + 1) h.k2) bw h.k1 h.kl h.k0⟩
theorem pass_eq (σ : Sg) : f_Pm_passCycle σ = ((f_Pm_passCycle_r36 (f_Ds_passCycle σ (σ 2 1) (σ 2 2)).1 (f_Ds_passCycle σ (σ 2 1) (σ 2 2)).2).1, f_Ck_moveOn (f_Pm_passCycle_r69 σ (f_Ch_passCycle (f_Pm_passCycle_r36 (f_Ds_passCycle σ (σ 2 1) (σ 2 2)).1 (f_Ds_passCycle σ (σ 2 1) (σ 2 2)).2).2))) := rfl
theorem tick_eq (τ : Sg) : f_Mo_tick τ = ((f_Mo_tick_r6 (f_Mo_displays τ).1 (f_Mo_displays τ).2).1, mCk (f_Mo_tick_r92 (mTm (f_Mo_tick_r6 (f_Mo_displays τ).1 (f_Mo_displays τ).2).2))) := rfl
theorem L_tick (r : Rel σ τ) : (f_Pm_passCycle σ).1 = (f_Mo_tick τ).1 ∧ Rel (f_Pm_passCycle σ).2 (f_Mo_tick τ).2 ∧ (f_Mo_tick τ).2 0 0 = τ 0 0 ∧ OkC σ ∧ OkM τ := by
  obtain ⟨q, ⟨h, e, b, e4⟩, s1, s2⟩ := r
  obtain ⟨ea, d, f, hD, hd, hf⟩ := L_disp h s1 s2
  have e18 : (f_Mo_displays τ).2 0 18 = τ 0 18 := hD.lf.symm.trans (hD.q8.trans (h.q8.symm.trans h.lf))
  rw [pass_eq, tick_eq]
  unfold OkC OkM
  generalize f_Ds_passCycle σ (σ 2 1) (σ 2 2) = D at ea hD ⊢
  generalize f_Mo_displays τ = E at ea hD e18 ⊢
  have zD : Zq (upd (upd q 0 d) 1 f) D.2 E.2 := ⟨hD, e, b, fun n => e4 (fun z => n (e18.trans z))⟩
  obtain ⟨eb, p, k, z6⟩ := L_36 ea zD
  generalize f_Pm_passCycle_r36 D.1 D.2 = X at eb z6 ⊢
  generalize f_Mo_tick_r6 E.1 E.2 = Y at eb z6 ⊢
  have k0 : p 0 = d := k.1
  have k1 : p 1 = f := k.2.1
  have k9 : p 9 = q 9 := k.2.2.1
  have k10 : p 10 = q 10 := k.2.2.2.1
  have k11 : p 11 = q 11 := k.2.2.2.2
  have h7 := L_ch z6.1
  have e1 : (f_Ch_passCycle X.2) 2 1 = σ 2 1 := h7.q10.trans (k10.trans h.q10.symm)
  have e2 : (f_Ch_passCycle X.2) 2 2 = σ 2 2 := h7.q9.trans (k9.trans h.q9.symm)
  have h8 := L_draw h7
  have h9 := L_69 h7 e1 e2
  rw [e1] at h8
  have i6 : IC X.2 := z6.1.ic
  have c6 : ¬ Y.2 0 18 = 0 → p 2 = p 3 ∧ (p 3 = 0 → p 4 = p 5) := z6.2.2.2
  have l6 : p 8 = Y.2 0 18 := z6.1.q8.symm.trans z6.1.lf
  have e5 : (f_Mo_tick_r92 (mTm Y.2)) 0 5 = τ 0 5 := h9.k2.symm.trans (h9.q9.trans (k9.trans (h.q9.symm.trans h.k2)))
  refine ⟨eb, ?_, ?_, ⟨h.ic, hD.ic, i6, h8.ic⟩, ⟨hD.jm, hD.rb, h8.jm⟩⟩
  · obtain ⟨v, l, h10⟩ := L_mv h9
    have l10 : (mCk (f_Mo_tick_r92 (mTm Y.2))) 0 18 = p 8 := h10.lf.symm.trans h10.q8
    refine ⟨upd (upd p 9 v) 10 l, ⟨h10, z6.2.1, z6.2.2.1, fun n => c6 (fun z => n (l10.trans (l6.trans z)))⟩, ?_, ?_⟩
    · intro z
      have w : cyW ((f_Mo_tick_r92 (mTm Y.2)) 0 5) = 1 := z
      rw [e5] at w
      exact k0.trans (hd (cyD h.kc w))
    · intro z
      have w : ¬ cyW ((f_Mo_tick_r92 (mTm Y.2)) 0 5) = 1 := z
      rw [e5] at w
      exact k1.trans ((hf (cyE h.kc w)).trans k0.symm)
  · obtain ⟨v, l, h10⟩ := L_mv h9
    exact h10.q11.trans (k11.trans h.q11.symm)
end TK
