/-! ===== the processor: its small steps ===== -/
theorem L_res {q : Nat → Int32} {σ τ : Sg} {x y : Int32} (h : R q σ τ) (e : x = y) : LdR q (f_Pr_result σ x) (f_Mo_set τ y) := by
  rw [e]
  refine ⟨rfl, ?_, bt_8 _⟩
  exact u_z (u_n h (neg_eq y) bo_if) (zer_eq y) bo_if'
theorem L_nb {q : Nat → Int32} {σ τ : Sg} {y : Int32} (h : R q σ τ) (e : q 6 &&& 1023 = y &&& 1023) : LdR (upd q 6 ((q 6 + 1) &&& 1023)) (f_Pr_nextByte σ) (f_Mo_read τ y) := by
  have h1 := L_ld (x := σ 9 1) (y := y) h (by rw [h.q6]; exact e)
  refine ⟨h1.1, ?_, h1.2.2⟩
  have e6 : (f_Bd_load σ (σ 9 1)).2 9 1 = q 6 := h1.2.1.q6
  show R _ (sf (f_Bd_load σ (σ 9 1)).2 9 1 (((f_Bd_load σ (σ 9 1)).2 9 1 + 1) &&& 1023)) _
  rw [e6]
  exact u_q6 h1.2.1
theorem upd_6 (q : Nat → Int32) (v w : Int32) : upd (upd q 6 v) 6 w = upd q 6 w := by
  funext j
  unfold upd
  split
  · rfl
  · rfl
theorem L_na {q : Nat → Int32} {σ τ : Sg} {y1 y2 : Int32} (h : R q σ τ) (e1 : q 6 &&& 1023 = y1 &&& 1023) (e2 : (q 6 + 1) &&& 1023 = y2 &&& 1023) : (f_Pr_nextAddress σ).1 = (f_Mo_read τ y1).1 + (256 * (f_Mo_read (f_Mo_read τ y1).2 y2).1) ∧ R (upd q 6 ((q 6 + 2) &&& 1023)) (f_Pr_nextAddress σ).2 (f_Mo_read (f_Mo_read τ y1).2 y2).2 := by
  have h1 := L_nb h e1
  have h2 := L_nb (y := y2) h1.2.1 (by show (((q 6 + 1) &&& 1023) &&& 1023) = _; rw [am0, e2])
  refine ⟨?_, ?_⟩
  · show (f_Pr_nextByte σ).1 + (256 * (f_Pr_nextByte (f_Pr_nextByte σ).2).1) = _
    rw [h1.1, h2.1]
  · have h3 := h2.2.1
    rw [upd_6, show upd q 6 ((q 6 + 1) &&& 1023) 6 = (q 6 + 1) &&& 1023 from rfl, pc_2] at h3
    exact h3
theorem L_add {q : Nat → Int32} {σ τ : Sg} {x y : Int32} (h : R q σ τ) (e : x = y) : R q (f_Pr_add σ x) (sf (f_Mo_sum τ y).2 0 6 (f_Mo_sum τ y).1) := by
  rw [e]
  have ea : ((σ 9 2) + y) + (if σ 9 8 = 0 then (0 : Int32) else 1) = ((τ 0 6) + y) + (if τ 0 13 = 0 then 0 else 1) := by rw [h.ra, h.rc]
  have h1 : R q (sf σ 9 8 (if ((σ 9 2) + y) + (if σ 9 8 = 0 then (0 : Int32) else 1) ≤ 255 then 0 else 1)) (sf τ 0 13 (if ((τ 0 6) + y) + (if τ 0 13 = 0 then (0 : Int32) else 1) ≤ 255 then 0 else 1)) := u_c h (by rw [ea]) bo_if
  have h2 := L_res h1 ea
  exact u_a h2.2.1 h2.1 h2.2.2
theorem L_cmp {q : Nat → Int32} {σ τ : Sg} {x y x' y' : Int32} (h : R q σ τ) (e : x = x') (e2 : y = y') : R q (f_Pr_compare σ x y) (f_Mo_compare τ x' y') := by
  rw [e, e2]
  have h1 := L_res h (rfl : x' - y' = x' - y')
  exact u_c h1.2.1 rfl bo_if
theorem L_flags {q : Nat → Int32} {σ τ : Sg} (h : R q σ τ) : f_Pr_flags σ = f_Mo_flags τ ∧ bt2 0 (f_Mo_flags τ) 255 := by
  have e : f_Pr_flags σ = ((if σ 9 6 = 0 then (0 : Int32) else 128) ||| (if σ 9 7 = 0 then 0 else 2)) ||| (if σ 9 8 = 0 then 0 else 1) := rfl
  rw [e, h.rn, h.rz, h.rc]
  exact ⟨flg h.rnb h.rzb h.rcb, flg_b h.rnb h.rzb h.rcb⟩
theorem L_pushPc {q : Nat → Int32} {σ τ : Sg} {x y : Int32} (h : R q σ τ) (e : x = y) (b : bt2 0 y 1023) : R q (f_Pr_pushPlace σ x) (f_Mo_push (f_Mo_push τ (y >>> ((8 : Int32) &&& 31))) (y &&& 255)) := by
  rw [e]
  exact L_push (L_push h rfl (hi8 b)) rfl (bt_8 _)
theorem q7_push {q : Nat → Int32} {σ τ : Sg} {v w : Int32} (h : R q σ τ) (e : v = w) (b : bt2 0 w 255) : (f_Mo_push τ w) 0 10 = q 7 := (L_push h e b).q7
/-- an interrupt begins -/
theorem L_int2 {q : Nat → Int32} {s t : Sg} (h : R q s t) : R (upd (upd (upd q 6 (((256 * (t 1 (761 : Int32).toNatClampNeg)) + (t 1 (760 : Int32).toNatClampNeg)) &&& 1023)) 7 (((256 * (t 1 (761 : Int32).toNatClampNeg)) + (t 1 (760 : Int32).toNatClampNeg)) &&& 1023)) 3 0) (sf (sf s 9 1 (((256 * f_Me_at s 761) + f_Me_at s 760) &&& 1023)) 3 1 0) (sf (sf (sf t 0 10 (((256 * (t 1 (761 : Int32).toNatClampNeg)) + (t 1 (760 : Int32).toNatClampNeg)) &&& 1023)) 0 16 0) 0 17 0) := by
  have e1 : f_Me_at s 761 = t 1 (761 : Int32).toNatClampNeg := (at_in (x := 761) (by decide) (by decide)).trans (by rw [h.m10])
  have e2 : f_Me_at s 760 = t 1 (760 : Int32).toNatClampNeg := (at_in (x := 760) (by decide) (by decide)).trans (by rw [h.m10])
  rw [e1, e2]
  generalize (((256 * (t 1 (761 : Int32).toNatClampNeg)) + (t 1 (760 : Int32).toNatClampNeg)) &&& 1023) = v
  exact u_q3 (u_nmi (u_q7 (u_q6 h)) rfl (Or.inl rfl))
theorem L_int {q : Nat → Int32} {σ τ : Sg} (h : R q σ τ) (e : q 6 = q 7) (b : bt2 0 (q 7) 1023) : ∃ v, bt2 0 v 1023 ∧ R (upd (upd (upd q 6 v) 7 v) 3 0) (f_Pr_enterNmi σ) (f_Mo_interrupt τ) := by
  have e7 : σ 9 1 = τ 0 10 := by rw [h.q6, h.q7, e]
  have b7 : bt2 0 (τ 0 10) 1023 := by rw [h.q7]; exact b
  have h1 : R q (f_Pr_push σ (τ 0 10 >>> ((8 : Int32) &&& 31))) (f_Mo_push τ (τ 0 10 >>> ((8 : Int32) &&& 31))) := L_push h rfl (hi8 b7)
  have e8 : (f_Mo_push τ (τ 0 10 >>> ((8 : Int32) &&& 31))) 0 10 = τ 0 10 := by rw [h1.q7, h.q7]
  have h2 : R q (f_Pr_pushPlace σ (σ 9 1)) (f_Mo_push (f_Mo_push τ (τ 0 10 >>> ((8 : Int32) &&& 31))) ((f_Mo_push τ (τ 0 10 >>> ((8 : Int32) &&& 31))) 0 10 &&& 255)) := by
    rw [e8]
    exact L_pushPc h e7 b7
  exact ⟨_, bt_10 _, L_int2 (L_push h2 (L_flags h2).1 (L_flags h2).2)⟩
/-- a branch -/
theorem L_br {q : Nat → Int32} {σ τ : Sg} {y t t' : Int32} (h : R q σ τ) (e : q 6 &&& 1023 = y &&& 1023) (et : t = t') : ∃ v, R (upd q 6 v) (f_Pr_branchIf σ t) (f_Mo_read τ y).2 ∧ v = (if t' = 0 then (q 6 + 1) &&& 1023 else (((q 6 + 1) &&& 1023) + f_Mo_go_r21 (f_Mo_read τ y).1) &&& 1023) := by
  rw [et]
  have h1 := L_nb h e
  have e6 : (f_Pr_nextByte σ).2 9 1 = (q 6 + 1) &&& 1023 := h1.2.1.q6
  show ∃ v, R (upd q 6 v) (if t' = 0 then (f_Pr_nextByte σ).2 else sf (f_Pr_nextByte σ).2 9 1 (((f_Pr_nextByte σ).2 9 1 + f_Pr_branchIf_r13 (f_Pr_nextByte σ).1) &&& 1023)) _ ∧ _
  by_cases c : t' = 0
  · rw [if_pos c, if_pos c]
    exact ⟨_, h1.2.1, rfl⟩
  · rw [if_neg c, if_neg c, e6, h1.1, off_eq h1.2.2]
    refine ⟨_, ?_, rfl⟩
    have h2 := u_q6 (v := (((q 6 + 1) &&& 1023) + f_Mo_go_r21 (f_Mo_read τ y).1) &&& 1023) h1.2.1
    rw [upd_6] at h2
    exact h2
