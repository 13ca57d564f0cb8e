/-! ===== instructions: what the reference does, by its modes ===== -/
section EXM
variable {τ : Sg} {M : Int32} {v4 v10 : Int32} {s9 s12 : Sg}
theorem ex_m0 (hM : f_Mo_meaning (τ 0 19) = M) (a : ¬ M / 100 = 0) (b1 : ((M / 10) - (M / 10) / 10 * 10) ≤ 0) (b2 : ((M / 10) - (M / 10) / 10 * 10) < 3) (b3 : ¬ ((M / 10) - (M / 10) / 10 * 10) = 4) (b4 : ((M / 10) - (M / 10) / 10 * 10) = 0) : f_Mo_execute τ = f_Mo_execute_r134 M 0 τ 0 (sf τ 0 10 ((τ 0 10 + 1) &&& 1023)) := by
  have e1 : f_Mo_execute_r32 τ M = (0, τ) := if_pos b1
  have e2 : ∀ v s, f_Mo_execute_r53 M v s = (v, s) := fun v s => if_pos b2
  have e3 : ∀ v s, f_Mo_execute_r82 M v s = v := fun v s => if_neg b3
  have e4 : f_Mo_execute_r106 M = 1 := if_pos b4
  unfold f_Mo_execute
  simp only [hM, e1, e2, e3, e4]
  exact if_neg a
theorem ex_m1 (hM : f_Mo_meaning (τ 0 19) = M) (a : ¬ M / 100 = 0) (b1 : ¬ ((M / 10) - (M / 10) / 10 * 10) ≤ 0) (b2 : ((M / 10) - (M / 10) / 10 * 10) < 3) (b3 : ¬ ((M / 10) - (M / 10) / 10 * 10) = 4) (b4 : ¬ ((M / 10) - (M / 10) / 10 * 10) = 0) (b5 : ¬ 3 ≤ ((M / 10) - (M / 10) / 10 * 10)) : f_Mo_execute τ = f_Mo_execute_r134 M (f_Mo_read τ (τ 0 10 + 1)).1 (f_Mo_read τ (τ 0 10 + 1)).2 (f_Mo_read τ (τ 0 10 + 1)).1 (sf (f_Mo_read τ (τ 0 10 + 1)).2 0 10 (((f_Mo_read τ (τ 0 10 + 1)).2 0 10 + 2) &&& 1023)) := by
  have e1 : f_Mo_execute_r32 τ M = (f_Mo_read τ (τ 0 10 + 1)) := if_neg b1
  have e2 : ∀ v s, f_Mo_execute_r53 M v s = (v, s) := fun v s => if_pos b2
  have e3 : ∀ v s, f_Mo_execute_r82 M v s = v := fun v s => if_neg b3
  have e4 : f_Mo_execute_r106 M = 2 := (if_neg b4).trans (if_neg b5)
  unfold f_Mo_execute
  simp only [hM, e1, e2, e3, e4]
  exact if_neg a
theorem ex_m3 (hM : f_Mo_meaning (τ 0 19) = M) (a : ¬ M / 100 = 0) (b1 : ¬ ((M / 10) - (M / 10) / 10 * 10) ≤ 0) (b2 : ¬ ((M / 10) - (M / 10) / 10 * 10) < 3) (b3 : ¬ ((M / 10) - (M / 10) / 10 * 10) = 4) (b4 : ¬ ((M / 10) - (M / 10) / 10 * 10) = 0) (b5 : 3 ≤ ((M / 10) - (M / 10) / 10 * 10)) : f_Mo_execute τ = f_Mo_execute_r134 M (f_Mo_read τ (τ 0 10 + 1)).1 (f_Mo_read (f_Mo_read τ (τ 0 10 + 1)).2 ((f_Mo_read τ (τ 0 10 + 1)).2 0 10 + 2)).2 ((f_Mo_read τ (τ 0 10 + 1)).1 + (256 * (f_Mo_read (f_Mo_read τ (τ 0 10 + 1)).2 ((f_Mo_read τ (τ 0 10 + 1)).2 0 10 + 2)).1)) (sf (f_Mo_read (f_Mo_read τ (τ 0 10 + 1)).2 ((f_Mo_read τ (τ 0 10 + 1)).2 0 10 + 2)).2 0 10 (((f_Mo_read (f_Mo_read τ (τ 0 10 + 1)).2 ((f_Mo_read τ (τ 0 10 + 1)).2 0 10 + 2)).2 0 10 + 3) &&& 1023)) := by
  have e1 : f_Mo_execute_r32 τ M = (f_Mo_read τ (τ 0 10 + 1)) := if_neg b1
  have e2 : ∀ v s, f_Mo_execute_r53 M v s = (v + (256 * (f_Mo_read s (s 0 10 + 2)).1), (f_Mo_read s (s 0 10 + 2)).2) := fun v s => if_neg b2
  have e3 : ∀ v s, f_Mo_execute_r82 M v s = v := fun v s => if_neg b3
  have e4 : f_Mo_execute_r106 M = 3 := (if_neg b4).trans (if_pos b5)
  unfold f_Mo_execute
  simp only [hM, e1, e2, e3, e4]
  exact if_neg a
theorem ex_m4 (hM : f_Mo_meaning (τ 0 19) = M) (a : ¬ M / 100 = 0) (b1 : ¬ ((M / 10) - (M / 10) / 10 * 10) ≤ 0) (b2 : ¬ ((M / 10) - (M / 10) / 10 * 10) < 3) (b3 : ((M / 10) - (M / 10) / 10 * 10) = 4) (b4 : ¬ ((M / 10) - (M / 10) / 10 * 10) = 0) (b5 : 3 ≤ ((M / 10) - (M / 10) / 10 * 10)) : f_Mo_execute τ = f_Mo_execute_r134 M (f_Mo_read τ (τ 0 10 + 1)).1 (f_Mo_read (f_Mo_read τ (τ 0 10 + 1)).2 ((f_Mo_read τ (τ 0 10 + 1)).2 0 10 + 2)).2 (((f_Mo_read τ (τ 0 10 + 1)).1 + (256 * (f_Mo_read (f_Mo_read τ (τ 0 10 + 1)).2 ((f_Mo_read τ (τ 0 10 + 1)).2 0 10 + 2)).1)) + ((f_Mo_read (f_Mo_read τ (τ 0 10 + 1)).2 ((f_Mo_read τ (τ 0 10 + 1)).2 0 10 + 2)).2 0 7)) (sf (f_Mo_read (f_Mo_read τ (τ 0 10 + 1)).2 ((f_Mo_read τ (τ 0 10 + 1)).2 0 10 + 2)).2 0 10 (((f_Mo_read (f_Mo_read τ (τ 0 10 + 1)).2 ((f_Mo_read τ (τ 0 10 + 1)).2 0 10 + 2)).2 0 10 + 3) &&& 1023)) := by
  have e1 : f_Mo_execute_r32 τ M = (f_Mo_read τ (τ 0 10 + 1)) := if_neg b1
  have e2 : ∀ v s, f_Mo_execute_r53 M v s = (v + (256 * (f_Mo_read s (s 0 10 + 2)).1), (f_Mo_read s (s 0 10 + 2)).2) := fun v s => if_neg b2
  have e3 : ∀ v s, f_Mo_execute_r82 M v s = v + s 0 7 := fun v s => if_pos b3
  have e4 : f_Mo_execute_r106 M = 3 := (if_neg b4).trans (if_pos b5)
  unfold f_Mo_execute
  simp only [hM, e1, e2, e3, e4]
  exact if_neg a
theorem ex_jam (hM : f_Mo_meaning (τ 0 19) = M) (a : M / 100 = 0) : f_Mo_execute τ = sf τ 0 14 1 := by
  unfold f_Mo_execute
  simp only [hM]
  exact if_pos a
variable {p : Int32}
theorem r4_go (e : M / 100 = p) (a : ¬ p < 25) : f_Mo_execute_r134 M v4 s9 v10 s12 = f_Mo_go s12 p (s9 0 10) v10 := by
  unfold f_Mo_execute_r134
  rw [e]
  exact if_neg a
theorem r4_4 (e : M / 100 = 4) : f_Mo_execute_r134 M v4 s9 v10 s12 = f_Mo_store s12 v10 (s12 0 6) := by
  unfold f_Mo_execute_r134
  rw [e]
  exact (if_pos (by decide)).trans (if_pos rfl)
theorem r4_5 (e : M / 100 = 5) : f_Mo_execute_r134 M v4 s9 v10 s12 = f_Mo_store s12 v10 (s12 0 7) := by
  unfold f_Mo_execute_r134
  rw [e]
  exact (if_pos (by decide)).trans ((if_neg (by decide)).trans (if_pos rfl))
theorem r4_17 (e : M / 100 = 17) : f_Mo_execute_r134 M v4 s9 v10 s12 = sf (f_Mo_set s12 ((s12 1 v10.toNatClampNeg) + 1)).2 1 v10.toNatClampNeg (f_Mo_set s12 ((s12 1 v10.toNatClampNeg) + 1)).1 := by
  unfold f_Mo_execute_r134
  rw [e]
  exact (if_pos (by decide)).trans ((if_neg (by decide)).trans ((if_neg (by decide)).trans (if_pos rfl)))
theorem r4_18 (e : M / 100 = 18) : f_Mo_execute_r134 M v4 s9 v10 s12 = sf (f_Mo_set s12 ((s12 1 v10.toNatClampNeg) + (-1))).2 1 v10.toNatClampNeg (f_Mo_set s12 ((s12 1 v10.toNatClampNeg) + (-1))).1 := by
  unfold f_Mo_execute_r134
  rw [e]
  exact (if_pos (by decide)).trans ((if_neg (by decide)).trans ((if_neg (by decide)).trans ((if_neg (by decide)).trans (if_pos rfl))))
theorem r4_alt (e : M / 100 = p) (a : p < 25) (a4 : ¬ p = 4) (a5 : ¬ p = 5) (a17 : ¬ p = 17) (a18 : ¬ p = 18) (m : ((M / 10) - (M / 10) / 10 * 10) ≤ 0) : f_Mo_execute_r134 M v4 s9 v10 s12 = f_Mo_alter s12 p := by
  unfold f_Mo_execute_r134
  rw [e]
  exact (if_pos a).trans ((if_neg a4).trans ((if_neg a5).trans ((if_neg a17).trans ((if_neg a18).trans (if_pos m)))))
theorem r4_u1 (e : M / 100 = p) (a : p < 25) (a4 : ¬ p = 4) (a5 : ¬ p = 5) (a17 : ¬ p = 17) (a18 : ¬ p = 18) (m : ¬ ((M / 10) - (M / 10) / 10 * 10) ≤ 0) (m1 : ((M / 10) - (M / 10) / 10 * 10) = 1) : f_Mo_execute_r134 M v4 s9 v10 s12 = f_Mo_use s12 p v4 := by
  have e7 : f_Mo_execute_r237 M v4 v10 s12 = (v4, s12) := if_pos m1
  unfold f_Mo_execute_r134
  rw [e, e7]
  exact (if_pos a).trans ((if_neg a4).trans ((if_neg a5).trans ((if_neg a17).trans ((if_neg a18).trans (if_neg m)))))
theorem r4_u2 (e : M / 100 = p) (a : p < 25) (a4 : ¬ p = 4) (a5 : ¬ p = 5) (a17 : ¬ p = 17) (a18 : ¬ p = 18) (m : ¬ ((M / 10) - (M / 10) / 10 * 10) ≤ 0) (m1 : ¬ ((M / 10) - (M / 10) / 10 * 10) = 1) : f_Mo_execute_r134 M v4 s9 v10 s12 = f_Mo_use (f_Mo_read s12 v10).2 p (f_Mo_read s12 v10).1 := by
  have e7 : f_Mo_execute_r237 M v4 v10 s12 = f_Mo_read s12 v10 := if_neg m1
  unfold f_Mo_execute_r134
  rw [e, e7]
  exact (if_pos a).trans ((if_neg a4).trans ((if_neg a5).trans ((if_neg a17).trans ((if_neg a18).trans (if_neg m)))))
end EXM
/-! what the class's loads leave alone -/
theorem ld_9 (s : Sg) (x : Int32) : (f_Bd_load s x).2 9 = s 9 := by
  show (if 768 ≤ (x &&& 1023) then f_Bd_load_r28 s x else (s 10 (x &&& 1023).toNatClampNeg, s)).2 9 = s 9
  unfold f_Bd_load_r28
  (repeat' split) <;> rfl
theorem nb_9 (s : Sg) {k : Nat} (hk : k ≠ 1) : (f_Pr_nextByte s).2 9 k = s 9 k := by
  show upd ((f_Bd_load s (s 9 1)).2 9) 1 _ k = s 9 k
  rw [pk_un hk, ld_9]
/-- after an instruction: the place of the next -/
def PE (q : Nat → Int32) (s t : Sg) : Prop := ∃ v, bt2 0 v 1023 ∧ R (upd (upd q 6 v) 7 v) s t
theorem PE_pos {q : Nat → Int32} {c : Prop} [Decidable c] {a b t : Sg} (hc : c) (k : PE q a t) : PE q (if c then a else b) t := by rw [if_pos hc]; exact k
theorem PE_neg {q : Nat → Int32} {c : Prop} [Decidable c] {a b t : Sg} (hc : ¬ c) (k : PE q b t) : PE q (if c then a else b) t := by rw [if_neg hc]; exact k
def qn (q : Nat → Int32) (v : Int32) : Nat → Int32 := upd (upd q 6 v) 7 v
theorem R.cq {q q' : Nat → Int32} {s t : Sg} (h : R q s t) (e : q = q') : R q' s t := by rw [← e]; exact h
section MD
variable {q : Nat → Int32} {s τ : Sg}
theorem md0 (h : R (upd q 6 ((q 7 + 1) &&& 1023)) s τ) : R (qn q ((q 7 + 1) &&& 1023)) s (sf τ 0 10 ((τ 0 10 + 1) &&& 1023)) := by
  rw [show τ 0 10 = q 7 from h.q7]
  exact u_q7 h
theorem md1 (h : R (upd q 6 ((q 7 + 1) &&& 1023)) s τ) : LdR (qn q ((q 7 + 2) &&& 1023)) (f_Pr_nextByte s) ((f_Mo_read τ (τ 0 10 + 1)).1, sf (f_Mo_read τ (τ 0 10 + 1)).2 0 10 (((f_Mo_read τ (τ 0 10 + 1)).2 0 10 + 2) &&& 1023)) := by
  have h1 := L_nb (y := τ 0 10 + 1) h (by rw [show τ 0 10 = q 7 from h.q7]; exact am0 _)
  rw [upd_6, show upd q 6 ((q 7 + 1) &&& 1023) 6 = (q 7 + 1) &&& 1023 from rfl, pc_2] at h1
  refine ⟨h1.1, ?_, h1.2.2⟩
  show R _ _ (sf (f_Mo_read τ (τ 0 10 + 1)).2 0 10 (((f_Mo_read τ (τ 0 10 + 1)).2 0 10 + 2) &&& 1023))
  rw [show (f_Mo_read τ (τ 0 10 + 1)).2 0 10 = q 7 from h1.2.1.q7]
  exact u_q7 h1.2.1
theorem md3 (h : R (upd q 6 ((q 7 + 1) &&& 1023)) s τ) : (f_Pr_nextAddress s).1 = (f_Mo_read τ (τ 0 10 + 1)).1 + (256 * (f_Mo_read (f_Mo_read τ (τ 0 10 + 1)).2 ((f_Mo_read τ (τ 0 10 + 1)).2 0 10 + 2)).1) ∧ R (qn q ((q 7 + 3) &&& 1023)) (f_Pr_nextAddress s).2 (sf (f_Mo_read (f_Mo_read τ (τ 0 10 + 1)).2 ((f_Mo_read τ (τ 0 10 + 1)).2 0 10 + 2)).2 0 10 (((f_Mo_read (f_Mo_read τ (τ 0 10 + 1)).2 ((f_Mo_read τ (τ 0 10 + 1)).2 0 10 + 2)).2 0 10 + 3) &&& 1023)) := by
  have h0 := L_nb (y := τ 0 10 + 1) h (by rw [show τ 0 10 = q 7 from h.q7]; exact am0 _)
  have e7 : (f_Mo_read τ (τ 0 10 + 1)).2 0 10 = q 7 := h0.2.1.q7
  have h1 := L_na (y1 := τ 0 10 + 1) (y2 := (f_Mo_read τ (τ 0 10 + 1)).2 0 10 + 2) h (by rw [show τ 0 10 = q 7 from h.q7]; exact am0 _) (by rw [e7]; exact pc_2 _)
  have h2 := h1.2
  rw [upd_6, show upd q 6 ((q 7 + 1) &&& 1023) 6 = (q 7 + 1) &&& 1023 from rfl, am1, Int32.add_assoc, show (1 : Int32) + 2 = 3 from rfl] at h2
  refine ⟨h1.1, ?_⟩
  rw [show (f_Mo_read (f_Mo_read τ (τ 0 10 + 1)).2 ((f_Mo_read τ (τ 0 10 + 1)).2 0 10 + 2)).2 0 10 = q 7 from h2.q7]
  exact u_q7 h2
end MD
