/-! ===== the instructions ===== -/
theorem qn_qn (q : Nat → Int32) (v w : Int32) : upd (upd (qn q w) 6 v) 7 v = upd (upd q 6 v) 7 v := by
  funext j
  unfold qn upd
  by_cases h7 : j = 7
  · rw [if_pos h7, if_pos h7]
  · by_cases h6 : j = 6
    · simp [h6]
    · simp [h7, h6]
theorem PE.of {q : Nat → Int32} {s t : Sg} {w v : Int32} (b : bt2 0 v 1023) (h : R (upd (upd (qn q w) 6 v) 7 v) s t) : PE q s t := ⟨v, b, h.cq (qn_qn q v w)⟩
section OPS
variable {q : Nat → Int32} {s s1 t τ : Sg}
theorem L_incm {x y d : Int32} (h : R q s t) (e : y = x) (b : bt2 0 x 255) : R q (f_Pr_change s y d) (sf (f_Mo_set t ((t 1 x.toNatClampNeg) + d)).2 1 x.toNatClampNeg (f_Mo_set t ((t 1 x.toNatClampNeg) + d)).1) := by
  rw [e]
  have r := L_res h (x := f_Me_at s x + d) (y := t 1 x.toNatClampNeg + d) (by rw [at_in (bm b) (blt b), h.m10])
  have e2 : f_Pr_change s x d = f_Me_put (f_Pr_result s (f_Me_at s x + d)).2 x (f_Pr_result s (f_Me_at s x + d)).1 := rfl
  rw [e2, put_in (bm b) (blt b)]
  exact u_mem r.2.1 rfl r.1 r.2.2
theorem L_pp (h : R q s t) : (f_Pr_pullPlace s).1 = (f_Mo_pull t).1 + (256 * (f_Mo_pull (f_Mo_pull t).2).1) ∧ R q (f_Pr_pullPlace s).2 (f_Mo_pull (f_Mo_pull t).2).2 := by
  have p1 := L_pull h
  have p2 := L_pull p1.2.1
  refine ⟨?_, p2.2.1⟩
  show (f_Pr_pull s).1 + (256 * (f_Pr_pull (f_Pr_pull s).2).1) = _
  rw [p1.1, p2.1]
theorem L_cb {d : Int32} {s' : Sg} (h : R q s t) (e : s' = sf (f_Pr_pullPlace s).2 9 1 (((f_Pr_pullPlace s).1 + d) &&& 1023)) : ∃ v, bt2 0 v 1023 ∧ R (upd (upd q 6 v) 7 v) s' (f_Mo_comeBack t d) := by
  rw [e]
  have p := L_pp h
  rw [p.1]
  exact ⟨_, bt_10 _, u_q7 (u_q6 p.2)⟩
theorem L_rti (a b : Int32) (h : R q s t) : ∃ v, bt2 0 v 1023 ∧ R (upd (upd q 6 v) 7 v) (f_Pr_returnFromNmi s) (f_Mo_go t 29 a b) := by
  have p := L_pull h
  have h2 : R q (sf (sf (sf (f_Pr_pull s).2 9 6 (f_Pr_returnFromNmi_r11 (f_Pr_pull s).1)) 9 7 (f_Pr_returnFromNmi_r26 (f_Pr_pull s).1)) 9 8 (f_Pr_returnFromNmi_r41 (f_Pr_pull s).1)) (sf (sf (sf (f_Mo_pull t).2 0 11 (f_Mo_go_r127 (f_Mo_pull t).1)) 0 12 (f_Mo_go_r143 (f_Mo_pull t).1)) 0 13 (f_Mo_go_r159 (f_Mo_pull t).1)) := by
    rw [p.1]
    exact u_c (u_z (u_n p.2.1 rfl bo_if) rfl bo_if) rfl bo_if
  have h3 := L_cb (d := 0) h2 rfl
  rw [Int32.add_zero] at h3
  exact h3
theorem L_jsr {x y a : Int32} (h : R q s t) (e : x = y) (ea : ((q 6 - 1) &&& 1023) = ((a + 2) &&& 1023)) : ∃ v, bt2 0 v 1023 ∧ R (upd (upd q 6 v) 7 v) (f_Pr_callPart s x) (f_Mo_go t 27 a y) := by
  rw [e]
  have h1 : R q (f_Pr_pushPlace s (((s 9 1) - 1) &&& 1023)) (f_Mo_push (f_Mo_push t (((a + 2) &&& 1023) >>> ((8 : Int32) &&& 31))) (((a + 2) &&& 1023) &&& 255)) := L_pushPc h (by rw [h.q6]; exact ea) (bt_10 _)
  exact ⟨_, bt_10 _, u_q7 (u_q6 h1)⟩
theorem L_bra {f f' : Int32} (h : R (upd q 6 ((q 7 + 1) &&& 1023)) s τ) (e : f = f') (ht : f_Mo_isTaken (sf (f_Mo_read τ (τ 0 10 + 1)).2 0 10 (((f_Mo_read τ (τ 0 10 + 1)).2 0 10 + 2) &&& 1023)) = f') (a : Int32) : PE q (f_Pr_branchIf s f) (f_Mo_go (sf (f_Mo_read τ (τ 0 10 + 1)).2 0 10 (((f_Mo_read τ (τ 0 10 + 1)).2 0 10 + 2) &&& 1023)) 25 a (f_Mo_read τ (τ 0 10 + 1)).1) := by
  obtain ⟨v, h1, ev⟩ := L_br (y := τ 0 10 + 1) h (by rw [show τ 0 10 = q 7 from h.q7]; exact am0 _) e
  have e7 : (f_Mo_read τ (τ 0 10 + 1)).2 0 10 = q 7 := h1.q7
  show PE q (f_Pr_branchIf s f) (if f_Mo_isTaken (sf (f_Mo_read τ (τ 0 10 + 1)).2 0 10 (((f_Mo_read τ (τ 0 10 + 1)).2 0 10 + 2) &&& 1023)) = 0 then sf (f_Mo_read τ (τ 0 10 + 1)).2 0 10 (((f_Mo_read τ (τ 0 10 + 1)).2 0 10 + 2) &&& 1023) else sf (sf (f_Mo_read τ (τ 0 10 + 1)).2 0 10 (((f_Mo_read τ (τ 0 10 + 1)).2 0 10 + 2) &&& 1023)) 0 10 (((((f_Mo_read τ (τ 0 10 + 1)).2 0 10 + 2) &&& 1023) + f_Mo_go_r21 (f_Mo_read τ (τ 0 10 + 1)).1) &&& 1023))
  rw [ht]
  rw [show upd q 6 ((q 7 + 1) &&& 1023) 6 = (q 7 + 1) &&& 1023 from rfl, pc_2] at ev
  rw [upd_6] at h1
  by_cases c : f' = 0
  · rw [if_pos c] at ev ⊢
    rw [e7, ← ev]
    exact ⟨v, by rw [ev]; exact bt_10 _, u_q7 h1⟩
  · rw [if_neg c] at ev ⊢
    rw [e7, ← ev]
    refine ⟨v, by rw [ev]; exact bt_10 _, (u_q7 (u_q7 h1)).cq ?_⟩
    funext j
    unfold upd
    by_cases h7 : j = 7
    · rw [if_pos h7, if_pos h7]
    · rw [if_neg h7, if_neg h7, if_neg h7]
section MDP
variable {q : Nat → Int32} {s τ : Sg}
theorem md1p (h : R (upd q 6 ((q 7 + 1) &&& 1023)) s τ) : (f_Mo_read (f_Mo_read τ (τ 0 10 + 1)).2 ((f_Mo_read τ (τ 0 10 + 1)).2 0 10 + 2)).2 0 10 = q 7 := by
  have h0 := L_nb (y := τ 0 10 + 1) h (by rw [show τ 0 10 = q 7 from h.q7]; exact am0 _)
  have e7 : (f_Mo_read τ (τ 0 10 + 1)).2 0 10 = q 7 := h0.2.1.q7
  have h1 := L_na (y1 := τ 0 10 + 1) (y2 := (f_Mo_read τ (τ 0 10 + 1)).2 0 10 + 2) h (by rw [show τ 0 10 = q 7 from h.q7]; exact am0 _) (by rw [e7]; exact pc_2 _)
  exact h1.2.q7
end MDP
theorem op_9 (h : R (upd q 6 ((q 7 + 1) &&& 1023)) s1 τ) (hg : τ 0 19 = 9) : PE q (let r2 := (f_Pr_nextByte s1).1; let s3 := (f_Pr_nextByte s1).2; let r4 := (f_Pr_result s3 ((s1 9 2) ||| r2)).1; let s5 := (f_Pr_result s3 ((s1 9 2) ||| r2)).2; let s6 := sf s5 9 2 r4; s6) (f_Mo_execute τ) := by
  have m1 : (f_Pr_nextByte s1).1 = (f_Mo_read τ (τ 0 10 + 1)).1 := (md1 h).1
  have m2 : R (qn q ((q 7 + 2) &&& 1023)) (f_Pr_nextByte s1).2 (sf (f_Mo_read τ (τ 0 10 + 1)).2 0 10 (((f_Mo_read τ (τ 0 10 + 1)).2 0 10 + 2) &&& 1023)) := (md1 h).2.1
  have m3 : bt2 0 (f_Mo_read τ (τ 0 10 + 1)).1 255 := (md1 h).2.2
  have k2 : (f_Pr_nextByte s1).2 9 2 = s1 9 2 := nb_9 s1 (by decide)
  rw [ex_m1 (M := 912) (by rw [hg]; decide +kernel) (by decide) (by decide) (by decide) (by decide) (by decide) (by decide), r4_u1 (p := 9) (by decide) (by decide) (by decide) (by decide) (by decide) (by decide) (by decide) (by decide)]
  generalize f_Pr_nextByte s1 = n at m1 m2 k2 ⊢
  generalize sf (f_Mo_read τ (τ 0 10 + 1)).2 0 10 (((f_Mo_read τ (τ 0 10 + 1)).2 0 10 + 2) &&& 1023) = T at m2 ⊢
  generalize (f_Mo_read τ (τ 0 10 + 1)).1 = x at m1 m3 ⊢
  have r := L_res m2 (x := (s1 9 2) ||| n.1) (y := (T 0 6) ||| x) (by rw [← k2, m2.ra, m1])
  exact ⟨_, bt_10 _, u_a r.2.1 r.1 r.2.2⟩
theorem op_41 (h : R (upd q 6 ((q 7 + 1) &&& 1023)) s1 τ) (hg : τ 0 19 = 41) : PE q (let r13 := (f_Pr_nextByte s1).1; let s14 := (f_Pr_nextByte s1).2; let r15 := (f_Pr_result s14 ((s1 9 2) &&& r13)).1; let s16 := (f_Pr_result s14 ((s1 9 2) &&& r13)).2; let s17 := sf s16 9 2 r15; s17) (f_Mo_execute τ) := by
  have m1 : (f_Pr_nextByte s1).1 = (f_Mo_read τ (τ 0 10 + 1)).1 := (md1 h).1
  have m2 : R (qn q ((q 7 + 2) &&& 1023)) (f_Pr_nextByte s1).2 (sf (f_Mo_read τ (τ 0 10 + 1)).2 0 10 (((f_Mo_read τ (τ 0 10 + 1)).2 0 10 + 2) &&& 1023)) := (md1 h).2.1
  have m3 : bt2 0 (f_Mo_read τ (τ 0 10 + 1)).1 255 := (md1 h).2.2
  have k2 : (f_Pr_nextByte s1).2 9 2 = s1 9 2 := nb_9 s1 (by decide)
  rw [ex_m1 (M := 812) (by rw [hg]; decide +kernel) (by decide) (by decide) (by decide) (by decide) (by decide) (by decide), r4_u1 (p := 8) (by decide) (by decide) (by decide) (by decide) (by decide) (by decide) (by decide) (by decide)]
  generalize f_Pr_nextByte s1 = n at m1 m2 k2 ⊢
  generalize sf (f_Mo_read τ (τ 0 10 + 1)).2 0 10 (((f_Mo_read τ (τ 0 10 + 1)).2 0 10 + 2) &&& 1023) = T at m2 ⊢
  generalize (f_Mo_read τ (τ 0 10 + 1)).1 = x at m1 m3 ⊢
  have r := L_res m2 (x := (s1 9 2) &&& n.1) (y := (T 0 6) &&& x) (by rw [← k2, m2.ra, m1])
  exact ⟨_, bt_10 _, u_a r.2.1 r.1 r.2.2⟩
theorem op_73 (h : R (upd q 6 ((q 7 + 1) &&& 1023)) s1 τ) (hg : τ 0 19 = 73) : PE q (let r22 := (f_Pr_nextByte s1).1; let s23 := (f_Pr_nextByte s1).2; let r24 := (f_Pr_result s23 ((s1 9 2) ^^^ r22)).1; let s25 := (f_Pr_result s23 ((s1 9 2) ^^^ r22)).2; let s26 := sf s25 9 2 r24; s26) (f_Mo_execute τ) := by
  have m1 : (f_Pr_nextByte s1).1 = (f_Mo_read τ (τ 0 10 + 1)).1 := (md1 h).1
  have m2 : R (qn q ((q 7 + 2) &&& 1023)) (f_Pr_nextByte s1).2 (sf (f_Mo_read τ (τ 0 10 + 1)).2 0 10 (((f_Mo_read τ (τ 0 10 + 1)).2 0 10 + 2) &&& 1023)) := (md1 h).2.1
  have m3 : bt2 0 (f_Mo_read τ (τ 0 10 + 1)).1 255 := (md1 h).2.2
  have k2 : (f_Pr_nextByte s1).2 9 2 = s1 9 2 := nb_9 s1 (by decide)
  rw [ex_m1 (M := 1012) (by rw [hg]; decide +kernel) (by decide) (by decide) (by decide) (by decide) (by decide) (by decide), r4_u1 (p := 10) (by decide) (by decide) (by decide) (by decide) (by decide) (by decide) (by decide) (by decide)]
  generalize f_Pr_nextByte s1 = n at m1 m2 k2 ⊢
  generalize sf (f_Mo_read τ (τ 0 10 + 1)).2 0 10 (((f_Mo_read τ (τ 0 10 + 1)).2 0 10 + 2) &&& 1023) = T at m2 ⊢
  generalize (f_Mo_read τ (τ 0 10 + 1)).1 = x at m1 m3 ⊢
  have r := L_res m2 (x := (s1 9 2) ^^^ n.1) (y := (T 0 6) ^^^ x) (by rw [← k2, m2.ra, m1])
  exact ⟨_, bt_10 _, u_a r.2.1 r.1 r.2.2⟩
theorem op_169 (h : R (upd q 6 ((q 7 + 1) &&& 1023)) s1 τ) (hg : τ 0 19 = 169) : PE q (let r90 := (f_Pr_nextByte s1).1; let s91 := (f_Pr_nextByte s1).2; let r92 := (f_Pr_result s91 r90).1; let s93 := (f_Pr_result s91 r90).2; let s94 := sf s93 9 2 r92; s94) (f_Mo_execute τ) := by
  have m1 : (f_Pr_nextByte s1).1 = (f_Mo_read τ (τ 0 10 + 1)).1 := (md1 h).1
  have m2 : R (qn q ((q 7 + 2) &&& 1023)) (f_Pr_nextByte s1).2 (sf (f_Mo_read τ (τ 0 10 + 1)).2 0 10 (((f_Mo_read τ (τ 0 10 + 1)).2 0 10 + 2) &&& 1023)) := (md1 h).2.1
  have m3 : bt2 0 (f_Mo_read τ (τ 0 10 + 1)).1 255 := (md1 h).2.2
  rw [ex_m1 (M := 112) (by rw [hg]; decide +kernel) (by decide) (by decide) (by decide) (by decide) (by decide) (by decide), r4_u1 (p := 1) (by decide) (by decide) (by decide) (by decide) (by decide) (by decide) (by decide) (by decide)]
  generalize f_Pr_nextByte s1 = n at m1 m2 ⊢
  generalize sf (f_Mo_read τ (τ 0 10 + 1)).2 0 10 (((f_Mo_read τ (τ 0 10 + 1)).2 0 10 + 2) &&& 1023) = T at m2 ⊢
  generalize (f_Mo_read τ (τ 0 10 + 1)).1 = x at m1 m3 ⊢
  have r := L_res m2 m1
  exact ⟨_, bt_10 _, u_a r.2.1 r.1 r.2.2⟩
theorem op_162 (h : R (upd q 6 ((q 7 + 1) &&& 1023)) s1 τ) (hg : τ 0 19 = 162) : PE q (let r71 := (f_Pr_nextByte s1).1; let s72 := (f_Pr_nextByte s1).2; let r73 := (f_Pr_result s72 r71).1; let s74 := (f_Pr_result s72 r71).2; let s75 := sf s74 9 3 r73; s75) (f_Mo_execute τ) := by
  have m1 : (f_Pr_nextByte s1).1 = (f_Mo_read τ (τ 0 10 + 1)).1 := (md1 h).1
  have m2 : R (qn q ((q 7 + 2) &&& 1023)) (f_Pr_nextByte s1).2 (sf (f_Mo_read τ (τ 0 10 + 1)).2 0 10 (((f_Mo_read τ (τ 0 10 + 1)).2 0 10 + 2) &&& 1023)) := (md1 h).2.1
  have m3 : bt2 0 (f_Mo_read τ (τ 0 10 + 1)).1 255 := (md1 h).2.2
  rw [ex_m1 (M := 212) (by rw [hg]; decide +kernel) (by decide) (by decide) (by decide) (by decide) (by decide) (by decide), r4_u1 (p := 2) (by decide) (by decide) (by decide) (by decide) (by decide) (by decide) (by decide) (by decide)]
  generalize f_Pr_nextByte s1 = n at m1 m2 ⊢
  generalize sf (f_Mo_read τ (τ 0 10 + 1)).2 0 10 (((f_Mo_read τ (τ 0 10 + 1)).2 0 10 + 2) &&& 1023) = T at m2 ⊢
  generalize (f_Mo_read τ (τ 0 10 + 1)).1 = x at m1 m3 ⊢
  have r := L_res m2 m1
  exact ⟨_, bt_10 _, u_x r.2.1 r.1 r.2.2⟩
theorem op_160 (h : R (upd q 6 ((q 7 + 1) &&& 1023)) s1 τ) (hg : τ 0 19 = 160) : PE q (let r66 := (f_Pr_nextByte s1).1; let s67 := (f_Pr_nextByte s1).2; let r68 := (f_Pr_result s67 r66).1; let s69 := (f_Pr_result s67 r66).2; let s70 := sf s69 9 4 r68; s70) (f_Mo_execute τ) := by
  have m1 : (f_Pr_nextByte s1).1 = (f_Mo_read τ (τ 0 10 + 1)).1 := (md1 h).1
  have m2 : R (qn q ((q 7 + 2) &&& 1023)) (f_Pr_nextByte s1).2 (sf (f_Mo_read τ (τ 0 10 + 1)).2 0 10 (((f_Mo_read τ (τ 0 10 + 1)).2 0 10 + 2) &&& 1023)) := (md1 h).2.1
  have m3 : bt2 0 (f_Mo_read τ (τ 0 10 + 1)).1 255 := (md1 h).2.2
  rw [ex_m1 (M := 312) (by rw [hg]; decide +kernel) (by decide) (by decide) (by decide) (by decide) (by decide) (by decide), r4_u1 (p := 3) (by decide) (by decide) (by decide) (by decide) (by decide) (by decide) (by decide) (by decide)]
  generalize f_Pr_nextByte s1 = n at m1 m2 ⊢
  generalize sf (f_Mo_read τ (τ 0 10 + 1)).2 0 10 (((f_Mo_read τ (τ 0 10 + 1)).2 0 10 + 2) &&& 1023) = T at m2 ⊢
  generalize (f_Mo_read τ (τ 0 10 + 1)).1 = x at m1 m3 ⊢
  have r := L_res m2 m1
  exact ⟨_, bt_10 _, u_y r.2.1 r.1 r.2.2⟩
theorem op_105 (h : R (upd q 6 ((q 7 + 1) &&& 1023)) s1 τ) (hg : τ 0 19 = 105) : PE q (let r43 := (f_Pr_nextByte s1).1; let s44 := (f_Pr_nextByte s1).2; let s45 := f_Pr_add s44 r43; s45) (f_Mo_execute τ) := by
  have m1 : (f_Pr_nextByte s1).1 = (f_Mo_read τ (τ 0 10 + 1)).1 := (md1 h).1
  have m2 : R (qn q ((q 7 + 2) &&& 1023)) (f_Pr_nextByte s1).2 (sf (f_Mo_read τ (τ 0 10 + 1)).2 0 10 (((f_Mo_read τ (τ 0 10 + 1)).2 0 10 + 2) &&& 1023)) := (md1 h).2.1
  have m3 : bt2 0 (f_Mo_read τ (τ 0 10 + 1)).1 255 := (md1 h).2.2
  rw [ex_m1 (M := 612) (by rw [hg]; decide +kernel) (by decide) (by decide) (by decide) (by decide) (by decide) (by decide), r4_u1 (p := 6) (by decide) (by decide) (by decide) (by decide) (by decide) (by decide) (by decide) (by decide)]
  generalize f_Pr_nextByte s1 = n at m1 m2 ⊢
  generalize sf (f_Mo_read τ (τ 0 10 + 1)).2 0 10 (((f_Mo_read τ (τ 0 10 + 1)).2 0 10 + 2) &&& 1023) = T at m2 ⊢
  generalize (f_Mo_read τ (τ 0 10 + 1)).1 = x at m1 m3 ⊢
  exact ⟨_, bt_10 _, L_add m2 m1⟩
theorem op_233 (h : R (upd q 6 ((q 7 + 1) &&& 1023)) s1 τ) (hg : τ 0 19 = 233) : PE q (let r141 := (f_Pr_nextByte s1).1; let s142 := (f_Pr_nextByte s1).2; let s143 := f_Pr_add s142 (255 - r141); s143) (f_Mo_execute τ) := by
  have m1 : (f_Pr_nextByte s1).1 = (f_Mo_read τ (τ 0 10 + 1)).1 := (md1 h).1
  have m2 : R (qn q ((q 7 + 2) &&& 1023)) (f_Pr_nextByte s1).2 (sf (f_Mo_read τ (τ 0 10 + 1)).2 0 10 (((f_Mo_read τ (τ 0 10 + 1)).2 0 10 + 2) &&& 1023)) := (md1 h).2.1
  have m3 : bt2 0 (f_Mo_read τ (τ 0 10 + 1)).1 255 := (md1 h).2.2
  rw [ex_m1 (M := 712) (by rw [hg]; decide +kernel) (by decide) (by decide) (by decide) (by decide) (by decide) (by decide), r4_u1 (p := 7) (by decide) (by decide) (by decide) (by decide) (by decide) (by decide) (by decide) (by decide)]
  generalize f_Pr_nextByte s1 = n at m1 m2 ⊢
  generalize sf (f_Mo_read τ (τ 0 10 + 1)).2 0 10 (((f_Mo_read τ (τ 0 10 + 1)).2 0 10 + 2) &&& 1023) = T at m2 ⊢
  generalize (f_Mo_read τ (τ 0 10 + 1)).1 = x at m1 m3 ⊢
  exact ⟨_, bt_10 _, L_add m2 (congrArg (fun z => 255 - z) m1)⟩
theorem op_201 (h : R (upd q 6 ((q 7 + 1) &&& 1023)) s1 τ) (hg : τ 0 19 = 201) : PE q (let r124 := (f_Pr_nextByte s1).1; let s125 := (f_Pr_nextByte s1).2; let s126 := f_Pr_compare s125 (s1 9 2) r124; s126) (f_Mo_execute τ) := by
  have m1 : (f_Pr_nextByte s1).1 = (f_Mo_read τ (τ 0 10 + 1)).1 := (md1 h).1
  have m2 : R (qn q ((q 7 + 2) &&& 1023)) (f_Pr_nextByte s1).2 (sf (f_Mo_read τ (τ 0 10 + 1)).2 0 10 (((f_Mo_read τ (τ 0 10 + 1)).2 0 10 + 2) &&& 1023)) := (md1 h).2.1
  have m3 : bt2 0 (f_Mo_read τ (τ 0 10 + 1)).1 255 := (md1 h).2.2
  have k2 : (f_Pr_nextByte s1).2 9 2 = s1 9 2 := nb_9 s1 (by decide)
  rw [ex_m1 (M := 1112) (by rw [hg]; decide +kernel) (by decide) (by decide) (by decide) (by decide) (by decide) (by decide), r4_u1 (p := 11) (by decide) (by decide) (by decide) (by decide) (by decide) (by decide) (by decide) (by decide)]
  generalize f_Pr_nextByte s1 = n at m1 m2 k2 ⊢
  generalize sf (f_Mo_read τ (τ 0 10 + 1)).2 0 10 (((f_Mo_read τ (τ 0 10 + 1)).2 0 10 + 2) &&& 1023) = T at m2 ⊢
  generalize (f_Mo_read τ (τ 0 10 + 1)).1 = x at m1 m3 ⊢
  exact ⟨_, bt_10 _, L_cmp m2 (k2.symm.trans m2.ra) m1⟩
theorem op_224 (h : R (upd q 6 ((q 7 + 1) &&& 1023)) s1 τ) (hg : τ 0 19 = 224) : PE q (let r132 := (f_Pr_nextByte s1).1; let s133 := (f_Pr_nextByte s1).2; let s134 := f_Pr_compare s133 (s1 9 3) r132; s134) (f_Mo_execute τ) := by
  have m1 : (f_Pr_nextByte s1).1 = (f_Mo_read τ (τ 0 10 + 1)).1 := (md1 h).1
  have m2 : R (qn q ((q 7 + 2) &&& 1023)) (f_Pr_nextByte s1).2 (sf (f_Mo_read τ (τ 0 10 + 1)).2 0 10 (((f_Mo_read τ (τ 0 10 + 1)).2 0 10 + 2) &&& 1023)) := (md1 h).2.1
  have m3 : bt2 0 (f_Mo_read τ (τ 0 10 + 1)).1 255 := (md1 h).2.2
  have k3 : (f_Pr_nextByte s1).2 9 3 = s1 9 3 := nb_9 s1 (by decide)
  rw [ex_m1 (M := 1212) (by rw [hg]; decide +kernel) (by decide) (by decide) (by decide) (by decide) (by decide) (by decide), r4_u1 (p := 12) (by decide) (by decide) (by decide) (by decide) (by decide) (by decide) (by decide) (by decide)]
  generalize f_Pr_nextByte s1 = n at m1 m2 k3 ⊢
  generalize sf (f_Mo_read τ (τ 0 10 + 1)).2 0 10 (((f_Mo_read τ (τ 0 10 + 1)).2 0 10 + 2) &&& 1023) = T at m2 ⊢
  generalize (f_Mo_read τ (τ 0 10 + 1)).1 = x at m1 m3 ⊢
  exact ⟨_, bt_10 _, L_cmp m2 (k3.symm.trans m2.rx) m1⟩
theorem op_101 (h : R (upd q 6 ((q 7 + 1) &&& 1023)) s1 τ) (hg : τ 0 19 = 101) : PE q (let r33 := (f_Pr_nextByte s1).1; let s34 := (f_Pr_nextByte s1).2; let r35 := (f_Bd_load s34 r33).1; let s36 := (f_Bd_load s34 r33).2; let s37 := f_Pr_add s36 r35; s37) (f_Mo_execute τ) := by
  have m1 : (f_Pr_nextByte s1).1 = (f_Mo_read τ (τ 0 10 + 1)).1 := (md1 h).1
  have m2 : R (qn q ((q 7 + 2) &&& 1023)) (f_Pr_nextByte s1).2 (sf (f_Mo_read τ (τ 0 10 + 1)).2 0 10 (((f_Mo_read τ (τ 0 10 + 1)).2 0 10 + 2) &&& 1023)) := (md1 h).2.1
  have m3 : bt2 0 (f_Mo_read τ (τ 0 10 + 1)).1 255 := (md1 h).2.2
  rw [ex_m1 (M := 623) (by rw [hg]; decide +kernel) (by decide) (by decide) (by decide) (by decide) (by decide) (by decide), r4_u2 (p := 6) (by decide) (by decide) (by decide) (by decide) (by decide) (by decide) (by decide) (by decide)]
  generalize f_Pr_nextByte s1 = n at m1 m2 ⊢
  generalize sf (f_Mo_read τ (τ 0 10 + 1)).2 0 10 (((f_Mo_read τ (τ 0 10 + 1)).2 0 10 + 2) &&& 1023) = T at m2 ⊢
  generalize (f_Mo_read τ (τ 0 10 + 1)).1 = x at m1 m3 ⊢
  have l := L_ld (x := n.1) (y := x) m2 (by rw [m1])
  exact ⟨_, bt_10 _, L_add l.2.1 l.1⟩
theorem op_165 (h : R (upd q 6 ((q 7 + 1) &&& 1023)) s1 τ) (hg : τ 0 19 = 165) : PE q (let r76 := (f_Pr_nextByte s1).1; let s77 := (f_Pr_nextByte s1).2; let r78 := (f_Bd_load s77 r76).1; let s79 := (f_Bd_load s77 r76).2; let r80 := (f_Pr_result s79 r78).1; let s81 := (f_Pr_result s79 r78).2; let s82 := sf s81 9 2 r80; s82) (f_Mo_execute τ) := by
  have m1 : (f_Pr_nextByte s1).1 = (f_Mo_read τ (τ 0 10 + 1)).1 := (md1 h).1
  have m2 : R (qn q ((q 7 + 2) &&& 1023)) (f_Pr_nextByte s1).2 (sf (f_Mo_read τ (τ 0 10 + 1)).2 0 10 (((f_Mo_read τ (τ 0 10 + 1)).2 0 10 + 2) &&& 1023)) := (md1 h).2.1
  have m3 : bt2 0 (f_Mo_read τ (τ 0 10 + 1)).1 255 := (md1 h).2.2
  rw [ex_m1 (M := 123) (by rw [hg]; decide +kernel) (by decide) (by decide) (by decide) (by decide) (by decide) (by decide), r4_u2 (p := 1) (by decide) (by decide) (by decide) (by decide) (by decide) (by decide) (by decide) (by decide)]
  generalize f_Pr_nextByte s1 = n at m1 m2 ⊢
  generalize sf (f_Mo_read τ (τ 0 10 + 1)).2 0 10 (((f_Mo_read τ (τ 0 10 + 1)).2 0 10 + 2) &&& 1023) = T at m2 ⊢
  generalize (f_Mo_read τ (τ 0 10 + 1)).1 = x at m1 m3 ⊢
  have l := L_ld (x := n.1) (y := x) m2 (by rw [m1])
  have r := L_res l.2.1 l.1
  exact ⟨_, bt_10 _, u_a r.2.1 r.1 r.2.2⟩
theorem op_166 (h : R (upd q 6 ((q 7 + 1) &&& 1023)) s1 τ) (hg : τ 0 19 = 166) : PE q (let r83 := (f_Pr_nextByte s1).1; let s84 := (f_Pr_nextByte s1).2; let r85 := (f_Bd_load s84 r83).1; let s86 := (f_Bd_load s84 r83).2; let r87 := (f_Pr_result s86 r85).1; let s88 := (f_Pr_result s86 r85).2; let s89 := sf s88 9 3 r87; s89) (f_Mo_execute τ) := by
  have m1 : (f_Pr_nextByte s1).1 = (f_Mo_read τ (τ 0 10 + 1)).1 := (md1 h).1
  have m2 : R (qn q ((q 7 + 2) &&& 1023)) (f_Pr_nextByte s1).2 (sf (f_Mo_read τ (τ 0 10 + 1)).2 0 10 (((f_Mo_read τ (τ 0 10 + 1)).2 0 10 + 2) &&& 1023)) := (md1 h).2.1
  have m3 : bt2 0 (f_Mo_read τ (τ 0 10 + 1)).1 255 := (md1 h).2.2
  rw [ex_m1 (M := 223) (by rw [hg]; decide +kernel) (by decide) (by decide) (by decide) (by decide) (by decide) (by decide), r4_u2 (p := 2) (by decide) (by decide) (by decide) (by decide) (by decide) (by decide) (by decide) (by decide)]
  generalize f_Pr_nextByte s1 = n at m1 m2 ⊢
  generalize sf (f_Mo_read τ (τ 0 10 + 1)).2 0 10 (((f_Mo_read τ (τ 0 10 + 1)).2 0 10 + 2) &&& 1023) = T at m2 ⊢
  generalize (f_Mo_read τ (τ 0 10 + 1)).1 = x at m1 m3 ⊢
  have l := L_ld (x := n.1) (y := x) m2 (by rw [m1])
  have r := L_res l.2.1 l.1
  exact ⟨_, bt_10 _, u_x r.2.1 r.1 r.2.2⟩
theorem op_197 (h : R (upd q 6 ((q 7 + 1) &&& 1023)) s1 τ) (hg : τ 0 19 = 197) : PE q (let r113 := (f_Pr_nextByte s1).1; let s114 := (f_Pr_nextByte s1).2; let r115 := (f_Bd_load s114 r113).1; let s116 := (f_Bd_load s114 r113).2; let s117 := f_Pr_compare s116 (s1 9 2) r115; s117) (f_Mo_execute τ) := by
  have m1 : (f_Pr_nextByte s1).1 = (f_Mo_read τ (τ 0 10 + 1)).1 := (md1 h).1
  have m2 : R (qn q ((q 7 + 2) &&& 1023)) (f_Pr_nextByte s1).2 (sf (f_Mo_read τ (τ 0 10 + 1)).2 0 10 (((f_Mo_read τ (τ 0 10 + 1)).2 0 10 + 2) &&& 1023)) := (md1 h).2.1
  have m3 : bt2 0 (f_Mo_read τ (τ 0 10 + 1)).1 255 := (md1 h).2.2
  have k2 : (f_Pr_nextByte s1).2 9 2 = s1 9 2 := nb_9 s1 (by decide)
  rw [ex_m1 (M := 1123) (by rw [hg]; decide +kernel) (by decide) (by decide) (by decide) (by decide) (by decide) (by decide), r4_u2 (p := 11) (by decide) (by decide) (by decide) (by decide) (by decide) (by decide) (by decide) (by decide)]
  generalize f_Pr_nextByte s1 = n at m1 m2 k2 ⊢
  generalize sf (f_Mo_read τ (τ 0 10 + 1)).2 0 10 (((f_Mo_read τ (τ 0 10 + 1)).2 0 10 + 2) &&& 1023) = T at m2 ⊢
  generalize (f_Mo_read τ (τ 0 10 + 1)).1 = x at m1 m3 ⊢
  have l := L_ld (x := n.1) (y := x) m2 (by rw [m1])
  exact ⟨_, bt_10 _, L_cmp l.2.1 (by rw [← k2, ← l.2.1.ra, ld_9]) l.1⟩
theorem op_173 (h : R (upd q 6 ((q 7 + 1) &&& 1023)) s1 τ) (hg : τ 0 19 = 173) : PE q (let r98 := (f_Pr_nextAddress s1).1; let s99 := (f_Pr_nextAddress s1).2; let r100 := (f_Bd_load s99 r98).1; let s101 := (f_Bd_load s99 r98).2; let r102 := (f_Pr_result s101 r100).1; let s103 := (f_Pr_result s101 r100).2; let s104 := sf s103 9 2 r102; s104) (f_Mo_execute τ) := by
  have m1 : (f_Pr_nextAddress s1).1 = (f_Mo_read τ (τ 0 10 + 1)).1 + (256 * (f_Mo_read (f_Mo_read τ (τ 0 10 + 1)).2 ((f_Mo_read τ (τ 0 10 + 1)).2 0 10 + 2)).1) := (md3 h).1
  have m2 : R (qn q ((q 7 + 3) &&& 1023)) (f_Pr_nextAddress s1).2 (sf (f_Mo_read (f_Mo_read τ (τ 0 10 + 1)).2 ((f_Mo_read τ (τ 0 10 + 1)).2 0 10 + 2)).2 0 10 (((f_Mo_read (f_Mo_read τ (τ 0 10 + 1)).2 ((f_Mo_read τ (τ 0 10 + 1)).2 0 10 + 2)).2 0 10 + 3) &&& 1023)) := (md3 h).2
  have kx : (f_Pr_nextAddress s1).2 9 3 = (f_Mo_read (f_Mo_read τ (τ 0 10 + 1)).2 ((f_Mo_read τ (τ 0 10 + 1)).2 0 10 + 2)).2 0 7 := m2.rx
  skip
  rw [ex_m3 (M := 134) (by rw [hg]; decide +kernel) (by decide) (by decide) (by decide) (by decide) (by decide) (by decide), r4_u2 (p := 1) (by decide) (by decide) (by decide) (by decide) (by decide) (by decide) (by decide) (by decide)]
  generalize sf (f_Mo_read (f_Mo_read τ (τ 0 10 + 1)).2 ((f_Mo_read τ (τ 0 10 + 1)).2 0 10 + 2)).2 0 10 (((f_Mo_read (f_Mo_read τ (τ 0 10 + 1)).2 ((f_Mo_read τ (τ 0 10 + 1)).2 0 10 + 2)).2 0 10 + 3) &&& 1023) = T at m2 ⊢
  generalize f_Pr_nextAddress s1 = n at m1 m2 kx ⊢
  have l := L_ld (x := n.1) m2 (congrArg (fun z => z &&& 1023) m1)
  have r := L_res l.2.1 l.1
  exact ⟨_, bt_10 _, u_a r.2.1 r.1 r.2.2⟩
theorem op_189 (h : R (upd q 6 ((q 7 + 1) &&& 1023)) s1 τ) (hg : τ 0 19 = 189) : PE q (let r106 := (f_Pr_nextAddress s1).1; let s107 := (f_Pr_nextAddress s1).2; let r108 := (f_Bd_load s107 (r106 + (s107 9 3))).1; let s109 := (f_Bd_load s107 (r106 + (s107 9 3))).2; let r110 := (f_Pr_result s109 r108).1; let s111 := (f_Pr_result s109 r108).2; let s112 := sf s111 9 2 r110; s112) (f_Mo_execute τ) := by
  have m1 : (f_Pr_nextAddress s1).1 = (f_Mo_read τ (τ 0 10 + 1)).1 + (256 * (f_Mo_read (f_Mo_read τ (τ 0 10 + 1)).2 ((f_Mo_read τ (τ 0 10 + 1)).2 0 10 + 2)).1) := (md3 h).1
  have m2 : R (qn q ((q 7 + 3) &&& 1023)) (f_Pr_nextAddress s1).2 (sf (f_Mo_read (f_Mo_read τ (τ 0 10 + 1)).2 ((f_Mo_read τ (τ 0 10 + 1)).2 0 10 + 2)).2 0 10 (((f_Mo_read (f_Mo_read τ (τ 0 10 + 1)).2 ((f_Mo_read τ (τ 0 10 + 1)).2 0 10 + 2)).2 0 10 + 3) &&& 1023)) := (md3 h).2
  have kx : (f_Pr_nextAddress s1).2 9 3 = (f_Mo_read (f_Mo_read τ (τ 0 10 + 1)).2 ((f_Mo_read τ (τ 0 10 + 1)).2 0 10 + 2)).2 0 7 := m2.rx
  skip
  rw [ex_m4 (M := 144) (by rw [hg]; decide +kernel) (by decide) (by decide) (by decide) (by decide) (by decide) (by decide), r4_u2 (p := 1) (by decide) (by decide) (by decide) (by decide) (by decide) (by decide) (by decide) (by decide)]
  generalize sf (f_Mo_read (f_Mo_read τ (τ 0 10 + 1)).2 ((f_Mo_read τ (τ 0 10 + 1)).2 0 10 + 2)).2 0 10 (((f_Mo_read (f_Mo_read τ (τ 0 10 + 1)).2 ((f_Mo_read τ (τ 0 10 + 1)).2 0 10 + 2)).2 0 10 + 3) &&& 1023) = T at m2 ⊢
  generalize f_Pr_nextAddress s1 = n at m1 m2 kx ⊢
  have l := L_ld (x := n.1 + n.2 9 3) m2 (by rw [m1, kx])
  have r := L_res l.2.1 l.1
  exact ⟨_, bt_10 _, u_a r.2.1 r.1 r.2.2⟩
theorem op_133 (h : R (upd q 6 ((q 7 + 1) &&& 1023)) s1 τ) (hg : τ 0 19 = 133) : PE q (let r46 := (f_Pr_nextByte s1).1; let s47 := (f_Pr_nextByte s1).2; let s48 := f_Bd_store s47 r46 (s47 9 2); s48) (f_Mo_execute τ) := by
  have m1 : (f_Pr_nextByte s1).1 = (f_Mo_read τ (τ 0 10 + 1)).1 := (md1 h).1
  have m2 : R (qn q ((q 7 + 2) &&& 1023)) (f_Pr_nextByte s1).2 (sf (f_Mo_read τ (τ 0 10 + 1)).2 0 10 (((f_Mo_read τ (τ 0 10 + 1)).2 0 10 + 2) &&& 1023)) := (md1 h).2.1
  have m3 : bt2 0 (f_Mo_read τ (τ 0 10 + 1)).1 255 := (md1 h).2.2
  rw [ex_m1 (M := 423) (by rw [hg]; decide +kernel) (by decide) (by decide) (by decide) (by decide) (by decide) (by decide), r4_4 (by decide)]
  generalize f_Pr_nextByte s1 = n at m1 m2 ⊢
  generalize sf (f_Mo_read τ (τ 0 10 + 1)).2 0 10 (((f_Mo_read τ (τ 0 10 + 1)).2 0 10 + 2) &&& 1023) = T at m2 ⊢
  generalize (f_Mo_read τ (τ 0 10 + 1)).1 = x at m1 m3 ⊢
  exact ⟨_, bt_10 _, L_st m2 (by rw [m1]) m2.ra m2.rab⟩
theorem op_141 (h : R (upd q 6 ((q 7 + 1) &&& 1023)) s1 τ) (hg : τ 0 19 = 141) : PE q (let r55 := (f_Pr_nextAddress s1).1; let s56 := (f_Pr_nextAddress s1).2; let s57 := f_Bd_store s56 r55 (s56 9 2); s57) (f_Mo_execute τ) := by
  have m1 : (f_Pr_nextAddress s1).1 = (f_Mo_read τ (τ 0 10 + 1)).1 + (256 * (f_Mo_read (f_Mo_read τ (τ 0 10 + 1)).2 ((f_Mo_read τ (τ 0 10 + 1)).2 0 10 + 2)).1) := (md3 h).1
  have m2 : R (qn q ((q 7 + 3) &&& 1023)) (f_Pr_nextAddress s1).2 (sf (f_Mo_read (f_Mo_read τ (τ 0 10 + 1)).2 ((f_Mo_read τ (τ 0 10 + 1)).2 0 10 + 2)).2 0 10 (((f_Mo_read (f_Mo_read τ (τ 0 10 + 1)).2 ((f_Mo_read τ (τ 0 10 + 1)).2 0 10 + 2)).2 0 10 + 3) &&& 1023)) := (md3 h).2
  have kx : (f_Pr_nextAddress s1).2 9 3 = (f_Mo_read (f_Mo_read τ (τ 0 10 + 1)).2 ((f_Mo_read τ (τ 0 10 + 1)).2 0 10 + 2)).2 0 7 := m2.rx
  skip
  rw [ex_m3 (M := 434) (by rw [hg]; decide +kernel) (by decide) (by decide) (by decide) (by decide) (by decide) (by decide), r4_4 (by decide)]
  generalize sf (f_Mo_read (f_Mo_read τ (τ 0 10 + 1)).2 ((f_Mo_read τ (τ 0 10 + 1)).2 0 10 + 2)).2 0 10 (((f_Mo_read (f_Mo_read τ (τ 0 10 + 1)).2 ((f_Mo_read τ (τ 0 10 + 1)).2 0 10 + 2)).2 0 10 + 3) &&& 1023) = T at m2 ⊢
  generalize f_Pr_nextAddress s1 = n at m1 m2 kx ⊢
  exact ⟨_, bt_10 _, L_st m2 (by rw [m1]) m2.ra m2.rab⟩
theorem op_142 (h : R (upd q 6 ((q 7 + 1) &&& 1023)) s1 τ) (hg : τ 0 19 = 142) : PE q (let r58 := (f_Pr_nextAddress s1).1; let s59 := (f_Pr_nextAddress s1).2; let s60 := f_Bd_store s59 r58 (s59 9 3); s60) (f_Mo_execute τ) := by
  have m1 : (f_Pr_nextAddress s1).1 = (f_Mo_read τ (τ 0 10 + 1)).1 + (256 * (f_Mo_read (f_Mo_read τ (τ 0 10 + 1)).2 ((f_Mo_read τ (τ 0 10 + 1)).2 0 10 + 2)).1) := (md3 h).1
  have m2 : R (qn q ((q 7 + 3) &&& 1023)) (f_Pr_nextAddress s1).2 (sf (f_Mo_read (f_Mo_read τ (τ 0 10 + 1)).2 ((f_Mo_read τ (τ 0 10 + 1)).2 0 10 + 2)).2 0 10 (((f_Mo_read (f_Mo_read τ (τ 0 10 + 1)).2 ((f_Mo_read τ (τ 0 10 + 1)).2 0 10 + 2)).2 0 10 + 3) &&& 1023)) := (md3 h).2
  have kx : (f_Pr_nextAddress s1).2 9 3 = (f_Mo_read (f_Mo_read τ (τ 0 10 + 1)).2 ((f_Mo_read τ (τ 0 10 + 1)).2 0 10 + 2)).2 0 7 := m2.rx
  skip
  rw [ex_m3 (M := 534) (by rw [hg]; decide +kernel) (by decide) (by decide) (by decide) (by decide) (by decide) (by decide), r4_5 (by decide)]
  generalize sf (f_Mo_read (f_Mo_read τ (τ 0 10 + 1)).2 ((f_Mo_read τ (τ 0 10 + 1)).2 0 10 + 2)).2 0 10 (((f_Mo_read (f_Mo_read τ (τ 0 10 + 1)).2 ((f_Mo_read τ (τ 0 10 + 1)).2 0 10 + 2)).2 0 10 + 3) &&& 1023) = T at m2 ⊢
  generalize f_Pr_nextAddress s1 = n at m1 m2 kx ⊢
  exact ⟨_, bt_10 _, L_st m2 (by rw [m1]) m2.rx m2.rxb⟩
theorem op_157 (h : R (upd q 6 ((q 7 + 1) &&& 1023)) s1 τ) (hg : τ 0 19 = 157) : PE q (let r63 := (f_Pr_nextAddress s1).1; let s64 := (f_Pr_nextAddress s1).2; let s65 := f_Bd_store s64 (r63 + (s64 9 3)) (s64 9 2); s65) (f_Mo_execute τ) := by
  have m1 : (f_Pr_nextAddress s1).1 = (f_Mo_read τ (τ 0 10 + 1)).1 + (256 * (f_Mo_read (f_Mo_read τ (τ 0 10 + 1)).2 ((f_Mo_read τ (τ 0 10 + 1)).2 0 10 + 2)).1) := (md3 h).1
  have m2 : R (qn q ((q 7 + 3) &&& 1023)) (f_Pr_nextAddress s1).2 (sf (f_Mo_read (f_Mo_read τ (τ 0 10 + 1)).2 ((f_Mo_read τ (τ 0 10 + 1)).2 0 10 + 2)).2 0 10 (((f_Mo_read (f_Mo_read τ (τ 0 10 + 1)).2 ((f_Mo_read τ (τ 0 10 + 1)).2 0 10 + 2)).2 0 10 + 3) &&& 1023)) := (md3 h).2
  have kx : (f_Pr_nextAddress s1).2 9 3 = (f_Mo_read (f_Mo_read τ (τ 0 10 + 1)).2 ((f_Mo_read τ (τ 0 10 + 1)).2 0 10 + 2)).2 0 7 := m2.rx
  skip
  rw [ex_m4 (M := 445) (by rw [hg]; decide +kernel) (by decide) (by decide) (by decide) (by decide) (by decide) (by decide), r4_4 (by decide)]
  generalize sf (f_Mo_read (f_Mo_read τ (τ 0 10 + 1)).2 ((f_Mo_read τ (τ 0 10 + 1)).2 0 10 + 2)).2 0 10 (((f_Mo_read (f_Mo_read τ (τ 0 10 + 1)).2 ((f_Mo_read τ (τ 0 10 + 1)).2 0 10 + 2)).2 0 10 + 3) &&& 1023) = T at m2 ⊢
  generalize f_Pr_nextAddress s1 = n at m1 m2 kx ⊢
  exact ⟨_, bt_10 _, L_st m2 (by rw [m1, kx]) m2.ra m2.rab⟩
theorem op_198 (h : R (upd q 6 ((q 7 + 1) &&& 1023)) s1 τ) (hg : τ 0 19 = 198) : PE q (let r118 := (f_Pr_nextByte s1).1; let s119 := (f_Pr_nextByte s1).2; let s120 := f_Pr_change s119 r118 (-1); s120) (f_Mo_execute τ) := by
  have m1 : (f_Pr_nextByte s1).1 = (f_Mo_read τ (τ 0 10 + 1)).1 := (md1 h).1
  have m2 : R (qn q ((q 7 + 2) &&& 1023)) (f_Pr_nextByte s1).2 (sf (f_Mo_read τ (τ 0 10 + 1)).2 0 10 (((f_Mo_read τ (τ 0 10 + 1)).2 0 10 + 2) &&& 1023)) := (md1 h).2.1
  have m3 : bt2 0 (f_Mo_read τ (τ 0 10 + 1)).1 255 := (md1 h).2.2
  rw [ex_m1 (M := 1825) (by rw [hg]; decide +kernel) (by decide) (by decide) (by decide) (by decide) (by decide) (by decide), r4_18 (by decide)]
  generalize f_Pr_nextByte s1 = n at m1 m2 ⊢
  generalize sf (f_Mo_read τ (τ 0 10 + 1)).2 0 10 (((f_Mo_read τ (τ 0 10 + 1)).2 0 10 + 2) &&& 1023) = T at m2 ⊢
  generalize (f_Mo_read τ (τ 0 10 + 1)).1 = x at m1 m3 ⊢
  exact ⟨_, bt_10 _, L_incm m2 m1 m3⟩
theorem op_230 (h : R (upd q 6 ((q 7 + 1) &&& 1023)) s1 τ) (hg : τ 0 19 = 230) : PE q (let r135 := (f_Pr_nextByte s1).1; let s136 := (f_Pr_nextByte s1).2; let s137 := f_Pr_change s136 r135 1; s137) (f_Mo_execute τ) := by
  have m1 : (f_Pr_nextByte s1).1 = (f_Mo_read τ (τ 0 10 + 1)).1 := (md1 h).1
  have m2 : R (qn q ((q 7 + 2) &&& 1023)) (f_Pr_nextByte s1).2 (sf (f_Mo_read τ (τ 0 10 + 1)).2 0 10 (((f_Mo_read τ (τ 0 10 + 1)).2 0 10 + 2) &&& 1023)) := (md1 h).2.1
  have m3 : bt2 0 (f_Mo_read τ (τ 0 10 + 1)).1 255 := (md1 h).2.2
  rw [ex_m1 (M := 1725) (by rw [hg]; decide +kernel) (by decide) (by decide) (by decide) (by decide) (by decide) (by decide), r4_17 (by decide)]
  generalize f_Pr_nextByte s1 = n at m1 m2 ⊢
  generalize sf (f_Mo_read τ (τ 0 10 + 1)).2 0 10 (((f_Mo_read τ (τ 0 10 + 1)).2 0 10 + 2) &&& 1023) = T at m2 ⊢
  generalize (f_Mo_read τ (τ 0 10 + 1)).1 = x at m1 m3 ⊢
  exact ⟨_, bt_10 _, L_incm m2 m1 m3⟩
theorem op_24 (h : R (upd q 6 ((q 7 + 1) &&& 1023)) s1 τ) (hg : τ 0 19 = 24) : PE q (let s9 := sf s1 9 8 0; s9) (f_Mo_execute τ) := by
  have m0 := md0 h
  rw [ex_m0 (M := 2302) (by rw [hg]; decide +kernel) (by decide) (by decide) (by decide) (by decide) (by decide), r4_alt (p := 23) (by decide) (by decide) (by decide) (by decide) (by decide) (by decide) (by decide)]
  generalize sf τ 0 10 ((τ 0 10 + 1) &&& 1023) = T at m0 ⊢
  exact ⟨_, bt_10 _, u_c m0 rfl (Or.inl rfl)⟩
theorem op_56 (h : R (upd q 6 ((q 7 + 1) &&& 1023)) s1 τ) (hg : τ 0 19 = 56) : PE q (let s19 := sf s1 9 8 1; s19) (f_Mo_execute τ) := by
  have m0 := md0 h
  rw [ex_m0 (M := 2402) (by rw [hg]; decide +kernel) (by decide) (by decide) (by decide) (by decide) (by decide), r4_alt (p := 24) (by decide) (by decide) (by decide) (by decide) (by decide) (by decide) (by decide)]
  generalize sf τ 0 10 ((τ 0 10 + 1) &&& 1023) = T at m0 ⊢
  exact ⟨_, bt_10 _, u_c m0 rfl (Or.inr rfl)⟩
theorem op_72 (h : R (upd q 6 ((q 7 + 1) &&& 1023)) s1 τ) (hg : τ 0 19 = 72) : PE q (let s21 := f_Pr_push s1 (s1 9 2); s21) (f_Mo_execute τ) := by
  have m0 := md0 h
  rw [ex_m0 (M := 2103) (by rw [hg]; decide +kernel) (by decide) (by decide) (by decide) (by decide) (by decide), r4_alt (p := 21) (by decide) (by decide) (by decide) (by decide) (by decide) (by decide) (by decide)]
  generalize sf τ 0 10 ((τ 0 10 + 1) &&& 1023) = T at m0 ⊢
  exact ⟨_, bt_10 _, L_push m0 m0.ra m0.rab⟩
theorem op_104 (h : R (upd q 6 ((q 7 + 1) &&& 1023)) s1 τ) (hg : τ 0 19 = 104) : PE q (let r38 := (f_Pr_pull s1).1; let s39 := (f_Pr_pull s1).2; let r40 := (f_Pr_result s39 r38).1; let s41 := (f_Pr_result s39 r38).2; let s42 := sf s41 9 2 r40; s42) (f_Mo_execute τ) := by
  have m0 := md0 h
  rw [ex_m0 (M := 2204) (by rw [hg]; decide +kernel) (by decide) (by decide) (by decide) (by decide) (by decide), r4_alt (p := 22) (by decide) (by decide) (by decide) (by decide) (by decide) (by decide) (by decide)]
  generalize sf τ 0 10 ((τ 0 10 + 1) &&& 1023) = T at m0 ⊢
  have p := L_pull m0
  have r := L_res p.2.1 p.1
  exact ⟨_, bt_10 _, u_a r.2.1 r.1 r.2.2⟩
theorem op_136 (h : R (upd q 6 ((q 7 + 1) &&& 1023)) s1 τ) (hg : τ 0 19 = 136) : PE q (let r49 := (f_Pr_result s1 ((s1 9 4) - 1)).1; let s50 := (f_Pr_result s1 ((s1 9 4) - 1)).2; let s51 := sf s50 9 4 r49; s51) (f_Mo_execute τ) := by
  have m0 := md0 h
  rw [ex_m0 (M := 1602) (by rw [hg]; decide +kernel) (by decide) (by decide) (by decide) (by decide) (by decide), r4_alt (p := 16) (by decide) (by decide) (by decide) (by decide) (by decide) (by decide) (by decide)]
  generalize sf τ 0 10 ((τ 0 10 + 1) &&& 1023) = T at m0 ⊢
  have r := L_res m0 (x := s1 9 4 - 1) (y := T 0 8 - 1) (by rw [m0.ry])
  exact ⟨_, bt_10 _, u_y r.2.1 r.1 r.2.2⟩
theorem op_200 (h : R (upd q 6 ((q 7 + 1) &&& 1023)) s1 τ) (hg : τ 0 19 = 200) : PE q (let r121 := (f_Pr_result s1 ((s1 9 4) + 1)).1; let s122 := (f_Pr_result s1 ((s1 9 4) + 1)).2; let s123 := sf s122 9 4 r121; s123) (f_Mo_execute τ) := by
  have m0 := md0 h
  rw [ex_m0 (M := 1502) (by rw [hg]; decide +kernel) (by decide) (by decide) (by decide) (by decide) (by decide), r4_alt (p := 15) (by decide) (by decide) (by decide) (by decide) (by decide) (by decide) (by decide)]
  generalize sf τ 0 10 ((τ 0 10 + 1) &&& 1023) = T at m0 ⊢
  have r := L_res m0 (x := s1 9 4 + 1) (y := T 0 8 + 1) (by rw [m0.ry])
  exact ⟨_, bt_10 _, u_y r.2.1 r.1 r.2.2⟩
theorem op_202 (h : R (upd q 6 ((q 7 + 1) &&& 1023)) s1 τ) (hg : τ 0 19 = 202) : PE q (let r127 := (f_Pr_result s1 ((s1 9 3) - 1)).1; let s128 := (f_Pr_result s1 ((s1 9 3) - 1)).2; let s129 := sf s128 9 3 r127; s129) (f_Mo_execute τ) := by
  have m0 := md0 h
  rw [ex_m0 (M := 1402) (by rw [hg]; decide +kernel) (by decide) (by decide) (by decide) (by decide) (by decide), r4_alt (p := 14) (by decide) (by decide) (by decide) (by decide) (by decide) (by decide) (by decide)]
  generalize sf τ 0 10 ((τ 0 10 + 1) &&& 1023) = T at m0 ⊢
  have r := L_res m0 (x := s1 9 3 - 1) (y := T 0 7 - 1) (by rw [m0.rx])
  exact ⟨_, bt_10 _, u_x r.2.1 r.1 r.2.2⟩
theorem op_232 (h : R (upd q 6 ((q 7 + 1) &&& 1023)) s1 τ) (hg : τ 0 19 = 232) : PE q (let r138 := (f_Pr_result s1 ((s1 9 3) + 1)).1; let s139 := (f_Pr_result s1 ((s1 9 3) + 1)).2; let s140 := sf s139 9 3 r138; s140) (f_Mo_execute τ) := by
  have m0 := md0 h
  rw [ex_m0 (M := 1302) (by rw [hg]; decide +kernel) (by decide) (by decide) (by decide) (by decide) (by decide), r4_alt (p := 13) (by decide) (by decide) (by decide) (by decide) (by decide) (by decide) (by decide)]
  generalize sf τ 0 10 ((τ 0 10 + 1) &&& 1023) = T at m0 ⊢
  have r := L_res m0 (x := s1 9 3 + 1) (y := T 0 7 + 1) (by rw [m0.rx])
  exact ⟨_, bt_10 _, u_x r.2.1 r.1 r.2.2⟩
theorem op_138 (h : R (upd q 6 ((q 7 + 1) &&& 1023)) s1 τ) (hg : τ 0 19 = 138) : PE q (let r52 := (f_Pr_result s1 (s1 9 3)).1; let s53 := (f_Pr_result s1 (s1 9 3)).2; let s54 := sf s53 9 2 r52; s54) (f_Mo_execute τ) := by
  have m0 := md0 h
  rw [ex_m0 (M := 2002) (by rw [hg]; decide +kernel) (by decide) (by decide) (by decide) (by decide) (by decide), r4_alt (p := 20) (by decide) (by decide) (by decide) (by decide) (by decide) (by decide) (by decide)]
  generalize sf τ 0 10 ((τ 0 10 + 1) &&& 1023) = T at m0 ⊢
  have r := L_res m0 (x := s1 9 3) (y := T 0 7) (by rw [m0.rx])
  exact ⟨_, bt_10 _, u_a r.2.1 r.1 r.2.2⟩
theorem op_170 (h : R (upd q 6 ((q 7 + 1) &&& 1023)) s1 τ) (hg : τ 0 19 = 170) : PE q (let r95 := (f_Pr_result s1 (s1 9 2)).1; let s96 := (f_Pr_result s1 (s1 9 2)).2; let s97 := sf s96 9 3 r95; s97) (f_Mo_execute τ) := by
  have m0 := md0 h
  rw [ex_m0 (M := 1902) (by rw [hg]; decide +kernel) (by decide) (by decide) (by decide) (by decide) (by decide), r4_alt (p := 19) (by decide) (by decide) (by decide) (by decide) (by decide) (by decide) (by decide)]
  generalize sf τ 0 10 ((τ 0 10 + 1) &&& 1023) = T at m0 ⊢
  have r := L_res m0 (x := s1 9 2) (y := T 0 6) (by rw [m0.ra])
  exact ⟨_, bt_10 _, u_x r.2.1 r.1 r.2.2⟩
theorem op_234 (h : R (upd q 6 ((q 7 + 1) &&& 1023)) s1 τ) (hg : τ 0 19 = 234) : PE q (s1) (f_Mo_execute τ) := by
  have m0 := md0 h
  rw [ex_m0 (M := 3002) (by rw [hg]; decide +kernel) (by decide) (by decide) (by decide) (by decide) (by decide), r4_go (p := 30) (by decide) (by decide)]
  generalize sf τ 0 10 ((τ 0 10 + 1) &&& 1023) = T at m0 ⊢
  exact ⟨_, bt_10 _, m0⟩
theorem op_64 (h : R (upd q 6 ((q 7 + 1) &&& 1023)) s1 τ) (hg : τ 0 19 = 64) : PE q (let s20 := f_Pr_returnFromNmi s1; s20) (f_Mo_execute τ) := by
  have m0 := md0 h
  rw [ex_m0 (M := 2906) (by rw [hg]; decide +kernel) (by decide) (by decide) (by decide) (by decide) (by decide), r4_go (p := 29) (by decide) (by decide)]
  generalize sf τ 0 10 ((τ 0 10 + 1) &&& 1023) = T at m0 ⊢
  obtain ⟨v, b, r⟩ := L_rti (τ 0 10) 0 m0
  exact PE.of b r
theorem op_96 (h : R (upd q 6 ((q 7 + 1) &&& 1023)) s1 τ) (hg : τ 0 19 = 96) : PE q (let r30 := (f_Pr_pullPlace s1).1; let s31 := (f_Pr_pullPlace s1).2; let s32 := sf s31 9 1 ((r30 + 1) &&& 1023); s32) (f_Mo_execute τ) := by
  have m0 := md0 h
  rw [ex_m0 (M := 2806) (by rw [hg]; decide +kernel) (by decide) (by decide) (by decide) (by decide) (by decide), r4_go (p := 28) (by decide) (by decide)]
  generalize sf τ 0 10 ((τ 0 10 + 1) &&& 1023) = T at m0 ⊢
  obtain ⟨v, b, r⟩ := L_cb (d := 1) m0 rfl
  exact PE.of b r
theorem op_76 (h : R (upd q 6 ((q 7 + 1) &&& 1023)) s1 τ) (hg : τ 0 19 = 76) : PE q (let r27 := (f_Pr_nextAddress s1).1; let s28 := (f_Pr_nextAddress s1).2; let s29 := sf s28 9 1 (r27 &&& 1023); s29) (f_Mo_execute τ) := by
  have m1 : (f_Pr_nextAddress s1).1 = (f_Mo_read τ (τ 0 10 + 1)).1 + (256 * (f_Mo_read (f_Mo_read τ (τ 0 10 + 1)).2 ((f_Mo_read τ (τ 0 10 + 1)).2 0 10 + 2)).1) := (md3 h).1
  have m2 : R (qn q ((q 7 + 3) &&& 1023)) (f_Pr_nextAddress s1).2 (sf (f_Mo_read (f_Mo_read τ (τ 0 10 + 1)).2 ((f_Mo_read τ (τ 0 10 + 1)).2 0 10 + 2)).2 0 10 (((f_Mo_read (f_Mo_read τ (τ 0 10 + 1)).2 ((f_Mo_read τ (τ 0 10 + 1)).2 0 10 + 2)).2 0 10 + 3) &&& 1023)) := (md3 h).2
  have kx : (f_Pr_nextAddress s1).2 9 3 = (f_Mo_read (f_Mo_read τ (τ 0 10 + 1)).2 ((f_Mo_read τ (τ 0 10 + 1)).2 0 10 + 2)).2 0 7 := m2.rx
  skip
  rw [ex_m3 (M := 2633) (by rw [hg]; decide +kernel) (by decide) (by decide) (by decide) (by decide) (by decide) (by decide), r4_go (p := 26) (by decide) (by decide)]
  generalize sf (f_Mo_read (f_Mo_read τ (τ 0 10 + 1)).2 ((f_Mo_read τ (τ 0 10 + 1)).2 0 10 + 2)).2 0 10 (((f_Mo_read (f_Mo_read τ (τ 0 10 + 1)).2 ((f_Mo_read τ (τ 0 10 + 1)).2 0 10 + 2)).2 0 10 + 3) &&& 1023) = T at m2 ⊢
  generalize f_Pr_nextAddress s1 = n at m1 m2 kx ⊢
  rw [m1]
  exact PE.of (bt_10 _) (u_q7 (u_q6 m2))
theorem op_32 (h : R (upd q 6 ((q 7 + 1) &&& 1023)) s1 τ) (hg : τ 0 19 = 32) : PE q (let r10 := (f_Pr_nextAddress s1).1; let s11 := (f_Pr_nextAddress s1).2; let s12 := f_Pr_callPart s11 r10; s12) (f_Mo_execute τ) := by
  have m1 : (f_Pr_nextAddress s1).1 = (f_Mo_read τ (τ 0 10 + 1)).1 + (256 * (f_Mo_read (f_Mo_read τ (τ 0 10 + 1)).2 ((f_Mo_read τ (τ 0 10 + 1)).2 0 10 + 2)).1) := (md3 h).1
  have m2 : R (qn q ((q 7 + 3) &&& 1023)) (f_Pr_nextAddress s1).2 (sf (f_Mo_read (f_Mo_read τ (τ 0 10 + 1)).2 ((f_Mo_read τ (τ 0 10 + 1)).2 0 10 + 2)).2 0 10 (((f_Mo_read (f_Mo_read τ (τ 0 10 + 1)).2 ((f_Mo_read τ (τ 0 10 + 1)).2 0 10 + 2)).2 0 10 + 3) &&& 1023)) := (md3 h).2
  have kx : (f_Pr_nextAddress s1).2 9 3 = (f_Mo_read (f_Mo_read τ (τ 0 10 + 1)).2 ((f_Mo_read τ (τ 0 10 + 1)).2 0 10 + 2)).2 0 7 := m2.rx
  have kp : (f_Mo_read (f_Mo_read τ (τ 0 10 + 1)).2 ((f_Mo_read τ (τ 0 10 + 1)).2 0 10 + 2)).2 0 10 = q 7 := (md1p h)
  rw [ex_m3 (M := 2736) (by rw [hg]; decide +kernel) (by decide) (by decide) (by decide) (by decide) (by decide) (by decide), r4_go (p := 27) (by decide) (by decide)]
  obtain ⟨v, b, r⟩ := L_jsr (a := (f_Mo_read (f_Mo_read τ (τ 0 10 + 1)).2 ((f_Mo_read τ (τ 0 10 + 1)).2 0 10 + 2)).2 0 10) m2 m1 (by rw [kp]; exact pc_32 _)
  exact PE.of b r
theorem op_16 (h : R (upd q 6 ((q 7 + 1) &&& 1023)) s1 τ) (hg : τ 0 19 = 16) : PE q (let v7 := (f_Pr_perform_r986 s1); let s8 := f_Pr_branchIf s1 v7; s8) (f_Mo_execute τ) := by
  have m2 : R (qn q ((q 7 + 2) &&& 1023)) (f_Pr_nextByte s1).2 (sf (f_Mo_read τ (τ 0 10 + 1)).2 0 10 (((f_Mo_read τ (τ 0 10 + 1)).2 0 10 + 2) &&& 1023)) := (md1 h).2.1
  have kf : s1 9 6 = (sf (f_Mo_read τ (τ 0 10 + 1)).2 0 10 (((f_Mo_read τ (τ 0 10 + 1)).2 0 10 + 2) &&& 1023)) 0 11 := (nb_9 s1 (k := 6) (by decide)).symm.trans m2.rn
  have k19 : (sf (f_Mo_read τ (τ 0 10 + 1)).2 0 10 (((f_Mo_read τ (τ 0 10 + 1)).2 0 10 + 2) &&& 1023)) 0 19 = 16 := by rw [m2.q5, ← hg]; exact h.q5.symm
  rw [ex_m1 (M := 2512) (by rw [hg]; decide +kernel) (by decide) (by decide) (by decide) (by decide) (by decide) (by decide), r4_go (p := 25) (by decide) (by decide)]
  refine L_bra (f' := (if (sf (f_Mo_read τ (τ 0 10 + 1)).2 0 10 (((f_Mo_read τ (τ 0 10 + 1)).2 0 10 + 2) &&& 1023)) 0 11 = 0 then (1 : Int32) else 0)) h ?_ ?_ _
  · show (if s1 9 6 = 0 then (1 : Int32) else 0) = _
    rw [kf]
  · unfold f_Mo_isTaken
    rw [k19]
    rfl
theorem op_48 (h : R (upd q 6 ((q 7 + 1) &&& 1023)) s1 τ) (hg : τ 0 19 = 48) : PE q (let s18 := f_Pr_branchIf s1 (s1 9 6); s18) (f_Mo_execute τ) := by
  have m2 : R (qn q ((q 7 + 2) &&& 1023)) (f_Pr_nextByte s1).2 (sf (f_Mo_read τ (τ 0 10 + 1)).2 0 10 (((f_Mo_read τ (τ 0 10 + 1)).2 0 10 + 2) &&& 1023)) := (md1 h).2.1
  have kf : s1 9 6 = (sf (f_Mo_read τ (τ 0 10 + 1)).2 0 10 (((f_Mo_read τ (τ 0 10 + 1)).2 0 10 + 2) &&& 1023)) 0 11 := (nb_9 s1 (k := 6) (by decide)).symm.trans m2.rn
  have k19 : (sf (f_Mo_read τ (τ 0 10 + 1)).2 0 10 (((f_Mo_read τ (τ 0 10 + 1)).2 0 10 + 2) &&& 1023)) 0 19 = 48 := by rw [m2.q5, ← hg]; exact h.q5.symm
  rw [ex_m1 (M := 2512) (by rw [hg]; decide +kernel) (by decide) (by decide) (by decide) (by decide) (by decide) (by decide), r4_go (p := 25) (by decide) (by decide)]
  refine L_bra (f' := (sf (f_Mo_read τ (τ 0 10 + 1)).2 0 10 (((f_Mo_read τ (τ 0 10 + 1)).2 0 10 + 2) &&& 1023)) 0 11) h ?_ ?_ _
  · exact kf
  · unfold f_Mo_isTaken
    rw [k19]
    rfl
theorem op_144 (h : R (upd q 6 ((q 7 + 1) &&& 1023)) s1 τ) (hg : τ 0 19 = 144) : PE q (let v61 := (f_Pr_perform_r945 s1); let s62 := f_Pr_branchIf s1 v61; s62) (f_Mo_execute τ) := by
  have m2 : R (qn q ((q 7 + 2) &&& 1023)) (f_Pr_nextByte s1).2 (sf (f_Mo_read τ (τ 0 10 + 1)).2 0 10 (((f_Mo_read τ (τ 0 10 + 1)).2 0 10 + 2) &&& 1023)) := (md1 h).2.1
  have kf : s1 9 8 = (sf (f_Mo_read τ (τ 0 10 + 1)).2 0 10 (((f_Mo_read τ (τ 0 10 + 1)).2 0 10 + 2) &&& 1023)) 0 13 := (nb_9 s1 (k := 8) (by decide)).symm.trans m2.rc
  have k19 : (sf (f_Mo_read τ (τ 0 10 + 1)).2 0 10 (((f_Mo_read τ (τ 0 10 + 1)).2 0 10 + 2) &&& 1023)) 0 19 = 144 := by rw [m2.q5, ← hg]; exact h.q5.symm
  rw [ex_m1 (M := 2512) (by rw [hg]; decide +kernel) (by decide) (by decide) (by decide) (by decide) (by decide) (by decide), r4_go (p := 25) (by decide) (by decide)]
  refine L_bra (f' := (if (sf (f_Mo_read τ (τ 0 10 + 1)).2 0 10 (((f_Mo_read τ (τ 0 10 + 1)).2 0 10 + 2) &&& 1023)) 0 13 = 0 then (1 : Int32) else 0)) h ?_ ?_ _
  · show (if s1 9 8 = 0 then (1 : Int32) else 0) = _
    rw [kf]
  · unfold f_Mo_isTaken
    rw [k19]
    rfl
theorem op_176 (h : R (upd q 6 ((q 7 + 1) &&& 1023)) s1 τ) (hg : τ 0 19 = 176) : PE q (let s105 := f_Pr_branchIf s1 (s1 9 8); s105) (f_Mo_execute τ) := by
  have m2 : R (qn q ((q 7 + 2) &&& 1023)) (f_Pr_nextByte s1).2 (sf (f_Mo_read τ (τ 0 10 + 1)).2 0 10 (((f_Mo_read τ (τ 0 10 + 1)).2 0 10 + 2) &&& 1023)) := (md1 h).2.1
  have kf : s1 9 8 = (sf (f_Mo_read τ (τ 0 10 + 1)).2 0 10 (((f_Mo_read τ (τ 0 10 + 1)).2 0 10 + 2) &&& 1023)) 0 13 := (nb_9 s1 (k := 8) (by decide)).symm.trans m2.rc
  have k19 : (sf (f_Mo_read τ (τ 0 10 + 1)).2 0 10 (((f_Mo_read τ (τ 0 10 + 1)).2 0 10 + 2) &&& 1023)) 0 19 = 176 := by rw [m2.q5, ← hg]; exact h.q5.symm
  rw [ex_m1 (M := 2512) (by rw [hg]; decide +kernel) (by decide) (by decide) (by decide) (by decide) (by decide) (by decide), r4_go (p := 25) (by decide) (by decide)]
  refine L_bra (f' := (sf (f_Mo_read τ (τ 0 10 + 1)).2 0 10 (((f_Mo_read τ (τ 0 10 + 1)).2 0 10 + 2) &&& 1023)) 0 13) h ?_ ?_ _
  · exact kf
  · unfold f_Mo_isTaken
    rw [k19]
    rfl
theorem op_208 (h : R (upd q 6 ((q 7 + 1) &&& 1023)) s1 τ) (hg : τ 0 19 = 208) : PE q (let v130 := (f_Pr_perform_r915 s1); let s131 := f_Pr_branchIf s1 v130; s131) (f_Mo_execute τ) := by
  have m2 : R (qn q ((q 7 + 2) &&& 1023)) (f_Pr_nextByte s1).2 (sf (f_Mo_read τ (τ 0 10 + 1)).2 0 10 (((f_Mo_read τ (τ 0 10 + 1)).2 0 10 + 2) &&& 1023)) := (md1 h).2.1
  have kf : s1 9 7 = (sf (f_Mo_read τ (τ 0 10 + 1)).2 0 10 (((f_Mo_read τ (τ 0 10 + 1)).2 0 10 + 2) &&& 1023)) 0 12 := (nb_9 s1 (k := 7) (by decide)).symm.trans m2.rz
  have k19 : (sf (f_Mo_read τ (τ 0 10 + 1)).2 0 10 (((f_Mo_read τ (τ 0 10 + 1)).2 0 10 + 2) &&& 1023)) 0 19 = 208 := by rw [m2.q5, ← hg]; exact h.q5.symm
  rw [ex_m1 (M := 2512) (by rw [hg]; decide +kernel) (by decide) (by decide) (by decide) (by decide) (by decide) (by decide), r4_go (p := 25) (by decide) (by decide)]
  refine L_bra (f' := (if (sf (f_Mo_read τ (τ 0 10 + 1)).2 0 10 (((f_Mo_read τ (τ 0 10 + 1)).2 0 10 + 2) &&& 1023)) 0 12 = 0 then (1 : Int32) else 0)) h ?_ ?_ _
  · show (if s1 9 7 = 0 then (1 : Int32) else 0) = _
    rw [kf]
  · unfold f_Mo_isTaken
    rw [k19]
    rfl
theorem op_240 (h : R (upd q 6 ((q 7 + 1) &&& 1023)) s1 τ) (hg : τ 0 19 = 240) : PE q (let s144 := f_Pr_branchIf s1 (s1 9 7); s144) (f_Mo_execute τ) := by
  have m2 : R (qn q ((q 7 + 2) &&& 1023)) (f_Pr_nextByte s1).2 (sf (f_Mo_read τ (τ 0 10 + 1)).2 0 10 (((f_Mo_read τ (τ 0 10 + 1)).2 0 10 + 2) &&& 1023)) := (md1 h).2.1
  have kf : s1 9 7 = (sf (f_Mo_read τ (τ 0 10 + 1)).2 0 10 (((f_Mo_read τ (τ 0 10 + 1)).2 0 10 + 2) &&& 1023)) 0 12 := (nb_9 s1 (k := 7) (by decide)).symm.trans m2.rz
  have k19 : (sf (f_Mo_read τ (τ 0 10 + 1)).2 0 10 (((f_Mo_read τ (τ 0 10 + 1)).2 0 10 + 2) &&& 1023)) 0 19 = 240 := by rw [m2.q5, ← hg]; exact h.q5.symm
  rw [ex_m1 (M := 2512) (by rw [hg]; decide +kernel) (by decide) (by decide) (by decide) (by decide) (by decide) (by decide), r4_go (p := 25) (by decide) (by decide)]
  refine L_bra (f' := (sf (f_Mo_read τ (τ 0 10 + 1)).2 0 10 (((f_Mo_read τ (τ 0 10 + 1)).2 0 10 + 2) &&& 1023)) 0 12) h ?_ ?_ _
  · exact kf
  · unfold f_Mo_isTaken
    rw [k19]
    rfl
theorem op_jam (h : R (upd q 6 ((q 7 + 1) &&& 1023)) s1 τ) (b : bt2 0 (q 7) 1023) (hM : f_Mo_meaning (τ 0 19) = 2) : PE q (f_Pr_jam s1) (f_Mo_execute τ) := by
  rw [ex_jam hM (by decide)]
  have e1 : s1 9 1 = (q 7 + 1) &&& 1023 := h.q6
  show PE q (sf (sf s1 9 9 1) 9 1 ((s1 9 1 - 1) &&& 1023)) (sf τ 0 14 1)
  rw [e1, pc_10 b]
  refine ⟨q 7, b, (u_q6 (u_j h rfl)).cq ?_⟩
  rw [upd_6]
  funext j
  unfold upd
  by_cases h7 : j = 7
  · rw [if_pos h7, h7]
    rfl
  · rw [if_neg h7]
end OPS
