/-! ===== memory, registers: loads and stores ===== -/
theorem L_at {q : Nat → Int32} {σ τ : Sg} (h : R q σ τ) (x : Int32) : f_Me_at σ x = f_Mo_fetch τ x := by
  show (if 768 ≤ (x &&& 1023) then (255 : Int32) else σ 10 (x &&& 1023).toNatClampNeg) = (if 768 ≤ (x &&& 1023) then 255 else τ 1 (x &&& 1023).toNatClampNeg)
  rw [h.m10]
theorem fetch_b {q : Nat → Int32} {σ τ : Sg} (h : R q σ τ) (x : Int32) : bt2 0 (f_Mo_fetch τ x) 255 := by
  show bt2 0 (if 768 ≤ (x &&& 1023) then 255 else τ 1 (x &&& 1023).toNatClampNeg) 255
  split
  · exact ⟨by decide, by decide⟩
  · exact h.m10b _
theorem at_in {σ : Sg} {x : Int32} (h1 : x &&& 1023 = x) (h2 : ¬ 768 ≤ x) : f_Me_at σ x = σ 10 x.toNatClampNeg := by
  show (if 768 ≤ (x &&& 1023) then (255 : Int32) else σ 10 (x &&& 1023).toNatClampNeg) = _
  rw [h1, if_neg h2]
theorem put_in {σ : Sg} {x v : Int32} (h1 : x &&& 1023 = x) (h2 : ¬ 768 ≤ x) : f_Me_put σ x v = sf σ 10 x.toNatClampNeg v := by
  show (if 768 ≤ (x &&& 1023) then σ else sf σ 10 (x &&& 1023).toNatClampNeg v) = _
  rw [h1, if_neg h2]
theorem L_push {q : Nat → Int32} {σ τ : Sg} {v w : Int32} (h : R q σ τ) (e : v = w) (b : bt2 0 w 255) : R q (f_Pr_push σ v) (f_Mo_push τ w) := by
  have hs : bt2 0 (σ 9 5) 255 := by rw [h.rs]; exact h.rsb
  have e1 : f_Me_put σ (256 + σ 9 5) v = sf σ 10 (256 + σ 9 5).toNatClampNeg v := put_in (stk_m hs) (stk_l hs)
  show R q (sf (f_Me_put σ (256 + σ 9 5) v) 9 5 ((((f_Me_put σ (256 + σ 9 5) v)) 9 5 - 1) &&& 255)) (sf (sf τ 1 (256 + τ 0 9).toNatClampNeg w) 0 9 ((τ 0 9 - 1) &&& 255))
  rw [e1]
  exact u_s (u_mem h (by rw [h.rs]) e b) (by show ((σ 9 5 - 1) &&& 255) = _; rw [h.rs]) (bt_8 _)
/-- a pair: the answers alike, a byte, the states related -/
def LdR (q : Nat → Int32) (a b : Int32 × Sg) : Prop := a.1 = b.1 ∧ R q a.2 b.2 ∧ bt2 0 b.1 255
theorem L_pull {q : Nat → Int32} {σ τ : Sg} (h : R q σ τ) : LdR q (f_Pr_pull σ) (f_Mo_pull τ) := by
  have h1 : R q (sf σ 9 5 ((σ 9 5 + 1) &&& 255)) (sf τ 0 9 ((τ 0 9 + 1) &&& 255)) := u_s h (by rw [h.rs]) (bt_8 _)
  refine ⟨?_, h1, h1.m10b _⟩
  show f_Me_at (sf σ 9 5 ((σ 9 5 + 1) &&& 255)) (256 + ((σ 9 5 + 1) &&& 255)) = τ 1 (256 + ((τ 0 9 + 1) &&& 255)).toNatClampNeg
  rw [at_in (stk_m (bt_8 _)) (stk_l (bt_8 _)), h.rs]
  show σ 10 _ = _
  rw [h.m10]
theorem LdR_if {q : Nat → Int32} {c : Prop} [Decidable c] {a b a' b' : Int32 × Sg} (h1 : c → LdR q a b) (h2 : ¬ c → LdR q a' b') : LdR q (if c then a else a') (if c then b else b') := by
  by_cases h : c
  · rw [if_pos h, if_pos h]
    exact h1 h
  · rw [if_neg h, if_neg h]
    exact h2 h
section LIF
variable {q : Nat → Int32} {c : Prop} {a a' b b' : Int32 × Sg}
theorem Lr_pos [Decidable c] (hc : c) (k : LdR q a b) : LdR q a (if c then b else b') := by rw [if_pos hc]; exact k
theorem Lr_neg [Decidable c] (hc : ¬ c) (k : LdR q a b') : LdR q a (if c then b else b') := by rw [if_neg hc]; exact k
theorem Ll_pos [Decidable c] (hc : c) (k : LdR q a b) : LdR q (if c then a else a') b := by rw [if_pos hc]; exact k
theorem Ll_neg [Decidable c] (hc : ¬ c) (k : LdR q a' b) : LdR q (if c then a else a') b := by rw [if_neg hc]; exact k
end LIF
theorem z_of {z : Int32} {k : Nat} (h : z - 768 = nI k) : z = nI (768 + k) := by
  rw [← nI_add, ← h]
  show z = 768 + (z - 768)
  grind
theorem z_lt {z : Int32} {k : Nat} (h : z - 768 = nI k) (hk : k < 32) : 768 ≤ z ∧ ¬ 800 ≤ z ∧ z - 768 < 32 := by
  have e := z_of h
  refine ⟨by rw [e]; exact nI_le (a := 768) (by omega) (by omega), by rw [e]; exact nI_ge (b := 800) (by omega) (by omega), by rw [h]; exact nI_lt (b := 32) hk (by omega)⟩
theorem L_rr {q : Nat → Int32} {σ τ : Sg} (h : R q σ τ) (x : Int32) {z : Int32} (hz : x &&& 1023 = z) : LdR q (f_Bd_load_r28 σ x) (if 800 ≤ z then (255, τ) else f_Mo_readRegister τ (z - 768)) := by
  unfold f_Bd_load_r28
  rw [hz]
  by_cases c0 : z - 768 = 0
  · refine Ll_pos c0 (Lr_neg (z_lt (k := 0) c0 (by omega)).2.1 (Lr_pos c0 ⟨h.k1, h, ⟨h.kl.1, Int.le_trans h.kl.2 (by decide)⟩⟩))
  refine Ll_neg c0 ?_
  by_cases c1 : z - 768 = 1
  · exact Ll_pos c1 (Lr_neg (z_lt (k := 1) c1 (by omega)).2.1 (Lr_neg c0 (Lr_pos c1 ⟨h.d5, h, h.d5b⟩)))
  refine Ll_neg c1 ?_
  by_cases c2 : z - 768 = 2
  · refine Ll_pos c2 (Lr_neg (z_lt (k := 2) c2 (by omega)).2.1 (Lr_neg c0 (Lr_neg c1 (Lr_pos c2 ⟨?_, h, h.p15b _⟩))))
    show σ 15 _ = τ 5 (z - 768 - 2).toNatClampNeg
    rw [c2, h.p15]
    rfl
  refine Ll_neg c2 ?_
  by_cases c3 : z - 768 = 3
  · refine Ll_pos c3 (Lr_neg (z_lt (k := 3) c3 (by omega)).2.1 (Lr_neg c0 (Lr_neg c1 (Lr_neg c2 (Lr_pos c3 ⟨?_, h, h.p15b _⟩)))))
    show σ 15 _ = τ 5 (z - 768 - 2).toNatClampNeg
    rw [c3, h.p15]
    rfl
  refine Ll_neg c3 ?_
  by_cases c4 : z - 768 = 4
  · refine Ll_pos c4 (Lr_neg (z_lt (k := 4) c4 (by omega)).2.1 (Lr_neg c0 (Lr_neg c1 (Lr_neg c2 (Lr_neg c3 (Lr_pos c4 ⟨?_, h, bt_bo h.p4b⟩))))))
    show (if σ 7 4 = 0 then (0 : Int32) else 1) = τ 0 35
    rw [h.p4]
    rcases h.p4b with e | e <;> rw [e] <;> rfl
  refine Ll_neg c4 ?_
  by_cases c5 : z - 768 = 5
  · refine Ll_pos c5 (Lr_neg (z_lt (k := 5) c5 (by omega)).2.1 (Lr_neg c0 (Lr_neg c1 (Lr_neg c2 (Lr_neg c3 (Lr_neg c4 (Lr_pos c5 ⟨?_, h, bt_8 _⟩)))))))
    show (σ 5 1 &&& 255) = (τ 0 37 &&& 255)
    rw [h.c1]
  refine Ll_neg c5 ?_
  by_cases c6 : z - 768 = 6
  · exact Ll_pos c6 (Lr_neg (z_lt (k := 6) c6 (by omega)).2.1 (Lr_neg c0 (Lr_neg c1 (Lr_neg c2 (Lr_neg c3 (Lr_neg c4 (Lr_neg c5 (Lr_pos c6 ⟨h.c3, u_sg h rfl (Or.inl rfl), bt_bo h.cb⟩))))))))
  refine Ll_neg c6 ?_
  by_cases c7 : z - 768 = 7
  · refine Ll_pos c7 (Lr_neg (z_lt (k := 7) c7 (by omega)).2.1 (Lr_neg c0 (Lr_neg c1 (Lr_neg c2 (Lr_neg c3 (Lr_neg c4 (Lr_neg c5 (Lr_neg c6 (Lr_pos c7 ⟨?_, u_came h rfl, ?_⟩)))))))))
    · show (if σ 8 8 = 0 then (0 : Int32) else σ 8 9) = (if τ 0 47 = 0 then 0 else τ 0 48)
      rw [h.v8, h.v9]
    · show bt2 0 (if τ 0 47 = 0 then 0 else τ 0 48) 255
      split
      · exact ⟨by decide, by decide⟩
      · exact h.v9b
  refine Ll_neg c7 ?_
  have rest : ∀ v : Int32, v = f_Mo_readRegister_r112 τ (z - 768) → bt2 0 v 255 → ¬ 800 ≤ z → LdR q (v, σ) (if 800 ≤ z then (255, τ) else f_Mo_readRegister τ (z - 768)) := fun v e b hz8 => Lr_neg hz8 (Lr_neg c0 (Lr_neg c1 (Lr_neg c2 (Lr_neg c3 (Lr_neg c4 (Lr_neg c5 (Lr_neg c6 (Lr_neg c7 ⟨e, h, by rw [← e]; exact b⟩))))))))
  by_cases c8 : z - 768 = 8
  · refine Ll_pos c8 (rest _ ?_ ?_ (z_lt (k := 8) c8 (by omega)).2.1)
    · show (if σ 8 8 = 0 then (0 : Int32) else 1) = (if z - 768 = 8 then (if τ 0 47 = 0 then 0 else 1) else (if z - 768 = 9 then τ 0 40 else 255))
      rw [if_pos c8, h.v8]
    · exact bt_bo bo_if
  refine Ll_neg c8 ?_
  by_cases c9 : z - 768 = 9
  · refine Ll_pos c9 (rest _ ?_ ?_ (z_lt (k := 9) c9 (by omega)).2.1)
    · show σ 1 8 = (if z - 768 = 8 then (if τ 0 47 = 0 then 0 else 1) else (if z - 768 = 9 then τ 0 40 else 255))
      rw [if_neg c8, if_pos c9, h.sk]
    · rw [h.sk]
      exact h.skb
  refine Ll_neg c9 ?_
  by_cases c10 : 800 ≤ z
  · exact Lr_pos c10 ⟨rfl, h, (⟨by decide, by decide⟩ : bt2 0 (255 : Int32) 255)⟩
  · refine rest _ ?_ ⟨by decide, by decide⟩ c10
    show (255 : Int32) = (if z - 768 = 8 then (if τ 0 47 = 0 then 0 else 1) else (if z - 768 = 9 then τ 0 40 else 255))
    rw [if_neg c8, if_neg c9]
theorem L_ld {q : Nat → Int32} {σ τ : Sg} (h : R q σ τ) {x y : Int32} (e : x &&& 1023 = y &&& 1023) : LdR q (f_Bd_load σ x) (f_Mo_read τ y) := by
  show LdR q (if 768 ≤ (x &&& 1023) then f_Bd_load_r28 σ x else (σ 10 (x &&& 1023).toNatClampNeg, σ)) (if 768 ≤ (y &&& 1023) then (if 800 ≤ (y &&& 1023) then (255, τ) else f_Mo_readRegister τ ((y &&& 1023) - 768)) else (τ 1 (y &&& 1023).toNatClampNeg, τ))
  have hr := L_rr h x e
  rw [e]
  by_cases c : 768 ≤ (y &&& 1023)
  · rw [if_pos c, if_pos c]
    exact hr
  · rw [if_neg c, if_neg c]
    exact ⟨by show σ 10 _ = τ 1 _; rw [h.m10], h, h.m10b _⟩
theorem L_chg {q : Nat → Int32} {σ τ : Sg} {x v w z : Int32} (h : R q σ τ) (hz : (x &&& 1023) - 768 = z) (e : v = w) (b : bt2 0 w 255) : R q (f_Bd_store_r49 x v (sf σ 11 z.toNatClampNeg v)) (f_Mo_change τ z w) := by
  have h1 : R q (sf σ 11 z.toNatClampNeg v) (sf τ 2 z.toNatClampNeg w) := u_reg h rfl e
  show R q (f_Bd_store_r49 x v (sf σ 11 z.toNatClampNeg v)) (f_Mo_change_r78 z w (f_Mo_change_r56 z (f_Mo_change_r31 z (f_Mo_change_r20 z (f_Mo_change_r9 z (sf τ 2 z.toNatClampNeg w))))))
  generalize sf σ 11 z.toNatClampNeg v = s1 at h1 ⊢
  generalize sf τ 2 z.toNatClampNeg w = t1 at h1 ⊢
  unfold f_Bd_store_r49 f_Mo_change_r78 f_Mo_change_r56 f_Mo_change_r31 f_Mo_change_r20 f_Mo_change_r9
  rw [hz]
  by_cases c5 : z = 5
  · rw [c5]
    exact u_held h1 rfl
  by_cases c7 : z = 7
  · rw [c7]
    exact u_cau h1 rfl ⟨by decide, by decide⟩
  by_cases c18 : z = 18
  · rw [c18]
    exact u_met (u_col (u_col h1 rfl rfl ⟨by decide, by decide⟩) rfl rfl ⟨by decide, by decide⟩) rfl (Or.inl rfl)
  by_cases c22 : z = 22
  · rw [c22]
    exact u_sg (u_tm h1 (by rw [h1.r11]; rfl)) rfl (Or.inl rfl)
  by_cases c23 : z = 23
  · rw [c23]
    exact L_gather h1 e b
  · rw [if_neg c5, if_neg c7, if_neg c18, if_neg c22, if_neg c23, if_neg c5, if_neg c7, if_neg c18, if_neg c22, if_neg c23]
    exact h1
theorem z32 {z : Int32} (hb : bt2 0 z 1023) (h : 768 ≤ z) : (z - 768 < 32) ↔ ¬ 800 ≤ z := by
  obtain ⟨n, hn, rfl⟩ := bt_nI (n := 1023) hb
  have h : 768 ≤ n := (nI_leI (a := 768) (by omega) (by omega)).mp h
  rw [show (768 : Int32) = nI 768 from rfl, pk_sub h, show (32 : Int32) = nI 32 from rfl, nI_ltI (by omega) (by omega), show (800 : Int32) = nI 800 from rfl, nI_leI (by omega) (by omega)]
  omega
theorem L_st {q : Nat → Int32} {σ τ : Sg} {x y v w : Int32} (h : R q σ τ) (ex : x &&& 1023 = y &&& 1023) (e : v = w) (b : bt2 0 w 255) : R q (f_Bd_store σ x v) (f_Mo_store τ y w) := by
  have hc : R q (f_Bd_store_r49 x v (sf σ 11 ((y &&& 1023) - 768).toNatClampNeg v)) (f_Mo_change τ ((y &&& 1023) - 768) w) := L_chg h (by rw [ex]) e b
  show R q (if 768 ≤ (x &&& 1023) then (if ((x &&& 1023) - 768) < 32 then f_Bd_store_r49 x v (sf σ 11 ((x &&& 1023) - 768).toNatClampNeg v) else σ) else sf σ 10 (x &&& 1023).toNatClampNeg v) (if 768 ≤ (y &&& 1023) then (if 800 ≤ (y &&& 1023) then τ else f_Mo_change τ ((y &&& 1023) - 768) w) else sf τ 1 (y &&& 1023).toNatClampNeg w)
  rw [ex]
  by_cases c : 768 ≤ (y &&& 1023)
  · rw [if_pos c, if_pos c]
    by_cases c2 : 800 ≤ (y &&& 1023)
    · rw [if_pos c2, if_neg (fun z => (z32 (bt_10 y) c).mp z c2)]
      exact h
    · rw [if_neg c2, if_pos ((z32 (bt_10 y) c).mpr c2)]
      exact hc
  · rw [if_neg c, if_neg c]
    exact u_mem h rfl e b
