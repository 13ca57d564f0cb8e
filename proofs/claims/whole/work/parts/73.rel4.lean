section RIF
variable {q : Nat → Int32} {c : Prop} {s s1 s2 t t1 t2 : Sg}
theorem Rr_pos [Decidable c] (hc : c) (k : R q s t1) : R q s (if c then t1 else t2) := by rw [if_pos hc]; exact k
theorem Rr_neg [Decidable c] (hc : ¬ c) (k : R q s t2) : R q s (if c then t1 else t2) := by rw [if_neg hc]; exact k
theorem Rl_pos [Decidable c] (hc : c) (k : R q s1 t) : R q (if c then s1 else s2) t := by rw [if_pos hc]; exact k
theorem Rl_neg [Decidable c] (hc : ¬ c) (k : R q s2 t) : R q (if c then s1 else s2) t := by rw [if_neg hc]; exact k
end RIF
theorem u_send {q : Nat → Int32} {σ τ : Sg} {v w x y z : Int32} {G : Nat → Int32} (h : R q σ τ) (e7 : v = w) (b7 : bt2 0 w 40) (e9 : x = y) (b9 : bt2 0 y 255) (b6 : bt2 0 z 39) (b : ∀ i, bt2 0 (G i) 255) (r : Ring (sf (sf (sf (sf σ 8 9 x) 8 6 z) 8 7 v) 8 8 1) (st (sf (sf (sf τ 0 47 1) 0 48 y) 0 46 w) 9 G)) : R q (sf (sf (sf (sf σ 8 9 x) 8 6 z) 8 7 v) 8 8 1) (st (sf (sf (sf τ 0 47 1) 0 48 y) 0 46 w) 9 G) := ⟨h.1, h.2.1, h.2.2.1, h.2.2.2.1, h.2.2.2.2.1, h.2.2.2.2.2.1, h.2.2.2.2.2.2.1, h.2.2.2.2.2.2.2.1, ⟨h.v3, h.v3b, e7, b7, rfl, e9, b9, h.v16, h.v16b, h.v17, h.v17b, b, b6, h.v5b, r, h.tgt⟩, h.2.2.2.2.2.2.2.2.2.1, h.2.2.2.2.2.2.2.2.2.2.1, h.2.2.2.2.2.2.2.2.2.2.2⟩
theorem u_wr {q : Nat → Int32} {σ τ : Sg} {n m : Int32} (h : R q σ τ) (e : n = m) (b : bt2 1 n 8) : R q (sf (sf σ 8 4 1) 8 5 n) (sf τ 0 44 m) := ⟨h.1, h.2.1, h.2.2.1, h.2.2.2.1, h.2.2.2.2.1, h.2.2.2.2.2.1, h.2.2.2.2.2.2.1, h.2.2.2.2.2.2.2.1, ⟨h.v3, h.v3b, h.v7, h.v7b, h.v8, h.v9, h.v9b, h.v16, h.v16b, h.v17, h.v17b, h.t9b, h.v6b, b, h.ring, Or.inr ⟨rfl, e.symm⟩⟩, h.2.2.2.2.2.2.2.2.2.1, h.2.2.2.2.2.2.2.2.2.2.1, h.2.2.2.2.2.2.2.2.2.2.2⟩
theorem in18 {n : Int32} : f_Mo_in n 1 8 = f_Pm_isPlaceOnDisk n 0 := by
  show (if n < 1 then (0 : Int32) else (if 8 < n then 0 else 1)) = (if n < 1 then 0 else (if 8 < n then 0 else (if (0 : Int32) < 0 then 0 else (if (8 : Int32) ≤ 0 then 0 else 1))))
  rfl
theorem in18_b {n : Int32} (h : ¬ f_Pm_isPlaceOnDisk n 0 = 0) : bt2 1 n 8 := by
  rw [← in18] at h
  have h : ¬ (if n < 1 then (0 : Int32) else (if 8 < n then 0 else 1)) = 0 := h
  by_cases h1 : n < 1
  · rw [if_pos h1] at h
    exact absurd rfl h
  · rw [if_neg h1] at h
    by_cases h2 : 8 < n
    · rw [if_pos h2] at h
      exact absurd rfl h
    · rw [ti_lt, show (1 : Int32).toInt = 1 from rfl] at h1
      rw [ti_lt, show (8 : Int32).toInt = 8 from rfl] at h2
      exact ⟨by omega, by omega⟩
theorem L_cmd {q : Nat → Int32} {σ τ : Sg} (h : R q σ τ) (h0 : σ 8 4 = 0) : R q (f_Dr_obeyCommand σ) (f_Mo_command τ) := by
  have h17 := h.v17
  have hs := L_sum17 h17 3
  show R q (if (σ 17 (0 : Int32).toNatClampNeg) = 49 then (if (σ 17 (3 : Int32).toNatClampNeg) = f_Dr_sum_17 σ 0 3 then f_Dr_obeyCommand_r44 σ (f_Pm_isPlaceOnDisk (σ 17 (2 : Int32).toNatClampNeg) 0) else σ) else σ) (if f_Mo_sumOf τ 3 = (τ 8 (3 : Int32).toNatClampNeg) then (if (τ 8 (0 : Int32).toNatClampNeg) = 49 then (if f_Mo_command_r34 τ = 0 then (if (τ 8 (1 : Int32).toNatClampNeg) = 87 then (if f_Mo_in (τ 8 (2 : Int32).toNatClampNeg) 1 8 = 0 then f_Mo_answer τ 78 else sf (f_Mo_answer τ 65) 0 44 ((f_Mo_answer τ 65) 8 (2 : Int32).toNatClampNeg)) else f_Mo_answer τ 78) else (if f_Mo_in (τ 8 (2 : Int32).toNatClampNeg) 1 8 = 0 then f_Mo_answer τ 78 else f_Mo_answer (it_Mo_command_122 (f_Mo_answer (f_Mo_answer τ 65) 67) 8).2 (it_Mo_command_122 (f_Mo_answer (f_Mo_answer τ 65) 67) 8).1)) else τ) else τ)
  rw [h17, hs]
  by_cases c1 : f_Mo_sumOf τ 3 = (τ 8 (3 : Int32).toNatClampNeg)
  · rw [if_pos c1, if_pos c1.symm]
    by_cases c2 : (τ 8 (0 : Int32).toNatClampNeg) = 49
    · rw [if_pos c2, if_pos c2, in18]
      have ex : f_Mo_command_r34 τ = if (τ 8 (1 : Int32).toNatClampNeg) = 82 then 1 else 0 := rfl
      rw [ex]
      show R q (if f_Pm_isPlaceOnDisk (τ 8 (2 : Int32).toNatClampNeg) 0 = 0 then f_Dr_answer σ 78 else (if (σ 17 (1 : Int32).toNatClampNeg) = 82 then f_Dr_answer (it_Dr_obeyCommand_72 σ (f_Dr_answer (f_Dr_answer σ 65) 67) 8) (it_Dr_sum_16_5 (it_Dr_obeyCommand_72 σ (f_Dr_answer (f_Dr_answer σ 65) 67) 8) ((σ 17 (2 : Int32).toNatClampNeg - 1) * 8) 8) else (if (σ 17 (1 : Int32).toNatClampNeg) = 87 then sf (sf (f_Dr_answer σ 65) 8 4 1) 8 5 (σ 17 (2 : Int32).toNatClampNeg) else f_Dr_answer σ 78))) _
      rw [h17]
      have a78 : R q (f_Dr_answer σ 78) (f_Mo_answer τ 78) := L_answer h rfl ⟨by decide, by decide⟩
      by_cases c3 : f_Pm_isPlaceOnDisk (τ 8 (2 : Int32).toNatClampNeg) 0 = 0
      · rw [if_pos c3, if_pos c3, if_pos c3]
        (repeat' split) <;> exact a78
      · rw [if_neg c3, if_neg c3, if_neg c3]
        have hb := in18_b c3
        by_cases c4 : (τ 8 (1 : Int32).toNatClampNeg) = 82
        · rw [if_pos c4, if_pos c4, if_neg (by decide)]
          have h2 : R q (f_Dr_answer (f_Dr_answer σ 65) 67) (f_Mo_answer (f_Mo_answer τ 65) 67) := L_answer (L_answer h rfl ⟨by decide, by decide⟩) rfl ⟨by decide, by decide⟩
          have e8 : (f_Mo_answer (f_Mo_answer τ 65) 67) 8 = τ 8 := (ans_c (by decide) (by decide)).trans (ans_c (by decide) (by decide))
          obtain ⟨i1, i2, i3, i4⟩ := L_rd82 (σ0 := σ) (n := τ 8 (2 : Int32).toNatClampNeg) (by rw [h17]) (by rw [e8]) h2 8
          refine L_answer i1 ?_ i3
          exact (i4 _ (i1.v16.trans i2)).symm
        · rw [if_neg c4, if_neg c4, if_pos rfl]
          by_cases c5 : (τ 8 (1 : Int32).toNatClampNeg) = 87
          · rw [if_pos c5, if_pos c5]
            refine u_wr (L_answer h rfl ⟨by decide, by decide⟩) ?_ hb
            rw [ans_c (by decide) (by decide)]
          · rw [if_neg c5, if_neg c5]
            exact a78
    · rw [if_neg c2, if_neg c2]
      exact h
  · rw [if_neg c1]
    by_cases c2 : (τ 8 (0 : Int32).toNatClampNeg) = 49
    · rw [if_pos c2, if_neg (fun z => c1 z.symm)]
      exact h
    · rw [if_neg c2]
      exact h
/-! a sector comes in -/
theorem cpy_0 {f g : Nat → Int32} {d : Nat} : va_cpy f g 0 d 0 = g := by
  funext k
  exact pk_cpy_out (by omega)
theorem cpy_s {f g : Nat → Int32} {d n : Nat} : va_cpy f g 0 d (n + 1) = upd (va_cpy f g 0 d n) (d + n) (f n) := by
  funext k
  by_cases h : k = d + n
  · rw [h, pk_us, pk_cpy_in (by omega) (by omega), show 0 + (d + n - d) = n by omega]
  · rw [pk_un h]
    by_cases h2 : d ≤ k ∧ k < d + n
    · rw [pk_cpy_in h2.1 (by omega), pk_cpy_in h2.1 h2.2]
    · rw [pk_cpy_out (by omega), pk_cpy_out (by omega)]
theorem st_st (s : Sg) (c : Nat) (f g : Nat → Int32) : st (st s c f) c g = st s c g := by
  funext b
  show cond (Nat.beq b c) g (cond (Nat.beq b c) f (s b)) = cond (Nat.beq b c) g (s b)
  cases Nat.beq b c <;> rfl
theorem st_id (s : Sg) (c : Nat) : st s c (s c) = s := by
  funext b
  show cond (Nat.beq b c) (s c) (s b) = s b
  cases h : Nat.beq b c with
  | false => rfl
  | true => rw [Nat.eq_of_beq_eq_true h]; rfl
theorem sec_ix {t : Int32} {i j : Nat} (ht : t = nI (i + 1)) (hi : i < 8) (hj : j < 8) : (((8 * t) - 8) + (0 + nI j)).toNatClampNeg = 8 * i + j ∧ ((t - 1) * 8).toNatClampNeg = 8 * i := by
  have e8 : (8 : Int32) = nI 8 := rfl
  rw [ht, Int32.zero_add, nI_pred, e8, pk_mul, pk_mul, pk_sub (by omega), nI_add, nI_clamp (by omega), nI_clamp (by omega)]
  omega
theorem L_copy {s : Sg} {i : Nat} (ht : s 0 44 = nI (i + 1)) (hi : i < 8) : ∀ n, n ≤ 8 → it_Mo_sent_85 s n = st s 7 (va_cpy (s 8) (s 7) 0 (8 * i) n) := by
  intro n
  induction n with
  | zero =>
    intro _
    rw [cpy_0]
    exact (st_id s 7).symm
  | succ n ih =>
    intro hn
    have e : it_Mo_sent_85 s (n + 1) = bd_Mo_sent_85 s (it_Mo_sent_85 s n) n := rfl
    rw [e, ih (by omega)]
    show st (st s 7 (va_cpy (s 8) (s 7) 0 (8 * i) n)) 7 (upd (va_cpy (s 8) (s 7) 0 (8 * i) n) (((8 * (s 0 44)) - 8) + (0 + nI n)).toNatClampNeg (s 8 (0 + nI n).toNatClampNeg)) = _
    rw [st_st, cpy_s, (sec_ix ht hi (by omega)).1, Int32.zero_add, nI_clamp (by omega)]
theorem cpy_all {f g : Nat → Int32} {P : Int32 → Prop} {d n : Nat} (hf : ∀ i, P (f i)) (hg : ∀ i, P (g i)) : ∀ i, P (va_cpy f g 0 d n i) := by
  intro i
  unfold va_cpy
  split
  · exact hf _
  · exact hg _
theorem u_secs {q : Nat → Int32} {σ τ : Sg} {F G : Nat → Int32} (h : R q σ τ) (e : F = G) (b : ∀ i, bt2 0 (G i) 255) : R q (st σ 16 F) (st τ 7 G) := ⟨h.1, h.2.1, h.2.2.1, h.2.2.2.1, h.2.2.2.2.1, h.2.2.2.2.2.1, h.2.2.2.2.2.2.1, h.2.2.2.2.2.2.2.1, ⟨h.v3, h.v3b, h.v7, h.v7b, h.v8, h.v9, h.v9b, e, b, h.v17, h.v17b, h.t9b, h.v6b, h.v5b, h.ring, h.tgt⟩, h.2.2.2.2.2.2.2.2.2.1, h.2.2.2.2.2.2.2.2.2.2.1, h.2.2.2.2.2.2.2.2.2.2.2⟩
theorem u_t0 {q : Nat → Int32} {σ τ : Sg}  (h : R q σ τ) (b : bt2 0 (τ 0 43) 3) : R q (sf σ 8 4 0) (sf τ 0 44 0) := ⟨h.1, h.2.1, h.2.2.1, h.2.2.2.1, h.2.2.2.2.1, h.2.2.2.2.2.1, h.2.2.2.2.2.2.1, h.2.2.2.2.2.2.2.1, ⟨h.v3, h.v3b, h.v7, h.v7b, h.v8, h.v9, h.v9b, h.v16, h.v16b, h.v17, h.v17b, h.t9b, h.v6b, h.v5b, h.ring, Or.inl ⟨rfl, rfl, b⟩⟩, h.2.2.2.2.2.2.2.2.2.1, h.2.2.2.2.2.2.2.2.2.2.1, h.2.2.2.2.2.2.2.2.2.2.2⟩
theorem rT_cnt {σ τ : Sg} {v w : Int32} (h : rT σ τ) (t : τ 0 44 = 0 → bt2 0 w 3) : rT (sf σ 8 3 v) (sf τ 0 43 w) := by
  rcases h with h | h
  · exact Or.inl ⟨h.1, h.2.1, t h.2.1⟩
  · exact Or.inr h
theorem u_cntT {q : Nat → Int32} {σ τ : Sg} {v w : Int32} (h : R q σ τ) (e : v = w) (b : bt2 0 w 8) (t : (τ 0 44 = 0 → bt2 0 w 3)) : R q (sf σ 8 3 v) (sf τ 0 43 w) := ⟨h.1, h.2.1, h.2.2.1, h.2.2.2.1, h.2.2.2.2.1, h.2.2.2.2.2.1, h.2.2.2.2.2.2.1, h.2.2.2.2.2.2.2.1, ⟨e, b, h.v7, h.v7b, h.v8, h.v9, h.v9b, h.v16, h.v16b, h.v17, h.v17b, h.t9b, h.v6b, h.v5b, h.ring, rT_cnt h.tgt t⟩, h.2.2.2.2.2.2.2.2.2.1, h.2.2.2.2.2.2.2.2.2.2.1, h.2.2.2.2.2.2.2.2.2.2.2⟩
theorem rT_any {σ τ : Sg} {v w : Int32} (h : rT σ τ) : rT (sf σ 8 3 v) (sf (sf τ 0 43 w) 0 43 0) := by
  rcases h with h | h
  · exact Or.inl ⟨h.1, h.2.1, (⟨by decide, by decide⟩ : bt2 0 (0 : Int32) 3)⟩
  · exact Or.inr h
theorem rT_zz {σ τ : Sg} {v w : Int32} (h : rT σ τ) : rT (sf (sf σ 8 3 v) 8 3 0) (sf (sf τ 0 43 w) 0 43 0) := by
  rcases h with h | h
  · exact Or.inl ⟨h.1, h.2.1, (⟨by decide, by decide⟩ : bt2 0 (0 : Int32) 3)⟩
  · exact Or.inr h
theorem u_cnt0 {q : Nat → Int32} {σ τ : Sg} {v w : Int32} (h : R q σ τ)  : R q (sf (sf σ 8 3 v) 8 3 0) (sf (sf τ 0 43 w) 0 43 0) := ⟨h.1, h.2.1, h.2.2.1, h.2.2.2.1, h.2.2.2.2.1, h.2.2.2.2.2.1, h.2.2.2.2.2.2.1, h.2.2.2.2.2.2.2.1, ⟨rfl, (⟨by decide, by decide⟩ : bt2 0 (0 : Int32) 8), h.v7, h.v7b, h.v8, h.v9, h.v9b, h.v16, h.v16b, h.v17, h.v17b, h.t9b, h.v6b, h.v5b, h.ring, rT_zz h.tgt⟩, h.2.2.2.2.2.2.2.2.2.1, h.2.2.2.2.2.2.2.2.2.2.1, h.2.2.2.2.2.2.2.2.2.2.2⟩
theorem L_sect {q : Nat → Int32} {σ τ : Sg} (h : R q σ τ) (hc : τ 0 43 = 0) (ht : τ 0 44 = σ 8 5) : R q (f_Dr_storeSector σ) (if f_Mo_sent_r74 τ (f_Mo_sumOf τ 8) = 0 then f_Mo_answer (sf τ 0 44 0) 78 else f_Mo_answer (f_Mo_answer (sf (it_Mo_sent_85 τ 8) 0 44 0) 65) 67) := by
  have hs : f_Dr_sum_17 (sf σ 8 4 0) 0 8 = f_Mo_sumOf τ 8 := L_sum17 (σ := sf σ 8 4 0) h.v17 8
  have h3 : bt2 0 (τ 0 43) 3 := by rw [hc]; exact ⟨by decide, by decide⟩
  show R q (if (σ 17 (8 : Int32).toNatClampNeg) = f_Dr_sum_17 (sf σ 8 4 0) 0 8 then f_Dr_answer (f_Dr_answer (st (sf σ 8 4 0) 16 (va_cpy (σ 17) (σ 16) 0 ((σ 8 5 - 1) * 8).toNatClampNeg 8)) 65) 67 else f_Dr_answer (sf σ 8 4 0) 78) (if (if f_Mo_sumOf τ 8 = (τ 8 (8 : Int32).toNatClampNeg) then (1 : Int32) else 0) = 0 then _ else _)
  rw [hs, h.v17]
  by_cases c : f_Mo_sumOf τ 8 = (τ 8 (8 : Int32).toNatClampNeg)
  · rw [if_pos c.symm, if_pos c, if_neg (by decide)]
    obtain ⟨i, hi, ei⟩ := bt_nI1 (n := 8) h.v5b
    rw [L_copy (ht.trans ei) (by omega) 8 (by omega), (sec_ix (j := 0) ei (by omega) (by omega)).2]
    refine L_answer (L_answer ?_ rfl ⟨by decide, by decide⟩) rfl ⟨by decide, by decide⟩
    have hx := u_secs (u_t0 h h3) (F := va_cpy (τ 8) (σ 16) 0 (8 * i) 8) (G := va_cpy (τ 8) (τ 7) 0 (8 * i) 8) (by rw [h.v16]) (cpy_all (P := fun x => bt2 0 x 255) h.v17b h.v16b)
    exact hx
  · rw [if_neg (fun z => c z.symm), if_neg c, if_pos rfl]
    exact L_answer (u_t0 h h3) rfl ⟨by decide, by decide⟩
theorem L_gather {q : Nat → Int32} {σ τ : Sg} {v w : Int32} (h : R q σ τ) (e : v = w) (b : bt2 0 w 255) : R q (f_Dr_gather σ v) (f_Mo_sent τ w) := by
  have h1 : R q (sf σ 17 (σ 8 3).toNatClampNeg v) (sf τ 8 (τ 0 43).toNatClampNeg w) := u_gat h (by rw [h.v3]) e b
  show R q (if (if σ 8 4 = 0 then (4 : Int32) else 9) ≤ σ 8 3 + 1 then (if σ 8 4 = 0 then f_Dr_obeyCommand (sf (sf (sf σ 17 (σ 8 3).toNatClampNeg v) 8 3 (σ 8 3 + 1)) 8 3 0) else f_Dr_storeSector (sf (sf (sf σ 17 (σ 8 3).toNatClampNeg v) 8 3 (σ 8 3 + 1)) 8 3 0)) else sf (sf σ 17 (σ 8 3).toNatClampNeg v) 8 3 (σ 8 3 + 1))
    (f_Mo_sent_r24 (sf (sf τ 8 (τ 0 43).toNatClampNeg w) 0 43 (τ 0 43 + 1)))
  have h0 : R q (sf (sf (sf σ 17 (σ 8 3).toNatClampNeg v) 8 3 (σ 8 3 + 1)) 8 3 0) (sf (sf (sf τ 8 (τ 0 43).toNatClampNeg w) 0 43 (τ 0 43 + 1)) 0 43 0) := u_cnt0 h1
  have hv3 := h.v3
  have htg := h.tgt
  have h5b := h.v5b
  have h3b := h.v3b
  have ht1 : (sf τ 8 (τ 0 43).toNatClampNeg w) 0 44 = τ 0 44 := rfl
  rw [hv3] at h0 h1 ⊢
  obtain ⟨n, hn, en⟩ := bt_nI (n := 8) h3b
  rw [en, nI_1] at h0 ⊢
  rcases htg with ⟨h84, h44, hb3⟩ | ⟨h84, h44⟩
  · have hn3 : n ≤ 3 := by
      have := hb3.2
      rw [en, nI_toInt (by omega)] at this
      omega
    rw [if_pos h84]
    by_cases hn4 : n = 3
    · rw [if_pos (show (4 : Int32) ≤ nI (n + 1) by rw [hn4]; decide), if_pos h84]
      refine Rr_pos h44 ?_
      refine Rr_pos (show nI (n + 1) = 4 by rw [hn4]; rfl) ?_
      exact L_cmd h0 h84
    · rw [if_neg (show ¬ (4 : Int32) ≤ nI (n + 1) from nI_ge (a := n + 1) (b := 4) (by omega) (by omega))]
      refine Rr_pos h44 ?_
      refine Rr_neg (show ¬ nI (n + 1) = nI 4 from fun z => absurd ((nI_eq (by omega) (by omega)).mp z) (by omega)) ?_
      refine Rr_neg (show ¬ nI (n + 1) = nI 9 from fun z => absurd ((nI_eq (by omega) (by omega)).mp z) (by omega)) ?_
      rw [← nI_1, ← en] 
      exact u_cntT h1 (congrArg (· + 1) (show _ = τ 0 43 from rfl)) (by rw [en, nI_1]; exact bt_n (n := 8) (by omega) (by omega)) (fun _ => by rw [en, nI_1]; exact bt_n (n := 3) (by omega) (by omega))
  · have hne : ¬ τ 0 44 = 0 := by
      rw [h44]
      intro z
      have := h5b.1
      rw [z] at this
      exact absurd this (by decide)
    have hne4 : ¬ σ 8 4 = 0 := by rw [h84]; decide
    rw [if_neg hne4, if_neg hne4]
    by_cases hn8 : n = 8
    · rw [if_pos (show (9 : Int32) ≤ nI (n + 1) by rw [hn8]; decide)]
      refine Rr_neg hne ?_
      refine Rr_pos (show nI (n + 1) = 9 by rw [hn8]; rfl) ?_
      exact L_sect h0 rfl h44
    · rw [if_neg (show ¬ (9 : Int32) ≤ nI (n + 1) from nI_ge (a := n + 1) (b := 9) (by omega) (by omega))]
      refine Rr_neg hne ?_
      refine Rr_neg (show ¬ nI (n + 1) = nI 9 from fun z => absurd ((nI_eq (by omega) (by omega)).mp z) (by omega)) ?_
      rw [← nI_1, ← en]
      exact u_cntT h1 (congrArg (· + 1) (show _ = τ 0 43 from rfl)) (by rw [en, nI_1]; exact bt_n (n := 8) (by omega) (by omega)) (fun z => absurd z hne)
/-! what waits is sent -/
theorem dl_it {s : Sg} : ∀ n, n ≤ 40 → it_Mo_deliver_42 s n = st s 9 (fun j => if j < n then s 9 (j + 1) else s 9 j) := by
  intro n
  induction n with
  | zero =>
    intro _
    have : (fun j => if j < 0 then s 9 (j + 1) else s 9 j) = s 9 := by
      funext j
      exact if_neg (by omega)
    rw [this]
    exact (st_id s 9).symm
  | succ n ih =>
    intro hn
    have e : it_Mo_deliver_42 s (n + 1) = bd_Mo_deliver_42 s (it_Mo_deliver_42 s n) n := rfl
    rw [e, ih (by omega)]
    show st (st s 9 (fun j => if j < n then s 9 (j + 1) else s 9 j)) 9 (upd (fun j => if j < n then s 9 (j + 1) else s 9 j) (0 + nI n).toNatClampNeg ((fun j => if j < n then s 9 (j + 1) else s 9 j) ((0 + nI n) + 1).toNatClampNeg)) = _
    rw [st_st, Int32.zero_add, nI_1, nI_clamp (by omega), nI_clamp (by omega)]
    congr 1
    funext j
    by_cases hj : j = n
    · rw [hj, pk_us, if_pos (show n < n + 1 by omega)]
      exact if_neg (by omega)
    · rw [pk_un hj]
      by_cases hj2 : j < n
      · rw [if_pos hj2, if_pos (by omega)]
      · rw [if_neg hj2, if_neg (by omega)]
theorem L_send {q : Nat → Int32} {σ τ : Sg} (h : R q σ τ) : R q (f_Dr_sendAnswer σ) (f_Mo_deliver τ) := by
  by_cases c1 : τ 0 47 = 0
  · by_cases c2 : τ 0 46 = 0
    · refine Rl_pos (h.v8.trans c1) (Rl_pos (h.v7.trans c2) ?_)
      exact Rr_pos c1 (Rr_pos c2 h)
    · refine Rl_pos (h.v8.trans c1) (Rl_neg (by rw [h.v7]; exact c2) ?_)
      refine Rr_pos c1 (Rr_neg c2 ?_)
      obtain ⟨n, hn, en⟩ := bt_nI (n := 40) h.v7b
      obtain ⟨f, hf, ef⟩ := bt_nI (n := 39) h.v6b
      have hn0 : n ≠ 0 := fun z => c2 (by rw [en, z]; rfl)
      obtain ⟨k, rfl⟩ : ∃ k, n = k + 1 := ⟨n - 1, by omega⟩
      have ew : τ 0 46 - 1 = nI k := by rw [en, nI_pred]
      show R q (sf (sf (sf (sf σ 8 9 (σ 18 (σ 8 6).toNatClampNeg)) 8 6 ((σ 8 6 + 1) - (σ 8 6 + 1) / 40 * 40)) 8 7 (σ 8 7 - 1)) 8 8 1) (it_Mo_deliver_42 (sf (sf (sf τ 0 47 1) 0 48 (τ 9 (0 : Int32).toNatClampNeg)) 0 46 (τ 0 46 - 1)) (τ 0 46 - 1).toNatClampNeg)
      rw [dl_it _ (by rw [ew, nI_clamp (by omega)]; omega)]
      have e6 : (σ 8 6 + 1) - (σ 8 6 + 1) / 40 * 40 = nI ((f + 1) % 40) := by rw [ef, nI_1, show (40 : Int32) = nI 40 from rfl, pk_rem (by omega) (by omega) (by omega)]
      have hr : ∀ j, j < k + 1 → σ 18 ((f + j) % 40) = τ 9 j := by
        have hr := h.ring
        unfold Ring at hr
        rw [ef, en, nI_clamp (by omega), nI_clamp (by omega)] at hr
        exact hr
      refine u_send h (by rw [h.v7]) (by rw [ew]; exact bt_n (n := 40) (by omega) (by omega)) ?_ (h.t9b _) ?_ ?_ ?_
      · rw [ef, nI_clamp (by omega)]
        have := hr 0 (by omega)
        rw [Nat.add_zero, Nat.mod_eq_of_lt (by omega)] at this
        exact this
      · rw [e6]
        exact bt_n (n := 39) (by omega) (by omega)
      · intro j
        show bt2 0 (if j < _ then τ 9 (j + 1) else τ 9 j) 255
        split
        · exact h.t9b _
        · exact h.t9b _
      · intro j hj
        have hj : j < (τ 0 46 - 1).toNatClampNeg := hj
        show σ 18 ((((σ 8 6 + 1) - (σ 8 6 + 1) / 40 * 40).toNatClampNeg + j) % 40) = if j < (τ 0 46 - 1).toNatClampNeg then τ 9 (j + 1) else τ 9 j
        rw [if_pos hj, e6, nI_clamp (by omega)]
        rw [ew, nI_clamp (by omega)] at hj
        rw [← hr (j + 1) (by omega)]
        congr 1
        omega
  · exact Rl_neg (by rw [h.v8]; exact c1) (Rr_neg c1 h)

