/-! ===== the drive ===== -/
theorem ring_ix {f n : Nat} (hf : f ≤ 39) (hn : n ≤ 40) : ((nI f + nI n) - (nI f + nI n) / 40 * 40).toNatClampNeg = (f + n) % 40 := by
  rw [nI_add, show (40 : Int32) = nI 40 from rfl, pk_rem (by omega) (by omega) (by omega), nI_clamp (by omega)]
theorem ring_add {σ τ : Sg} {v w : Int32} (h : Ring σ τ) (h6 : bt2 0 (σ 8 6) 39) (h7 : σ 8 7 = τ 0 46) (hb : bt2 0 (τ 0 46) 40) (hn : ¬ τ 0 46 = 40) (e : v = w) : Ring (sf (sf σ 18 (((σ 8 6) + (σ 8 7)) - ((σ 8 6) + (σ 8 7)) / 40 * 40).toNatClampNeg v) 8 7 (σ 8 7 + 1)) (sf (sf τ 9 (τ 0 46).toNatClampNeg w) 0 46 (τ 0 46 + 1)) := by
  intro j hj
  have hj : j < (τ 0 46 + 1).toNatClampNeg := hj
  show upd (σ 18) (((σ 8 6) + (σ 8 7)) - ((σ 8 6) + (σ 8 7)) / 40 * 40).toNatClampNeg v (((σ 8 6).toNatClampNeg + j) % 40) = upd (τ 9) (τ 0 46).toNatClampNeg w j
  have h := h
  unfold Ring at h
  rw [h7]
  obtain ⟨f, hf, ef⟩ := bt_nI (n := 39) h6
  obtain ⟨n, hn40, en⟩ := bt_nI (n := 40) hb
  rw [ef, en] at h ⊢
  rw [en, nI_1, nI_clamp (by omega)] at hj
  rw [en] at hn
  have hne : n ≠ 40 := fun q => hn (by rw [q]; rfl)
  rw [nI_clamp (by omega), nI_clamp (by omega)] at h
  rw [ring_ix hf hn40, nI_clamp (by omega), nI_clamp (by omega)]
  by_cases hjn : j = n
  · rw [hjn, pk_us, pk_us, e]
  · rw [pk_un (by omega), pk_un hjn]
    exact h j (by omega)
theorem wait_1 {x : Int32} (h : bt2 0 x 40) (hn : ¬ x = 40) : bt2 0 (x + 1) 40 := by
  obtain ⟨n, hn40, en⟩ := bt_nI (n := 40) h
  rw [en] at hn ⊢
  have hne : n ≠ 40 := fun q => hn (by rw [q]; rfl)
  rw [nI_1]
  exact bt_n (n := 40) (by omega) (by omega)
theorem u_ans {q : Nat → Int32} {σ τ : Sg} {v w : Int32} (h : R q σ τ) (hn : ¬ τ 0 46 = 40) (e : v = w) (b : bt2 0 w 255) : R q (sf (sf σ 18 (((σ 8 6) + (σ 8 7)) - ((σ 8 6) + (σ 8 7)) / 40 * 40).toNatClampNeg v) 8 7 (σ 8 7 + 1)) (sf (sf τ 9 (τ 0 46).toNatClampNeg w) 0 46 (τ 0 46 + 1)) := ⟨h.1, h.2.1, h.2.2.1, h.2.2.2.1, h.2.2.2.2.1, h.2.2.2.2.2.1, h.2.2.2.2.2.2.1, h.2.2.2.2.2.2.2.1, ⟨h.v3, h.v3b, congrArg (· + 1) h.v7, wait_1 h.v7b hn, h.v8, h.v9, h.v9b, h.v16, h.v16b, h.v17, h.v17b, up_all (P := fun x => bt2 0 x 255) h.t9b b, h.v6b, h.v5b, ring_add h.ring h.v6b h.v7 h.v7b hn e, h.tgt⟩, h.2.2.2.2.2.2.2.2.2.1, h.2.2.2.2.2.2.2.2.2.2.1, h.2.2.2.2.2.2.2.2.2.2.2⟩
theorem L_answer {q : Nat → Int32} {σ τ : Sg} {v w : Int32} (h : R q σ τ) (e : v = w) (b : bt2 0 w 255) : R q (f_Dr_answer σ v) (f_Mo_answer τ w) := by
  show R q (if 40 ≤ (σ 8 7) then σ else sf (sf σ 18 (((σ 8 6) + (σ 8 7)) - ((σ 8 6) + (σ 8 7)) / 40 * 40).toNatClampNeg v) 8 7 (σ 8 7 + 1)) (if (τ 0 46) = 40 then τ else sf (sf τ 9 (τ 0 46).toNatClampNeg w) 0 46 (τ 0 46 + 1))
  by_cases hn : τ 0 46 = 40
  · rw [if_pos hn, if_pos (by rw [h.v7, hn]; decide)]
    exact h
  · rw [if_neg hn, if_neg]
    · exact u_ans h hn e b
    · rw [h.v7]
      obtain ⟨n, hn40, en⟩ := bt_nI (n := 40) h.v7b
      rw [en] at hn ⊢
      have hne : n ≠ 40 := fun q => hn (by rw [q]; rfl)
      exact fun q => absurd ((nI_leI (a := 40) (b := n) (by omega) (by omega)).mp q) (by omega)
theorem ans_c {τ : Sg} {w : Int32} {c : Nat} (h0 : c ≠ 0) (h9 : c ≠ 9) : (f_Mo_answer τ w) c = τ c := by
  show (if (τ 0 46) = 40 then τ else sf (sf τ 9 (τ 0 46).toNatClampNeg w) 0 46 (τ 0 46 + 1)) c = τ c
  split
  · rfl
  · have e0 : Nat.beq c 0 = false := by cases c with | zero => exact absurd rfl h0 | succ n => rfl
    have e9 : Nat.beq c 9 = false := by
      cases hb : Nat.beq c 9 with
      | false => rfl
      | true => exact absurd (Nat.eq_of_beq_eq_true hb) h9
    show cond (Nat.beq c 0) _ (cond (Nat.beq c 9) _ (τ c)) = τ c
    rw [e0, e9]
    rfl
/-! sums -/
theorem sum_b {x y : Int32} (hx : bt2 0 x 255) (hy : bt2 0 y 255) : bt2 0 (f_Mo_summed x y) 255 := by
  obtain ⟨a, ha, rfl⟩ := bt_nI (n := 255) hx
  obtain ⟨b, hb, rfl⟩ := bt_nI (n := 255) hy
  show bt2 0 (if (nI a + nI b) ≤ 255 then (nI a + nI b) else (nI a + nI b) - 255) 255
  rw [nI_add]
  split
  · rename_i h
    have : a + b ≤ 255 := (nI_leI (by omega) (by omega)).mp (show nI (a + b) ≤ nI 255 from h)
    exact bt_n (n := 255) this (by omega)
  · rename_i h
    have : ¬ a + b ≤ 255 := fun q => h ((nI_leI (a := a + b) (b := 255) (by omega) (by omega)).mpr q)
    rw [show (255 : Int32) = nI 255 from rfl, pk_sub (by omega)]
    exact bt_n (n := 255) (by omega) (by omega)
theorem sum_body {x y : Int32} : (if (x + y) ≤ 255 then (x + y) else ((x + y) + (-255))) = f_Mo_summed x y := by
  show _ = (if (x + y) ≤ 255 then (x + y) else ((x + y) - 255))
  rw [Int32.sub_eq_add_neg]
theorem L_sum17 {σ τ : Sg} (h : σ 17 = τ 8) (n : Int32) : f_Dr_sum_17 σ 0 n = f_Mo_sumOf τ n := by
  show itr (fun j5 x => bd_Dr_sum_17_5 σ 0 x j5) 0 n.toNatClampNeg = itr (fun j4 x => bd_Mo_sumOf_4 τ x j4) 0 n.toNatClampNeg
  have e : (fun j5 x => bd_Dr_sum_17_5 σ 0 x j5) = (fun j4 x => bd_Mo_sumOf_4 τ x j4) := by
    funext j x
    show (if (x + (σ 17 (0 + nI j).toNatClampNeg)) ≤ 255 then _ else _) = f_Mo_summed x (τ 8 (0 + nI j).toNatClampNeg)
    rw [h]
    exact sum_body
  rw [e]
theorem sumOf_b {τ : Sg} (h : ∀ i, bt2 0 (τ 8 i) 255) (n : Int32) : bt2 0 (f_Mo_sumOf τ n) 255 :=
  itr_inv (f := fun j4 x => bd_Mo_sumOf_4 τ x j4) (fun x => bt2 0 x 255) ⟨by decide, by decide⟩ (fun j y hy => sum_b hy (h _)) n.toNatClampNeg
/-! the command 82 -/
theorem cmd_ix (n : Int32) (j : Nat) : (n - 1) * 8 + (0 + nI j) = ((8 * n) - 8) + nI j := by
  rw [Int32.zero_add]
  grind
theorem cmd_ix' (n : Int32) (j : Nat) : (n - 1) * 8 + nI j = ((8 * n) - 8) + nI j := by
  grind
theorem L_rd82 {q : Nat → Int32} {σ σ0 τ : Sg} {n : Int32} (hσ : σ0 17 (2 : Int32).toNatClampNeg = n) (hτ : τ 8 (2 : Int32).toNatClampNeg = n) (h : R q σ τ) : ∀ k : Nat, R q (it_Dr_obeyCommand_72 σ0 σ k) (it_Mo_command_122 τ k).2 ∧ (it_Mo_command_122 τ k).2 7 = τ 7 ∧ bt2 0 (it_Mo_command_122 τ k).1 255 ∧ ∀ s : Sg, s 16 = τ 7 → (it_Mo_command_122 τ k).1 = it_Dr_sum_16_5 s ((n - 1) * 8) k := by
  intro k
  induction k with
  | zero => exact ⟨h, rfl, (⟨by decide, by decide⟩ : bt2 0 (0 : Int32) 255), fun s hs => rfl⟩
  | succ k ih =>
    obtain ⟨i1, i2, i3, i4⟩ := ih
    have eC : it_Dr_obeyCommand_72 σ0 σ (k + 1) = bd_Dr_obeyCommand_72 σ0 σ (it_Dr_obeyCommand_72 σ0 σ k) k := rfl
    have eM : it_Mo_command_122 τ (k + 1) = bd_Mo_command_122 τ (it_Mo_command_122 τ k).1 (it_Mo_command_122 τ k).2 k := rfl
    have eS : ∀ s : Sg, it_Dr_sum_16_5 s ((n - 1) * 8) (k + 1) = bd_Dr_sum_16_5 s ((n - 1) * 8) (it_Dr_sum_16_5 s ((n - 1) * 8) k) k := fun _ => rfl
    rw [eC, eM]
    generalize it_Dr_obeyCommand_72 σ0 σ k = s1 at *
    generalize it_Mo_command_122 τ k = t1 at *
    have hix : ((n - 1) * 8 + (0 + nI k)) = (((8 * (τ 8 (2 : Int32).toNatClampNeg)) - 8) + nI k) := by rw [hτ]; exact cmd_ix n k
    have hb : bt2 0 (t1.2 7 (((8 * (τ 8 (2 : Int32).toNatClampNeg)) - 8) + nI k).toNatClampNeg) 255 := i1.v16b _
    have h8 : (f_Mo_answer t1.2 (t1.2 7 (((8 * (τ 8 (2 : Int32).toNatClampNeg)) - 8) + nI k).toNatClampNeg)) 7 = t1.2 7 := ans_c (by decide) (by decide)
    refine ⟨?_, ?_, ?_, ?_⟩
    · show R q (f_Dr_answer s1 (s1 16 ((σ0 17 (2 : Int32).toNatClampNeg - 1) * 8 + (0 + nI k)).toNatClampNeg)) (f_Mo_answer t1.2 (t1.2 7 (((8 * (τ 8 (2 : Int32).toNatClampNeg)) - 8) + nI k).toNatClampNeg))
      exact L_answer i1 (by rw [hσ, hix, i1.v16]) hb
    · exact h8.trans i2
    · show bt2 0 (f_Mo_summed t1.1 ((f_Mo_answer t1.2 (t1.2 7 (((8 * (τ 8 (2 : Int32).toNatClampNeg)) - 8) + nI k).toNatClampNeg)) 7 (((8 * (τ 8 (2 : Int32).toNatClampNeg)) - 8) + nI k).toNatClampNeg)) 255
      rw [h8]
      exact sum_b i3 hb
    · intro s hs
      rw [eS s]
      show f_Mo_summed t1.1 ((f_Mo_answer t1.2 (t1.2 7 (((8 * (τ 8 (2 : Int32).toNatClampNeg)) - 8) + nI k).toNatClampNeg)) 7 (((8 * (τ 8 (2 : Int32).toNatClampNeg)) - 8) + nI k).toNatClampNeg) = (if (it_Dr_sum_16_5 s ((n - 1) * 8) k + (s 16 ((n - 1) * 8 + nI k).toNatClampNeg)) ≤ 255 then _ else _)
      rw [h8, i2, i4 s hs, hs, hτ, cmd_ix' n k]
      exact sum_body.symm
