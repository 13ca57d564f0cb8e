def f_Pm_state_r1 (σ : Sg) (x1 : Int32) : Int32 := if x1 = 0 then ((σ 2 0)) else if x1 = 1 then ((σ 2 1)) else if x1 = 2 then ((σ 2 2)) else if x1 = 3 then ((σ 6 6)) else if x1 = 4 then ((σ 6 7)) else if x1 = 5 then (let r1 := f_Pm_bit (σ 6 11); r1) else if x1 = 6 then (let r2 := f_Ds_presentMode σ; r2) else if x1 = 7 then (let r3 := f_Ds_rowsDoneOfPresent σ; r3) else if x1 = 8 then ((σ 11 (19 : Int32).toNatClampNeg)) else if x1 = 9 then ((σ 11 (20 : Int32).toNatClampNeg)) else if x1 = 10 then ((σ 6 5)) else if x1 = 11 then ((σ 15 (0 : Int32).toNatClampNeg)) else if x1 = 12 then ((σ 15 (1 : Int32).toNatClampNeg)) else if x1 = 13 then (let r4 := f_Pm_bit (σ 7 4); r4) else if x1 = 14 then ((σ 5 1)) else if x1 = 15 then ((σ 5 2)) else if x1 = 16 then ((σ 5 3)) else if x1 = 17 then (let r5 := f_Pm_bit (σ 8 8); r5) else if x1 = 18 then ((σ 8 7)) else if x1 = 19 then ((σ 8 3)) else if x1 = 20 then (let r6 := f_Pm_bit (σ 8 4); r6) else ((-1))
def f_Pm_state (σ : Sg) (x1 : Int32) : Int32 := let v7 := (f_Pm_state_r1 σ x1); v7
set_option maxHeartbeats 1000000 in
set_option maxRecDepth 100000 in
theorem c_Pm_state (l : Launch) (D : va_G) (cI : ClassId) (ad : Nat → Nat) (σ : Sg) (x1 : Int32) : Met l y_Pm_state (Cond.code y_Pm_state b_Pm_state 2 (some .int) :: al) { frames := 2, cells := 0, slots := 0, locals := 40 } (Px D cI (wC cI ad) (AC ad) σ [.ref (ad 0), .int x1]) (va_Qi (fun r u => r = f_Pm_state σ x1 ∧ u = σ) (Bx D cI (wC cI ad) (AC ad)) (AC ad)) 0 0 (AC ad) := by
  refine Mx l (by decide) (Nat.le_of_ble_eq_true rfl) ?_
  intro p e s m below meth c ls F w hr hlk hl
  have F : CallFix p m c b_Pm_state 2 s _ al "PictureMachine" := F
  have hl : lv_has ls 2 [(0, .ref (ad 0)), (1, .int x1)] := hl
  have hcs : (0 : Nat) ≤ 0 ∧ (0 : Nat) ≤ 0 := ⟨Nat.le_refl _, Nat.le_refl _⟩
  refine lv_iload_n (pc := 0) F.1 F.2.1 d_Pm_state_0 rfl (lv_at hl 1 rfl) ?_
  refine cutW (α := Int32) (fun x H locs ls => x = f_Pm_state_r1 σ x1 ∧ Wx D cI (wC cI ad) (AC ad) (AC ad) s s.heap H locs σ ∧ lv_has ls 2 [(0, .ref (ad 0)), (1, .int x1)]) (fun x ls => F0 m 390 ls [.int x]) ?_ (fun k1 => ?_)
  · rintro v7 H locs ls ⟨ex, w, hl⟩
    have e_v7 := ex
    have w : Wx D cI (wC cI ad) (AC ad) (AC ad) s s.heap H locs σ := w
    have hl : lv_has ls 2 [(0, .ref (ad 0)), (1, .int x1)] := hl
    show W _ _ _ _ _ _ _ _ _ _ _ _ _ _ _ (F0 m 390 ls [.int v7])
    exact Ki (pc := 390) F hr hlk w (by rw [e_v7]; exact Eq.symm (rfl)) d_Pm_state_390
  · by_cases h1_0 : x1 = 0
    · refine lv_tableIn (pc := 1) F.1 F.2.1 d_Pm_state_1 (tgt := 100) (by rw [h1_0]; decide) (by rw [h1_0]; decide) (by rw [h1_0]; rfl) (by decide) ?_
      refine lv_aload_n (pc := 100) F.1 F.2.1 d_Pm_state_100 rfl (lv_at hl 0 rfl) ?_
      refine gC0_0 (pc := 101) F w (F.2.2.2.2 _ m_319) d_Pm_state_101 ?_
      refine gNC1_0 (pc := 104) F w m_228 d_Pm_state_104 ?_
      refine gNC2_0 (pc := 107) F w m_39 d_Pm_state_107 ?_
      refine lv_goto (pc := 110) F.1 F.2.1 d_Pm_state_110 (tgt := 390) (by decide) ?_
      exact k1 (σ 2 0) _ _ _ ⟨(by exact Eq.symm (Eq.trans (if_pos h1_0) (rfl))), w, lv_sub hl [0, 1] rfl⟩
    by_cases h1_1 : x1 = 1
    · refine lv_tableIn (pc := 1) F.1 F.2.1 d_Pm_state_1 (tgt := 113) (by rw [h1_1]; decide) (by rw [h1_1]; decide) (by rw [h1_1]; rfl) (by decide) ?_
      refine lv_aload_n (pc := 113) F.1 F.2.1 d_Pm_state_113 rfl (lv_at hl 0 rfl) ?_
      refine gC0_0 (pc := 114) F w (F.2.2.2.2 _ m_319) d_Pm_state_114 ?_
      refine gNC1_0 (pc := 117) F w m_228 d_Pm_state_117 ?_
      refine gNC2_1 (pc := 120) F w m_42 d_Pm_state_120 ?_
      refine lv_goto (pc := 123) F.1 F.2.1 d_Pm_state_123 (tgt := 390) (by decide) ?_
      exact k1 (σ 2 1) _ _ _ ⟨(by exact Eq.symm (Eq.trans (if_neg h1_0) (Eq.trans (if_pos h1_1) (rfl)))), w, lv_sub hl [0, 1] rfl⟩
    by_cases h1_2 : x1 = 2
    · refine lv_tableIn (pc := 1) F.1 F.2.1 d_Pm_state_1 (tgt := 126) (by rw [h1_2]; decide) (by rw [h1_2]; decide) (by rw [h1_2]; rfl) (by decide) ?_
      refine lv_aload_n (pc := 126) F.1 F.2.1 d_Pm_state_126 rfl (lv_at hl 0 rfl) ?_
      refine gC0_0 (pc := 127) F w (F.2.2.2.2 _ m_319) d_Pm_state_127 ?_
      refine gNC1_0 (pc := 130) F w m_228 d_Pm_state_130 ?_
      refine gNC2_2 (pc := 133) F w m_44 d_Pm_state_133 ?_
      refine lv_goto (pc := 136) F.1 F.2.1 d_Pm_state_136 (tgt := 390) (by decide) ?_
      exact k1 (σ 2 2) _ _ _ ⟨(by exact Eq.symm (Eq.trans (if_neg h1_0) (Eq.trans (if_neg h1_1) (Eq.trans (if_pos h1_2) (rfl))))), w, lv_sub hl [0, 1] rfl⟩
    by_cases h1_3 : x1 = 3
    · refine lv_tableIn (pc := 1) F.1 F.2.1 d_Pm_state_1 (tgt := 139) (by rw [h1_3]; decide) (by rw [h1_3]; decide) (by rw [h1_3]; rfl) (by decide) ?_
      refine lv_aload_n (pc := 139) F.1 F.2.1 d_Pm_state_139 rfl (lv_at hl 0 rfl) ?_
      refine gC0_0 (pc := 140) F w (F.2.2.2.2 _ m_319) d_Pm_state_140 ?_
      refine gNC1_5 (pc := 143) F w m_240 d_Pm_state_143 ?_
      refine gNC6_6 (pc := 146) F w m_162 d_Pm_state_146 ?_
      refine lv_goto (pc := 149) F.1 F.2.1 d_Pm_state_149 (tgt := 390) (by decide) ?_
      exact k1 (σ 6 6) _ _ _ ⟨(by exact Eq.symm (Eq.trans (if_neg h1_0) (Eq.trans (if_neg h1_1) (Eq.trans (if_neg h1_2) (Eq.trans (if_pos h1_3) (rfl)))))), w, lv_sub hl [0, 1] rfl⟩
    by_cases h1_4 : x1 = 4
    · refine lv_tableIn (pc := 1) F.1 F.2.1 d_Pm_state_1 (tgt := 152) (by rw [h1_4]; decide) (by rw [h1_4]; decide) (by rw [h1_4]; rfl) (by decide) ?_
      refine lv_aload_n (pc := 152) F.1 F.2.1 d_Pm_state_152 rfl (lv_at hl 0 rfl) ?_
      refine gC0_0 (pc := 153) F w (F.2.2.2.2 _ m_319) d_Pm_state_153 ?_
      refine gNC1_5 (pc := 156) F w m_240 d_Pm_state_156 ?_
      refine gNC6_7 (pc := 159) F w m_163 d_Pm_state_159 ?_
      refine lv_goto (pc := 162) F.1 F.2.1 d_Pm_state_162 (tgt := 390) (by decide) ?_
      exact k1 (σ 6 7) _ _ _ ⟨(by exact Eq.symm (Eq.trans (if_neg h1_0) (Eq.trans (if_neg h1_1) (Eq.trans (if_neg h1_2) (Eq.trans (if_neg h1_3) (Eq.trans (if_pos h1_4) (rfl))))))), w, lv_sub hl [0, 1] rfl⟩
    by_cases h1_5 : x1 = 5
    · refine lv_tableIn (pc := 1) F.1 F.2.1 d_Pm_state_1 (tgt := 165) (by rw [h1_5]; decide) (by rw [h1_5]; decide) (by rw [h1_5]; rfl) (by decide) ?_
      refine lv_aload_n (pc := 165) F.1 F.2.1 d_Pm_state_165 rfl (lv_at hl 0 rfl) ?_
      refine gC0_0 (pc := 166) F w (F.2.2.2.2 _ m_319) d_Pm_state_166 ?_
      refine gNC1_5 (pc := 169) F w m_240 d_Pm_state_169 ?_
      refine gNC6_11 (pc := 172) F w m_169 d_Pm_state_172 ?_
      refine Usi (pc := 175) (As := [.int (σ 6 11)]) (rest := []) F (c_Pm_bit l (σ 6 11)) k_Pm_bit m_334 (Nat.le_of_ble_eq_true rfl) (Nat.le_of_ble_eq_true rfl) ⟨rfl, rfl⟩ rfl hl.1 rfl (Nat.le_of_ble_eq_true rfl) d_Pm_state_175 hcs (fun r1 e_r1 => ?_)
      refine lv_goto (pc := 178) F.1 F.2.1 d_Pm_state_178 (tgt := 390) (by decide) ?_
      exact k1 r1 _ _ _ ⟨(by rw [e_r1]; exact Eq.symm (Eq.trans (if_neg h1_0) (Eq.trans (if_neg h1_1) (Eq.trans (if_neg h1_2) (Eq.trans (if_neg h1_3) (Eq.trans (if_neg h1_4) (Eq.trans (if_pos h1_5) (rfl)))))))), w, lv_sub hl [0, 1] rfl⟩
    by_cases h1_6 : x1 = 6
    · refine lv_tableIn (pc := 1) F.1 F.2.1 d_Pm_state_1 (tgt := 181) (by rw [h1_6]; decide) (by rw [h1_6]; decide) (by rw [h1_6]; rfl) (by decide) ?_
      refine lv_aload_n (pc := 181) F.1 F.2.1 d_Pm_state_181 rfl (lv_at hl 0 rfl) ?_
      refine gC0_0 (pc := 182) F w (F.2.2.2.2 _ m_319) d_Pm_state_182 ?_
      refine gNC1_5 (pc := 185) F w m_240 d_Pm_state_185 ?_
      refine Kvi (pc := 188) (As := []) (rest := []) F w (c_Ds_presentMode l D cI ad σ) 6 rfl rfl k_Ds_presentMode m_341 (Nat.le_of_ble_eq_true rfl) (Nat.le_of_ble_eq_true rfl) ⟨rfl, rfl⟩ rfl hl.1 rfl (Nat.le_of_ble_eq_true rfl) d_Pm_state_188 hcs (fun r2 H locs e_r2 w => ?_)
      refine lv_goto (pc := 191) F.1 F.2.1 d_Pm_state_191 (tgt := 390) (by decide) ?_
      exact k1 r2 _ _ _ ⟨(by rw [e_r2]; exact Eq.symm (Eq.trans (if_neg h1_0) (Eq.trans (if_neg h1_1) (Eq.trans (if_neg h1_2) (Eq.trans (if_neg h1_3) (Eq.trans (if_neg h1_4) (Eq.trans (if_neg h1_5) (Eq.trans (if_pos h1_6) (rfl))))))))), w, lv_sub hl [0, 1] rfl⟩
    by_cases h1_7 : x1 = 7
    · refine lv_tableIn (pc := 1) F.1 F.2.1 d_Pm_state_1 (tgt := 194) (by rw [h1_7]; decide) (by rw [h1_7]; decide) (by rw [h1_7]; rfl) (by decide) ?_
      refine lv_aload_n (pc := 194) F.1 F.2.1 d_Pm_state_194 rfl (lv_at hl 0 rfl) ?_
      refine gC0_0 (pc := 195) F w (F.2.2.2.2 _ m_319) d_Pm_state_195 ?_
      refine gNC1_5 (pc := 198) F w m_240 d_Pm_state_198 ?_
      refine Kvi (pc := 201) (As := []) (rest := []) F w (c_Ds_rowsDoneOfPresent l D cI ad σ) 6 rfl rfl k_Ds_rowsDoneOfPresent m_353 (Nat.le_of_ble_eq_true rfl) (Nat.le_of_ble_eq_true rfl) ⟨rfl, rfl⟩ rfl hl.1 rfl (Nat.le_of_ble_eq_true rfl) d_Pm_state_201 hcs (fun r3 H locs e_r3 w => ?_)
      refine lv_goto (pc := 204) F.1 F.2.1 d_Pm_state_204 (tgt := 390) (by decide) ?_
      exact k1 r3 _ _ _ ⟨(by rw [e_r3]; exact Eq.symm (Eq.trans (if_neg h1_0) (Eq.trans (if_neg h1_1) (Eq.trans (if_neg h1_2) (Eq.trans (if_neg h1_3) (Eq.trans (if_neg h1_4) (Eq.trans (if_neg h1_5) (Eq.trans (if_neg h1_6) (Eq.trans (if_pos h1_7) (rfl)))))))))), w, lv_sub hl [0, 1] rfl⟩
    by_cases h1_8 : x1 = 8
    · refine lv_tableIn (pc := 1) F.1 F.2.1 d_Pm_state_1 (tgt := 207) (by rw [h1_8]; decide) (by rw [h1_8]; decide) (by rw [h1_8]; rfl) (by decide) ?_
      refine lv_aload_n (pc := 207) F.1 F.2.1 d_Pm_state_207 rfl (lv_at hl 0 rfl) ?_
      refine gC0_0 (pc := 208) F w (F.2.2.2.2 _ m_319) d_Pm_state_208 ?_
      refine gNC1_3 (pc := 211) F w m_236 d_Pm_state_211 ?_
      refine lv_bipush (pc := 214) (v := 19) F.1 F.2.1 d_Pm_state_214 (by decide) ?_
      refine lC11 (pc := 216) F w (by unfold vp_in; decide) d_Pm_state_216 ?_
      refine lv_goto (pc := 217) F.1 F.2.1 d_Pm_state_217 (tgt := 390) (by decide) ?_
      exact k1 (σ 11 (19 : Int32).toNatClampNeg) _ _ _ ⟨(by exact Eq.symm (Eq.trans (if_neg h1_0) (Eq.trans (if_neg h1_1) (Eq.trans (if_neg h1_2) (Eq.trans (if_neg h1_3) (Eq.trans (if_neg h1_4) (Eq.trans (if_neg h1_5) (Eq.trans (if_neg h1_6) (Eq.trans (if_neg h1_7) (Eq.trans (if_pos h1_8) (rfl))))))))))), w, lv_sub hl [0, 1] rfl⟩
    by_cases h1_9 : x1 = 9
    · refine lv_tableIn (pc := 1) F.1 F.2.1 d_Pm_state_1 (tgt := 220) (by rw [h1_9]; decide) (by rw [h1_9]; decide) (by rw [h1_9]; rfl) (by decide) ?_
      refine lv_aload_n (pc := 220) F.1 F.2.1 d_Pm_state_220 rfl (lv_at hl 0 rfl) ?_
      refine gC0_0 (pc := 221) F w (F.2.2.2.2 _ m_319) d_Pm_state_221 ?_
      refine gNC1_3 (pc := 224) F w m_236 d_Pm_state_224 ?_
      refine lv_bipush (pc := 227) (v := 20) F.1 F.2.1 d_Pm_state_227 (by decide) ?_
      refine lC11 (pc := 229) F w (by unfold vp_in; decide) d_Pm_state_229 ?_
      refine lv_goto (pc := 230) F.1 F.2.1 d_Pm_state_230 (tgt := 390) (by decide) ?_
      exact k1 (σ 11 (20 : Int32).toNatClampNeg) _ _ _ ⟨(by exact Eq.symm (Eq.trans (if_neg h1_0) (Eq.trans (if_neg h1_1) (Eq.trans (if_neg h1_2) (Eq.trans (if_neg h1_3) (Eq.trans (if_neg h1_4) (Eq.trans (if_neg h1_5) (Eq.trans (if_neg h1_6) (Eq.trans (if_neg h1_7) (Eq.trans (if_neg h1_8) (Eq.trans (if_pos h1_9) (rfl)))))))))))), w, lv_sub hl [0, 1] rfl⟩
    by_cases h1_10 : x1 = 10
    · refine lv_tableIn (pc := 1) F.1 F.2.1 d_Pm_state_1 (tgt := 233) (by rw [h1_10]; decide) (by rw [h1_10]; decide) (by rw [h1_10]; rfl) (by decide) ?_
      refine lv_aload_n (pc := 233) F.1 F.2.1 d_Pm_state_233 rfl (lv_at hl 0 rfl) ?_
      refine gC0_0 (pc := 234) F w (F.2.2.2.2 _ m_319) d_Pm_state_234 ?_
      refine gNC1_5 (pc := 237) F w m_240 d_Pm_state_237 ?_
      refine gNC6_5 (pc := 240) F w m_159 d_Pm_state_240 ?_
      refine lv_goto (pc := 243) F.1 F.2.1 d_Pm_state_243 (tgt := 390) (by decide) ?_
      exact k1 (σ 6 5) _ _ _ ⟨(by exact Eq.symm (Eq.trans (if_neg h1_0) (Eq.trans (if_neg h1_1) (Eq.trans (if_neg h1_2) (Eq.trans (if_neg h1_3) (Eq.trans (if_neg h1_4) (Eq.trans (if_neg h1_5) (Eq.trans (if_neg h1_6) (Eq.trans (if_neg h1_7) (Eq.trans (if_neg h1_8) (Eq.trans (if_neg h1_9) (Eq.trans (if_pos h1_10) (rfl))))))))))))), w, lv_sub hl [0, 1] rfl⟩
    by_cases h1_11 : x1 = 11
    · refine lv_tableIn (pc := 1) F.1 F.2.1 d_Pm_state_1 (tgt := 246) (by rw [h1_11]; decide) (by rw [h1_11]; decide) (by rw [h1_11]; rfl) (by decide) ?_
      refine lv_aload_n (pc := 246) F.1 F.2.1 d_Pm_state_246 rfl (lv_at hl 0 rfl) ?_
      refine gC0_0 (pc := 247) F w (F.2.2.2.2 _ m_319) d_Pm_state_247 ?_
      refine gNC1_6 (pc := 250) F w m_242 d_Pm_state_250 ?_
      refine gNC7_3 (pc := 253) F w m_212 d_Pm_state_253 ?_
      refine lv_iconst (pc := 256) (v := 0) F.1 F.2.1 d_Pm_state_256 (by decide) ?_
      refine lC15 (pc := 257) F w (by unfold vp_in; decide) d_Pm_state_257 ?_
      refine lv_goto (pc := 258) F.1 F.2.1 d_Pm_state_258 (tgt := 390) (by decide) ?_
      exact k1 (σ 15 (0 : Int32).toNatClampNeg) _ _ _ ⟨(by exact Eq.symm (Eq.trans (if_neg h1_0) (Eq.trans (if_neg h1_1) (Eq.trans (if_neg h1_2) (Eq.trans (if_neg h1_3) (Eq.trans (if_neg h1_4) (Eq.trans (if_neg h1_5) (Eq.trans (if_neg h1_6) (Eq.trans (if_neg h1_7) (Eq.trans (if_neg h1_8) (Eq.trans (if_neg h1_9) (Eq.trans (if_neg h1_10) (Eq.trans (if_pos h1_11) (rfl)))))))))))))), w, lv_sub hl [0, 1] rfl⟩
    by_cases h1_12 : x1 = 12
    · refine lv_tableIn (pc := 1) F.1 F.2.1 d_Pm_state_1 (tgt := 261) (by rw [h1_12]; decide) (by rw [h1_12]; decide) (by rw [h1_12]; rfl) (by decide) ?_
      refine lv_aload_n (pc := 261) F.1 F.2.1 d_Pm_state_261 rfl (lv_at hl 0 rfl) ?_
      refine gC0_0 (pc := 262) F w (F.2.2.2.2 _ m_319) d_Pm_state_262 ?_
      refine gNC1_6 (pc := 265) F w m_242 d_Pm_state_265 ?_
      refine gNC7_3 (pc := 268) F w m_212 d_Pm_state_268 ?_
      refine lv_iconst (pc := 271) (v := 1) F.1 F.2.1 d_Pm_state_271 (by decide) ?_
      refine lC15 (pc := 272) F w (by unfold vp_in; decide) d_Pm_state_272 ?_
      refine lv_goto (pc := 273) F.1 F.2.1 d_Pm_state_273 (tgt := 390) (by decide) ?_
      exact k1 (σ 15 (1 : Int32).toNatClampNeg) _ _ _ ⟨(by exact Eq.symm (Eq.trans (if_neg h1_0) (Eq.trans (if_neg h1_1) (Eq.trans (if_neg h1_2) (Eq.trans (if_neg h1_3) (Eq.trans (if_neg h1_4) (Eq.trans (if_neg h1_5) (Eq.trans (if_neg h1_6) (Eq.trans (if_neg h1_7) (Eq.trans (if_neg h1_8) (Eq.trans (if_neg h1_9) (Eq.trans (if_neg h1_10) (Eq.trans (if_neg h1_11) (Eq.trans (if_pos h1_12) (rfl))))))))))))))), w, lv_sub hl [0, 1] rfl⟩
    by_cases h1_13 : x1 = 13
    · refine lv_tableIn (pc := 1) F.1 F.2.1 d_Pm_state_1 (tgt := 276) (by rw [h1_13]; decide) (by rw [h1_13]; decide) (by rw [h1_13]; rfl) (by decide) ?_
      refine lv_aload_n (pc := 276) F.1 F.2.1 d_Pm_state_276 rfl (lv_at hl 0 rfl) ?_
      refine gC0_0 (pc := 277) F w (F.2.2.2.2 _ m_319) d_Pm_state_277 ?_
      refine gNC1_6 (pc := 280) F w m_242 d_Pm_state_280 ?_
      refine gNC7_4 (pc := 283) F w m_215 d_Pm_state_283 ?_
      refine Usi (pc := 286) (As := [.int (σ 7 4)]) (rest := []) F (c_Pm_bit l (σ 7 4)) k_Pm_bit m_334 (Nat.le_of_ble_eq_true rfl) (Nat.le_of_ble_eq_true rfl) ⟨rfl, rfl⟩ rfl hl.1 rfl (Nat.le_of_ble_eq_true rfl) d_Pm_state_286 hcs (fun r4 e_r4 => ?_)
      refine lv_goto (pc := 289) F.1 F.2.1 d_Pm_state_289 (tgt := 390) (by decide) ?_
      exact k1 r4 _ _ _ ⟨(by rw [e_r4]; exact Eq.symm (Eq.trans (if_neg h1_0) (Eq.trans (if_neg h1_1) (Eq.trans (if_neg h1_2) (Eq.trans (if_neg h1_3) (Eq.trans (if_neg h1_4) (Eq.trans (if_neg h1_5) (Eq.trans (if_neg h1_6) (Eq.trans (if_neg h1_7) (Eq.trans (if_neg h1_8) (Eq.trans (if_neg h1_9) (Eq.trans (if_neg h1_10) (Eq.trans (if_neg h1_11) (Eq.trans (if_neg h1_12) (Eq.trans (if_pos h1_13) (rfl)))))))))))))))), w, lv_sub hl [0, 1] rfl⟩
    by_cases h1_14 : x1 = 14
    · refine lv_tableIn (pc := 1) F.1 F.2.1 d_Pm_state_1 (tgt := 292) (by rw [h1_14]; decide) (by rw [h1_14]; decide) (by rw [h1_14]; rfl) (by decide) ?_
      refine lv_aload_n (pc := 292) F.1 F.2.1 d_Pm_state_292 rfl (lv_at hl 0 rfl) ?_
      refine gC0_0 (pc := 293) F w (F.2.2.2.2 _ m_319) d_Pm_state_293 ?_
      refine gNC1_4 (pc := 296) F w m_238 d_Pm_state_296 ?_
      refine gNC5_1 (pc := 299) F w m_133 d_Pm_state_299 ?_
      refine lv_goto (pc := 302) F.1 F.2.1 d_Pm_state_302 (tgt := 390) (by decide) ?_
      exact k1 (σ 5 1) _ _ _ ⟨(by exact Eq.symm (Eq.trans (if_neg h1_0) (Eq.trans (if_neg h1_1) (Eq.trans (if_neg h1_2) (Eq.trans (if_neg h1_3) (Eq.trans (if_neg h1_4) (Eq.trans (if_neg h1_5) (Eq.trans (if_neg h1_6) (Eq.trans (if_neg h1_7) (Eq.trans (if_neg h1_8) (Eq.trans (if_neg h1_9) (Eq.trans (if_neg h1_10) (Eq.trans (if_neg h1_11) (Eq.trans (if_neg h1_12) (Eq.trans (if_neg h1_13) (Eq.trans (if_pos h1_14) (rfl))))))))))))))))), w, lv_sub hl [0, 1] rfl⟩
    by_cases h1_15 : x1 = 15
    · refine lv_tableIn (pc := 1) F.1 F.2.1 d_Pm_state_1 (tgt := 305) (by rw [h1_15]; decide) (by rw [h1_15]; decide) (by rw [h1_15]; rfl) (by decide) ?_
      refine lv_aload_n (pc := 305) F.1 F.2.1 d_Pm_state_305 rfl (lv_at hl 0 rfl) ?_
      refine gC0_0 (pc := 306) F w (F.2.2.2.2 _ m_319) d_Pm_state_306 ?_
      refine gNC1_4 (pc := 309) F w m_238 d_Pm_state_309 ?_
      refine gNC5_2 (pc := 312) F w m_135 d_Pm_state_312 ?_
      refine lv_goto (pc := 315) F.1 F.2.1 d_Pm_state_315 (tgt := 390) (by decide) ?_
      exact k1 (σ 5 2) _ _ _ ⟨(by exact Eq.symm (Eq.trans (if_neg h1_0) (Eq.trans (if_neg h1_1) (Eq.trans (if_neg h1_2) (Eq.trans (if_neg h1_3) (Eq.trans (if_neg h1_4) (Eq.trans (if_neg h1_5) (Eq.trans (if_neg h1_6) (Eq.trans (if_neg h1_7) (Eq.trans (if_neg h1_8) (Eq.trans (if_neg h1_9) (Eq.trans (if_neg h1_10) (Eq.trans (if_neg h1_11) (Eq.trans (if_neg h1_12) (Eq.trans (if_neg h1_13) (Eq.trans (if_neg h1_14) (Eq.trans (if_pos h1_15) (rfl)))))))))))))))))), w, lv_sub hl [0, 1] rfl⟩
    by_cases h1_16 : x1 = 16
    · refine lv_tableIn (pc := 1) F.1 F.2.1 d_Pm_state_1 (tgt := 318) (by rw [h1_16]; decide) (by rw [h1_16]; decide) (by rw [h1_16]; rfl) (by decide) ?_
      refine lv_aload_n (pc := 318) F.1 F.2.1 d_Pm_state_318 rfl (lv_at hl 0 rfl) ?_
      refine gC0_0 (pc := 319) F w (F.2.2.2.2 _ m_319) d_Pm_state_319 ?_
      refine gNC1_4 (pc := 322) F w m_238 d_Pm_state_322 ?_
      refine gNC5_3 (pc := 325) F w m_137 d_Pm_state_325 ?_
      refine lv_goto (pc := 328) F.1 F.2.1 d_Pm_state_328 (tgt := 390) (by decide) ?_
      exact k1 (σ 5 3) _ _ _ ⟨(by exact Eq.symm (Eq.trans (if_neg h1_0) (Eq.trans (if_neg h1_1) (Eq.trans (if_neg h1_2) (Eq.trans (if_neg h1_3) (Eq.trans (if_neg h1_4) (Eq.trans (if_neg h1_5) (Eq.trans (if_neg h1_6) (Eq.trans (if_neg h1_7) (Eq.trans (if_neg h1_8) (Eq.trans (if_neg h1_9) (Eq.trans (if_neg h1_10) (Eq.trans (if_neg h1_11) (Eq.trans (if_neg h1_12) (Eq.trans (if_neg h1_13) (Eq.trans (if_neg h1_14) (Eq.trans (if_neg h1_15) (Eq.trans (if_pos h1_16) (rfl))))))))))))))))))), w, lv_sub hl [0, 1] rfl⟩
    by_cases h1_17 : x1 = 17
    · refine lv_tableIn (pc := 1) F.1 F.2.1 d_Pm_state_1 (tgt := 331) (by rw [h1_17]; decide) (by rw [h1_17]; decide) (by rw [h1_17]; rfl) (by decide) ?_
      refine lv_aload_n (pc := 331) F.1 F.2.1 d_Pm_state_331 rfl (lv_at hl 0 rfl) ?_
      refine gC0_0 (pc := 332) F w (F.2.2.2.2 _ m_319) d_Pm_state_332 ?_
      refine gNC1_7 (pc := 335) F w m_244 d_Pm_state_335 ?_
      refine gNC8_8 (pc := 338) F w m_101 d_Pm_state_338 ?_
      refine Usi (pc := 341) (As := [.int (σ 8 8)]) (rest := []) F (c_Pm_bit l (σ 8 8)) k_Pm_bit m_334 (Nat.le_of_ble_eq_true rfl) (Nat.le_of_ble_eq_true rfl) ⟨rfl, rfl⟩ rfl hl.1 rfl (Nat.le_of_ble_eq_true rfl) d_Pm_state_341 hcs (fun r5 e_r5 => ?_)
      refine lv_goto (pc := 344) F.1 F.2.1 d_Pm_state_344 (tgt := 390) (by decide) ?_
      exact k1 r5 _ _ _ ⟨(by rw [e_r5]; exact Eq.symm (Eq.trans (if_neg h1_0) (Eq.trans (if_neg h1_1) (Eq.trans (if_neg h1_2) (Eq.trans (if_neg h1_3) (Eq.trans (if_neg h1_4) (Eq.trans (if_neg h1_5) (Eq.trans (if_neg h1_6) (Eq.trans (if_neg h1_7) (Eq.trans (if_neg h1_8) (Eq.trans (if_neg h1_9) (Eq.trans (if_neg h1_10) (Eq.trans (if_neg h1_11) (Eq.trans (if_neg h1_12) (Eq.trans (if_neg h1_13) (Eq.trans (if_neg h1_14) (Eq.trans (if_neg h1_15) (Eq.trans (if_neg h1_16) (Eq.trans (if_pos h1_17) (rfl)))))))))))))))))))), w, lv_sub hl [0, 1] rfl⟩
    by_cases h1_18 : x1 = 18
    · refine lv_tableIn (pc := 1) F.1 F.2.1 d_Pm_state_1 (tgt := 347) (by rw [h1_18]; decide) (by rw [h1_18]; decide) (by rw [h1_18]; rfl) (by decide) ?_
      refine lv_aload_n (pc := 347) F.1 F.2.1 d_Pm_state_347 rfl (lv_at hl 0 rfl) ?_
      refine gC0_0 (pc := 348) F w (F.2.2.2.2 _ m_319) d_Pm_state_348 ?_
      refine gNC1_7 (pc := 351) F w m_244 d_Pm_state_351 ?_
      refine gNC8_7 (pc := 354) F w m_98 d_Pm_state_354 ?_
      refine lv_goto (pc := 357) F.1 F.2.1 d_Pm_state_357 (tgt := 390) (by decide) ?_
      exact k1 (σ 8 7) _ _ _ ⟨(by exact Eq.symm (Eq.trans (if_neg h1_0) (Eq.trans (if_neg h1_1) (Eq.trans (if_neg h1_2) (Eq.trans (if_neg h1_3) (Eq.trans (if_neg h1_4) (Eq.trans (if_neg h1_5) (Eq.trans (if_neg h1_6) (Eq.trans (if_neg h1_7) (Eq.trans (if_neg h1_8) (Eq.trans (if_neg h1_9) (Eq.trans (if_neg h1_10) (Eq.trans (if_neg h1_11) (Eq.trans (if_neg h1_12) (Eq.trans (if_neg h1_13) (Eq.trans (if_neg h1_14) (Eq.trans (if_neg h1_15) (Eq.trans (if_neg h1_16) (Eq.trans (if_neg h1_17) (Eq.trans (if_pos h1_18) (rfl))))))))))))))))))))), w, lv_sub hl [0, 1] rfl⟩
    by_cases h1_19 : x1 = 19
    · refine lv_tableIn (pc := 1) F.1 F.2.1 d_Pm_state_1 (tgt := 360) (by rw [h1_19]; decide) (by rw [h1_19]; decide) (by rw [h1_19]; rfl) (by decide) ?_
      refine lv_aload_n (pc := 360) F.1 F.2.1 d_Pm_state_360 rfl (lv_at hl 0 rfl) ?_
      refine gC0_0 (pc := 361) F w (F.2.2.2.2 _ m_319) d_Pm_state_361 ?_
      refine gNC1_7 (pc := 364) F w m_244 d_Pm_state_364 ?_
      refine gNC8_3 (pc := 367) F w m_92 d_Pm_state_367 ?_
      refine lv_goto (pc := 370) F.1 F.2.1 d_Pm_state_370 (tgt := 390) (by decide) ?_
      exact k1 (σ 8 3) _ _ _ ⟨(by exact Eq.symm (Eq.trans (if_neg h1_0) (Eq.trans (if_neg h1_1) (Eq.trans (if_neg h1_2) (Eq.trans (if_neg h1_3) (Eq.trans (if_neg h1_4) (Eq.trans (if_neg h1_5) (Eq.trans (if_neg h1_6) (Eq.trans (if_neg h1_7) (Eq.trans (if_neg h1_8) (Eq.trans (if_neg h1_9) (Eq.trans (if_neg h1_10) (Eq.trans (if_neg h1_11) (Eq.trans (if_neg h1_12) (Eq.trans (if_neg h1_13) (Eq.trans (if_neg h1_14) (Eq.trans (if_neg h1_15) (Eq.trans (if_neg h1_16) (Eq.trans (if_neg h1_17) (Eq.trans (if_neg h1_18) (Eq.trans (if_pos h1_19) (rfl)))))))))))))))))))))), w, lv_sub hl [0, 1] rfl⟩
    by_cases h1_20 : x1 = 20
    · refine lv_tableIn (pc := 1) F.1 F.2.1 d_Pm_state_1 (tgt := 373) (by rw [h1_20]; decide) (by rw [h1_20]; decide) (by rw [h1_20]; rfl) (by decide) ?_
      refine lv_aload_n (pc := 373) F.1 F.2.1 d_Pm_state_373 rfl (lv_at hl 0 rfl) ?_
      refine gC0_0 (pc := 374) F w (F.2.2.2.2 _ m_319) d_Pm_state_374 ?_
      refine gNC1_7 (pc := 377) F w m_244 d_Pm_state_377 ?_
      refine gNC8_4 (pc := 380) F w m_94 d_Pm_state_380 ?_
      refine Usi (pc := 383) (As := [.int (σ 8 4)]) (rest := []) F (c_Pm_bit l (σ 8 4)) k_Pm_bit m_334 (Nat.le_of_ble_eq_true rfl) (Nat.le_of_ble_eq_true rfl) ⟨rfl, rfl⟩ rfl hl.1 rfl (Nat.le_of_ble_eq_true rfl) d_Pm_state_383 hcs (fun r6 e_r6 => ?_)
      refine lv_goto (pc := 386) F.1 F.2.1 d_Pm_state_386 (tgt := 390) (by decide) ?_
      exact k1 r6 _ _ _ ⟨(by rw [e_r6]; exact Eq.symm (Eq.trans (if_neg h1_0) (Eq.trans (if_neg h1_1) (Eq.trans (if_neg h1_2) (Eq.trans (if_neg h1_3) (Eq.trans (if_neg h1_4) (Eq.trans (if_neg h1_5) (Eq.trans (if_neg h1_6) (Eq.trans (if_neg h1_7) (Eq.trans (if_neg h1_8) (Eq.trans (if_neg h1_9) (Eq.trans (if_neg h1_10) (Eq.trans (if_neg h1_11) (Eq.trans (if_neg h1_12) (Eq.trans (if_neg h1_13) (Eq.trans (if_neg h1_14) (Eq.trans (if_neg h1_15) (Eq.trans (if_neg h1_16) (Eq.trans (if_neg h1_17) (Eq.trans (if_neg h1_18) (Eq.trans (if_neg h1_19) (Eq.trans (if_pos h1_20) (rfl))))))))))))))))))))))), w, lv_sub hl [0, 1] rfl⟩
    refine lv_tableOut (pc := 1) F.1 F.2.1 d_Pm_state_1 (tgt := 389) (by have q_h1_0 := lv_neT h1_0 (a := 0) rfl; have q_h1_1 := lv_neT h1_1 (a := 1) rfl; have q_h1_2 := lv_neT h1_2 (a := 2) rfl; have q_h1_3 := lv_neT h1_3 (a := 3) rfl; have q_h1_4 := lv_neT h1_4 (a := 4) rfl; have q_h1_5 := lv_neT h1_5 (a := 5) rfl; have q_h1_6 := lv_neT h1_6 (a := 6) rfl; have q_h1_7 := lv_neT h1_7 (a := 7) rfl; have q_h1_8 := lv_neT h1_8 (a := 8) rfl; have q_h1_9 := lv_neT h1_9 (a := 9) rfl; have q_h1_10 := lv_neT h1_10 (a := 10) rfl; have q_h1_11 := lv_neT h1_11 (a := 11) rfl; have q_h1_12 := lv_neT h1_12 (a := 12) rfl; have q_h1_13 := lv_neT h1_13 (a := 13) rfl; have q_h1_14 := lv_neT h1_14 (a := 14) rfl; have q_h1_15 := lv_neT h1_15 (a := 15) rfl; have q_h1_16 := lv_neT h1_16 (a := 16) rfl; have q_h1_17 := lv_neT h1_17 (a := 17) rfl; have q_h1_18 := lv_neT h1_18 (a := 18) rfl; have q_h1_19 := lv_neT h1_19 (a := 19) rfl; have q_h1_20 := lv_neT h1_20 (a := 20) rfl; omega) (by decide) ?_
    refine lv_iconst (pc := 389) (v := (-1)) F.1 F.2.1 d_Pm_state_389 (by decide) ?_
    exact k1 (-1) _ _ _ ⟨(by exact Eq.symm (Eq.trans (if_neg h1_0) (Eq.trans (if_neg h1_1) (Eq.trans (if_neg h1_2) (Eq.trans (if_neg h1_3) (Eq.trans (if_neg h1_4) (Eq.trans (if_neg h1_5) (Eq.trans (if_neg h1_6) (Eq.trans (if_neg h1_7) (Eq.trans (if_neg h1_8) (Eq.trans (if_neg h1_9) (Eq.trans (if_neg h1_10) (Eq.trans (if_neg h1_11) (Eq.trans (if_neg h1_12) (Eq.trans (if_neg h1_13) (Eq.trans (if_neg h1_14) (Eq.trans (if_neg h1_15) (Eq.trans (if_neg h1_16) (Eq.trans (if_neg h1_17) (Eq.trans (if_neg h1_18) (Eq.trans (if_neg h1_19) (Eq.trans (if_neg h1_20) (rfl))))))))))))))))))))))), w, lv_sub hl [0, 1] rfl⟩
