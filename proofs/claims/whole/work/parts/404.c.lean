def f_Mo_fetches_r58 (σ : Sg) : Int32 × Sg := if (σ 0 26) = 0 then ((0, σ)) else (let r1 := (f_Mo_addressed σ).1; let s2 := (f_Mo_addressed σ).2; if r1 = 0 then ((0, s2)) else ((1, s2)))
def f_Mo_fetches_r78 (σ : Sg) (r5 : Int32) : Int32 := if r5 = 0 then (0) else (let r6 := f_Mo_in (σ 0 27) 2 4; if r6 = 0 then (0) else (let r7 := f_Mo_in (σ 0 5) 4 19; if r7 = 0 then (0) else (1)))
def f_Mo_fetches_r58_2 (σ : Sg) : Int32 × Sg := if (σ 0 26) = 0 then ((0, σ)) else (let r15 := (f_Mo_addressed σ).1; let s16 := (f_Mo_addressed σ).2; if r15 = 0 then ((0, s16)) else ((1, s16)))
def f_Mo_fetches (σ : Sg) : Int32 × Sg := if (σ 0 5) = 1 then (let r19 := f_Mo_hasRows σ; if r19 = 0 then (if (σ 0 23) = 0 then (let r20 := f_Mo_fetch σ (σ 0 20); let s21 := f_Mo_begin σ r20; (1, s21)) else ((0, σ))) else ((0, σ))) else (if (σ 0 5) = 2 then (let v3 := (f_Mo_fetches_r58 σ).1; let s4 := (f_Mo_fetches_r58 σ).2; (v3, s4)) else (if (σ 0 5) = 3 then (let v17 := (f_Mo_fetches_r58_2 σ).1; let s18 := (f_Mo_fetches_r58_2 σ).2; (v17, s18)) else (let r5 := f_Mo_hasRows σ; let v8 := (f_Mo_fetches_r78 σ r5); if v8 = 0 then ((0, σ)) else (if ((σ 0 5) - (σ 0 5) / 2 * 2) = 0 then (if (σ 0 28) = 0 then (let r11 := f_Mo_fetch σ (σ 0 21); let s12 := sf σ 3 (((σ 0 5) - 4) / 2).toNatClampNeg r11; let r13 := f_Mo_moved (s12 0 21); let s14 := sf s12 0 21 r13; (1, s14)) else ((0, σ))) else (if (σ 0 27) = 2 then (let r9 := f_Mo_fetch σ (((256 * (σ 2 (1 : Int32).toNatClampNeg)) + (4 * ((σ 3 (((σ 0 5) - 4) / 2).toNatClampNeg) &&& 63))) + (σ 0 28)); let s10 := sf σ 4 (((σ 0 5) - 4) / 2).toNatClampNeg r9; (1, s10)) else ((0, σ)))))))
theorem z_f_Mo_fetches_r58_0 (σ : Sg) : (f_Mo_fetches_r58 σ).1 = 0 ∨ (f_Mo_fetches_r58 σ).1 = 1 := by unfold f_Mo_fetches_r58; (try dsimp only); (repeat' split) <;> (try dsimp only) <;> first | (with_reducible exact Or.inl rfl) | (with_reducible exact Or.inr rfl) | (with_reducible apply z_Mo_addressed) | (with_reducible apply z_Mo_hasRows) | (with_reducible apply z_Mo_in) | exact Or.inl rfl | exact Or.inr rfl | apply z_Mo_addressed | apply z_Mo_hasRows | apply z_Mo_in
theorem z_f_Mo_fetches_r78_0 (σ : Sg) (r5 : Int32) : (f_Mo_fetches_r78 σ r5) = 0 ∨ (f_Mo_fetches_r78 σ r5) = 1 := by unfold f_Mo_fetches_r78; (try dsimp only); (repeat' split) <;> (try dsimp only) <;> first | (with_reducible exact Or.inl rfl) | (with_reducible exact Or.inr rfl) | (with_reducible apply z_f_Mo_fetches_r58_0) | (with_reducible apply z_Mo_addressed) | (with_reducible apply z_Mo_hasRows) | (with_reducible apply z_Mo_in) | exact Or.inl rfl | exact Or.inr rfl | apply z_f_Mo_fetches_r58_0 | apply z_Mo_addressed | apply z_Mo_hasRows | apply z_Mo_in
theorem z_f_Mo_fetches_r58_2_0 (σ : Sg) : (f_Mo_fetches_r58_2 σ).1 = 0 ∨ (f_Mo_fetches_r58_2 σ).1 = 1 := by unfold f_Mo_fetches_r58_2; (try dsimp only); (repeat' split) <;> (try dsimp only) <;> first | (with_reducible exact Or.inl rfl) | (with_reducible exact Or.inr rfl) | (with_reducible apply z_f_Mo_fetches_r78_0) | (with_reducible apply z_f_Mo_fetches_r58_0) | (with_reducible apply z_Mo_addressed) | (with_reducible apply z_Mo_hasRows) | (with_reducible apply z_Mo_in) | exact Or.inl rfl | exact Or.inr rfl | apply z_f_Mo_fetches_r78_0 | apply z_f_Mo_fetches_r58_0 | apply z_Mo_addressed | apply z_Mo_hasRows | apply z_Mo_in
theorem z_Mo_fetches (σ : Sg) : (f_Mo_fetches σ ).1 = 0 ∨ (f_Mo_fetches σ ).1 = 1 := by unfold f_Mo_fetches; (try dsimp only); (repeat' split) <;> (try dsimp only) <;> first | (with_reducible exact Or.inl rfl) | (with_reducible exact Or.inr rfl) | (with_reducible apply z_f_Mo_fetches_r58_2_0) | (with_reducible apply z_f_Mo_fetches_r78_0) | (with_reducible apply z_f_Mo_fetches_r58_0) | (with_reducible apply z_Mo_addressed) | (with_reducible apply z_Mo_hasRows) | (with_reducible apply z_Mo_in) | exact Or.inl rfl | exact Or.inr rfl | apply z_f_Mo_fetches_r58_2_0 | apply z_f_Mo_fetches_r78_0 | apply z_f_Mo_fetches_r58_0 | apply z_Mo_addressed | apply z_Mo_hasRows | apply z_Mo_in
theorem fe_in {σ : Sg} {r v : Int32} (e : v = f_Mo_fetches_r78 σ r) (h : ¬ v = 0) : vp_in (((σ 0 5) - 4) / 2) 8 := by
  rw [e] at h
  by_cases h1 : r = 0
  · exact absurd (show f_Mo_fetches_r78 σ r = 0 from if_pos h1) h
  by_cases h2 : f_Mo_in (σ 0 27) 2 4 = 0
  · exact absurd (show f_Mo_fetches_r78 σ r = 0 from (if_neg h1).trans (if_pos h2)) h
  by_cases h3 : f_Mo_in (σ 0 5) 4 19 = 0
  · exact absurd (show f_Mo_fetches_r78 σ r = 0 from (if_neg h1).trans ((if_neg h2).trans (if_pos h3))) h
  have q := in_ok h3
  rw [show (4 : Int32).toInt = 4 by decide, show (19 : Int32).toInt = 19 by decide] at q
  exact cy_in (by rw [ti_lt, show (3 : Int32).toInt = 3 by decide]; omega) (by rw [ti_le, show (19 : Int32).toInt = 19 by decide]; omega)
set_option maxHeartbeats 1000000 in
set_option maxRecDepth 100000 in
theorem c_Mo_fetches (l : Launch) (D : va_G) (cI : ClassId) (am : Nat → Nat) (σ : Sg) : Met l y_Mo_fetches (Cond.code y_Mo_fetches b_Mo_fetches 3 (some .boolean) :: al) { frames := 2, cells := 0, slots := 0, locals := 44 } (Px D cI (wM cI am) (AM am) σ [.ref (am 0)]) (va_Qi (fun r u => (r, u) = f_Mo_fetches σ ) (Bx D cI (wM cI am) (AM am)) (AM am)) 0 0 (AM am) := by
  refine Mx l (by decide) (Nat.le_of_ble_eq_true rfl) ?_
  intro p e s m below meth c ls F w hr hlk hl
  have F : CallFix p m c b_Mo_fetches 3 s _ al "PictureMachineModel" := F
  have hl : lv_has ls 3 [(0, .ref (am 0))] := hl
  have hcs : (0 : Nat) ≤ 0 ∧ (0 : Nat) ≤ 0 := ⟨Nat.le_refl _, Nat.le_refl _⟩
  refine lv_aload_n (pc := 0) F.1 F.2.1 d_Mo_fetches_0 rfl (lv_at hl 0 rfl) ?_
  refine gM0_5 (pc := 1) F w (F.2.2.2.2 _ m_780) d_Mo_fetches_1 ?_
  refine lv_iconst (pc := 4) (v := 1) F.1 F.2.1 d_Mo_fetches_4 (by decide) ?_
  refine lv_icmp_ne (pc := 5) F.1 F.2.1 d_Mo_fetches_5 (tgt := 38) (by decide) (fun h5 => ?_) (fun h5 => ?_)
  · refine lv_aload_n (pc := 38) F.1 F.2.1 d_Mo_fetches_38 rfl (lv_at hl 0 rfl) ?_
    refine gM0_5 (pc := 39) F w (F.2.2.2.2 _ m_780) d_Mo_fetches_39 ?_
    refine lv_iconst (pc := 42) (v := 2) F.1 F.2.1 d_Mo_fetches_42 (by decide) ?_
    refine lv_icmp_eq (pc := 43) F.1 F.2.1 d_Mo_fetches_43 (tgt := 54) (by decide) (fun h43 => ?_) (fun h43 => ?_)
    · refine lv_aload_n (pc := 54) F.1 F.2.1 d_Mo_fetches_54 rfl (lv_at hl 0 rfl) ?_
      refine gM0_26 (pc := 55) F w (F.2.2.2.2 _ m_801) d_Mo_fetches_55 ?_
      refine cutW (α := Int32 × Sg) (fun x H locs ls => x = f_Mo_fetches_r58 σ ∧ Wx D cI (wM cI am) (AM am) (AM am) s s.heap H locs x.2 ∧ lv_has ls 3 [(0, .ref (am 0))]) (fun x ls => F0 m 73 ls [.int (x.1)]) ?_ (fun k58 => ?_)
      · rintro ⟨v3, s4⟩ H locs ls ⟨ex, w, hl⟩
        have e_v3 : v3 = (f_Mo_fetches_r58 σ).1 := congrArg (fun z => z.1) ex
        have e_s4 : s4 = (f_Mo_fetches_r58 σ).2 := congrArg (fun z => z.2) ex
        clear ex
        have w : Wx D cI (wM cI am) (AM am) (AM am) s s.heap H locs s4 := w
        have hl : lv_has ls 3 [(0, .ref (am 0))] := hl
        show W _ _ _ _ _ _ _ _ _ _ _ _ _ _ _ (F0 m 73 ls [.int v3])
        exact Rz (pc := 73) F hr hlk w (e_v3 ▸ z_f_Mo_fetches_r58_0 σ) (by rw [e_s4, e_v3]; exact Eq.symm (Eq.trans (if_neg h5) (Eq.trans (if_pos h43) (rfl)))) d_Mo_fetches_73
      · refine lv_if_eq (pc := 58) F.1 F.2.1 d_Mo_fetches_58 (tgt := 72) (by decide) (fun h58 => ?_) (fun h58 => ?_)
        · refine lv_iconst (pc := 72) (v := 0) F.1 F.2.1 d_Mo_fetches_72 (by decide) ?_
          exact k58 (0, σ) _ _ _ ⟨(by exact Eq.symm (Eq.trans (if_pos h58) (rfl))), w, lv_sub hl [0] rfl⟩
        · refine lv_aload_n (pc := 61) F.1 F.2.1 d_Mo_fetches_61 rfl (lv_at hl 0 rfl) ?_
          refine Cvi (pc := 62) (As := []) (rest := []) F w (c_Mo_addressed l D cI am σ) 0 rfl rfl k_Mo_addressed m_977 (Nat.le_of_ble_eq_true rfl) (Nat.le_of_ble_eq_true rfl) ⟨rfl, rfl⟩ rfl hl.1 rfl (Nat.le_of_ble_eq_true rfl) d_Mo_fetches_62 hcs (fun r1 s2 H locs e_r1 e_s2 w => ?_)
          refine lv_if_eq (pc := 65) F.1 F.2.1 d_Mo_fetches_65 (tgt := 72) (by decide) (fun h65 => ?_) (fun h65 => ?_)
          · refine lv_iconst (pc := 72) (v := 0) F.1 F.2.1 d_Mo_fetches_72 (by decide) ?_
            exact k58 (0, s2) _ _ _ ⟨(by rw [e_r1] at h65; rw [e_s2]; exact Eq.symm (Eq.trans (if_neg h58) (Eq.trans (if_pos h65) (rfl)))), w, lv_sub hl [0] rfl⟩
          · refine lv_iconst (pc := 68) (v := 1) F.1 F.2.1 d_Mo_fetches_68 (by decide) ?_
            refine lv_goto (pc := 69) F.1 F.2.1 d_Mo_fetches_69 (tgt := 73) (by decide) ?_
            exact k58 (1, s2) _ _ _ ⟨(by rw [e_r1] at h65; rw [e_s2]; exact Eq.symm (Eq.trans (if_neg h58) (Eq.trans (if_neg h65) (rfl)))), w, lv_sub hl [0] rfl⟩
    · refine lv_aload_n (pc := 46) F.1 F.2.1 d_Mo_fetches_46 rfl (lv_at hl 0 rfl) ?_
      refine gM0_5 (pc := 47) F w (F.2.2.2.2 _ m_780) d_Mo_fetches_47 ?_
      refine lv_iconst (pc := 50) (v := 3) F.1 F.2.1 d_Mo_fetches_50 (by decide) ?_
      refine lv_icmp_ne (pc := 51) F.1 F.2.1 d_Mo_fetches_51 (tgt := 74) (by decide) (fun h51 => ?_) (fun h51 => ?_)
      · refine lv_aload_n (pc := 74) F.1 F.2.1 d_Mo_fetches_74 rfl (lv_at hl 0 rfl) ?_
        refine Kvi (pc := 75) (As := []) (rest := []) F w (c_Mo_hasRows l D cI am σ) 0 rfl rfl k_Mo_hasRows m_958 (Nat.le_of_ble_eq_true rfl) (Nat.le_of_ble_eq_true rfl) ⟨rfl, rfl⟩ rfl hl.1 rfl (Nat.le_of_ble_eq_true rfl) d_Mo_fetches_75 hcs (fun r5 H locs e_r5 w => ?_)
        refine cutW (α := Int32) (fun x H locs ls => x = f_Mo_fetches_r78 σ r5 ∧ Wx D cI (wM cI am) (AM am) (AM am) s s.heap H locs σ ∧ lv_has ls 3 [(0, .ref (am 0))]) (fun x ls => F0 m 111 ls [.int x]) ?_ (fun k78 => ?_)
        · rintro v8 H locs ls ⟨ex, w, hl⟩
          have e_v8 := ex
          have w : Wx D cI (wM cI am) (AM am) (AM am) s s.heap H locs σ := w
          have hl : lv_has ls 3 [(0, .ref (am 0))] := hl
          show W _ _ _ _ _ _ _ _ _ _ _ _ _ _ _ (F0 m 111 ls [.int v8])
          refine lv_istore_n (pc := 111) F.1 F.2.1 d_Mo_fetches_111 rfl hl (by decide) rfl (fun ls hl => ?_)
          have hl : lv_has ls 3 [(1, .int v8), (0, .ref (am 0))] := hl
          refine lv_aload_n (pc := 112) F.1 F.2.1 d_Mo_fetches_112 rfl (lv_at hl 1 rfl) ?_
          refine gM0_5 (pc := 113) F w (F.2.2.2.2 _ m_780) d_Mo_fetches_113 ?_
          refine lv_iconst (pc := 116) (v := 4) F.1 F.2.1 d_Mo_fetches_116 (by decide) ?_
          refine lv_isub (pc := 117) F.1 F.2.1 d_Mo_fetches_117 ?_
          refine lv_iconst (pc := 118) (v := 2) F.1 F.2.1 d_Mo_fetches_118 (by decide) ?_
          refine lv_idiv (pc := 119) F.1 F.2.1 d_Mo_fetches_119 (by decide) ?_
          refine lv_istore_n (pc := 120) F.1 F.2.1 d_Mo_fetches_120 rfl hl (by decide) rfl (fun ls hl => ?_)
          have hl : lv_has ls 3 [(2, .int (((σ 0 5) - 4) / 2)), (1, .int v8), (0, .ref (am 0))] := hl
          refine lv_iload_n (pc := 121) F.1 F.2.1 d_Mo_fetches_121 rfl (lv_at hl 1 rfl) ?_
          refine lv_if_eq (pc := 122) F.1 F.2.1 d_Mo_fetches_122 (tgt := 168) (by decide) (fun h122 => ?_) (fun h122 => ?_)
          · refine lv_iload_n (pc := 168) F.1 F.2.1 d_Mo_fetches_168 rfl (lv_at hl 1 rfl) ?_
            refine lv_if_eq (pc := 169) F.1 F.2.1 d_Mo_fetches_169 (tgt := 189) (by decide) (fun _ => ?_) (fun q => absurd h122 q)
            refine lv_iconst (pc := 189) (v := 0) F.1 F.2.1 d_Mo_fetches_189 (by decide) ?_
            exact Rz (pc := 190) F hr hlk w (Or.inl rfl) (by rw [e_v8, e_r5] at h122; exact Eq.symm (Eq.trans (if_neg h5) (Eq.trans (if_neg h43) (Eq.trans (if_neg h51) (Eq.trans (if_pos h122) (rfl)))))) d_Mo_fetches_190
          · refine lv_aload_n (pc := 125) F.1 F.2.1 d_Mo_fetches_125 rfl (lv_at hl 2 rfl) ?_
            refine gM0_5 (pc := 126) F w (F.2.2.2.2 _ m_780) d_Mo_fetches_126 ?_
            refine lv_iconst (pc := 129) (v := 2) F.1 F.2.1 d_Mo_fetches_129 (by decide) ?_
            refine lv_irem (pc := 130) F.1 F.2.1 d_Mo_fetches_130 (by decide) ?_
            refine lv_if_ne (pc := 131) F.1 F.2.1 d_Mo_fetches_131 (tgt := 168) (by decide) (fun h131 => ?_) (fun h131 => ?_)
            · refine lv_iload_n (pc := 168) F.1 F.2.1 d_Mo_fetches_168 rfl (lv_at hl 1 rfl) ?_
              refine lv_if_eq (pc := 169) F.1 F.2.1 d_Mo_fetches_169 (tgt := 189) (by decide) (fun q => absurd q h122) (fun _ => ?_)
              refine lv_aload_n (pc := 172) F.1 F.2.1 d_Mo_fetches_172 rfl (lv_at hl 2 rfl) ?_
              refine gM0_5 (pc := 173) F w (F.2.2.2.2 _ m_780) d_Mo_fetches_173 ?_
              refine lv_iconst (pc := 176) (v := 2) F.1 F.2.1 d_Mo_fetches_176 (by decide) ?_
              refine lv_irem (pc := 177) F.1 F.2.1 d_Mo_fetches_177 (by decide) ?_
              refine lv_if_eq (pc := 178) F.1 F.2.1 d_Mo_fetches_178 (tgt := 189) (by decide) (fun q => absurd q h131) (fun _ => ?_)
              refine lv_aload_n (pc := 181) F.1 F.2.1 d_Mo_fetches_181 rfl (lv_at hl 2 rfl) ?_
              refine gM0_27 (pc := 182) F w (F.2.2.2.2 _ m_802) d_Mo_fetches_182 ?_
              refine lv_iconst (pc := 185) (v := 2) F.1 F.2.1 d_Mo_fetches_185 (by decide) ?_
              refine lv_icmp_eq (pc := 186) F.1 F.2.1 d_Mo_fetches_186 (tgt := 191) (by decide) (fun h186 => ?_) (fun h186 => ?_)
              · refine lv_aload_n (pc := 191) F.1 F.2.1 d_Mo_fetches_191 rfl (lv_at hl 2 rfl) ?_
                refine gM0_32 (pc := 192) F w (F.2.2.2.2 _ m_807) d_Mo_fetches_192 ?_
                refine lv_iload_n (pc := 195) F.1 F.2.1 d_Mo_fetches_195 rfl (lv_at hl 0 rfl) ?_
                refine lv_aload_n (pc := 196) F.1 F.2.1 d_Mo_fetches_196 rfl (lv_at hl 2 rfl) ?_
                refine lv_sipush (pc := 197) (v := 256) F.1 F.2.1 d_Mo_fetches_197 (by decide) ?_
                refine lv_aload_n (pc := 200) F.1 F.2.1 d_Mo_fetches_200 rfl (lv_at hl 2 rfl) ?_
                refine gM0_2 (pc := 201) F w (F.2.2.2.2 _ m_777) d_Mo_fetches_201 ?_
                refine lv_iconst (pc := 204) (v := 1) F.1 F.2.1 d_Mo_fetches_204 (by decide) ?_
                refine lM2 (pc := 205) F w (by unfold vp_in; decide) d_Mo_fetches_205 ?_
                refine lv_imul (pc := 206) F.1 F.2.1 d_Mo_fetches_206 ?_
                refine lv_iconst (pc := 207) (v := 4) F.1 F.2.1 d_Mo_fetches_207 (by decide) ?_
                refine lv_aload_n (pc := 208) F.1 F.2.1 d_Mo_fetches_208 rfl (lv_at hl 2 rfl) ?_
                refine gM0_31 (pc := 209) F w (F.2.2.2.2 _ m_806) d_Mo_fetches_209 ?_
                refine lv_iload_n (pc := 212) F.1 F.2.1 d_Mo_fetches_212 rfl (lv_at hl 0 rfl) ?_
                refine lM3 (pc := 213) F w (fe_in e_v8 (by assumption)) d_Mo_fetches_213 ?_
                refine lv_bipush (pc := 214) (v := 63) F.1 F.2.1 d_Mo_fetches_214 (by decide) ?_
                refine lv_iand (pc := 216) F.1 F.2.1 d_Mo_fetches_216 ?_
                refine lv_imul (pc := 217) F.1 F.2.1 d_Mo_fetches_217 ?_
                refine lv_iadd (pc := 218) F.1 F.2.1 d_Mo_fetches_218 ?_
                refine lv_aload_n (pc := 219) F.1 F.2.1 d_Mo_fetches_219 rfl (lv_at hl 2 rfl) ?_
                refine gM0_28 (pc := 220) F w (F.2.2.2.2 _ m_803) d_Mo_fetches_220 ?_
                refine lv_iadd (pc := 223) F.1 F.2.1 d_Mo_fetches_223 ?_
                refine Kvi (pc := 224) (As := [.int (((256 * (σ 2 (1 : Int32).toNatClampNeg)) + (4 * ((σ 3 (((σ 0 5) - 4) / 2).toNatClampNeg) &&& 63))) + (σ 0 28))]) (rest := [.int (((σ 0 5) - 4) / 2), .ref (am 4)]) F w (c_Mo_fetch l D cI am σ (((256 * (σ 2 (1 : Int32).toNatClampNeg)) + (4 * ((σ 3 (((σ 0 5) - 4) / 2).toNatClampNeg) &&& 63))) + (σ 0 28))) 0 rfl rfl k_Mo_fetch m_962 (Nat.le_of_ble_eq_true rfl) (Nat.le_of_ble_eq_true rfl) ⟨rfl, rfl⟩ rfl hl.1 rfl (Nat.le_of_ble_eq_true rfl) d_Mo_fetches_224 hcs (fun r9 H locs e_r9 w => ?_)
                refine aM4 (pc := 227) F w (fe_in e_v8 (by assumption)) d_Mo_fetches_227 (fun H locs s10 e_s10 w => ?_)
                refine lv_iconst (pc := 228) (v := 1) F.1 F.2.1 d_Mo_fetches_228 (by decide) ?_
                exact Rz (pc := 229) F hr hlk w (Or.inr rfl) (by rw [e_v8, e_r5] at h122; rw [e_s10, e_r9]; exact Eq.symm (Eq.trans (if_neg h5) (Eq.trans (if_neg h43) (Eq.trans (if_neg h51) (Eq.trans (if_neg h122) (Eq.trans (if_neg h131) (Eq.trans (if_pos h186) (rfl)))))))) d_Mo_fetches_229
              · refine lv_iconst (pc := 189) (v := 0) F.1 F.2.1 d_Mo_fetches_189 (by decide) ?_
                exact Rz (pc := 190) F hr hlk w (Or.inl rfl) (by rw [e_v8, e_r5] at h122; exact Eq.symm (Eq.trans (if_neg h5) (Eq.trans (if_neg h43) (Eq.trans (if_neg h51) (Eq.trans (if_neg h122) (Eq.trans (if_neg h131) (Eq.trans (if_neg h186) (rfl)))))))) d_Mo_fetches_190
            · refine lv_aload_n (pc := 134) F.1 F.2.1 d_Mo_fetches_134 rfl (lv_at hl 2 rfl) ?_
              refine gM0_28 (pc := 135) F w (F.2.2.2.2 _ m_803) d_Mo_fetches_135 ?_
              refine lv_if_ne (pc := 138) F.1 F.2.1 d_Mo_fetches_138 (tgt := 168) (by decide) (fun h138 => ?_) (fun h138 => ?_)
              · refine lv_iload_n (pc := 168) F.1 F.2.1 d_Mo_fetches_168 rfl (lv_at hl 1 rfl) ?_
                refine lv_if_eq (pc := 169) F.1 F.2.1 d_Mo_fetches_169 (tgt := 189) (by decide) (fun q => absurd q h122) (fun _ => ?_)
                refine lv_aload_n (pc := 172) F.1 F.2.1 d_Mo_fetches_172 rfl (lv_at hl 2 rfl) ?_
                refine gM0_5 (pc := 173) F w (F.2.2.2.2 _ m_780) d_Mo_fetches_173 ?_
                refine lv_iconst (pc := 176) (v := 2) F.1 F.2.1 d_Mo_fetches_176 (by decide) ?_
                refine lv_irem (pc := 177) F.1 F.2.1 d_Mo_fetches_177 (by decide) ?_
                refine lv_if_eq (pc := 178) F.1 F.2.1 d_Mo_fetches_178 (tgt := 189) (by decide) (fun _ => ?_) (fun q => absurd h131 q)
                refine lv_iconst (pc := 189) (v := 0) F.1 F.2.1 d_Mo_fetches_189 (by decide) ?_
                exact Rz (pc := 190) F hr hlk w (Or.inl rfl) (by rw [e_v8, e_r5] at h122; exact Eq.symm (Eq.trans (if_neg h5) (Eq.trans (if_neg h43) (Eq.trans (if_neg h51) (Eq.trans (if_neg h122) (Eq.trans (if_pos h131) (Eq.trans (if_neg h138) (rfl)))))))) d_Mo_fetches_190
              · refine lv_aload_n (pc := 141) F.1 F.2.1 d_Mo_fetches_141 rfl (lv_at hl 2 rfl) ?_
                refine gM0_31 (pc := 142) F w (F.2.2.2.2 _ m_806) d_Mo_fetches_142 ?_
                refine lv_iload_n (pc := 145) F.1 F.2.1 d_Mo_fetches_145 rfl (lv_at hl 0 rfl) ?_
                refine lv_aload_n (pc := 146) F.1 F.2.1 d_Mo_fetches_146 rfl (lv_at hl 2 rfl) ?_
                refine lv_aload_n (pc := 147) F.1 F.2.1 d_Mo_fetches_147 rfl (lv_at hl 2 rfl) ?_
                refine gM0_21 (pc := 148) F w (F.2.2.2.2 _ m_796) d_Mo_fetches_148 ?_
                refine Kvi (pc := 151) (As := [.int (σ 0 21)]) (rest := [.int (((σ 0 5) - 4) / 2), .ref (am 3)]) F w (c_Mo_fetch l D cI am σ (σ 0 21)) 0 rfl rfl k_Mo_fetch m_962 (Nat.le_of_ble_eq_true rfl) (Nat.le_of_ble_eq_true rfl) ⟨rfl, rfl⟩ rfl hl.1 rfl (Nat.le_of_ble_eq_true rfl) d_Mo_fetches_151 hcs (fun r11 H locs e_r11 w => ?_)
                refine aM3 (pc := 154) F w (fe_in e_v8 (by assumption)) d_Mo_fetches_154 (fun H locs s12 e_s12 w => ?_)
                refine lv_aload_n (pc := 155) F.1 F.2.1 d_Mo_fetches_155 rfl (lv_at hl 2 rfl) ?_
                refine lv_aload_n (pc := 156) F.1 F.2.1 d_Mo_fetches_156 rfl (lv_at hl 2 rfl) ?_
                refine gM0_21 (pc := 157) F w (F.2.2.2.2 _ m_796) d_Mo_fetches_157 ?_
                refine Usi (pc := 160) (As := [.int (s12 0 21)]) (rest := [.ref (am 0)]) F (c_Mo_moved l (s12 0 21)) k_Mo_moved m_974 (Nat.le_of_ble_eq_true rfl) (Nat.le_of_ble_eq_true rfl) ⟨rfl, rfl⟩ rfl hl.1 rfl (Nat.le_of_ble_eq_true rfl) d_Mo_fetches_160 hcs (fun r13 e_r13 => ?_)
                refine pM0_21 (pc := 163) F w (F.2.2.2.2 _ m_796) d_Mo_fetches_163 (fun H locs s14 e_s14 w => ?_)
                refine lv_iconst (pc := 166) (v := 1) F.1 F.2.1 d_Mo_fetches_166 (by decide) ?_
                exact Rz (pc := 167) F hr hlk w (Or.inr rfl) (by rw [e_v8, e_r5] at h122; rw [e_s14, e_r13, e_s12, e_r11]; exact Eq.symm (Eq.trans (if_neg h5) (Eq.trans (if_neg h43) (Eq.trans (if_neg h51) (Eq.trans (if_neg h122) (Eq.trans (if_pos h131) (Eq.trans (if_pos h138) (rfl)))))))) d_Mo_fetches_167
        · refine lv_if_eq (pc := 78) F.1 F.2.1 d_Mo_fetches_78 (tgt := 110) (by decide) (fun h78 => ?_) (fun h78 => ?_)
          · refine lv_iconst (pc := 110) (v := 0) F.1 F.2.1 d_Mo_fetches_110 (by decide) ?_
            exact k78 0 _ _ _ ⟨(by exact Eq.symm (Eq.trans (if_pos h78) (rfl))), w, lv_sub hl [0] rfl⟩
          · refine lv_aload_n (pc := 81) F.1 F.2.1 d_Mo_fetches_81 rfl (lv_at hl 0 rfl) ?_
            refine gM0_27 (pc := 82) F w (F.2.2.2.2 _ m_802) d_Mo_fetches_82 ?_
            refine lv_iconst (pc := 85) (v := 2) F.1 F.2.1 d_Mo_fetches_85 (by decide) ?_
            refine lv_iconst (pc := 86) (v := 4) F.1 F.2.1 d_Mo_fetches_86 (by decide) ?_
            refine Usi (pc := 87) (As := [.int (σ 0 27), .int 2, .int 4]) (rest := []) F (c_Mo_in l (σ 0 27) 2 4) k_Mo_in m_931 (Nat.le_of_ble_eq_true rfl) (Nat.le_of_ble_eq_true rfl) ⟨rfl, rfl⟩ rfl hl.1 rfl (Nat.le_of_ble_eq_true rfl) d_Mo_fetches_87 hcs (fun r6 e_r6 => ?_)
            refine lv_if_eq (pc := 90) F.1 F.2.1 d_Mo_fetches_90 (tgt := 110) (by decide) (fun h90 => ?_) (fun h90 => ?_)
            · refine lv_iconst (pc := 110) (v := 0) F.1 F.2.1 d_Mo_fetches_110 (by decide) ?_
              exact k78 0 _ _ _ ⟨(by rw [e_r6] at h90; exact Eq.symm (Eq.trans (if_neg h78) (Eq.trans (if_pos h90) (rfl)))), w, lv_sub hl [0] rfl⟩
            · refine lv_aload_n (pc := 93) F.1 F.2.1 d_Mo_fetches_93 rfl (lv_at hl 0 rfl) ?_
              refine gM0_5 (pc := 94) F w (F.2.2.2.2 _ m_780) d_Mo_fetches_94 ?_
              refine lv_iconst (pc := 97) (v := 4) F.1 F.2.1 d_Mo_fetches_97 (by decide) ?_
              refine lv_bipush (pc := 98) (v := 19) F.1 F.2.1 d_Mo_fetches_98 (by decide) ?_
              refine Usi (pc := 100) (As := [.int (σ 0 5), .int 4, .int 19]) (rest := []) F (c_Mo_in l (σ 0 5) 4 19) k_Mo_in m_931 (Nat.le_of_ble_eq_true rfl) (Nat.le_of_ble_eq_true rfl) ⟨rfl, rfl⟩ rfl hl.1 rfl (Nat.le_of_ble_eq_true rfl) d_Mo_fetches_100 hcs (fun r7 e_r7 => ?_)
              refine lv_if_eq (pc := 103) F.1 F.2.1 d_Mo_fetches_103 (tgt := 110) (by decide) (fun h103 => ?_) (fun h103 => ?_)
              · refine lv_iconst (pc := 110) (v := 0) F.1 F.2.1 d_Mo_fetches_110 (by decide) ?_
                exact k78 0 _ _ _ ⟨(by rw [e_r6] at h90; rw [e_r7] at h103; exact Eq.symm (Eq.trans (if_neg h78) (Eq.trans (if_neg h90) (Eq.trans (if_pos h103) (rfl))))), w, lv_sub hl [0] rfl⟩
              · refine lv_iconst (pc := 106) (v := 1) F.1 F.2.1 d_Mo_fetches_106 (by decide) ?_
                refine lv_goto (pc := 107) F.1 F.2.1 d_Mo_fetches_107 (tgt := 111) (by decide) ?_
                exact k78 1 _ _ _ ⟨(by rw [e_r6] at h90; rw [e_r7] at h103; exact Eq.symm (Eq.trans (if_neg h78) (Eq.trans (if_neg h90) (Eq.trans (if_neg h103) (rfl))))), w, lv_sub hl [0] rfl⟩
      · refine lv_aload_n (pc := 54) F.1 F.2.1 d_Mo_fetches_54 rfl (lv_at hl 0 rfl) ?_
        refine gM0_26 (pc := 55) F w (F.2.2.2.2 _ m_801) d_Mo_fetches_55 ?_
        refine cutW (α := Int32 × Sg) (fun x H locs ls => x = f_Mo_fetches_r58_2 σ ∧ Wx D cI (wM cI am) (AM am) (AM am) s s.heap H locs x.2 ∧ lv_has ls 3 [(0, .ref (am 0))]) (fun x ls => F0 m 73 ls [.int (x.1)]) ?_ (fun k58 => ?_)
        · rintro ⟨v17, s18⟩ H locs ls ⟨ex, w, hl⟩
          have e_v17 : v17 = (f_Mo_fetches_r58_2 σ).1 := congrArg (fun z => z.1) ex
          have e_s18 : s18 = (f_Mo_fetches_r58_2 σ).2 := congrArg (fun z => z.2) ex
          clear ex
          have w : Wx D cI (wM cI am) (AM am) (AM am) s s.heap H locs s18 := w
          have hl : lv_has ls 3 [(0, .ref (am 0))] := hl
          show W _ _ _ _ _ _ _ _ _ _ _ _ _ _ _ (F0 m 73 ls [.int v17])
          exact Rz (pc := 73) F hr hlk w (e_v17 ▸ z_f_Mo_fetches_r58_2_0 σ) (by rw [e_s18, e_v17]; exact Eq.symm (Eq.trans (if_neg h5) (Eq.trans (if_neg h43) (Eq.trans (if_pos h51) (rfl))))) d_Mo_fetches_73
        · refine lv_if_eq (pc := 58) F.1 F.2.1 d_Mo_fetches_58 (tgt := 72) (by decide) (fun h58 => ?_) (fun h58 => ?_)
          · refine lv_iconst (pc := 72) (v := 0) F.1 F.2.1 d_Mo_fetches_72 (by decide) ?_
            exact k58 (0, σ) _ _ _ ⟨(by exact Eq.symm (Eq.trans (if_pos h58) (rfl))), w, lv_sub hl [0] rfl⟩
          · refine lv_aload_n (pc := 61) F.1 F.2.1 d_Mo_fetches_61 rfl (lv_at hl 0 rfl) ?_
            refine Cvi (pc := 62) (As := []) (rest := []) F w (c_Mo_addressed l D cI am σ) 0 rfl rfl k_Mo_addressed m_977 (Nat.le_of_ble_eq_true rfl) (Nat.le_of_ble_eq_true rfl) ⟨rfl, rfl⟩ rfl hl.1 rfl (Nat.le_of_ble_eq_true rfl) d_Mo_fetches_62 hcs (fun r15 s16 H locs e_r15 e_s16 w => ?_)
            refine lv_if_eq (pc := 65) F.1 F.2.1 d_Mo_fetches_65 (tgt := 72) (by decide) (fun h65 => ?_) (fun h65 => ?_)
            · refine lv_iconst (pc := 72) (v := 0) F.1 F.2.1 d_Mo_fetches_72 (by decide) ?_
              exact k58 (0, s16) _ _ _ ⟨(by rw [e_r15] at h65; rw [e_s16]; exact Eq.symm (Eq.trans (if_neg h58) (Eq.trans (if_pos h65) (rfl)))), w, lv_sub hl [0] rfl⟩
            · refine lv_iconst (pc := 68) (v := 1) F.1 F.2.1 d_Mo_fetches_68 (by decide) ?_
              refine lv_goto (pc := 69) F.1 F.2.1 d_Mo_fetches_69 (tgt := 73) (by decide) ?_
              exact k58 (1, s16) _ _ _ ⟨(by rw [e_r15] at h65; rw [e_s16]; exact Eq.symm (Eq.trans (if_neg h58) (Eq.trans (if_neg h65) (rfl)))), w, lv_sub hl [0] rfl⟩
  · refine lv_aload_n (pc := 8) F.1 F.2.1 d_Mo_fetches_8 rfl (lv_at hl 0 rfl) ?_
    refine Kvi (pc := 9) (As := []) (rest := []) F w (c_Mo_hasRows l D cI am σ) 0 rfl rfl k_Mo_hasRows m_958 (Nat.le_of_ble_eq_true rfl) (Nat.le_of_ble_eq_true rfl) ⟨rfl, rfl⟩ rfl hl.1 rfl (Nat.le_of_ble_eq_true rfl) d_Mo_fetches_9 hcs (fun r19 H locs e_r19 w => ?_)
    refine lv_if_ne (pc := 12) F.1 F.2.1 d_Mo_fetches_12 (tgt := 22) (by decide) (fun h12 => ?_) (fun h12 => ?_)
    · refine lv_iconst (pc := 22) (v := 0) F.1 F.2.1 d_Mo_fetches_22 (by decide) ?_
      exact Rz (pc := 23) F hr hlk w (Or.inl rfl) (by rw [e_r19] at h12; exact Eq.symm (Eq.trans (if_pos h5) (Eq.trans (if_neg h12) (rfl)))) d_Mo_fetches_23
    · refine lv_aload_n (pc := 15) F.1 F.2.1 d_Mo_fetches_15 rfl (lv_at hl 0 rfl) ?_
      refine gM0_23 (pc := 16) F w (F.2.2.2.2 _ m_798) d_Mo_fetches_16 ?_
      refine lv_if_eq (pc := 19) F.1 F.2.1 d_Mo_fetches_19 (tgt := 24) (by decide) (fun h19 => ?_) (fun h19 => ?_)
      · refine lv_aload_n (pc := 24) F.1 F.2.1 d_Mo_fetches_24 rfl (lv_at hl 0 rfl) ?_
        refine lv_aload_n (pc := 25) F.1 F.2.1 d_Mo_fetches_25 rfl (lv_at hl 0 rfl) ?_
        refine lv_aload_n (pc := 26) F.1 F.2.1 d_Mo_fetches_26 rfl (lv_at hl 0 rfl) ?_
        refine gM0_20 (pc := 27) F w (F.2.2.2.2 _ m_795) d_Mo_fetches_27 ?_
        refine Kvi (pc := 30) (As := [.int (σ 0 20)]) (rest := [.ref (am 0)]) F w (c_Mo_fetch l D cI am σ (σ 0 20)) 0 rfl rfl k_Mo_fetch m_962 (Nat.le_of_ble_eq_true rfl) (Nat.le_of_ble_eq_true rfl) ⟨rfl, rfl⟩ rfl hl.1 rfl (Nat.le_of_ble_eq_true rfl) d_Mo_fetches_30 hcs (fun r20 H locs e_r20 w => ?_)
        refine Cvv (pc := 33) (As := [.int r20]) (rest := []) F w (c_Mo_begin l D cI am σ r20) 0 rfl rfl k_Mo_begin m_970 (Nat.le_of_ble_eq_true rfl) (Nat.le_of_ble_eq_true rfl) ⟨rfl, rfl⟩ rfl hl.1 rfl (Nat.le_of_ble_eq_true rfl) d_Mo_fetches_33 hcs (fun s21 H locs e_s21 w => ?_)
        refine lv_iconst (pc := 36) (v := 1) F.1 F.2.1 d_Mo_fetches_36 (by decide) ?_
        exact Rz (pc := 37) F hr hlk w (Or.inr rfl) (by rw [e_r19] at h12; rw [e_s21, e_r20]; exact Eq.symm (Eq.trans (if_pos h5) (Eq.trans (if_pos h12) (Eq.trans (if_pos h19) (rfl))))) d_Mo_fetches_37
      · refine lv_iconst (pc := 22) (v := 0) F.1 F.2.1 d_Mo_fetches_22 (by decide) ?_
        exact Rz (pc := 23) F hr hlk w (Or.inl rfl) (by rw [e_r19] at h12; exact Eq.symm (Eq.trans (if_pos h5) (Eq.trans (if_pos h12) (Eq.trans (if_neg h19) (rfl))))) d_Mo_fetches_23
def f_Mo_displays_r4 (σ : Sg) : Sg := if (σ 0 5) = 0 then (if (σ 0 4) = 0 then (let s1 := sf σ 0 20 (((σ 2 (2 : Int32).toNatClampNeg) + (256 * (σ 2 (3 : Int32).toNatClampNeg))) &&& 1023); let s2 := sf s1 0 22 0; let s3 := sf s2 0 23 0; s3) else (σ)) else (σ)
def f_Mo_displays_r54 (s4 : Sg) : Sg := if (s4 0 5) = 1 then (let s5 := sf s4 0 26 0; s5) else (s4)
def f_Mo_displays_r68 (s6 : Sg) : Sg := if (s6 0 5) = 8 then (let s7 := f_Mo_asks s6; s7) else (s6)
def f_Mo_displays_r81 (s8 : Sg) : Sg := if (s8 0 5) = 22 then (let s9 := sf s8 0 15 0; s9) else (s8)
def f_Mo_displays_r95 (s10 : Sg) : Int32 := if (s10 0 5) = 20 then (1) else (if (s10 0 5) = 21 then (1) else (0))
def f_Mo_displays_r118 (s10 : Sg) (v11 : Int32) (r12 : Int32) : Int32 × Sg := if r12 = 0 then ((v11, s10)) else (if (s10 0 5) = 0 then (let r13 := f_Mo_fetch s10 (((256 * (s10 2 (4 : Int32).toNatClampNeg)) + (s10 0 4)) + 0); let s14 := sf s10 2 (19 : Int32).toNatClampNeg r13; (1, s14)) else (if (s10 0 5) = 23 then (let r15 := f_Mo_fetch s10 (((256 * (s10 2 (4 : Int32).toNatClampNeg)) + (s10 0 4)) + 16); let s16 := sf s10 2 (20 : Int32).toNatClampNeg r15; (1, s16)) else ((v11, s10))))
def f_Mo_displays_r195 (v17 : Int32) (s18 : Sg) (r19 : Int32) : Int32 × Sg := if r19 = 0 then (if v17 = 0 then ((0, s18)) else ((1, s18))) else (let r20 := (f_Mo_fetches s18).1; let s21 := (f_Mo_fetches s18).2; if r20 = 0 then (if v17 = 0 then ((0, s21)) else ((1, s21))) else ((1, s21)))
def f_Mo_displays (σ : Sg) : Int32 × Sg := let s4 := (f_Mo_displays_r4 σ); let s6 := (f_Mo_displays_r54 s4); let s8 := (f_Mo_displays_r68 s6); let s10 := (f_Mo_displays_r81 s8); let v11 := (f_Mo_displays_r95 s10); let r12 := f_Mo_control s10 1; let v17 := (f_Mo_displays_r118 s10 v11 r12).1; let s18 := (f_Mo_displays_r118 s10 v11 r12).2; let r19 := f_Mo_isPicture s18; let v22 := (f_Mo_displays_r195 v17 s18 r19).1; let s23 := (f_Mo_displays_r195 v17 s18 r19).2; (v22, s23)
theorem z_f_Mo_displays_r95_0 (s10 : Sg) : (f_Mo_displays_r95 s10) = 0 ∨ (f_Mo_displays_r95 s10) = 1 := by unfold f_Mo_displays_r95; (try dsimp only); (repeat' split) <;> (try dsimp only) <;> first | (with_reducible exact Or.inl rfl) | (with_reducible exact Or.inr rfl) | (with_reducible apply z_Mo_control) | (with_reducible apply z_Mo_fetches) | (with_reducible apply z_Mo_isPicture) | exact Or.inl rfl | exact Or.inr rfl | apply z_Mo_control | apply z_Mo_fetches | apply z_Mo_isPicture
theorem z_f_Mo_displays_r195_0 (v17 : Int32) (s18 : Sg) (r19 : Int32) : (f_Mo_displays_r195 v17 s18 r19).1 = 0 ∨ (f_Mo_displays_r195 v17 s18 r19).1 = 1 := by unfold f_Mo_displays_r195; (try dsimp only); (repeat' split) <;> (try dsimp only) <;> first | (with_reducible exact Or.inl rfl) | (with_reducible exact Or.inr rfl) | (with_reducible apply z_f_Mo_displays_r95_0) | (with_reducible apply z_Mo_control) | (with_reducible apply z_Mo_fetches) | (with_reducible apply z_Mo_isPicture) | exact Or.inl rfl | exact Or.inr rfl | apply z_f_Mo_displays_r95_0 | apply z_Mo_control | apply z_Mo_fetches | apply z_Mo_isPicture
theorem z_Mo_displays (σ : Sg) : (f_Mo_displays σ ).1 = 0 ∨ (f_Mo_displays σ ).1 = 1 := by unfold f_Mo_displays; dsimp only; exact z_f_Mo_displays_r195_0 _ _ _
set_option maxHeartbeats 1000000 in
set_option maxRecDepth 100000 in
theorem c_Mo_displays (l : Launch) (D : va_G) (cI : ClassId) (am : Nat → Nat) (σ : Sg) : Met l y_Mo_displays (Cond.code y_Mo_displays b_Mo_displays 2 (some .boolean) :: al) { frames := 3, cells := 0, slots := 0, locals := 66 } (Px D cI (wM cI am) (AM am) σ [.ref (am 0)]) (va_Qi (fun r u => (r, u) = f_Mo_displays σ ) (Bx D cI (wM cI am) (AM am)) (AM am)) 0 0 (AM am) := by
  refine Mx l (by decide) (Nat.le_of_ble_eq_true rfl) ?_
  intro p e s m below meth c ls F w hr hlk hl
  have F : CallFix p m c b_Mo_displays 2 s _ al "PictureMachineModel" := F
  have hl : lv_has ls 2 [(0, .ref (am 0))] := hl
  have hcs : (0 : Nat) ≤ 0 ∧ (0 : Nat) ≤ 0 := ⟨Nat.le_refl _, Nat.le_refl _⟩
  refine lv_aload_n (pc := 0) F.1 F.2.1 d_Mo_displays_0 rfl (lv_at hl 0 rfl) ?_
  refine gM0_5 (pc := 1) F w (F.2.2.2.2 _ m_780) d_Mo_displays_1 ?_
  refine cutW (α := Sg) (fun x H locs ls => x = f_Mo_displays_r4 σ ∧ Wx D cI (wM cI am) (AM am) (AM am) s s.heap H locs x ∧ lv_has ls 2 [(0, .ref (am 0))]) (fun x ls => F0 m 49 ls []) ?_ (fun k4 => ?_)
  · rintro s4 H locs ls ⟨ex, w, hl⟩
    have e_s4 := ex
    have w : Wx D cI (wM cI am) (AM am) (AM am) s s.heap H locs s4 := w
    have hl : lv_has ls 2 [(0, .ref (am 0))] := hl
    show W _ _ _ _ _ _ _ _ _ _ _ _ _ _ _ (F0 m 49 ls [])
    refine lv_aload_n (pc := 49) F.1 F.2.1 d_Mo_displays_49 rfl (lv_at hl 0 rfl) ?_
    refine gM0_5 (pc := 50) F w (F.2.2.2.2 _ m_780) d_Mo_displays_50 ?_
    refine lv_iconst (pc := 53) (v := 1) F.1 F.2.1 d_Mo_displays_53 (by decide) ?_
    refine cutW (α := Sg) (fun x H locs ls => x = f_Mo_displays_r54 s4 ∧ Wx D cI (wM cI am) (AM am) (AM am) s s.heap H locs x ∧ lv_has ls 2 [(0, .ref (am 0))]) (fun x ls => F0 m 62 ls []) ?_ (fun k54 => ?_)
    · rintro s6 H locs ls ⟨ex, w, hl⟩
      have e_s6 := ex
      have w : Wx D cI (wM cI am) (AM am) (AM am) s s.heap H locs s6 := w
      have hl : lv_has ls 2 [(0, .ref (am 0))] := hl
      show W _ _ _ _ _ _ _ _ _ _ _ _ _ _ _ (F0 m 62 ls [])
      refine lv_aload_n (pc := 62) F.1 F.2.1 d_Mo_displays_62 rfl (lv_at hl 0 rfl) ?_
      refine gM0_5 (pc := 63) F w (F.2.2.2.2 _ m_780) d_Mo_displays_63 ?_
      refine lv_bipush (pc := 66) (v := 8) F.1 F.2.1 d_Mo_displays_66 (by decide) ?_
      refine cutW (α := Sg) (fun x H locs ls => x = f_Mo_displays_r68 s6 ∧ Wx D cI (wM cI am) (AM am) (AM am) s s.heap H locs x ∧ lv_has ls 2 [(0, .ref (am 0))]) (fun x ls => F0 m 75 ls []) ?_ (fun k68 => ?_)
      · rintro s8 H locs ls ⟨ex, w, hl⟩
        have e_s8 := ex
        have w : Wx D cI (wM cI am) (AM am) (AM am) s s.heap H locs s8 := w
        have hl : lv_has ls 2 [(0, .ref (am 0))] := hl
        show W _ _ _ _ _ _ _ _ _ _ _ _ _ _ _ (F0 m 75 ls [])
        refine lv_aload_n (pc := 75) F.1 F.2.1 d_Mo_displays_75 rfl (lv_at hl 0 rfl) ?_
        refine gM0_5 (pc := 76) F w (F.2.2.2.2 _ m_780) d_Mo_displays_76 ?_
        refine lv_bipush (pc := 79) (v := 22) F.1 F.2.1 d_Mo_displays_79 (by decide) ?_
        refine cutW (α := Sg) (fun x H locs ls => x = f_Mo_displays_r81 s8 ∧ Wx D cI (wM cI am) (AM am) (AM am) s s.heap H locs x ∧ lv_has ls 2 [(0, .ref (am 0))]) (fun x ls => F0 m 89 ls []) ?_ (fun k81 => ?_)
        · rintro s10 H locs ls ⟨ex, w, hl⟩
          have e_s10 := ex
          have w : Wx D cI (wM cI am) (AM am) (AM am) s s.heap H locs s10 := w
          have hl : lv_has ls 2 [(0, .ref (am 0))] := hl
          show W _ _ _ _ _ _ _ _ _ _ _ _ _ _ _ (F0 m 89 ls [])
          refine lv_aload_n (pc := 89) F.1 F.2.1 d_Mo_displays_89 rfl (lv_at hl 0 rfl) ?_
          refine gM0_5 (pc := 90) F w (F.2.2.2.2 _ m_780) d_Mo_displays_90 ?_
          refine lv_bipush (pc := 93) (v := 20) F.1 F.2.1 d_Mo_displays_93 (by decide) ?_
          refine cutW (α := Int32) (fun x H locs ls => x = f_Mo_displays_r95 s10 ∧ Wx D cI (wM cI am) (AM am) (AM am) s s.heap H locs s10 ∧ lv_has ls 2 [(0, .ref (am 0))]) (fun x ls => F0 m 112 ls [.int x]) ?_ (fun k95 => ?_)
          · rintro v11 H locs ls ⟨ex, w, hl⟩
            have e_v11 := ex
            have w : Wx D cI (wM cI am) (AM am) (AM am) s s.heap H locs s10 := w
            have hl : lv_has ls 2 [(0, .ref (am 0))] := hl
            show W _ _ _ _ _ _ _ _ _ _ _ _ _ _ _ (F0 m 112 ls [.int v11])
            refine lv_istore_n (pc := 112) F.1 F.2.1 d_Mo_displays_112 rfl hl (by decide) rfl (fun ls hl => ?_)
            have hl : lv_has ls 2 [(1, .int v11), (0, .ref (am 0))] := hl
            refine lv_aload_n (pc := 113) F.1 F.2.1 d_Mo_displays_113 rfl (lv_at hl 1 rfl) ?_
            refine lv_iconst (pc := 114) (v := 1) F.1 F.2.1 d_Mo_displays_114 (by decide) ?_
            refine Kvi (pc := 115) (As := [.int 1]) (rest := []) F w (c_Mo_control l D cI am s10 1) 0 rfl rfl k_Mo_control m_954 (Nat.le_of_ble_eq_true rfl) (Nat.le_of_ble_eq_true rfl) ⟨rfl, rfl⟩ rfl hl.1 rfl (Nat.le_of_ble_eq_true rfl) d_Mo_displays_115 hcs (fun r12 H locs e_r12 w => ?_)
            refine cutW (α := Int32 × Sg) (fun x H locs ls => x = f_Mo_displays_r118 s10 v11 r12 ∧ Wx D cI (wM cI am) (AM am) (AM am) s s.heap H locs x.2 ∧ lv_has ls 2 [(0, .ref (am 0)), (1, .int (x.1))]) (fun x ls => F0 m 191 ls []) ?_ (fun k118 => ?_)
            · rintro ⟨v17, s18⟩ H locs ls ⟨ex, w, hl⟩
              have e_v17 : v17 = (f_Mo_displays_r118 s10 v11 r12).1 := congrArg (fun z => z.1) ex
              have e_s18 : s18 = (f_Mo_displays_r118 s10 v11 r12).2 := congrArg (fun z => z.2) ex
              clear ex
              have w : Wx D cI (wM cI am) (AM am) (AM am) s s.heap H locs s18 := w
              have hl : lv_has ls 2 [(0, .ref (am 0)), (1, .int v17)] := hl
              show W _ _ _ _ _ _ _ _ _ _ _ _ _ _ _ (F0 m 191 ls [])
              refine lv_aload_n (pc := 191) F.1 F.2.1 d_Mo_displays_191 rfl (lv_at hl 0 rfl) ?_
              refine Kvi (pc := 192) (As := []) (rest := []) F w (c_Mo_isPicture l D cI am s18) 0 rfl rfl k_Mo_isPicture m_950 (Nat.le_of_ble_eq_true rfl) (Nat.le_of_ble_eq_true rfl) ⟨rfl, rfl⟩ rfl hl.1 rfl (Nat.le_of_ble_eq_true rfl) d_Mo_displays_192 hcs (fun r19 H locs e_r19 w => ?_)
              refine cutW (α := Int32 × Sg) (fun x H locs ls => x = f_Mo_displays_r195 v17 s18 r19 ∧ Wx D cI (wM cI am) (AM am) (AM am) s s.heap H locs x.2 ∧ lv_has ls 2 [(0, .ref (am 0)), (1, .int v17)]) (fun x ls => F0 m 214 ls [.int (x.1)]) ?_ (fun k195 => ?_)
              · rintro ⟨v22, s23⟩ H locs ls ⟨ex, w, hl⟩
                have e_v22 : v22 = (f_Mo_displays_r195 v17 s18 r19).1 := congrArg (fun z => z.1) ex
                have e_s23 : s23 = (f_Mo_displays_r195 v17 s18 r19).2 := congrArg (fun z => z.2) ex
                clear ex
                have w : Wx D cI (wM cI am) (AM am) (AM am) s s.heap H locs s23 := w
                have hl : lv_has ls 2 [(0, .ref (am 0)), (1, .int v17)] := hl
                show W _ _ _ _ _ _ _ _ _ _ _ _ _ _ _ (F0 m 214 ls [.int v22])
                exact Rz (pc := 214) F hr hlk w (e_v22 ▸ z_f_Mo_displays_r195_0 v17 s18 r19) (by rw [e_s23, e_v22, e_r19, e_s18, e_v17, e_r12, e_v11, e_s10, e_s8, e_s6, e_s4]; exact Eq.symm (rfl)) d_Mo_displays_214
              · refine lv_if_eq (pc := 195) F.1 F.2.1 d_Mo_displays_195 (tgt := 205) (by decide) (fun h195 => ?_) (fun h195 => ?_)
                · refine lv_iload_n (pc := 205) F.1 F.2.1 d_Mo_displays_205 rfl (lv_at hl 1 rfl) ?_
                  refine lv_if_eq (pc := 206) F.1 F.2.1 d_Mo_displays_206 (tgt := 213) (by decide) (fun h206 => ?_) (fun h206 => ?_)
                  · refine lv_iconst (pc := 213) (v := 0) F.1 F.2.1 d_Mo_displays_213 (by decide) ?_
                    exact k195 (0, s18) _ _ _ ⟨(by exact Eq.symm (Eq.trans (if_pos h195) (Eq.trans (if_pos h206) (rfl)))), w, lv_sub hl [0, 1] rfl⟩
                  · refine lv_iconst (pc := 209) (v := 1) F.1 F.2.1 d_Mo_displays_209 (by decide) ?_
                    refine lv_goto (pc := 210) F.1 F.2.1 d_Mo_displays_210 (tgt := 214) (by decide) ?_
                    exact k195 (1, s18) _ _ _ ⟨(by exact Eq.symm (Eq.trans (if_pos h195) (Eq.trans (if_neg h206) (rfl)))), w, lv_sub hl [0, 1] rfl⟩
                · refine lv_aload_n (pc := 198) F.1 F.2.1 d_Mo_displays_198 rfl (lv_at hl 0 rfl) ?_
                  refine Cvi (pc := 199) (As := []) (rest := []) F w (c_Mo_fetches l D cI am s18) 0 rfl rfl k_Mo_fetches m_966 (Nat.le_of_ble_eq_true rfl) (Nat.le_of_ble_eq_true rfl) ⟨rfl, rfl⟩ rfl hl.1 rfl (Nat.le_of_ble_eq_true rfl) d_Mo_displays_199 hcs (fun r20 s21 H locs e_r20 e_s21 w => ?_)
                  refine lv_if_ne (pc := 202) F.1 F.2.1 d_Mo_displays_202 (tgt := 209) (by decide) (fun h202 => ?_) (fun h202 => ?_)
                  · refine lv_iconst (pc := 209) (v := 1) F.1 F.2.1 d_Mo_displays_209 (by decide) ?_
                    refine lv_goto (pc := 210) F.1 F.2.1 d_Mo_displays_210 (tgt := 214) (by decide) ?_
                    exact k195 (1, s21) _ _ _ ⟨(by rw [e_r20] at h202; rw [e_s21]; exact Eq.symm (Eq.trans (if_neg h195) (Eq.trans (if_neg h202) (rfl)))), w, lv_sub hl [0, 1] rfl⟩
                  · refine lv_iload_n (pc := 205) F.1 F.2.1 d_Mo_displays_205 rfl (lv_at hl 1 rfl) ?_
                    refine lv_if_eq (pc := 206) F.1 F.2.1 d_Mo_displays_206 (tgt := 213) (by decide) (fun h206 => ?_) (fun h206 => ?_)
                    · refine lv_iconst (pc := 213) (v := 0) F.1 F.2.1 d_Mo_displays_213 (by decide) ?_
                      exact k195 (0, s21) _ _ _ ⟨(by rw [e_r20] at h202; rw [e_s21]; exact Eq.symm (Eq.trans (if_neg h195) (Eq.trans (if_pos h202) (Eq.trans (if_pos h206) (rfl))))), w, lv_sub hl [0, 1] rfl⟩
                    · refine lv_iconst (pc := 209) (v := 1) F.1 F.2.1 d_Mo_displays_209 (by decide) ?_
                      refine lv_goto (pc := 210) F.1 F.2.1 d_Mo_displays_210 (tgt := 214) (by decide) ?_
                      exact k195 (1, s21) _ _ _ ⟨(by rw [e_r20] at h202; rw [e_s21]; exact Eq.symm (Eq.trans (if_neg h195) (Eq.trans (if_pos h202) (Eq.trans (if_neg h206) (rfl))))), w, lv_sub hl [0, 1] rfl⟩
            · refine lv_if_eq (pc := 118) F.1 F.2.1 d_Mo_displays_118 (tgt := 191) (by decide) (fun h118 => ?_) (fun h118 => ?_)
              · exact k118 (v11, s10) _ _ _ ⟨(by exact Eq.symm (Eq.trans (if_pos h118) (rfl))), w, lv_sub hl [1, 0] rfl⟩
              · refine lv_aload_n (pc := 121) F.1 F.2.1 d_Mo_displays_121 rfl (lv_at hl 1 rfl) ?_
                refine gM0_5 (pc := 122) F w (F.2.2.2.2 _ m_780) d_Mo_displays_122 ?_
                refine lv_if_eq (pc := 125) F.1 F.2.1 d_Mo_displays_125 (tgt := 137) (by decide) (fun h125 => ?_) (fun h125 => ?_)
                · refine lv_aload_n (pc := 137) F.1 F.2.1 d_Mo_displays_137 rfl (lv_at hl 1 rfl) ?_
                  refine gM0_2 (pc := 138) F w (F.2.2.2.2 _ m_777) d_Mo_displays_138 ?_
                  refine lv_aload_n (pc := 141) F.1 F.2.1 d_Mo_displays_141 rfl (lv_at hl 1 rfl) ?_
                  refine gM0_5 (pc := 142) F w (F.2.2.2.2 _ m_780) d_Mo_displays_142 ?_
                  refine lv_if_ne (pc := 145) F.1 F.2.1 d_Mo_displays_145 (tgt := 153) (by decide) (fun q => absurd h125 q) (fun _ => ?_)
                  refine lv_bipush (pc := 148) (v := 19) F.1 F.2.1 d_Mo_displays_148 (by decide) ?_
                  refine lv_goto (pc := 150) F.1 F.2.1 d_Mo_displays_150 (tgt := 155) (by decide) ?_
                  refine lv_aload_n (pc := 155) F.1 F.2.1 d_Mo_displays_155 rfl (lv_at hl 1 rfl) ?_
                  refine lv_sipush (pc := 156) (v := 256) F.1 F.2.1 d_Mo_displays_156 (by decide) ?_
                  refine lv_aload_n (pc := 159) F.1 F.2.1 d_Mo_displays_159 rfl (lv_at hl 1 rfl) ?_
                  refine gM0_2 (pc := 160) F w (F.2.2.2.2 _ m_777) d_Mo_displays_160 ?_
                  refine lv_iconst (pc := 163) (v := 4) F.1 F.2.1 d_Mo_displays_163 (by decide) ?_
                  refine lM2 (pc := 164) F w (by unfold vp_in; decide) d_Mo_displays_164 ?_
                  refine lv_imul (pc := 165) F.1 F.2.1 d_Mo_displays_165 ?_
                  refine lv_aload_n (pc := 166) F.1 F.2.1 d_Mo_displays_166 rfl (lv_at hl 1 rfl) ?_
                  refine gM0_4 (pc := 167) F w (F.2.2.2.2 _ m_779) d_Mo_displays_167 ?_
                  refine lv_iadd (pc := 170) F.1 F.2.1 d_Mo_displays_170 ?_
                  refine lv_aload_n (pc := 171) F.1 F.2.1 d_Mo_displays_171 rfl (lv_at hl 1 rfl) ?_
                  refine gM0_5 (pc := 172) F w (F.2.2.2.2 _ m_780) d_Mo_displays_172 ?_
                  refine lv_if_ne (pc := 175) F.1 F.2.1 d_Mo_displays_175 (tgt := 182) (by decide) (fun q => absurd h125 q) (fun _ => ?_)
                  refine lv_iconst (pc := 178) (v := 0) F.1 F.2.1 d_Mo_displays_178 (by decide) ?_
                  refine lv_goto (pc := 179) F.1 F.2.1 d_Mo_displays_179 (tgt := 184) (by decide) ?_
                  refine lv_iadd (pc := 184) F.1 F.2.1 d_Mo_displays_184 ?_
                  refine Kvi (pc := 185) (As := [.int (((256 * (s10 2 (4 : Int32).toNatClampNeg)) + (s10 0 4)) + 0)]) (rest := [.int 19, .ref (am 2)]) F w (c_Mo_fetch l D cI am s10 (((256 * (s10 2 (4 : Int32).toNatClampNeg)) + (s10 0 4)) + 0)) 0 rfl rfl k_Mo_fetch m_962 (Nat.le_of_ble_eq_true rfl) (Nat.le_of_ble_eq_true rfl) ⟨rfl, rfl⟩ rfl hl.1 rfl (Nat.le_of_ble_eq_true rfl) d_Mo_displays_185 hcs (fun r13 H locs e_r13 w => ?_)
                  refine aM2 (pc := 188) F w (by unfold vp_in; decide) d_Mo_displays_188 (fun H locs s14 e_s14 w => ?_)
                  refine lv_iconst (pc := 189) (v := 1) F.1 F.2.1 d_Mo_displays_189 (by decide) ?_
                  refine lv_istore_n (pc := 190) F.1 F.2.1 d_Mo_displays_190 rfl hl (by decide) rfl (fun ls hl => ?_)
                  have hl : lv_has ls 2 [(1, .int 1), (0, .ref (am 0))] := hl
                  exact k118 (1, s14) _ _ _ ⟨(by rw [e_s14, e_r13]; exact Eq.symm (Eq.trans (if_neg h118) (Eq.trans (if_pos h125) (rfl)))), w, lv_sub hl [1, 0] rfl⟩
                · refine lv_aload_n (pc := 128) F.1 F.2.1 d_Mo_displays_128 rfl (lv_at hl 1 rfl) ?_
                  refine gM0_5 (pc := 129) F w (F.2.2.2.2 _ m_780) d_Mo_displays_129 ?_
                  refine lv_bipush (pc := 132) (v := 23) F.1 F.2.1 d_Mo_displays_132 (by decide) ?_
                  refine lv_icmp_ne (pc := 134) F.1 F.2.1 d_Mo_displays_134 (tgt := 191) (by decide) (fun h134 => ?_) (fun h134 => ?_)
                  · exact k118 (v11, s10) _ _ _ ⟨(by exact Eq.symm (Eq.trans (if_neg h118) (Eq.trans (if_neg h125) (Eq.trans (if_neg h134) (rfl))))), w, lv_sub hl [1, 0] rfl⟩
                  · refine lv_aload_n (pc := 137) F.1 F.2.1 d_Mo_displays_137 rfl (lv_at hl 1 rfl) ?_
                    refine gM0_2 (pc := 138) F w (F.2.2.2.2 _ m_777) d_Mo_displays_138 ?_
                    refine lv_aload_n (pc := 141) F.1 F.2.1 d_Mo_displays_141 rfl (lv_at hl 1 rfl) ?_
                    refine gM0_5 (pc := 142) F w (F.2.2.2.2 _ m_780) d_Mo_displays_142 ?_
                    refine lv_if_ne (pc := 145) F.1 F.2.1 d_Mo_displays_145 (tgt := 153) (by decide) (fun _ => ?_) (fun q => absurd q h125)
                    refine lv_bipush (pc := 153) (v := 20) F.1 F.2.1 d_Mo_displays_153 (by decide) ?_
                    refine lv_aload_n (pc := 155) F.1 F.2.1 d_Mo_displays_155 rfl (lv_at hl 1 rfl) ?_
                    refine lv_sipush (pc := 156) (v := 256) F.1 F.2.1 d_Mo_displays_156 (by decide) ?_
                    refine lv_aload_n (pc := 159) F.1 F.2.1 d_Mo_displays_159 rfl (lv_at hl 1 rfl) ?_
                    refine gM0_2 (pc := 160) F w (F.2.2.2.2 _ m_777) d_Mo_displays_160 ?_
                    refine lv_iconst (pc := 163) (v := 4) F.1 F.2.1 d_Mo_displays_163 (by decide) ?_
                    refine lM2 (pc := 164) F w (by unfold vp_in; decide) d_Mo_displays_164 ?_
                    refine lv_imul (pc := 165) F.1 F.2.1 d_Mo_displays_165 ?_
                    refine lv_aload_n (pc := 166) F.1 F.2.1 d_Mo_displays_166 rfl (lv_at hl 1 rfl) ?_
                    refine gM0_4 (pc := 167) F w (F.2.2.2.2 _ m_779) d_Mo_displays_167 ?_
                    refine lv_iadd (pc := 170) F.1 F.2.1 d_Mo_displays_170 ?_
                    refine lv_aload_n (pc := 171) F.1 F.2.1 d_Mo_displays_171 rfl (lv_at hl 1 rfl) ?_
                    refine gM0_5 (pc := 172) F w (F.2.2.2.2 _ m_780) d_Mo_displays_172 ?_
                    refine lv_if_ne (pc := 175) F.1 F.2.1 d_Mo_displays_175 (tgt := 182) (by decide) (fun _ => ?_) (fun q => absurd q h125)
                    refine lv_bipush (pc := 182) (v := 16) F.1 F.2.1 d_Mo_displays_182 (by decide) ?_
                    refine lv_iadd (pc := 184) F.1 F.2.1 d_Mo_displays_184 ?_
                    refine Kvi (pc := 185) (As := [.int (((256 * (s10 2 (4 : Int32).toNatClampNeg)) + (s10 0 4)) + 16)]) (rest := [.int 20, .ref (am 2)]) F w (c_Mo_fetch l D cI am s10 (((256 * (s10 2 (4 : Int32).toNatClampNeg)) + (s10 0 4)) + 16)) 0 rfl rfl k_Mo_fetch m_962 (Nat.le_of_ble_eq_true rfl) (Nat.le_of_ble_eq_true rfl) ⟨rfl, rfl⟩ rfl hl.1 rfl (Nat.le_of_ble_eq_true rfl) d_Mo_displays_185 hcs (fun r15 H locs e_r15 w => ?_)
                    refine aM2 (pc := 188) F w (by unfold vp_in; decide) d_Mo_displays_188 (fun H locs s16 e_s16 w => ?_)
                    refine lv_iconst (pc := 189) (v := 1) F.1 F.2.1 d_Mo_displays_189 (by decide) ?_
                    refine lv_istore_n (pc := 190) F.1 F.2.1 d_Mo_displays_190 rfl hl (by decide) rfl (fun ls hl => ?_)
                    have hl : lv_has ls 2 [(1, .int 1), (0, .ref (am 0))] := hl
                    exact k118 (1, s16) _ _ _ ⟨(by rw [e_s16, e_r15]; exact Eq.symm (Eq.trans (if_neg h118) (Eq.trans (if_neg h125) (Eq.trans (if_pos h134) (rfl))))), w, lv_sub hl [1, 0] rfl⟩
          · refine lv_icmp_eq (pc := 95) F.1 F.2.1 d_Mo_displays_95 (tgt := 107) (by decide) (fun h95 => ?_) (fun h95 => ?_)
            · refine lv_iconst (pc := 107) (v := 1) F.1 F.2.1 d_Mo_displays_107 (by decide) ?_
              refine lv_goto (pc := 108) F.1 F.2.1 d_Mo_displays_108 (tgt := 112) (by decide) ?_
              exact k95 1 _ _ _ ⟨(by exact Eq.symm (Eq.trans (if_pos h95) (rfl))), w, lv_sub hl [0] rfl⟩
            · refine lv_aload_n (pc := 98) F.1 F.2.1 d_Mo_displays_98 rfl (lv_at hl 0 rfl) ?_
              refine gM0_5 (pc := 99) F w (F.2.2.2.2 _ m_780) d_Mo_displays_99 ?_
              refine lv_bipush (pc := 102) (v := 21) F.1 F.2.1 d_Mo_displays_102 (by decide) ?_
              refine lv_icmp_ne (pc := 104) F.1 F.2.1 d_Mo_displays_104 (tgt := 111) (by decide) (fun h104 => ?_) (fun h104 => ?_)
              · refine lv_iconst (pc := 111) (v := 0) F.1 F.2.1 d_Mo_displays_111 (by decide) ?_
                exact k95 0 _ _ _ ⟨(by exact Eq.symm (Eq.trans (if_neg h95) (Eq.trans (if_neg h104) (rfl)))), w, lv_sub hl [0] rfl⟩
              · refine lv_iconst (pc := 107) (v := 1) F.1 F.2.1 d_Mo_displays_107 (by decide) ?_
                refine lv_goto (pc := 108) F.1 F.2.1 d_Mo_displays_108 (tgt := 112) (by decide) ?_
                exact k95 1 _ _ _ ⟨(by exact Eq.symm (Eq.trans (if_neg h95) (Eq.trans (if_pos h104) (rfl)))), w, lv_sub hl [0] rfl⟩
        · refine lv_icmp_ne (pc := 81) F.1 F.2.1 d_Mo_displays_81 (tgt := 89) (by decide) (fun h81 => ?_) (fun h81 => ?_)
          · exact k81 s8 _ _ _ ⟨(by exact Eq.symm (Eq.trans (if_neg h81) (rfl))), w, lv_sub hl [0] rfl⟩
          · refine lv_aload_n (pc := 84) F.1 F.2.1 d_Mo_displays_84 rfl (lv_at hl 0 rfl) ?_
            refine lv_iconst (pc := 85) (v := 0) F.1 F.2.1 d_Mo_displays_85 (by decide) ?_
            refine pM0_15 (pc := 86) F w (Or.inl rfl) (F.2.2.2.2 _ m_790) d_Mo_displays_86 (fun H locs s9 e_s9 w => ?_)
            exact k81 s9 _ _ _ ⟨(by rw [e_s9]; exact Eq.symm (Eq.trans (if_pos h81) (rfl))), w, lv_sub hl [0] rfl⟩
      · refine lv_icmp_ne (pc := 68) F.1 F.2.1 d_Mo_displays_68 (tgt := 75) (by decide) (fun h68 => ?_) (fun h68 => ?_)
        · exact k68 s6 _ _ _ ⟨(by exact Eq.symm (Eq.trans (if_neg h68) (rfl))), w, lv_sub hl [0] rfl⟩
        · refine lv_aload_n (pc := 71) F.1 F.2.1 d_Mo_displays_71 rfl (lv_at hl 0 rfl) ?_
          refine Cvv (pc := 72) (As := []) (rest := []) F w (c_Mo_asks l D cI am s6) 0 rfl rfl k_Mo_asks m_946 (Nat.le_of_ble_eq_true rfl) (Nat.le_of_ble_eq_true rfl) ⟨rfl, rfl⟩ rfl hl.1 rfl (Nat.le_of_ble_eq_true rfl) d_Mo_displays_72 hcs (fun s7 H locs e_s7 w => ?_)
          exact k68 s7 _ _ _ ⟨(by rw [e_s7]; exact Eq.symm (Eq.trans (if_pos h68) (rfl))), w, lv_sub hl [0] rfl⟩
    · refine lv_icmp_ne (pc := 54) F.1 F.2.1 d_Mo_displays_54 (tgt := 62) (by decide) (fun h54 => ?_) (fun h54 => ?_)
      · exact k54 s4 _ _ _ ⟨(by exact Eq.symm (Eq.trans (if_neg h54) (rfl))), w, lv_sub hl [0] rfl⟩
      · refine lv_aload_n (pc := 57) F.1 F.2.1 d_Mo_displays_57 rfl (lv_at hl 0 rfl) ?_
        refine lv_iconst (pc := 58) (v := 0) F.1 F.2.1 d_Mo_displays_58 (by decide) ?_
        refine pM0_26 (pc := 59) F w (Or.inl rfl) (F.2.2.2.2 _ m_801) d_Mo_displays_59 (fun H locs s5 e_s5 w => ?_)
        exact k54 s5 _ _ _ ⟨(by rw [e_s5]; exact Eq.symm (Eq.trans (if_pos h54) (rfl))), w, lv_sub hl [0] rfl⟩
  · refine lv_if_ne (pc := 4) F.1 F.2.1 d_Mo_displays_4 (tgt := 49) (by decide) (fun h4 => ?_) (fun h4 => ?_)
    · exact k4 σ _ _ _ ⟨(by exact Eq.symm (Eq.trans (if_neg h4) (rfl))), w, lv_sub hl [0] rfl⟩
    · refine lv_aload_n (pc := 7) F.1 F.2.1 d_Mo_displays_7 rfl (lv_at hl 0 rfl) ?_
      refine gM0_4 (pc := 8) F w (F.2.2.2.2 _ m_779) d_Mo_displays_8 ?_
      refine lv_if_ne (pc := 11) F.1 F.2.1 d_Mo_displays_11 (tgt := 49) (by decide) (fun h11 => ?_) (fun h11 => ?_)
      · exact k4 σ _ _ _ ⟨(by exact Eq.symm (Eq.trans (if_pos h4) (Eq.trans (if_neg h11) (rfl)))), w, lv_sub hl [0] rfl⟩
      · refine lv_aload_n (pc := 14) F.1 F.2.1 d_Mo_displays_14 rfl (lv_at hl 0 rfl) ?_
        refine lv_aload_n (pc := 15) F.1 F.2.1 d_Mo_displays_15 rfl (lv_at hl 0 rfl) ?_
        refine gM0_2 (pc := 16) F w (F.2.2.2.2 _ m_777) d_Mo_displays_16 ?_
        refine lv_iconst (pc := 19) (v := 2) F.1 F.2.1 d_Mo_displays_19 (by decide) ?_
        refine lM2 (pc := 20) F w (by unfold vp_in; decide) d_Mo_displays_20 ?_
        refine lv_sipush (pc := 21) (v := 256) F.1 F.2.1 d_Mo_displays_21 (by decide) ?_
        refine lv_aload_n (pc := 24) F.1 F.2.1 d_Mo_displays_24 rfl (lv_at hl 0 rfl) ?_
        refine gM0_2 (pc := 25) F w (F.2.2.2.2 _ m_777) d_Mo_displays_25 ?_
        refine lv_iconst (pc := 28) (v := 3) F.1 F.2.1 d_Mo_displays_28 (by decide) ?_
        refine lM2 (pc := 29) F w (by unfold vp_in; decide) d_Mo_displays_29 ?_
        refine lv_imul (pc := 30) F.1 F.2.1 d_Mo_displays_30 ?_
        refine lv_iadd (pc := 31) F.1 F.2.1 d_Mo_displays_31 ?_
        refine lv_sipush (pc := 32) (v := 1023) F.1 F.2.1 d_Mo_displays_32 (by decide) ?_
        refine lv_iand (pc := 35) F.1 F.2.1 d_Mo_displays_35 ?_
        refine pM0_20 (pc := 36) F w (F.2.2.2.2 _ m_795) d_Mo_displays_36 (fun H locs s1 e_s1 w => ?_)
        refine lv_aload_n (pc := 39) F.1 F.2.1 d_Mo_displays_39 rfl (lv_at hl 0 rfl) ?_
        refine lv_iconst (pc := 40) (v := 0) F.1 F.2.1 d_Mo_displays_40 (by decide) ?_
        refine pM0_22 (pc := 41) F w (Or.inl rfl) (F.2.2.2.2 _ m_797) d_Mo_displays_41 (fun H locs s2 e_s2 w => ?_)
        refine lv_aload_n (pc := 44) F.1 F.2.1 d_Mo_displays_44 rfl (lv_at hl 0 rfl) ?_
        refine lv_iconst (pc := 45) (v := 0) F.1 F.2.1 d_Mo_displays_45 (by decide) ?_
        refine pM0_23 (pc := 46) F w (Or.inl rfl) (F.2.2.2.2 _ m_798) d_Mo_displays_46 (fun H locs s3 e_s3 w => ?_)
        exact k4 s3 _ _ _ ⟨(by rw [e_s3, e_s2, e_s1]; exact Eq.symm (Eq.trans (if_pos h4) (Eq.trans (if_pos h11) (rfl)))), w, lv_sub hl [0] rfl⟩
def f_Mo_numberOf_r34 (σ : Sg) (x1 : Int32) : Int32 := if (σ 0 27) = 2 then ((σ 4 (x1 / 4).toNatClampNeg)) else ((σ 3 (x1 / 4).toNatClampNeg))
def f_Mo_numberOf (σ : Sg) (x1 : Int32) : Int32 := let r1 := f_Mo_control σ 0; if r1 = 0 then (0) else (let r2 := f_Mo_hasRows σ; if r2 = 0 then (0) else (let r3 := f_Mo_in (σ 0 27) 2 4; if r3 = 0 then (0) else (let v4 := (f_Mo_numberOf_r34 σ x1); ((v4 >>> ((6 - (2 * (x1 - x1 / 4 * 4))) &&& 31)) &&& 3))))
set_option maxHeartbeats 1000000 in
set_option maxRecDepth 100000 in
theorem c_Mo_numberOf (l : Launch) (D : va_G) (cI : ClassId) (am : Nat → Nat) (σ : Sg) (x1 : Int32) (hq : bt2 0 x1 31) : Met l y_Mo_numberOf (Cond.code y_Mo_numberOf b_Mo_numberOf 3 (some .int) :: al) { frames := 1, cells := 0, slots := 0, locals := 22 } (Px D cI (wM cI am) (AM am) σ [.ref (am 0), .int x1]) (va_Qi (fun r u => r = f_Mo_numberOf σ x1 ∧ u = σ) (Bx D cI (wM cI am) (AM am)) (AM am)) 0 0 (AM am) := by
  refine Mx l (by decide) (Nat.le_of_ble_eq_true rfl) ?_
  intro p e s m below meth c ls F w hr hlk hl
  have F : CallFix p m c b_Mo_numberOf 3 s _ al "PictureMachineModel" := F
  have hl : lv_has ls 3 [(0, .ref (am 0)), (1, .int x1)] := hl
  have hcs : (0 : Nat) ≤ 0 ∧ (0 : Nat) ≤ 0 := ⟨Nat.le_refl _, Nat.le_refl _⟩
  refine lv_aload_n (pc := 0) F.1 F.2.1 d_Mo_numberOf_0 rfl (lv_at hl 0 rfl) ?_
  refine lv_iconst (pc := 1) (v := 0) F.1 F.2.1 d_Mo_numberOf_1 (by decide) ?_
  refine Kvi (pc := 2) (As := [.int 0]) (rest := []) F w (c_Mo_control l D cI am σ 0) 0 rfl rfl k_Mo_control m_954 (Nat.le_of_ble_eq_true rfl) (Nat.le_of_ble_eq_true rfl) ⟨rfl, rfl⟩ rfl hl.1 rfl (Nat.le_of_ble_eq_true rfl) d_Mo_numberOf_2 hcs (fun r1 H locs e_r1 w => ?_)
  refine lv_if_eq (pc := 5) F.1 F.2.1 d_Mo_numberOf_5 (tgt := 27) (by decide) (fun h5 => ?_) (fun h5 => ?_)
  · refine lv_iconst (pc := 27) (v := 0) F.1 F.2.1 d_Mo_numberOf_27 (by decide) ?_
    exact Ki (pc := 28) F hr hlk w (by rw [e_r1] at h5; exact Eq.symm (Eq.trans (if_pos h5) (rfl))) d_Mo_numberOf_28
  · refine lv_aload_n (pc := 8) F.1 F.2.1 d_Mo_numberOf_8 rfl (lv_at hl 0 rfl) ?_
    refine Kvi (pc := 9) (As := []) (rest := []) F w (c_Mo_hasRows l D cI am σ) 0 rfl rfl k_Mo_hasRows m_958 (Nat.le_of_ble_eq_true rfl) (Nat.le_of_ble_eq_true rfl) ⟨rfl, rfl⟩ rfl hl.1 rfl (Nat.le_of_ble_eq_true rfl) d_Mo_numberOf_9 hcs (fun r2 H locs e_r2 w => ?_)
    refine lv_if_eq (pc := 12) F.1 F.2.1 d_Mo_numberOf_12 (tgt := 27) (by decide) (fun h12 => ?_) (fun h12 => ?_)
    · refine lv_iconst (pc := 27) (v := 0) F.1 F.2.1 d_Mo_numberOf_27 (by decide) ?_
      exact Ki (pc := 28) F hr hlk w (by rw [e_r1] at h5; rw [e_r2] at h12; exact Eq.symm (Eq.trans (if_neg h5) (Eq.trans (if_pos h12) (rfl)))) d_Mo_numberOf_28
    · refine lv_aload_n (pc := 15) F.1 F.2.1 d_Mo_numberOf_15 rfl (lv_at hl 0 rfl) ?_
      refine gM0_27 (pc := 16) F w (F.2.2.2.2 _ m_802) d_Mo_numberOf_16 ?_
      refine lv_iconst (pc := 19) (v := 2) F.1 F.2.1 d_Mo_numberOf_19 (by decide) ?_
      refine lv_iconst (pc := 20) (v := 4) F.1 F.2.1 d_Mo_numberOf_20 (by decide) ?_
      refine Usi (pc := 21) (As := [.int (σ 0 27), .int 2, .int 4]) (rest := []) F (c_Mo_in l (σ 0 27) 2 4) k_Mo_in m_931 (Nat.le_of_ble_eq_true rfl) (Nat.le_of_ble_eq_true rfl) ⟨rfl, rfl⟩ rfl hl.1 rfl (Nat.le_of_ble_eq_true rfl) d_Mo_numberOf_21 hcs (fun r3 e_r3 => ?_)
      refine lv_if_ne (pc := 24) F.1 F.2.1 d_Mo_numberOf_24 (tgt := 29) (by decide) (fun h24 => ?_) (fun h24 => ?_)
      · refine lv_aload_n (pc := 29) F.1 F.2.1 d_Mo_numberOf_29 rfl (lv_at hl 0 rfl) ?_
        refine gM0_27 (pc := 30) F w (F.2.2.2.2 _ m_802) d_Mo_numberOf_30 ?_
        refine lv_iconst (pc := 33) (v := 2) F.1 F.2.1 d_Mo_numberOf_33 (by decide) ?_
        refine cutW (α := Int32) (fun x H locs ls => x = f_Mo_numberOf_r34 σ x1 ∧ Wx D cI (wM cI am) (AM am) (AM am) s s.heap H locs σ ∧ lv_has ls 3 [(0, .ref (am 0)), (1, .int x1)]) (fun x ls => F0 m 56 ls [.int x]) ?_ (fun k34 => ?_)
        · rintro v4 H locs ls ⟨ex, w, hl⟩
          have e_v4 := ex
          have w : Wx D cI (wM cI am) (AM am) (AM am) s s.heap H locs σ := w
          have hl : lv_has ls 3 [(0, .ref (am 0)), (1, .int x1)] := hl
          show W _ _ _ _ _ _ _ _ _ _ _ _ _ _ _ (F0 m 56 ls [.int v4])
          refine lv_istore_n (pc := 56) F.1 F.2.1 d_Mo_numberOf_56 rfl hl (by decide) rfl (fun ls hl => ?_)
          have hl : lv_has ls 3 [(2, .int v4), (0, .ref (am 0)), (1, .int x1)] := hl
          refine lv_iload_n (pc := 57) F.1 F.2.1 d_Mo_numberOf_57 rfl (lv_at hl 0 rfl) ?_
          refine lv_bipush (pc := 58) (v := 6) F.1 F.2.1 d_Mo_numberOf_58 (by decide) ?_
          refine lv_iconst (pc := 60) (v := 2) F.1 F.2.1 d_Mo_numberOf_60 (by decide) ?_
          refine lv_iload_n (pc := 61) F.1 F.2.1 d_Mo_numberOf_61 rfl (lv_at hl 2 rfl) ?_
          refine lv_iconst (pc := 62) (v := 4) F.1 F.2.1 d_Mo_numberOf_62 (by decide) ?_
          refine lv_irem (pc := 63) F.1 F.2.1 d_Mo_numberOf_63 (by decide) ?_
          refine lv_imul (pc := 64) F.1 F.2.1 d_Mo_numberOf_64 ?_
          refine lv_isub (pc := 65) F.1 F.2.1 d_Mo_numberOf_65 ?_
          refine lv_ishr (pc := 66) F.1 F.2.1 d_Mo_numberOf_66 ?_
          refine lv_iconst (pc := 67) (v := 3) F.1 F.2.1 d_Mo_numberOf_67 (by decide) ?_
          refine lv_iand (pc := 68) F.1 F.2.1 d_Mo_numberOf_68 ?_
          exact Ki (pc := 69) F hr hlk w (by rw [e_r1] at h5; rw [e_r2] at h12; rw [e_r3] at h24; rw [e_v4]; exact Eq.symm (Eq.trans (if_neg h5) (Eq.trans (if_neg h12) (Eq.trans (if_neg h24) (rfl))))) d_Mo_numberOf_69
        · refine lv_icmp_ne (pc := 34) F.1 F.2.1 d_Mo_numberOf_34 (tgt := 48) (by decide) (fun h34 => ?_) (fun h34 => ?_)
          · refine lv_aload_n (pc := 48) F.1 F.2.1 d_Mo_numberOf_48 rfl (lv_at hl 0 rfl) ?_
            refine gM0_31 (pc := 49) F w (F.2.2.2.2 _ m_806) d_Mo_numberOf_49 ?_
            refine lv_iload_n (pc := 52) F.1 F.2.1 d_Mo_numberOf_52 rfl (lv_at hl 1 rfl) ?_
            refine lv_iconst (pc := 53) (v := 4) F.1 F.2.1 d_Mo_numberOf_53 (by decide) ?_
            refine lv_idiv (pc := 54) F.1 F.2.1 d_Mo_numberOf_54 (by decide) ?_
            refine lM3 (pc := 55) F w (q4_in hq) d_Mo_numberOf_55 ?_
            exact k34 (σ 3 (x1 / 4).toNatClampNeg) _ _ _ ⟨(by exact Eq.symm (Eq.trans (if_neg h34) (rfl))), w, lv_sub hl [0, 1] rfl⟩
          · refine lv_aload_n (pc := 37) F.1 F.2.1 d_Mo_numberOf_37 rfl (lv_at hl 0 rfl) ?_
            refine gM0_32 (pc := 38) F w (F.2.2.2.2 _ m_807) d_Mo_numberOf_38 ?_
            refine lv_iload_n (pc := 41) F.1 F.2.1 d_Mo_numberOf_41 rfl (lv_at hl 1 rfl) ?_
            refine lv_iconst (pc := 42) (v := 4) F.1 F.2.1 d_Mo_numberOf_42 (by decide) ?_
            refine lv_idiv (pc := 43) F.1 F.2.1 d_Mo_numberOf_43 (by decide) ?_
            refine lM4 (pc := 44) F w (q4_in hq) d_Mo_numberOf_44 ?_
            refine lv_goto (pc := 45) F.1 F.2.1 d_Mo_numberOf_45 (tgt := 56) (by decide) ?_
            exact k34 (σ 4 (x1 / 4).toNatClampNeg) _ _ _ ⟨(by exact Eq.symm (Eq.trans (if_pos h34) (rfl))), w, lv_sub hl [0, 1] rfl⟩
      · refine lv_iconst (pc := 27) (v := 0) F.1 F.2.1 d_Mo_numberOf_27 (by decide) ?_
        exact Ki (pc := 28) F hr hlk w (by rw [e_r1] at h5; rw [e_r2] at h12; rw [e_r3] at h24; exact Eq.symm (Eq.trans (if_neg h5) (Eq.trans (if_neg h12) (Eq.trans (if_pos h24) (rfl))))) d_Mo_numberOf_28
theorem no_3 (σ : Sg) (x : Int32) : bt2 0 (f_Mo_numberOf σ x) 3 := by
  unfold f_Mo_numberOf
  dsimp only
  repeat' split
  all_goals first | exact bt_2 _ | exact (⟨by decide, by decide⟩ : bt2 0 0 3)
def f_Mo_isCovered_r24 (σ : Sg) (x1 : Int32) (x2 : Int32) : Int32 := if (((σ 2 (16 : Int32).toNatClampNeg) >>> (x1 &&& 31)) &&& 1) = 1 then (if (x2 - (σ 2 (14 + x1).toNatClampNeg)) < 0 then ((x2 - (σ 2 (14 + x1).toNatClampNeg))) else (((x2 - (σ 2 (14 + x1).toNatClampNeg)) / 2))) else ((x2 - (σ 2 (14 + x1).toNatClampNeg)))
def f_Mo_isCovered_r42 (σ : Sg) (x1 : Int32) (v1 : Int32) (r2 : Int32) : Int32 := if r2 = 0 then (0) else (if (((σ 2 (19 + x1).toNatClampNeg) >>> ((7 - v1) &&& 31)) &&& 1) = 1 then (1) else (0))
def f_Mo_isCovered (σ : Sg) (x1 : Int32) (x2 : Int32) : Int32 := let v1 := (f_Mo_isCovered_r24 σ x1 x2); let r2 := f_Mo_in v1 0 7; let v3 := (f_Mo_isCovered_r42 σ x1 v1 r2); v3
theorem z_f_Mo_isCovered_r42_0 (σ : Sg) (x1 : Int32) (v1 : Int32) (r2 : Int32) : (f_Mo_isCovered_r42 σ x1 v1 r2) = 0 ∨ (f_Mo_isCovered_r42 σ x1 v1 r2) = 1 := by unfold f_Mo_isCovered_r42; (try dsimp only); (repeat' split) <;> (try dsimp only) <;> first | (with_reducible exact Or.inl rfl) | (with_reducible exact Or.inr rfl) | (with_reducible apply z_Mo_in) | exact Or.inl rfl | exact Or.inr rfl | apply z_Mo_in
theorem z_Mo_isCovered (σ : Sg) (x1 : Int32) (x2 : Int32) : (f_Mo_isCovered σ x1 x2) = 0 ∨ (f_Mo_isCovered σ x1 x2) = 1 := by unfold f_Mo_isCovered; (try dsimp only); (repeat' split) <;> (try dsimp only) <;> first | (with_reducible exact Or.inl rfl) | (with_reducible exact Or.inr rfl) | (with_reducible apply z_f_Mo_isCovered_r42_0) | (with_reducible apply z_Mo_in) | exact Or.inl rfl | exact Or.inr rfl | apply z_f_Mo_isCovered_r42_0 | apply z_Mo_in
set_option maxHeartbeats 1000000 in
set_option maxRecDepth 100000 in
theorem c_Mo_isCovered (l : Launch) (D : va_G) (cI : ClassId) (am : Nat → Nat) (σ : Sg) (x1 : Int32) (x2 : Int32) (hq : x1 = 0 ∨ x1 = 1) : Met l y_Mo_isCovered (Cond.code y_Mo_isCovered b_Mo_isCovered 4 (some .boolean) :: al) { frames := 1, cells := 0, slots := 0, locals := 22 } (Px D cI (wM cI am) (AM am) σ [.ref (am 0), .int x1, .int x2]) (va_Qi (fun r u => r = f_Mo_isCovered σ x1 x2 ∧ u = σ) (Bx D cI (wM cI am) (AM am)) (AM am)) 0 0 (AM am) := by
  refine Mx l (by decide) (Nat.le_of_ble_eq_true rfl) ?_
  intro p e s m below meth c ls F w hr hlk hl
  have F : CallFix p m c b_Mo_isCovered 4 s _ al "PictureMachineModel" := F
  have hl : lv_has ls 4 [(0, .ref (am 0)), (1, .int x1), (2, .int x2)] := hl
  have hcs : (0 : Nat) ≤ 0 ∧ (0 : Nat) ≤ 0 := ⟨Nat.le_refl _, Nat.le_refl _⟩
  refine lv_iload_n (pc := 0) F.1 F.2.1 d_Mo_isCovered_0 rfl (lv_at hl 2 rfl) ?_
  refine lv_aload_n (pc := 1) F.1 F.2.1 d_Mo_isCovered_1 rfl (lv_at hl 0 rfl) ?_
  refine gM0_2 (pc := 2) F w (F.2.2.2.2 _ m_777) d_Mo_isCovered_2 ?_
  refine lv_bipush (pc := 5) (v := 14) F.1 F.2.1 d_Mo_isCovered_5 (by decide) ?_
  refine lv_iload_n (pc := 7) F.1 F.2.1 d_Mo_isCovered_7 rfl (lv_at hl 1 rfl) ?_
  refine lv_iadd (pc := 8) F.1 F.2.1 d_Mo_isCovered_8 ?_
  refine lM2 (pc := 9) F w (by rcases hq with rfl | rfl <;> (unfold vp_in; decide)) d_Mo_isCovered_9 ?_
  refine lv_isub (pc := 10) F.1 F.2.1 d_Mo_isCovered_10 ?_
  refine lv_istore_n (pc := 11) F.1 F.2.1 d_Mo_isCovered_11 rfl hl (by decide) rfl (fun ls hl => ?_)
  have hl : lv_has ls 4 [(3, .int (x2 - (σ 2 (14 + x1).toNatClampNeg))), (0, .ref (am 0)), (1, .int x1), (2, .int x2)] := hl
  refine lv_aload_n (pc := 12) F.1 F.2.1 d_Mo_isCovered_12 rfl (lv_at hl 1 rfl) ?_
  refine gM0_2 (pc := 13) F w (F.2.2.2.2 _ m_777) d_Mo_isCovered_13 ?_
  refine lv_bipush (pc := 16) (v := 16) F.1 F.2.1 d_Mo_isCovered_16 (by decide) ?_
  refine lM2 (pc := 18) F w (by unfold vp_in; decide) d_Mo_isCovered_18 ?_
  refine lv_iload_n (pc := 19) F.1 F.2.1 d_Mo_isCovered_19 rfl (lv_at hl 2 rfl) ?_
  refine lv_ishr (pc := 20) F.1 F.2.1 d_Mo_isCovered_20 ?_
  refine lv_iconst (pc := 21) (v := 1) F.1 F.2.1 d_Mo_isCovered_21 (by decide) ?_
  refine lv_iand (pc := 22) F.1 F.2.1 d_Mo_isCovered_22 ?_
  refine lv_iconst (pc := 23) (v := 1) F.1 F.2.1 d_Mo_isCovered_23 (by decide) ?_
  refine cutW (α := Int32) (fun x H locs ls => x = f_Mo_isCovered_r24 σ x1 x2 ∧ Wx D cI (wM cI am) (AM am) (AM am) s s.heap H locs σ ∧ lv_has ls 4 [(0, .ref (am 0)), (1, .int x1), (2, .int x2), (3, .int x)]) (fun x ls => F0 m 35 ls []) ?_ (fun k24 => ?_)
  · rintro v1 H locs ls ⟨ex, w, hl⟩
    have e_v1 := ex
    have w : Wx D cI (wM cI am) (AM am) (AM am) s s.heap H locs σ := w
    have hl : lv_has ls 4 [(0, .ref (am 0)), (1, .int x1), (2, .int x2), (3, .int v1)] := hl
    show W _ _ _ _ _ _ _ _ _ _ _ _ _ _ _ (F0 m 35 ls [])
    refine lv_iload_n (pc := 35) F.1 F.2.1 d_Mo_isCovered_35 rfl (lv_at hl 3 rfl) ?_
    refine lv_iconst (pc := 36) (v := 0) F.1 F.2.1 d_Mo_isCovered_36 (by decide) ?_
    refine lv_bipush (pc := 37) (v := 7) F.1 F.2.1 d_Mo_isCovered_37 (by decide) ?_
    refine Usi (pc := 39) (As := [.int v1, .int 0, .int 7]) (rest := []) F (c_Mo_in l v1 0 7) k_Mo_in m_931 (Nat.le_of_ble_eq_true rfl) (Nat.le_of_ble_eq_true rfl) ⟨rfl, rfl⟩ rfl hl.1 rfl (Nat.le_of_ble_eq_true rfl) d_Mo_isCovered_39 hcs (fun r2 e_r2 => ?_)
    refine cutW (α := Int32) (fun x H locs ls => x = f_Mo_isCovered_r42 σ x1 v1 r2 ∧ Wx D cI (wM cI am) (AM am) (AM am) s s.heap H locs σ ∧ lv_has ls 4 [(0, .ref (am 0)), (1, .int x1), (2, .int x2), (3, .int v1)]) (fun x ls => F0 m 70 ls [.int x]) ?_ (fun k42 => ?_)
    · rintro v3 H locs ls ⟨ex, w, hl⟩
      have e_v3 := ex
      have w : Wx D cI (wM cI am) (AM am) (AM am) s s.heap H locs σ := w
      have hl : lv_has ls 4 [(0, .ref (am 0)), (1, .int x1), (2, .int x2), (3, .int v1)] := hl
      show W _ _ _ _ _ _ _ _ _ _ _ _ _ _ _ (F0 m 70 ls [.int v3])
      exact Kz (pc := 70) F hr hlk w (e_v3 ▸ z_f_Mo_isCovered_r42_0 σ x1 v1 r2) (by rw [e_v3, e_r2, e_v1]; exact Eq.symm (rfl)) d_Mo_isCovered_70
    · refine lv_if_eq (pc := 42) F.1 F.2.1 d_Mo_isCovered_42 (tgt := 69) (by decide) (fun h42 => ?_) (fun h42 => ?_)
      · refine lv_iconst (pc := 69) (v := 0) F.1 F.2.1 d_Mo_isCovered_69 (by decide) ?_
        exact k42 0 _ _ _ ⟨(by exact Eq.symm (Eq.trans (if_pos h42) (rfl))), w, lv_sub hl [0, 1, 2, 3] rfl⟩
      · refine lv_aload_n (pc := 45) F.1 F.2.1 d_Mo_isCovered_45 rfl (lv_at hl 0 rfl) ?_
        refine gM0_2 (pc := 46) F w (F.2.2.2.2 _ m_777) d_Mo_isCovered_46 ?_
        refine lv_bipush (pc := 49) (v := 19) F.1 F.2.1 d_Mo_isCovered_49 (by decide) ?_
        refine lv_iload_n (pc := 51) F.1 F.2.1 d_Mo_isCovered_51 rfl (lv_at hl 1 rfl) ?_
        refine lv_iadd (pc := 52) F.1 F.2.1 d_Mo_isCovered_52 ?_
        refine lM2 (pc := 53) F w (by rcases hq with rfl | rfl <;> (unfold vp_in; decide)) d_Mo_isCovered_53 ?_
        refine lv_bipush (pc := 54) (v := 7) F.1 F.2.1 d_Mo_isCovered_54 (by decide) ?_
        refine lv_iload_n (pc := 56) F.1 F.2.1 d_Mo_isCovered_56 rfl (lv_at hl 3 rfl) ?_
        refine lv_isub (pc := 57) F.1 F.2.1 d_Mo_isCovered_57 ?_
        refine lv_ishr (pc := 58) F.1 F.2.1 d_Mo_isCovered_58 ?_
        refine lv_iconst (pc := 59) (v := 1) F.1 F.2.1 d_Mo_isCovered_59 (by decide) ?_
        refine lv_iand (pc := 60) F.1 F.2.1 d_Mo_isCovered_60 ?_
        refine lv_iconst (pc := 61) (v := 1) F.1 F.2.1 d_Mo_isCovered_61 (by decide) ?_
        refine lv_icmp_ne (pc := 62) F.1 F.2.1 d_Mo_isCovered_62 (tgt := 69) (by decide) (fun h62 => ?_) (fun h62 => ?_)
        · refine lv_iconst (pc := 69) (v := 0) F.1 F.2.1 d_Mo_isCovered_69 (by decide) ?_
          exact k42 0 _ _ _ ⟨(by exact Eq.symm (Eq.trans (if_neg h42) (Eq.trans (if_neg h62) (rfl)))), w, lv_sub hl [0, 1, 2, 3] rfl⟩
        · refine lv_iconst (pc := 65) (v := 1) F.1 F.2.1 d_Mo_isCovered_65 (by decide) ?_
          refine lv_goto (pc := 66) F.1 F.2.1 d_Mo_isCovered_66 (tgt := 70) (by decide) ?_
          exact k42 1 _ _ _ ⟨(by exact Eq.symm (Eq.trans (if_neg h42) (Eq.trans (if_pos h62) (rfl)))), w, lv_sub hl [0, 1, 2, 3] rfl⟩
  · refine lv_icmp_ne (pc := 24) F.1 F.2.1 d_Mo_isCovered_24 (tgt := 35) (by decide) (fun h24 => ?_) (fun h24 => ?_)
    · exact k24 (x2 - (σ 2 (14 + x1).toNatClampNeg)) _ _ _ ⟨(by exact Eq.symm (Eq.trans (if_neg h24) (rfl))), w, lv_sub hl [1, 2, 3, 0] rfl⟩
    · refine lv_iload_n (pc := 27) F.1 F.2.1 d_Mo_isCovered_27 rfl (lv_at hl 0 rfl) ?_
      refine lv_if_lt (pc := 28) F.1 F.2.1 d_Mo_isCovered_28 (tgt := 35) (by decide) (fun h28 => ?_) (fun h28 => ?_)
      · exact k24 (x2 - (σ 2 (14 + x1).toNatClampNeg)) _ _ _ ⟨(by exact Eq.symm (Eq.trans (if_pos h24) (Eq.trans (if_pos h28) (rfl)))), w, lv_sub hl [1, 2, 3, 0] rfl⟩
      · refine lv_iload_n (pc := 31) F.1 F.2.1 d_Mo_isCovered_31 rfl (lv_at hl 0 rfl) ?_
        refine lv_iconst (pc := 32) (v := 2) F.1 F.2.1 d_Mo_isCovered_32 (by decide) ?_
        refine lv_idiv (pc := 33) F.1 F.2.1 d_Mo_isCovered_33 (by decide) ?_
        refine lv_istore_n (pc := 34) F.1 F.2.1 d_Mo_isCovered_34 rfl hl (by decide) rfl (fun ls hl => ?_)
        have hl : lv_has ls 4 [(3, .int ((x2 - (σ 2 (14 + x1).toNatClampNeg)) / 2)), (0, .ref (am 0)), (1, .int x1), (2, .int x2)] := hl
        exact k24 ((x2 - (σ 2 (14 + x1).toNatClampNeg)) / 2) _ _ _ ⟨(by exact Eq.symm (Eq.trans (if_pos h24) (Eq.trans (if_neg h28) (rfl)))), w, lv_sub hl [1, 2, 3, 0] rfl⟩
def f_Mo_draw_r30 (s1 : Sg) (r2 : Int32) (r3 : Int32) : Sg := if r3 = 0 then (s1) else (if r2 ≤ 0 then (s1) else (let s5 := sf s1 5 (0 : Int32).toNatClampNeg ((s1 5 (0 : Int32).toNatClampNeg) ||| ((1 : Int32) <<< (r2 &&& 31))); s5))
def f_Mo_draw_r55 (r2 : Int32) (r4 : Int32) (s6 : Sg) : Sg := if r4 = 0 then (s6) else (if r2 ≤ 0 then (s6) else (let s7 := sf s6 5 (1 : Int32).toNatClampNeg ((s6 5 (1 : Int32).toNatClampNeg) ||| ((1 : Int32) <<< (r2 &&& 31))); s7))
def f_Mo_draw_r79 (r3 : Int32) (r4 : Int32) (s8 : Sg) : Sg := if r3 = 0 then (s8) else (if r4 = 0 then (s8) else (let s9 := sf s8 0 35 1; s9))
def f_Mo_draw_r93 (r2 : Int32) (r3 : Int32) (r4 : Int32) (s10 : Sg) : Int32 := if r3 = 0 then (if r4 = 0 then (0) else (if ((s10 2 (17 : Int32).toNatClampNeg) &&& 1) = 0 then (1) else (if r2 = 0 then (1) else (0)))) else (if ((s10 2 (17 : Int32).toNatClampNeg) &&& 1) = 0 then (1) else (if r2 = 0 then (1) else (0)))
def f_Mo_draw_r141 (r2 : Int32) (r3 : Int32) (s10 : Sg) (v11 : Int32) : Int32 := if v11 = 0 then ((s10 2 (8 + r2).toNatClampNeg)) else (if r3 = 0 then ((s10 2 (13 : Int32).toNatClampNeg)) else ((s10 2 (12 : Int32).toNatClampNeg)))
def bd_Mo_draw_2 (σ : Sg) (s1 : Sg) (j2 : Nat) : Sg := let r2 := f_Mo_numberOf s1 (0 + nI j2); let r3 := f_Mo_isCovered s1 0 (0 + nI j2); let r4 := f_Mo_isCovered s1 1 (0 + nI j2); let s6 := (f_Mo_draw_r30 s1 r2 r3); let s8 := (f_Mo_draw_r55 r2 r4 s6); let s10 := (f_Mo_draw_r79 r3 r4 s8); let v11 := (f_Mo_draw_r93 r2 r3 r4 s10); let v12 := (f_Mo_draw_r141 r2 r3 s10 v11); let s13 := sf s10 6 ((32 * ((s10 0 4) - 1)) + (0 + nI j2)).toNatClampNeg v12; s13
def it_Mo_draw_2 (σ : Sg) : Nat → Sg := itr (fun j2 x => bd_Mo_draw_2 σ x j2) σ
def f_Mo_draw_r214 (s16 : Sg) : Int32 := if (s16 0 23) = 0 then (if (s16 0 28) = (s16 0 29) then (if (s16 0 24) = 0 then (0) else (1)) else (0)) else (1)
def f_Mo_draw_r189 (s1 : Sg) (r14 : Int32) : Sg := if r14 = 0 then (s1) else (let r15 := f_Mo_hasRows s1; if r15 = 0 then (s1) else (let s16 := sf s1 0 28 ((s1 0 28) + 1); let v17 := (f_Mo_draw_r214 s16); let s18 := sf s16 0 23 v17; s18))
def f_Mo_draw (σ : Sg) : Sg := let s1 := (it_Mo_draw_2 σ 32); let r14 := f_Mo_control s1 0; let s19 := (f_Mo_draw_r189 s1 r14); s19
theorem z_f_Mo_draw_r93_0 (r2 : Int32) (r3 : Int32) (r4 : Int32) (s10 : Sg) : (f_Mo_draw_r93 r2 r3 r4 s10) = 0 ∨ (f_Mo_draw_r93 r2 r3 r4 s10) = 1 := by unfold f_Mo_draw_r93; (try dsimp only); (repeat' split) <;> (try dsimp only) <;> first | (with_reducible exact Or.inl rfl) | (with_reducible exact Or.inr rfl) | (with_reducible apply z_Mo_control) | (with_reducible apply z_Mo_hasRows) | (with_reducible apply z_Mo_isCovered) | exact Or.inl rfl | exact Or.inr rfl | apply z_Mo_control | apply z_Mo_hasRows | apply z_Mo_isCovered
theorem z_f_Mo_draw_r214_0 (s16 : Sg) : (f_Mo_draw_r214 s16) = 0 ∨ (f_Mo_draw_r214 s16) = 1 := by unfold f_Mo_draw_r214; (try dsimp only); (repeat' split) <;> (try dsimp only) <;> first | (with_reducible exact Or.inl rfl) | (with_reducible exact Or.inr rfl) | (with_reducible apply z_f_Mo_draw_r93_0) | (with_reducible apply z_Mo_control) | (with_reducible apply z_Mo_hasRows) | (with_reducible apply z_Mo_isCovered) | exact Or.inl rfl | exact Or.inr rfl | apply z_f_Mo_draw_r93_0 | apply z_Mo_control | apply z_Mo_hasRows | apply z_Mo_isCovered
set_option maxHeartbeats 1000000 in
set_option maxRecDepth 100000 in
theorem c_Mo_draw (l : Launch) (D : va_G) (cI : ClassId) (am : Nat → Nat) (σ : Sg) (hL : LN σ) : Met l y_Mo_draw (Cond.code y_Mo_draw b_Mo_draw 6 none :: al) { frames := 2, cells := 0, slots := 0, locals := 45 } (Px D cI (wM cI am) (AM am) σ [.ref (am 0)]) (va_Qv (fun u => u = f_Mo_draw σ ) (Bx D cI (wM cI am) (AM am)) (AM am)) 0 0 (AM am) := by
  refine Mx l (by decide) (Nat.le_of_ble_eq_true rfl) ?_
  intro p e s m below meth c ls F w hr hlk hl
  have F : CallFix p m c b_Mo_draw 6 s _ al "PictureMachineModel" := F
  have hl : lv_has ls 6 [(0, .ref (am 0))] := hl
  have hcs : (0 : Nat) ≤ 0 ∧ (0 : Nat) ≤ 0 := ⟨Nat.le_refl _, Nat.le_refl _⟩
  refine lv_iconst (pc := 0) (v := 0) F.1 F.2.1 d_Mo_draw_0 (by decide) ?_
  refine lv_istore_n (pc := 1) F.1 F.2.1 d_Mo_draw_1 rfl hl (by decide) rfl (fun ls hl => ?_)
  have hl : lv_has ls 6 [(1, .int 0), (0, .ref (am 0))] := hl
  refine loopW (α := Sg) 32 (fun j2 x H locs ls => x = it_Mo_draw_2 σ j2 ∧ Wx D cI (wM cI am) (AM am) (AM am) s s.heap H locs x ∧ lv_has ls 6 [(0, .ref (am 0)), (1, .int (0 + nI j2))] ∧ LN x) (fun _ ls => F0 m 2 ls []) ?_ ?_ 0 σ _ _ _ (Nat.zero_le _) ⟨rfl, w, by rw [ci_0]; exact lv_sub hl [1, 0] rfl, hL⟩
  · rintro j2 s1 H locs ls hj2 ⟨ex, w, hl, iLN_s1⟩ nx2
    have e_s1 := ex
    have w : Wx D cI (wM cI am) (AM am) (AM am) s s.heap H locs s1 := w
    have iLN_s1 : LN s1 := iLN_s1
    have hl : lv_has ls 6 [(0, .ref (am 0)), (1, .int (0 + nI j2))] := hl
    have hc2_0 : ¬ (32 ≤ (0 + nI j2)) := lp_lt hj2 (by decide) (by decide)
    refine lv_iload_n (pc := 2) F.1 F.2.1 d_Mo_draw_2 rfl (lv_at hl 1 rfl) ?_
    refine lv_bipush (pc := 3) (v := 32) F.1 F.2.1 d_Mo_draw_3 (by decide) ?_
    refine lv_icmp_ge (pc := 5) F.1 F.2.1 d_Mo_draw_5 (tgt := 184) (by decide) (fun q => absurd q hc2_0) (fun _ => ?_)
    refine lv_aload_n (pc := 8) F.1 F.2.1 d_Mo_draw_8 rfl (lv_at hl 0 rfl) ?_
    refine lv_iload_n (pc := 9) F.1 F.2.1 d_Mo_draw_9 rfl (lv_at hl 1 rfl) ?_
    refine Kvi (pc := 10) (As := [.int (0 + nI j2)]) (rest := []) F w (c_Mo_numberOf l D cI am s1 (0 + nI j2) (bz_n (Nat.le_of_lt_succ hj2) (by decide))) 0 rfl rfl k_Mo_numberOf m_1085 (Nat.le_of_ble_eq_true rfl) (Nat.le_of_ble_eq_true rfl) ⟨rfl, rfl⟩ rfl hl.1 rfl (Nat.le_of_ble_eq_true rfl) d_Mo_draw_10 hcs (fun r2 H locs e_r2 w => ?_)
    refine lv_istore_n (pc := 13) F.1 F.2.1 d_Mo_draw_13 rfl hl (by decide) rfl (fun ls hl => ?_)
    have hl : lv_has ls 6 [(2, .int r2), (0, .ref (am 0)), (1, .int (0 + nI j2))] := hl
    refine lv_aload_n (pc := 14) F.1 F.2.1 d_Mo_draw_14 rfl (lv_at hl 1 rfl) ?_
    refine lv_iconst (pc := 15) (v := 0) F.1 F.2.1 d_Mo_draw_15 (by decide) ?_
    refine lv_iload_n (pc := 16) F.1 F.2.1 d_Mo_draw_16 rfl (lv_at hl 2 rfl) ?_
    refine Kvi (pc := 17) (As := [.int 0, .int (0 + nI j2)]) (rest := []) F w (c_Mo_isCovered l D cI am s1 0 (0 + nI j2) (Or.inl rfl)) 0 rfl rfl k_Mo_isCovered m_1089 (Nat.le_of_ble_eq_true rfl) (Nat.le_of_ble_eq_true rfl) ⟨rfl, rfl⟩ rfl hl.1 rfl (Nat.le_of_ble_eq_true rfl) d_Mo_draw_17 hcs (fun r3 H locs e_r3 w => ?_)
    refine lv_istore_n (pc := 20) F.1 F.2.1 d_Mo_draw_20 rfl hl (by decide) rfl (fun ls hl => ?_)
    have hl : lv_has ls 6 [(3, .int r3), (2, .int r2), (0, .ref (am 0)), (1, .int (0 + nI j2))] := hl
    refine lv_aload_n (pc := 21) F.1 F.2.1 d_Mo_draw_21 rfl (lv_at hl 2 rfl) ?_
    refine lv_iconst (pc := 22) (v := 1) F.1 F.2.1 d_Mo_draw_22 (by decide) ?_
    refine lv_iload_n (pc := 23) F.1 F.2.1 d_Mo_draw_23 rfl (lv_at hl 3 rfl) ?_
    refine Kvi (pc := 24) (As := [.int 1, .int (0 + nI j2)]) (rest := []) F w (c_Mo_isCovered l D cI am s1 1 (0 + nI j2) (Or.inr rfl)) 0 rfl rfl k_Mo_isCovered m_1089 (Nat.le_of_ble_eq_true rfl) (Nat.le_of_ble_eq_true rfl) ⟨rfl, rfl⟩ rfl hl.1 rfl (Nat.le_of_ble_eq_true rfl) d_Mo_draw_24 hcs (fun r4 H locs e_r4 w => ?_)
    refine lv_istore (pc := 27) F.1 F.2.1 d_Mo_draw_27 hl (by decide) rfl (fun ls hl => ?_)
    have hl : lv_has ls 6 [(4, .int r4), (3, .int r3), (2, .int r2), (0, .ref (am 0)), (1, .int (0 + nI j2))] := hl
    refine lv_iload_n (pc := 29) F.1 F.2.1 d_Mo_draw_29 rfl (lv_at hl 1 rfl) ?_
    refine cutW (α := Sg) (fun x H locs ls => x = f_Mo_draw_r30 s1 r2 r3 ∧ Wx D cI (wM cI am) (AM am) (AM am) s s.heap H locs x ∧ lv_has ls 6 [(0, .ref (am 0)), (1, .int (0 + nI j2)), (2, .int r2), (3, .int r3), (4, .int r4)] ∧ LN x) (fun x ls => F0 m 53 ls []) ?_ (fun k30 => ?_)
    · rintro s6 H locs ls ⟨ex, w, hl, iLN_s6⟩
      have e_s6 := ex
      have w : Wx D cI (wM cI am) (AM am) (AM am) s s.heap H locs s6 := w
      have iLN_s6 : LN s6 := iLN_s6
      have hl : lv_has ls 6 [(0, .ref (am 0)), (1, .int (0 + nI j2)), (2, .int r2), (3, .int r3), (4, .int r4)] := hl
      show W _ _ _ _ _ _ _ _ _ _ _ _ _ _ _ (F0 m 53 ls [])
      refine lv_iload (pc := 53) F.1 F.2.1 d_Mo_draw_53 (lv_at hl 4 rfl) ?_
      refine cutW (α := Sg) (fun x H locs ls => x = f_Mo_draw_r55 r2 r4 s6 ∧ Wx D cI (wM cI am) (AM am) (AM am) s s.heap H locs x ∧ lv_has ls 6 [(0, .ref (am 0)), (1, .int (0 + nI j2)), (2, .int r2), (3, .int r3), (4, .int r4)] ∧ LN x) (fun x ls => F0 m 78 ls []) ?_ (fun k55 => ?_)
      · rintro s8 H locs ls ⟨ex, w, hl, iLN_s8⟩
        have e_s8 := ex
        have w : Wx D cI (wM cI am) (AM am) (AM am) s s.heap H locs s8 := w
        have iLN_s8 : LN s8 := iLN_s8
        have hl : lv_has ls 6 [(0, .ref (am 0)), (1, .int (0 + nI j2)), (2, .int r2), (3, .int r3), (4, .int r4)] := hl
        show W _ _ _ _ _ _ _ _ _ _ _ _ _ _ _ (F0 m 78 ls [])
        refine lv_iload_n (pc := 78) F.1 F.2.1 d_Mo_draw_78 rfl (lv_at hl 3 rfl) ?_
        refine cutW (α := Sg) (fun x H locs ls => x = f_Mo_draw_r79 r3 r4 s8 ∧ Wx D cI (wM cI am) (AM am) (AM am) s s.heap H locs x ∧ lv_has ls 6 [(0, .ref (am 0)), (1, .int (0 + nI j2)), (2, .int r2), (3, .int r3), (4, .int r4)] ∧ LN x) (fun x ls => F0 m 92 ls []) ?_ (fun k79 => ?_)
        · rintro s10 H locs ls ⟨ex, w, hl, iLN_s10⟩
          have e_s10 := ex
          have w : Wx D cI (wM cI am) (AM am) (AM am) s s.heap H locs s10 := w
          have iLN_s10 : LN s10 := iLN_s10
          have hl : lv_has ls 6 [(0, .ref (am 0)), (1, .int (0 + nI j2)), (2, .int r2), (3, .int r3), (4, .int r4)] := hl
          show W _ _ _ _ _ _ _ _ _ _ _ _ _ _ _ (F0 m 92 ls [])
          refine lv_iload_n (pc := 92) F.1 F.2.1 d_Mo_draw_92 rfl (lv_at hl 3 rfl) ?_
          refine cutW (α := Int32) (fun x H locs ls => x = f_Mo_draw_r93 r2 r3 r4 s10 ∧ Wx D cI (wM cI am) (AM am) (AM am) s s.heap H locs s10 ∧ lv_has ls 6 [(0, .ref (am 0)), (1, .int (0 + nI j2)), (2, .int r2), (3, .int r3), (4, .int r4)]) (fun x ls => F0 m 122 ls [.int x]) ?_ (fun k93 => ?_)
          · rintro v11 H locs ls ⟨ex, w, hl⟩
            have e_v11 := ex
            have w : Wx D cI (wM cI am) (AM am) (AM am) s s.heap H locs s10 := w
            have hl : lv_has ls 6 [(0, .ref (am 0)), (1, .int (0 + nI j2)), (2, .int r2), (3, .int r3), (4, .int r4)] := hl
            show W _ _ _ _ _ _ _ _ _ _ _ _ _ _ _ (F0 m 122 ls [.int v11])
            refine lv_istore (pc := 122) F.1 F.2.1 d_Mo_draw_122 hl (by decide) rfl (fun ls hl => ?_)
            have hl : lv_has ls 6 [(5, .int v11), (0, .ref (am 0)), (1, .int (0 + nI j2)), (2, .int r2), (3, .int r3), (4, .int r4)] := hl
            refine lv_aload_n (pc := 124) F.1 F.2.1 d_Mo_draw_124 rfl (lv_at hl 1 rfl) ?_
            refine gM0_36 (pc := 125) F w (F.2.2.2.2 _ m_811) d_Mo_draw_125 ?_
            refine lv_bipush (pc := 128) (v := 32) F.1 F.2.1 d_Mo_draw_128 (by decide) ?_
            refine lv_aload_n (pc := 130) F.1 F.2.1 d_Mo_draw_130 rfl (lv_at hl 1 rfl) ?_
            refine gM0_4 (pc := 131) F w (F.2.2.2.2 _ m_779) d_Mo_draw_131 ?_
            refine lv_iconst (pc := 134) (v := 1) F.1 F.2.1 d_Mo_draw_134 (by decide) ?_
            refine lv_isub (pc := 135) F.1 F.2.1 d_Mo_draw_135 ?_
            refine lv_imul (pc := 136) F.1 F.2.1 d_Mo_draw_136 ?_
            refine lv_iload_n (pc := 137) F.1 F.2.1 d_Mo_draw_137 rfl (lv_at hl 2 rfl) ?_
            refine lv_iadd (pc := 138) F.1 F.2.1 d_Mo_draw_138 ?_
            refine lv_iload (pc := 139) F.1 F.2.1 d_Mo_draw_139 (lv_at hl 0 rfl) ?_
            refine cutW (α := Int32) (fun x H locs ls => x = f_Mo_draw_r141 r2 r3 s10 v11 ∧ Wx D cI (wM cI am) (AM am) (AM am) s s.heap H locs s10 ∧ lv_has ls 6 [(0, .ref (am 0)), (1, .int (0 + nI j2)), (2, .int r2), (3, .int r3), (4, .int r4), (5, .int v11)]) (fun x ls => F0 m 177 ls [.int x, .int ((32 * ((s10 0 4) - 1)) + (0 + nI j2)), .ref (am 6)]) ?_ (fun k141 => ?_)
            · rintro v12 H locs ls ⟨ex, w, hl⟩
              have e_v12 := ex
              have w : Wx D cI (wM cI am) (AM am) (AM am) s s.heap H locs s10 := w
              have hl : lv_has ls 6 [(0, .ref (am 0)), (1, .int (0 + nI j2)), (2, .int r2), (3, .int r3), (4, .int r4), (5, .int v11)] := hl
              show W _ _ _ _ _ _ _ _ _ _ _ _ _ _ _ (F0 m 177 ls [.int v12, .int ((32 * ((s10 0 4) - 1)) + (0 + nI j2)), .ref (am 6)])
              refine aM6 (pc := 177) F w (dr_in iLN_s10 hj2) d_Mo_draw_177 (fun H locs s13 e_s13 w => ?_)
              have iLN_s13 : LN s13 := by rw [e_s13]; exact iLN_s10
              refine lv_iinc (pc := 178) (k := 1) (v := ((0 + nI j2) + 1)) F.1 F.2.1 d_Mo_draw_178 hl rfl (by first | rfl | decide) (by decide) rfl (fun ls hl => ?_)
              have hl : lv_has ls 6 [(1, .int ((0 + nI j2) + 1)), (0, .ref (am 0)), (2, .int r2), (3, .int r3), (4, .int r4), (5, .int v11)] := hl
              refine lv_goto (pc := 181) F.1 F.2.1 d_Mo_draw_181 (tgt := 2) (by decide) ?_
              exact nx2 s13 _ _ _ ⟨(by rw [e_s13, e_v12, e_v11, e_s10, e_s8, e_s6, e_r4, e_r3, e_r2, e_s1]; exact Eq.symm (rfl)), w, by rw [← ci_s]; exact lv_sub hl [1, 0] rfl, iLN_s13⟩
            · refine lv_if_ne (pc := 141) F.1 F.2.1 d_Mo_draw_141 (tgt := 156) (by decide) (fun h141 => ?_) (fun h141 => ?_)
              · refine lv_iload_n (pc := 156) F.1 F.2.1 d_Mo_draw_156 rfl (lv_at hl 4 rfl) ?_
                refine lv_if_eq (pc := 157) F.1 F.2.1 d_Mo_draw_157 (tgt := 170) (by decide) (fun h157 => ?_) (fun h157 => ?_)
                · refine lv_aload_n (pc := 170) F.1 F.2.1 d_Mo_draw_170 rfl (lv_at hl 1 rfl) ?_
                  refine gM0_2 (pc := 171) F w (F.2.2.2.2 _ m_777) d_Mo_draw_171 ?_
                  refine lv_bipush (pc := 174) (v := 13) F.1 F.2.1 d_Mo_draw_174 (by decide) ?_
                  refine lM2 (pc := 176) F w (by unfold vp_in; decide) d_Mo_draw_176 ?_
                  exact k141 (s10 2 (13 : Int32).toNatClampNeg) _ _ _ ⟨(by exact Eq.symm (Eq.trans (if_neg h141) (Eq.trans (if_pos h157) (rfl)))), w, lv_sub hl [1, 2, 3, 4, 5, 0] rfl⟩
                · refine lv_aload_n (pc := 160) F.1 F.2.1 d_Mo_draw_160 rfl (lv_at hl 1 rfl) ?_
                  refine gM0_2 (pc := 161) F w (F.2.2.2.2 _ m_777) d_Mo_draw_161 ?_
                  refine lv_bipush (pc := 164) (v := 12) F.1 F.2.1 d_Mo_draw_164 (by decide) ?_
                  refine lM2 (pc := 166) F w (by unfold vp_in; decide) d_Mo_draw_166 ?_
                  refine lv_goto (pc := 167) F.1 F.2.1 d_Mo_draw_167 (tgt := 177) (by decide) ?_
                  exact k141 (s10 2 (12 : Int32).toNatClampNeg) _ _ _ ⟨(by exact Eq.symm (Eq.trans (if_neg h141) (Eq.trans (if_neg h157) (rfl)))), w, lv_sub hl [1, 2, 3, 4, 5, 0] rfl⟩
              · refine lv_aload_n (pc := 144) F.1 F.2.1 d_Mo_draw_144 rfl (lv_at hl 1 rfl) ?_
                refine gM0_2 (pc := 145) F w (F.2.2.2.2 _ m_777) d_Mo_draw_145 ?_
                refine lv_bipush (pc := 148) (v := 8) F.1 F.2.1 d_Mo_draw_148 (by decide) ?_
                refine lv_iload_n (pc := 150) F.1 F.2.1 d_Mo_draw_150 rfl (lv_at hl 3 rfl) ?_
                refine lv_iadd (pc := 151) F.1 F.2.1 d_Mo_draw_151 ?_
                refine lM2 (pc := 152) F w (by rw [e_r2]; exact col_in (no_3 _ _)) d_Mo_draw_152 ?_
                refine lv_goto (pc := 153) F.1 F.2.1 d_Mo_draw_153 (tgt := 177) (by decide) ?_
                exact k141 (s10 2 (8 + r2).toNatClampNeg) _ _ _ ⟨(by exact Eq.symm (Eq.trans (if_pos h141) (rfl))), w, lv_sub hl [1, 2, 3, 4, 5, 0] rfl⟩
          · refine lv_if_ne (pc := 93) F.1 F.2.1 d_Mo_draw_93 (tgt := 101) (by decide) (fun h93 => ?_) (fun h93 => ?_)
            · refine lv_aload_n (pc := 101) F.1 F.2.1 d_Mo_draw_101 rfl (lv_at hl 0 rfl) ?_
              refine gM0_2 (pc := 102) F w (F.2.2.2.2 _ m_777) d_Mo_draw_102 ?_
              refine lv_bipush (pc := 105) (v := 17) F.1 F.2.1 d_Mo_draw_105 (by decide) ?_
              refine lM2 (pc := 107) F w (by unfold vp_in; decide) d_Mo_draw_107 ?_
              refine lv_iconst (pc := 108) (v := 1) F.1 F.2.1 d_Mo_draw_108 (by decide) ?_
              refine lv_iand (pc := 109) F.1 F.2.1 d_Mo_draw_109 ?_
              refine lv_if_eq (pc := 110) F.1 F.2.1 d_Mo_draw_110 (tgt := 117) (by decide) (fun h110 => ?_) (fun h110 => ?_)
              · refine lv_iconst (pc := 117) (v := 1) F.1 F.2.1 d_Mo_draw_117 (by decide) ?_
                refine lv_goto (pc := 118) F.1 F.2.1 d_Mo_draw_118 (tgt := 122) (by decide) ?_
                exact k93 1 _ _ _ ⟨(by exact Eq.symm (Eq.trans (if_neg h93) (Eq.trans (if_pos h110) (rfl)))), w, lv_sub hl [0, 1, 2, 3, 4] rfl⟩
              · refine lv_iload_n (pc := 113) F.1 F.2.1 d_Mo_draw_113 rfl (lv_at hl 2 rfl) ?_
                refine lv_if_ne (pc := 114) F.1 F.2.1 d_Mo_draw_114 (tgt := 121) (by decide) (fun h114 => ?_) (fun h114 => ?_)
                · refine lv_iconst (pc := 121) (v := 0) F.1 F.2.1 d_Mo_draw_121 (by decide) ?_
                  exact k93 0 _ _ _ ⟨(by exact Eq.symm (Eq.trans (if_neg h93) (Eq.trans (if_neg h110) (Eq.trans (if_neg h114) (rfl))))), w, lv_sub hl [0, 1, 2, 3, 4] rfl⟩
                · refine lv_iconst (pc := 117) (v := 1) F.1 F.2.1 d_Mo_draw_117 (by decide) ?_
                  refine lv_goto (pc := 118) F.1 F.2.1 d_Mo_draw_118 (tgt := 122) (by decide) ?_
                  exact k93 1 _ _ _ ⟨(by exact Eq.symm (Eq.trans (if_neg h93) (Eq.trans (if_neg h110) (Eq.trans (if_pos h114) (rfl))))), w, lv_sub hl [0, 1, 2, 3, 4] rfl⟩
            · refine lv_iload (pc := 96) F.1 F.2.1 d_Mo_draw_96 (lv_at hl 4 rfl) ?_
              refine lv_if_eq (pc := 98) F.1 F.2.1 d_Mo_draw_98 (tgt := 121) (by decide) (fun h98 => ?_) (fun h98 => ?_)
              · refine lv_iconst (pc := 121) (v := 0) F.1 F.2.1 d_Mo_draw_121 (by decide) ?_
                exact k93 0 _ _ _ ⟨(by exact Eq.symm (Eq.trans (if_pos h93) (Eq.trans (if_pos h98) (rfl)))), w, lv_sub hl [0, 1, 2, 3, 4] rfl⟩
              · refine lv_aload_n (pc := 101) F.1 F.2.1 d_Mo_draw_101 rfl (lv_at hl 0 rfl) ?_
                refine gM0_2 (pc := 102) F w (F.2.2.2.2 _ m_777) d_Mo_draw_102 ?_
                refine lv_bipush (pc := 105) (v := 17) F.1 F.2.1 d_Mo_draw_105 (by decide) ?_
                refine lM2 (pc := 107) F w (by unfold vp_in; decide) d_Mo_draw_107 ?_
                refine lv_iconst (pc := 108) (v := 1) F.1 F.2.1 d_Mo_draw_108 (by decide) ?_
                refine lv_iand (pc := 109) F.1 F.2.1 d_Mo_draw_109 ?_
                refine lv_if_eq (pc := 110) F.1 F.2.1 d_Mo_draw_110 (tgt := 117) (by decide) (fun h110 => ?_) (fun h110 => ?_)
                · refine lv_iconst (pc := 117) (v := 1) F.1 F.2.1 d_Mo_draw_117 (by decide) ?_
                  refine lv_goto (pc := 118) F.1 F.2.1 d_Mo_draw_118 (tgt := 122) (by decide) ?_
                  exact k93 1 _ _ _ ⟨(by exact Eq.symm (Eq.trans (if_pos h93) (Eq.trans (if_neg h98) (Eq.trans (if_pos h110) (rfl))))), w, lv_sub hl [0, 1, 2, 3, 4] rfl⟩
                · refine lv_iload_n (pc := 113) F.1 F.2.1 d_Mo_draw_113 rfl (lv_at hl 2 rfl) ?_
                  refine lv_if_ne (pc := 114) F.1 F.2.1 d_Mo_draw_114 (tgt := 121) (by decide) (fun h114 => ?_) (fun h114 => ?_)
                  · refine lv_iconst (pc := 121) (v := 0) F.1 F.2.1 d_Mo_draw_121 (by decide) ?_
                    exact k93 0 _ _ _ ⟨(by exact Eq.symm (Eq.trans (if_pos h93) (Eq.trans (if_neg h98) (Eq.trans (if_neg h110) (Eq.trans (if_neg h114) (rfl)))))), w, lv_sub hl [0, 1, 2, 3, 4] rfl⟩
                  · refine lv_iconst (pc := 117) (v := 1) F.1 F.2.1 d_Mo_draw_117 (by decide) ?_
                    refine lv_goto (pc := 118) F.1 F.2.1 d_Mo_draw_118 (tgt := 122) (by decide) ?_
                    exact k93 1 _ _ _ ⟨(by exact Eq.symm (Eq.trans (if_pos h93) (Eq.trans (if_neg h98) (Eq.trans (if_neg h110) (Eq.trans (if_pos h114) (rfl)))))), w, lv_sub hl [0, 1, 2, 3, 4] rfl⟩
        · refine lv_if_eq (pc := 79) F.1 F.2.1 d_Mo_draw_79 (tgt := 92) (by decide) (fun h79 => ?_) (fun h79 => ?_)
          · exact k79 s8 _ _ _ ⟨(by exact Eq.symm (Eq.trans (if_pos h79) (rfl))), w, lv_sub hl [0, 1, 2, 3, 4] rfl, iLN_s8⟩
          · refine lv_iload (pc := 82) F.1 F.2.1 d_Mo_draw_82 (lv_at hl 4 rfl) ?_
            refine lv_if_eq (pc := 84) F.1 F.2.1 d_Mo_draw_84 (tgt := 92) (by decide) (fun h84 => ?_) (fun h84 => ?_)
            · exact k79 s8 _ _ _ ⟨(by exact Eq.symm (Eq.trans (if_neg h79) (Eq.trans (if_pos h84) (rfl)))), w, lv_sub hl [0, 1, 2, 3, 4] rfl, iLN_s8⟩
            · refine lv_aload_n (pc := 87) F.1 F.2.1 d_Mo_draw_87 rfl (lv_at hl 0 rfl) ?_
              refine lv_iconst (pc := 88) (v := 1) F.1 F.2.1 d_Mo_draw_88 (by decide) ?_
              refine pM0_35 (pc := 89) F w (F.2.2.2.2 _ m_810) d_Mo_draw_89 (fun H locs s9 e_s9 w => ?_)
              have iLN_s9 : LN s9 := by rw [e_s9]; exact iLN_s8
              exact k79 s9 _ _ _ ⟨(by rw [e_s9]; exact Eq.symm (Eq.trans (if_neg h79) (Eq.trans (if_neg h84) (rfl)))), w, lv_sub hl [0, 1, 2, 3, 4] rfl, iLN_s9⟩
      · refine lv_if_eq (pc := 55) F.1 F.2.1 d_Mo_draw_55 (tgt := 78) (by decide) (fun h55 => ?_) (fun h55 => ?_)
        · exact k55 s6 _ _ _ ⟨(by exact Eq.symm (Eq.trans (if_pos h55) (rfl))), w, lv_sub hl [0, 1, 2, 3, 4] rfl, iLN_s6⟩
        · refine lv_iload_n (pc := 58) F.1 F.2.1 d_Mo_draw_58 rfl (lv_at hl 2 rfl) ?_
          refine lv_if_le (pc := 59) F.1 F.2.1 d_Mo_draw_59 (tgt := 78) (by decide) (fun h59 => ?_) (fun h59 => ?_)
          · exact k55 s6 _ _ _ ⟨(by exact Eq.symm (Eq.trans (if_neg h55) (Eq.trans (if_pos h59) (rfl)))), w, lv_sub hl [0, 1, 2, 3, 4] rfl, iLN_s6⟩
          · refine lv_aload_n (pc := 62) F.1 F.2.1 d_Mo_draw_62 rfl (lv_at hl 0 rfl) ?_
            refine gM0_34 (pc := 63) F w (F.2.2.2.2 _ m_809) d_Mo_draw_63 ?_
            refine lv_iconst (pc := 66) (v := 1) F.1 F.2.1 d_Mo_draw_66 (by decide) ?_
            refine lv_aload_n (pc := 67) F.1 F.2.1 d_Mo_draw_67 rfl (lv_at hl 0 rfl) ?_
            refine gM0_34 (pc := 68) F w (F.2.2.2.2 _ m_809) d_Mo_draw_68 ?_
            refine lv_iconst (pc := 71) (v := 1) F.1 F.2.1 d_Mo_draw_71 (by decide) ?_
            refine lM5 (pc := 72) F w (by unfold vp_in; decide) d_Mo_draw_72 ?_
            refine lv_iconst (pc := 73) (v := 1) F.1 F.2.1 d_Mo_draw_73 (by decide) ?_
            refine lv_iload_n (pc := 74) F.1 F.2.1 d_Mo_draw_74 rfl (lv_at hl 2 rfl) ?_
            refine lv_ishl (pc := 75) F.1 F.2.1 d_Mo_draw_75 ?_
            refine lv_ior (pc := 76) F.1 F.2.1 d_Mo_draw_76 ?_
            refine aM5 (pc := 77) F w (by unfold vp_in; decide) d_Mo_draw_77 (fun H locs s7 e_s7 w => ?_)
            have iLN_s7 : LN s7 := by rw [e_s7]; exact iLN_s6
            exact k55 s7 _ _ _ ⟨(by rw [e_s7]; exact Eq.symm (Eq.trans (if_neg h55) (Eq.trans (if_neg h59) (rfl)))), w, lv_sub hl [0, 1, 2, 3, 4] rfl, iLN_s7⟩
    · refine lv_if_eq (pc := 30) F.1 F.2.1 d_Mo_draw_30 (tgt := 53) (by decide) (fun h30 => ?_) (fun h30 => ?_)
      · exact k30 s1 _ _ _ ⟨(by exact Eq.symm (Eq.trans (if_pos h30) (rfl))), w, lv_sub hl [3, 4, 2, 1, 0] rfl, iLN_s1⟩
      · refine lv_iload_n (pc := 33) F.1 F.2.1 d_Mo_draw_33 rfl (lv_at hl 2 rfl) ?_
        refine lv_if_le (pc := 34) F.1 F.2.1 d_Mo_draw_34 (tgt := 53) (by decide) (fun h34 => ?_) (fun h34 => ?_)
        · exact k30 s1 _ _ _ ⟨(by exact Eq.symm (Eq.trans (if_neg h30) (Eq.trans (if_pos h34) (rfl)))), w, lv_sub hl [3, 4, 2, 1, 0] rfl, iLN_s1⟩
        · refine lv_aload_n (pc := 37) F.1 F.2.1 d_Mo_draw_37 rfl (lv_at hl 3 rfl) ?_
          refine gM0_34 (pc := 38) F w (F.2.2.2.2 _ m_809) d_Mo_draw_38 ?_
          refine lv_iconst (pc := 41) (v := 0) F.1 F.2.1 d_Mo_draw_41 (by decide) ?_
          refine lv_aload_n (pc := 42) F.1 F.2.1 d_Mo_draw_42 rfl (lv_at hl 3 rfl) ?_
          refine gM0_34 (pc := 43) F w (F.2.2.2.2 _ m_809) d_Mo_draw_43 ?_
          refine lv_iconst (pc := 46) (v := 0) F.1 F.2.1 d_Mo_draw_46 (by decide) ?_
          refine lM5 (pc := 47) F w (by unfold vp_in; decide) d_Mo_draw_47 ?_
          refine lv_iconst (pc := 48) (v := 1) F.1 F.2.1 d_Mo_draw_48 (by decide) ?_
          refine lv_iload_n (pc := 49) F.1 F.2.1 d_Mo_draw_49 rfl (lv_at hl 2 rfl) ?_
          refine lv_ishl (pc := 50) F.1 F.2.1 d_Mo_draw_50 ?_
          refine lv_ior (pc := 51) F.1 F.2.1 d_Mo_draw_51 ?_
          refine aM5 (pc := 52) F w (by unfold vp_in; decide) d_Mo_draw_52 (fun H locs s5 e_s5 w => ?_)
          have iLN_s5 : LN s5 := by rw [e_s5]; exact iLN_s1
          exact k30 s5 _ _ _ ⟨(by rw [e_s5]; exact Eq.symm (Eq.trans (if_neg h30) (Eq.trans (if_neg h34) (rfl)))), w, lv_sub hl [3, 4, 2, 1, 0] rfl, iLN_s5⟩
  · rintro s1 H locs ls ⟨ex, w, hl, iLN_s1⟩
    have e_s1 := ex
    have w : Wx D cI (wM cI am) (AM am) (AM am) s s.heap H locs s1 := w
    have iLN_s1 : LN s1 := iLN_s1
    have hl : lv_has ls 6 [(0, .ref (am 0)), (1, .int (0 + nI 32))] := hl
    have hx2_0 : 32 ≤ (0 + nI 32) := lp_ge (by decide)
    refine lv_iload_n (pc := 2) F.1 F.2.1 d_Mo_draw_2 rfl (lv_at hl 1 rfl) ?_
    refine lv_bipush (pc := 3) (v := 32) F.1 F.2.1 d_Mo_draw_3 (by decide) ?_
    refine lv_icmp_ge (pc := 5) F.1 F.2.1 d_Mo_draw_5 (tgt := 184) (by decide) (fun _ => ?_) (fun q => absurd hx2_0 q)
    refine lv_aload_n (pc := 184) F.1 F.2.1 d_Mo_draw_184 rfl (lv_at hl 0 rfl) ?_
    refine lv_iconst (pc := 185) (v := 0) F.1 F.2.1 d_Mo_draw_185 (by decide) ?_
    refine Kvi (pc := 186) (As := [.int 0]) (rest := []) F w (c_Mo_control l D cI am s1 0) 0 rfl rfl k_Mo_control m_954 (Nat.le_of_ble_eq_true rfl) (Nat.le_of_ble_eq_true rfl) ⟨rfl, rfl⟩ rfl hl.1 rfl (Nat.le_of_ble_eq_true rfl) d_Mo_draw_186 hcs (fun r14 H locs e_r14 w => ?_)
    refine cutW (α := Sg) (fun x H locs ls => x = f_Mo_draw_r189 s1 r14 ∧ Wx D cI (wM cI am) (AM am) (AM am) s s.heap H locs x ∧ lv_has ls 6 [(0, .ref (am 0)), (1, .int (0 + nI 32))] ∧ LN x) (fun x ls => F0 m 243 ls []) ?_ (fun k189 => ?_)
    · rintro s19 H locs ls ⟨ex, w, hl, iLN_s19⟩
      have e_s19 := ex
      have w : Wx D cI (wM cI am) (AM am) (AM am) s s.heap H locs s19 := w
      have iLN_s19 : LN s19 := iLN_s19
      have hl : lv_has ls 6 [(0, .ref (am 0)), (1, .int (0 + nI 32))] := hl
      show W _ _ _ _ _ _ _ _ _ _ _ _ _ _ _ (F0 m 243 ls [])
      exact Rv (pc := 243) F hr hlk w (by rw [e_s19, e_r14, e_s1]; exact Eq.symm (rfl)) d_Mo_draw_243
    · refine lv_if_eq (pc := 189) F.1 F.2.1 d_Mo_draw_189 (tgt := 243) (by decide) (fun h189 => ?_) (fun h189 => ?_)
      · exact k189 s1 _ _ _ ⟨(by exact Eq.symm (Eq.trans (if_pos h189) (rfl))), w, lv_sub hl [0, 1] rfl, iLN_s1⟩
      · refine lv_aload_n (pc := 192) F.1 F.2.1 d_Mo_draw_192 rfl (lv_at hl 0 rfl) ?_
        refine Kvi (pc := 193) (As := []) (rest := []) F w (c_Mo_hasRows l D cI am s1) 0 rfl rfl k_Mo_hasRows m_958 (Nat.le_of_ble_eq_true rfl) (Nat.le_of_ble_eq_true rfl) ⟨rfl, rfl⟩ rfl hl.1 rfl (Nat.le_of_ble_eq_true rfl) d_Mo_draw_193 hcs (fun r15 H locs e_r15 w => ?_)
        refine lv_if_eq (pc := 196) F.1 F.2.1 d_Mo_draw_196 (tgt := 243) (by decide) (fun h196 => ?_) (fun h196 => ?_)
        · exact k189 s1 _ _ _ ⟨(by rw [e_r15] at h196; exact Eq.symm (Eq.trans (if_neg h189) (Eq.trans (if_pos h196) (rfl)))), w, lv_sub hl [0, 1] rfl, iLN_s1⟩
        · refine lv_aload_n (pc := 199) F.1 F.2.1 d_Mo_draw_199 rfl (lv_at hl 0 rfl) ?_
          refine lv_dup (pc := 200) F.1 F.2.1 d_Mo_draw_200 rfl ?_
          refine gM0_28 (pc := 201) F w (F.2.2.2.2 _ m_803) d_Mo_draw_201 ?_
          refine lv_iconst (pc := 204) (v := 1) F.1 F.2.1 d_Mo_draw_204 (by decide) ?_
          refine lv_iadd (pc := 205) F.1 F.2.1 d_Mo_draw_205 ?_
          refine pM0_28 (pc := 206) F w (F.2.2.2.2 _ m_803) d_Mo_draw_206 (fun H locs s16 e_s16 w => ?_)
          have iLN_s16 : LN s16 := by rw [e_s16]; exact iLN_s1
          refine lv_aload_n (pc := 209) F.1 F.2.1 d_Mo_draw_209 rfl (lv_at hl 0 rfl) ?_
          refine lv_aload_n (pc := 210) F.1 F.2.1 d_Mo_draw_210 rfl (lv_at hl 0 rfl) ?_
          refine gM0_23 (pc := 211) F w (F.2.2.2.2 _ m_798) d_Mo_draw_211 ?_
          refine cutW (α := Int32) (fun x H locs ls => x = f_Mo_draw_r214 s16 ∧ Wx D cI (wM cI am) (AM am) (AM am) s s.heap H locs s16 ∧ lv_has ls 6 [(0, .ref (am 0)), (1, .int (0 + nI 32))]) (fun x ls => F0 m 240 ls [.int x, .ref (am 0)]) ?_ (fun k214 => ?_)
          · rintro v17 H locs ls ⟨ex, w, hl⟩
            have e_v17 := ex
            have w : Wx D cI (wM cI am) (AM am) (AM am) s s.heap H locs s16 := w
            have hl : lv_has ls 6 [(0, .ref (am 0)), (1, .int (0 + nI 32))] := hl
            show W _ _ _ _ _ _ _ _ _ _ _ _ _ _ _ (F0 m 240 ls [.int v17, .ref (am 0)])
            refine pM0_23 (pc := 240) F w (e_v17 ▸ z_f_Mo_draw_r214_0 s16) (F.2.2.2.2 _ m_798) d_Mo_draw_240 (fun H locs s18 e_s18 w => ?_)
            have iLN_s18 : LN s18 := by rw [e_s18]; exact iLN_s16
            exact k189 s18 _ _ _ ⟨(by rw [e_r15] at h196; rw [e_s18, e_v17, e_s16]; exact Eq.symm (Eq.trans (if_neg h189) (Eq.trans (if_neg h196) (rfl)))), w, lv_sub hl [0, 1] rfl, iLN_s18⟩
          · refine lv_if_ne (pc := 214) F.1 F.2.1 d_Mo_draw_214 (tgt := 235) (by decide) (fun h214 => ?_) (fun h214 => ?_)
            · refine lv_iconst (pc := 235) (v := 1) F.1 F.2.1 d_Mo_draw_235 (by decide) ?_
              refine lv_goto (pc := 236) F.1 F.2.1 d_Mo_draw_236 (tgt := 240) (by decide) ?_
              exact k214 1 _ _ _ ⟨(by exact Eq.symm (Eq.trans (if_neg h214) (rfl))), w, lv_sub hl [0, 1] rfl⟩
            · refine lv_aload_n (pc := 217) F.1 F.2.1 d_Mo_draw_217 rfl (lv_at hl 0 rfl) ?_
              refine gM0_28 (pc := 218) F w (F.2.2.2.2 _ m_803) d_Mo_draw_218 ?_
              refine lv_aload_n (pc := 221) F.1 F.2.1 d_Mo_draw_221 rfl (lv_at hl 0 rfl) ?_
              refine gM0_29 (pc := 222) F w (F.2.2.2.2 _ m_804) d_Mo_draw_222 ?_
              refine lv_icmp_ne (pc := 225) F.1 F.2.1 d_Mo_draw_225 (tgt := 239) (by decide) (fun h225 => ?_) (fun h225 => ?_)
              · refine lv_iconst (pc := 239) (v := 0) F.1 F.2.1 d_Mo_draw_239 (by decide) ?_
                exact k214 0 _ _ _ ⟨(by exact Eq.symm (Eq.trans (if_pos h214) (Eq.trans (if_neg h225) (rfl)))), w, lv_sub hl [0, 1] rfl⟩
              · refine lv_aload_n (pc := 228) F.1 F.2.1 d_Mo_draw_228 rfl (lv_at hl 0 rfl) ?_
                refine gM0_24 (pc := 229) F w (F.2.2.2.2 _ m_799) d_Mo_draw_229 ?_
                refine lv_if_eq (pc := 232) F.1 F.2.1 d_Mo_draw_232 (tgt := 239) (by decide) (fun h232 => ?_) (fun h232 => ?_)
                · refine lv_iconst (pc := 239) (v := 0) F.1 F.2.1 d_Mo_draw_239 (by decide) ?_
                  exact k214 0 _ _ _ ⟨(by exact Eq.symm (Eq.trans (if_pos h214) (Eq.trans (if_pos h225) (Eq.trans (if_pos h232) (rfl))))), w, lv_sub hl [0, 1] rfl⟩
                · refine lv_iconst (pc := 235) (v := 1) F.1 F.2.1 d_Mo_draw_235 (by decide) ?_
                  refine lv_goto (pc := 236) F.1 F.2.1 d_Mo_draw_236 (tgt := 240) (by decide) ?_
                  exact k214 1 _ _ _ ⟨(by exact Eq.symm (Eq.trans (if_pos h214) (Eq.trans (if_pos h225) (Eq.trans (if_neg h232) (rfl))))), w, lv_sub hl [0, 1] rfl⟩
