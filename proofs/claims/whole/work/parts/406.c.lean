def f_Mo_state_r238 (x1 : Int32) (s1 : Sg) : Int32 := if x1 = 17 then (if (s1 0 47) = 0 then (0) else (1)) else (if x1 = 18 then ((s1 0 46)) else (if x1 = 19 then ((s1 0 43)) else (if (s1 0 44) ≤ 0 then (0) else (1))))
def f_Mo_state_r207 (x1 : Int32) (s1 : Sg) : Int32 := if x1 = 14 then ((s1 0 37)) else (if x1 = 15 then ((s1 0 38)) else ((s1 0 39)))
def f_Mo_state_r165 (x1 : Int32) (s1 : Sg) : Int32 := if x1 = 10 then ((s1 0 33)) else (if x1 = 13 then ((s1 0 35)) else ((s1 5 (x1 - 11).toNatClampNeg)))
def f_Mo_state_r105 (x1 : Int32) (s1 : Sg) (r5 : Int32) : Int32 := if r5 = 0 then (if x1 = 6 then ((-1)) else (0)) else (if x1 = 6 then ((s1 0 27)) else ((s1 0 28)))
def f_Mo_state_r24 (x1 : Int32) (s1 : Sg) : Int32 := if x1 = 0 then ((s1 0 3)) else (if x1 = 1 then ((s1 0 4)) else (if x1 = 2 then ((s1 0 5)) else (if x1 = 3 then ((s1 0 20)) else (if x1 = 4 then ((s1 0 21)) else (if (s1 0 23) = 0 then (0) else (1))))))
def f_Mo_state (σ : Sg) (x1 : Int32) : Int32 × Sg := let s1 := sf σ 0 0 0; if x1 < 0 then (((-1), s1)) else (if x1 ≤ 20 then (if 6 ≤ x1 then (if 8 ≤ x1 then (if 10 ≤ x1 then (if 14 ≤ x1 then (if 17 ≤ x1 then (let v2 := (f_Mo_state_r238 x1 s1); (v2, s1)) else (let v3 := (f_Mo_state_r207 x1 s1); (v3, s1))) else (let v4 := (f_Mo_state_r165 x1 s1); (v4, s1))) else (((s1 2 (11 + x1).toNatClampNeg), s1))) else (let r5 := f_Mo_hasRows s1; let v6 := (f_Mo_state_r105 x1 s1 r5); (v6, s1))) else (let v7 := (f_Mo_state_r24 x1 s1); (v7, s1))) else (((-1), s1)))
set_option maxHeartbeats 1000000 in
set_option maxRecDepth 100000 in
theorem c_Mo_state (l : Launch) (D : va_G) (cI : ClassId) (am : Nat → Nat) (σ : Sg) (x1 : Int32) : Met l y_Mo_state (Cond.code y_Mo_state b_Mo_state 2 (some .int) :: al) { frames := 1, cells := 0, slots := 0, locals := 20 } (Px D cI (wM cI am) (AM am) σ [.ref (am 0), .int x1]) (va_Qi (fun r u => (r, u) = f_Mo_state σ x1) (Bx D cI (wM cI am) (AM am)) (AM am)) 0 0 (AM am) := by
  refine Mx l (by decide) (Nat.le_of_ble_eq_true rfl) ?_
  intro p e s m below meth c ls F w hr hlk hl
  have F : CallFix p m c b_Mo_state 2 s _ al "PictureMachineModel" := F
  have hl : lv_has ls 2 [(0, .ref (am 0)), (1, .int x1)] := hl
  have hcs : (0 : Nat) ≤ 0 ∧ (0 : Nat) ≤ 0 := ⟨Nat.le_refl _, Nat.le_refl _⟩
  refine lv_aload_n (pc := 0) F.1 F.2.1 d_Mo_state_0 rfl (lv_at hl 0 rfl) ?_
  refine lv_iconst (pc := 1) (v := 0) F.1 F.2.1 d_Mo_state_1 (by decide) ?_
  refine pM0_0 (pc := 2) F w (F.2.2.2.2 _ m_775) d_Mo_state_2 (fun H locs s1 e_s1 w => ?_)
  refine lv_iload_n (pc := 5) F.1 F.2.1 d_Mo_state_5 rfl (lv_at hl 1 rfl) ?_
  refine lv_if_lt (pc := 6) F.1 F.2.1 d_Mo_state_6 (tgt := 15) (by decide) (fun h6 => ?_) (fun h6 => ?_)
  · refine lv_iconst (pc := 15) (v := (-1)) F.1 F.2.1 d_Mo_state_15 (by decide) ?_
    exact Ri (pc := 16) F hr hlk w (by rw [e_s1]; exact Eq.symm (Eq.trans (if_pos h6) (rfl))) d_Mo_state_16
  · refine lv_iload_n (pc := 9) F.1 F.2.1 d_Mo_state_9 rfl (lv_at hl 1 rfl) ?_
    refine lv_bipush (pc := 10) (v := 20) F.1 F.2.1 d_Mo_state_10 (by decide) ?_
    refine lv_icmp_le (pc := 12) F.1 F.2.1 d_Mo_state_12 (tgt := 17) (by decide) (fun h12 => ?_) (fun h12 => ?_)
    · refine lv_iload_n (pc := 17) F.1 F.2.1 d_Mo_state_17 rfl (lv_at hl 1 rfl) ?_
      refine lv_bipush (pc := 18) (v := 6) F.1 F.2.1 d_Mo_state_18 (by decide) ?_
      refine lv_icmp_ge (pc := 20) F.1 F.2.1 d_Mo_state_20 (tgt := 95) (by decide) (fun h20 => ?_) (fun h20 => ?_)
      · refine lv_iload_n (pc := 95) F.1 F.2.1 d_Mo_state_95 rfl (lv_at hl 1 rfl) ?_
        refine lv_bipush (pc := 96) (v := 8) F.1 F.2.1 d_Mo_state_96 (by decide) ?_
        refine lv_icmp_ge (pc := 98) F.1 F.2.1 d_Mo_state_98 (tgt := 140) (by decide) (fun h98 => ?_) (fun h98 => ?_)
        · refine lv_iload_n (pc := 140) F.1 F.2.1 d_Mo_state_140 rfl (lv_at hl 1 rfl) ?_
          refine lv_bipush (pc := 141) (v := 10) F.1 F.2.1 d_Mo_state_141 (by decide) ?_
          refine lv_icmp_ge (pc := 143) F.1 F.2.1 d_Mo_state_143 (tgt := 156) (by decide) (fun h143 => ?_) (fun h143 => ?_)
          · refine lv_iload_n (pc := 156) F.1 F.2.1 d_Mo_state_156 rfl (lv_at hl 1 rfl) ?_
            refine lv_bipush (pc := 157) (v := 14) F.1 F.2.1 d_Mo_state_157 (by decide) ?_
            refine lv_icmp_ge (pc := 159) F.1 F.2.1 d_Mo_state_159 (tgt := 198) (by decide) (fun h159 => ?_) (fun h159 => ?_)
            · refine lv_iload_n (pc := 198) F.1 F.2.1 d_Mo_state_198 rfl (lv_at hl 1 rfl) ?_
              refine lv_bipush (pc := 199) (v := 17) F.1 F.2.1 d_Mo_state_199 (by decide) ?_
              refine lv_icmp_ge (pc := 201) F.1 F.2.1 d_Mo_state_201 (tgt := 235) (by decide) (fun h201 => ?_) (fun h201 => ?_)
              · refine lv_iload_n (pc := 235) F.1 F.2.1 d_Mo_state_235 rfl (lv_at hl 1 rfl) ?_
                refine lv_bipush (pc := 236) (v := 17) F.1 F.2.1 d_Mo_state_236 (by decide) ?_
                refine cutW (α := Int32) (fun x H locs ls => x = f_Mo_state_r238 x1 s1 ∧ Wx D cI (wM cI am) (AM am) (AM am) s s.heap H locs s1 ∧ lv_has ls 2 [(0, .ref (am 0)), (1, .int x1)]) (fun x ls => F0 m 294 ls [.int x]) ?_ (fun k238 => ?_)
                · rintro v2 H locs ls ⟨ex, w, hl⟩
                  have e_v2 := ex
                  have w : Wx D cI (wM cI am) (AM am) (AM am) s s.heap H locs s1 := w
                  have hl : lv_has ls 2 [(0, .ref (am 0)), (1, .int x1)] := hl
                  show W _ _ _ _ _ _ _ _ _ _ _ _ _ _ _ (F0 m 294 ls [.int v2])
                  exact Ri (pc := 294) F hr hlk w (by rw [e_v2, e_s1]; exact Eq.symm (Eq.trans (if_neg h6) (Eq.trans (if_pos h12) (Eq.trans (if_pos h20) (Eq.trans (if_pos h98) (Eq.trans (if_pos h143) (Eq.trans (if_pos h159) (Eq.trans (if_pos h201) (rfl))))))))) d_Mo_state_294
                · refine lv_icmp_ne (pc := 238) F.1 F.2.1 d_Mo_state_238 (tgt := 256) (by decide) (fun h238 => ?_) (fun h238 => ?_)
                  · refine lv_iload_n (pc := 256) F.1 F.2.1 d_Mo_state_256 rfl (lv_at hl 1 rfl) ?_
                    refine lv_bipush (pc := 257) (v := 18) F.1 F.2.1 d_Mo_state_257 (by decide) ?_
                    refine lv_icmp_ne (pc := 259) F.1 F.2.1 d_Mo_state_259 (tgt := 269) (by decide) (fun h259 => ?_) (fun h259 => ?_)
                    · refine lv_iload_n (pc := 269) F.1 F.2.1 d_Mo_state_269 rfl (lv_at hl 1 rfl) ?_
                      refine lv_bipush (pc := 270) (v := 19) F.1 F.2.1 d_Mo_state_270 (by decide) ?_
                      refine lv_icmp_ne (pc := 272) F.1 F.2.1 d_Mo_state_272 (tgt := 282) (by decide) (fun h272 => ?_) (fun h272 => ?_)
                      · refine lv_aload_n (pc := 282) F.1 F.2.1 d_Mo_state_282 rfl (lv_at hl 0 rfl) ?_
                        refine gM0_44 (pc := 283) F w (F.2.2.2.2 _ m_819) d_Mo_state_283 ?_
                        refine lv_if_le (pc := 286) F.1 F.2.1 d_Mo_state_286 (tgt := 293) (by decide) (fun h286 => ?_) (fun h286 => ?_)
                        · refine lv_iconst (pc := 293) (v := 0) F.1 F.2.1 d_Mo_state_293 (by decide) ?_
                          exact k238 0 _ _ _ ⟨(by exact Eq.symm (Eq.trans (if_neg h238) (Eq.trans (if_neg h259) (Eq.trans (if_neg h272) (Eq.trans (if_pos h286) (rfl)))))), w, lv_sub hl [0, 1] rfl⟩
                        · refine lv_iconst (pc := 289) (v := 1) F.1 F.2.1 d_Mo_state_289 (by decide) ?_
                          refine lv_goto (pc := 290) F.1 F.2.1 d_Mo_state_290 (tgt := 294) (by decide) ?_
                          exact k238 1 _ _ _ ⟨(by exact Eq.symm (Eq.trans (if_neg h238) (Eq.trans (if_neg h259) (Eq.trans (if_neg h272) (Eq.trans (if_neg h286) (rfl)))))), w, lv_sub hl [0, 1] rfl⟩
                      · refine lv_aload_n (pc := 275) F.1 F.2.1 d_Mo_state_275 rfl (lv_at hl 0 rfl) ?_
                        refine gM0_43 (pc := 276) F w (F.2.2.2.2 _ m_818) d_Mo_state_276 ?_
                        refine lv_goto (pc := 279) F.1 F.2.1 d_Mo_state_279 (tgt := 294) (by decide) ?_
                        exact k238 (s1 0 43) _ _ _ ⟨(by exact Eq.symm (Eq.trans (if_neg h238) (Eq.trans (if_neg h259) (Eq.trans (if_pos h272) (rfl))))), w, lv_sub hl [0, 1] rfl⟩
                    · refine lv_aload_n (pc := 262) F.1 F.2.1 d_Mo_state_262 rfl (lv_at hl 0 rfl) ?_
                      refine gM0_46 (pc := 263) F w (F.2.2.2.2 _ m_821) d_Mo_state_263 ?_
                      refine lv_goto (pc := 266) F.1 F.2.1 d_Mo_state_266 (tgt := 294) (by decide) ?_
                      exact k238 (s1 0 46) _ _ _ ⟨(by exact Eq.symm (Eq.trans (if_neg h238) (Eq.trans (if_pos h259) (rfl)))), w, lv_sub hl [0, 1] rfl⟩
                  · refine lv_aload_n (pc := 241) F.1 F.2.1 d_Mo_state_241 rfl (lv_at hl 0 rfl) ?_
                    refine gM0_47 (pc := 242) F w (F.2.2.2.2 _ m_822) d_Mo_state_242 ?_
                    refine lv_if_eq (pc := 245) F.1 F.2.1 d_Mo_state_245 (tgt := 252) (by decide) (fun h245 => ?_) (fun h245 => ?_)
                    · refine lv_iconst (pc := 252) (v := 0) F.1 F.2.1 d_Mo_state_252 (by decide) ?_
                      refine lv_goto (pc := 253) F.1 F.2.1 d_Mo_state_253 (tgt := 294) (by decide) ?_
                      exact k238 0 _ _ _ ⟨(by exact Eq.symm (Eq.trans (if_pos h238) (Eq.trans (if_pos h245) (rfl)))), w, lv_sub hl [0, 1] rfl⟩
                    · refine lv_iconst (pc := 248) (v := 1) F.1 F.2.1 d_Mo_state_248 (by decide) ?_
                      refine lv_goto (pc := 249) F.1 F.2.1 d_Mo_state_249 (tgt := 294) (by decide) ?_
                      exact k238 1 _ _ _ ⟨(by exact Eq.symm (Eq.trans (if_pos h238) (Eq.trans (if_neg h245) (rfl)))), w, lv_sub hl [0, 1] rfl⟩
              · refine lv_iload_n (pc := 204) F.1 F.2.1 d_Mo_state_204 rfl (lv_at hl 1 rfl) ?_
                refine lv_bipush (pc := 205) (v := 14) F.1 F.2.1 d_Mo_state_205 (by decide) ?_
                refine cutW (α := Int32) (fun x H locs ls => x = f_Mo_state_r207 x1 s1 ∧ Wx D cI (wM cI am) (AM am) (AM am) s s.heap H locs s1 ∧ lv_has ls 2 [(0, .ref (am 0)), (1, .int x1)]) (fun x ls => F0 m 234 ls [.int x]) ?_ (fun k207 => ?_)
                · rintro v3 H locs ls ⟨ex, w, hl⟩
                  have e_v3 := ex
                  have w : Wx D cI (wM cI am) (AM am) (AM am) s s.heap H locs s1 := w
                  have hl : lv_has ls 2 [(0, .ref (am 0)), (1, .int x1)] := hl
                  show W _ _ _ _ _ _ _ _ _ _ _ _ _ _ _ (F0 m 234 ls [.int v3])
                  exact Ri (pc := 234) F hr hlk w (by rw [e_v3, e_s1]; exact Eq.symm (Eq.trans (if_neg h6) (Eq.trans (if_pos h12) (Eq.trans (if_pos h20) (Eq.trans (if_pos h98) (Eq.trans (if_pos h143) (Eq.trans (if_pos h159) (Eq.trans (if_neg h201) (rfl))))))))) d_Mo_state_234
                · refine lv_icmp_ne (pc := 207) F.1 F.2.1 d_Mo_state_207 (tgt := 217) (by decide) (fun h207 => ?_) (fun h207 => ?_)
                  · refine lv_iload_n (pc := 217) F.1 F.2.1 d_Mo_state_217 rfl (lv_at hl 1 rfl) ?_
                    refine lv_bipush (pc := 218) (v := 15) F.1 F.2.1 d_Mo_state_218 (by decide) ?_
                    refine lv_icmp_ne (pc := 220) F.1 F.2.1 d_Mo_state_220 (tgt := 230) (by decide) (fun h220 => ?_) (fun h220 => ?_)
                    · refine lv_aload_n (pc := 230) F.1 F.2.1 d_Mo_state_230 rfl (lv_at hl 0 rfl) ?_
                      refine gM0_39 (pc := 231) F w (F.2.2.2.2 _ m_814) d_Mo_state_231 ?_
                      exact k207 (s1 0 39) _ _ _ ⟨(by exact Eq.symm (Eq.trans (if_neg h207) (Eq.trans (if_neg h220) (rfl)))), w, lv_sub hl [0, 1] rfl⟩
                    · refine lv_aload_n (pc := 223) F.1 F.2.1 d_Mo_state_223 rfl (lv_at hl 0 rfl) ?_
                      refine gM0_38 (pc := 224) F w (F.2.2.2.2 _ m_813) d_Mo_state_224 ?_
                      refine lv_goto (pc := 227) F.1 F.2.1 d_Mo_state_227 (tgt := 234) (by decide) ?_
                      exact k207 (s1 0 38) _ _ _ ⟨(by exact Eq.symm (Eq.trans (if_neg h207) (Eq.trans (if_pos h220) (rfl)))), w, lv_sub hl [0, 1] rfl⟩
                  · refine lv_aload_n (pc := 210) F.1 F.2.1 d_Mo_state_210 rfl (lv_at hl 0 rfl) ?_
                    refine gM0_37 (pc := 211) F w (F.2.2.2.2 _ m_812) d_Mo_state_211 ?_
                    refine lv_goto (pc := 214) F.1 F.2.1 d_Mo_state_214 (tgt := 234) (by decide) ?_
                    exact k207 (s1 0 37) _ _ _ ⟨(by exact Eq.symm (Eq.trans (if_pos h207) (rfl))), w, lv_sub hl [0, 1] rfl⟩
            · refine lv_iload_n (pc := 162) F.1 F.2.1 d_Mo_state_162 rfl (lv_at hl 1 rfl) ?_
              refine lv_bipush (pc := 163) (v := 10) F.1 F.2.1 d_Mo_state_163 (by decide) ?_
              refine cutW (α := Int32) (fun x H locs ls => x = f_Mo_state_r165 x1 s1 ∧ Wx D cI (wM cI am) (AM am) (AM am) s s.heap H locs s1 ∧ lv_has ls 2 [(0, .ref (am 0)), (1, .int x1)]) (fun x ls => F0 m 197 ls [.int x]) ?_ (fun k165 => ?_)
              · rintro v4 H locs ls ⟨ex, w, hl⟩
                have e_v4 := ex
                have w : Wx D cI (wM cI am) (AM am) (AM am) s s.heap H locs s1 := w
                have hl : lv_has ls 2 [(0, .ref (am 0)), (1, .int x1)] := hl
                show W _ _ _ _ _ _ _ _ _ _ _ _ _ _ _ (F0 m 197 ls [.int v4])
                exact Ri (pc := 197) F hr hlk w (by rw [e_v4, e_s1]; exact Eq.symm (Eq.trans (if_neg h6) (Eq.trans (if_pos h12) (Eq.trans (if_pos h20) (Eq.trans (if_pos h98) (Eq.trans (if_pos h143) (Eq.trans (if_neg h159) (rfl)))))))) d_Mo_state_197
              · refine lv_icmp_ne (pc := 165) F.1 F.2.1 d_Mo_state_165 (tgt := 175) (by decide) (fun h165 => ?_) (fun h165 => ?_)
                · refine lv_iload_n (pc := 175) F.1 F.2.1 d_Mo_state_175 rfl (lv_at hl 1 rfl) ?_
                  refine lv_bipush (pc := 176) (v := 13) F.1 F.2.1 d_Mo_state_176 (by decide) ?_
                  refine lv_icmp_ne (pc := 178) F.1 F.2.1 d_Mo_state_178 (tgt := 188) (by decide) (fun h178 => ?_) (fun h178 => ?_)
                  · refine lv_aload_n (pc := 188) F.1 F.2.1 d_Mo_state_188 rfl (lv_at hl 0 rfl) ?_
                    refine gM0_34 (pc := 189) F w (F.2.2.2.2 _ m_809) d_Mo_state_189 ?_
                    refine lv_iload_n (pc := 192) F.1 F.2.1 d_Mo_state_192 rfl (lv_at hl 1 rfl) ?_
                    refine lv_bipush (pc := 193) (v := 11) F.1 F.2.1 d_Mo_state_193 (by decide) ?_
                    refine lv_isub (pc := 195) F.1 F.2.1 d_Mo_state_195 ?_
                    refine lM5 (pc := 196) F w (i11_in (by assumption) (by assumption) (by assumption) (by assumption)) d_Mo_state_196 ?_
                    exact k165 (s1 5 (x1 - 11).toNatClampNeg) _ _ _ ⟨(by exact Eq.symm (Eq.trans (if_neg h165) (Eq.trans (if_neg h178) (rfl)))), w, lv_sub hl [0, 1] rfl⟩
                  · refine lv_aload_n (pc := 181) F.1 F.2.1 d_Mo_state_181 rfl (lv_at hl 0 rfl) ?_
                    refine gM0_35 (pc := 182) F w (F.2.2.2.2 _ m_810) d_Mo_state_182 ?_
                    refine lv_goto (pc := 185) F.1 F.2.1 d_Mo_state_185 (tgt := 197) (by decide) ?_
                    exact k165 (s1 0 35) _ _ _ ⟨(by exact Eq.symm (Eq.trans (if_neg h165) (Eq.trans (if_pos h178) (rfl)))), w, lv_sub hl [0, 1] rfl⟩
                · refine lv_aload_n (pc := 168) F.1 F.2.1 d_Mo_state_168 rfl (lv_at hl 0 rfl) ?_
                  refine gM0_33 (pc := 169) F w (F.2.2.2.2 _ m_808) d_Mo_state_169 ?_
                  refine lv_goto (pc := 172) F.1 F.2.1 d_Mo_state_172 (tgt := 197) (by decide) ?_
                  exact k165 (s1 0 33) _ _ _ ⟨(by exact Eq.symm (Eq.trans (if_pos h165) (rfl))), w, lv_sub hl [0, 1] rfl⟩
          · refine lv_aload_n (pc := 146) F.1 F.2.1 d_Mo_state_146 rfl (lv_at hl 0 rfl) ?_
            refine gM0_2 (pc := 147) F w (F.2.2.2.2 _ m_777) d_Mo_state_147 ?_
            refine lv_bipush (pc := 150) (v := 11) F.1 F.2.1 d_Mo_state_150 (by decide) ?_
            refine lv_iload_n (pc := 152) F.1 F.2.1 d_Mo_state_152 rfl (lv_at hl 1 rfl) ?_
            refine lv_iadd (pc := 153) F.1 F.2.1 d_Mo_state_153 ?_
            refine lM2 (pc := 154) F w (i8_in (by assumption) (by assumption)) d_Mo_state_154 ?_
            exact Ri (pc := 155) F hr hlk w (by rw [e_s1]; exact Eq.symm (Eq.trans (if_neg h6) (Eq.trans (if_pos h12) (Eq.trans (if_pos h20) (Eq.trans (if_pos h98) (Eq.trans (if_neg h143) (rfl))))))) d_Mo_state_155
        · refine lv_aload_n (pc := 101) F.1 F.2.1 d_Mo_state_101 rfl (lv_at hl 0 rfl) ?_
          refine Kvi (pc := 102) (As := []) (rest := []) F w (c_Mo_hasRows l D cI am s1) 0 rfl rfl k_Mo_hasRows m_958 (Nat.le_of_ble_eq_true rfl) (Nat.le_of_ble_eq_true rfl) ⟨rfl, rfl⟩ rfl hl.1 rfl (Nat.le_of_ble_eq_true rfl) d_Mo_state_102 hcs (fun r5 H locs e_r5 w => ?_)
          refine cutW (α := Int32) (fun x H locs ls => x = f_Mo_state_r105 x1 s1 r5 ∧ Wx D cI (wM cI am) (AM am) (AM am) s s.heap H locs s1 ∧ lv_has ls 2 [(0, .ref (am 0)), (1, .int x1)]) (fun x ls => F0 m 139 ls [.int x]) ?_ (fun k105 => ?_)
          · rintro v6 H locs ls ⟨ex, w, hl⟩
            have e_v6 := ex
            have w : Wx D cI (wM cI am) (AM am) (AM am) s s.heap H locs s1 := w
            have hl : lv_has ls 2 [(0, .ref (am 0)), (1, .int x1)] := hl
            show W _ _ _ _ _ _ _ _ _ _ _ _ _ _ _ (F0 m 139 ls [.int v6])
            exact Ri (pc := 139) F hr hlk w (by rw [e_v6, e_r5, e_s1]; exact Eq.symm (Eq.trans (if_neg h6) (Eq.trans (if_pos h12) (Eq.trans (if_pos h20) (Eq.trans (if_neg h98) (rfl)))))) d_Mo_state_139
          · refine lv_if_ne (pc := 105) F.1 F.2.1 d_Mo_state_105 (tgt := 122) (by decide) (fun h105 => ?_) (fun h105 => ?_)
            · refine lv_iload_n (pc := 122) F.1 F.2.1 d_Mo_state_122 rfl (lv_at hl 1 rfl) ?_
              refine lv_bipush (pc := 123) (v := 6) F.1 F.2.1 d_Mo_state_123 (by decide) ?_
              refine lv_icmp_ne (pc := 125) F.1 F.2.1 d_Mo_state_125 (tgt := 135) (by decide) (fun h125 => ?_) (fun h125 => ?_)
              · refine lv_aload_n (pc := 135) F.1 F.2.1 d_Mo_state_135 rfl (lv_at hl 0 rfl) ?_
                refine gM0_28 (pc := 136) F w (F.2.2.2.2 _ m_803) d_Mo_state_136 ?_
                exact k105 (s1 0 28) _ _ _ ⟨(by exact Eq.symm (Eq.trans (if_neg h105) (Eq.trans (if_neg h125) (rfl)))), w, lv_sub hl [0, 1] rfl⟩
              · refine lv_aload_n (pc := 128) F.1 F.2.1 d_Mo_state_128 rfl (lv_at hl 0 rfl) ?_
                refine gM0_27 (pc := 129) F w (F.2.2.2.2 _ m_802) d_Mo_state_129 ?_
                refine lv_goto (pc := 132) F.1 F.2.1 d_Mo_state_132 (tgt := 139) (by decide) ?_
                exact k105 (s1 0 27) _ _ _ ⟨(by exact Eq.symm (Eq.trans (if_neg h105) (Eq.trans (if_pos h125) (rfl)))), w, lv_sub hl [0, 1] rfl⟩
            · refine lv_iload_n (pc := 108) F.1 F.2.1 d_Mo_state_108 rfl (lv_at hl 1 rfl) ?_
              refine lv_bipush (pc := 109) (v := 6) F.1 F.2.1 d_Mo_state_109 (by decide) ?_
              refine lv_icmp_ne (pc := 111) F.1 F.2.1 d_Mo_state_111 (tgt := 118) (by decide) (fun h111 => ?_) (fun h111 => ?_)
              · refine lv_iconst (pc := 118) (v := 0) F.1 F.2.1 d_Mo_state_118 (by decide) ?_
                refine lv_goto (pc := 119) F.1 F.2.1 d_Mo_state_119 (tgt := 139) (by decide) ?_
                exact k105 0 _ _ _ ⟨(by exact Eq.symm (Eq.trans (if_pos h105) (Eq.trans (if_neg h111) (rfl)))), w, lv_sub hl [0, 1] rfl⟩
              · refine lv_iconst (pc := 114) (v := (-1)) F.1 F.2.1 d_Mo_state_114 (by decide) ?_
                refine lv_goto (pc := 115) F.1 F.2.1 d_Mo_state_115 (tgt := 139) (by decide) ?_
                exact k105 (-1) _ _ _ ⟨(by exact Eq.symm (Eq.trans (if_pos h105) (Eq.trans (if_pos h111) (rfl)))), w, lv_sub hl [0, 1] rfl⟩
      · refine lv_iload_n (pc := 23) F.1 F.2.1 d_Mo_state_23 rfl (lv_at hl 1 rfl) ?_
        refine cutW (α := Int32) (fun x H locs ls => x = f_Mo_state_r24 x1 s1 ∧ Wx D cI (wM cI am) (AM am) (AM am) s s.heap H locs s1 ∧ lv_has ls 2 [(0, .ref (am 0)), (1, .int x1)]) (fun x ls => F0 m 94 ls [.int x]) ?_ (fun k24 => ?_)
        · rintro v7 H locs ls ⟨ex, w, hl⟩
          have e_v7 := ex
          have w : Wx D cI (wM cI am) (AM am) (AM am) s s.heap H locs s1 := w
          have hl : lv_has ls 2 [(0, .ref (am 0)), (1, .int x1)] := hl
          show W _ _ _ _ _ _ _ _ _ _ _ _ _ _ _ (F0 m 94 ls [.int v7])
          exact Ri (pc := 94) F hr hlk w (by rw [e_v7, e_s1]; exact Eq.symm (Eq.trans (if_neg h6) (Eq.trans (if_pos h12) (Eq.trans (if_neg h20) (rfl))))) d_Mo_state_94
        · refine lv_if_ne (pc := 24) F.1 F.2.1 d_Mo_state_24 (tgt := 34) (by decide) (fun h24 => ?_) (fun h24 => ?_)
          · refine lv_iload_n (pc := 34) F.1 F.2.1 d_Mo_state_34 rfl (lv_at hl 1 rfl) ?_
            refine lv_iconst (pc := 35) (v := 1) F.1 F.2.1 d_Mo_state_35 (by decide) ?_
            refine lv_icmp_ne (pc := 36) F.1 F.2.1 d_Mo_state_36 (tgt := 46) (by decide) (fun h36 => ?_) (fun h36 => ?_)
            · refine lv_iload_n (pc := 46) F.1 F.2.1 d_Mo_state_46 rfl (lv_at hl 1 rfl) ?_
              refine lv_iconst (pc := 47) (v := 2) F.1 F.2.1 d_Mo_state_47 (by decide) ?_
              refine lv_icmp_ne (pc := 48) F.1 F.2.1 d_Mo_state_48 (tgt := 58) (by decide) (fun h48 => ?_) (fun h48 => ?_)
              · refine lv_iload_n (pc := 58) F.1 F.2.1 d_Mo_state_58 rfl (lv_at hl 1 rfl) ?_
                refine lv_iconst (pc := 59) (v := 3) F.1 F.2.1 d_Mo_state_59 (by decide) ?_
                refine lv_icmp_ne (pc := 60) F.1 F.2.1 d_Mo_state_60 (tgt := 70) (by decide) (fun h60 => ?_) (fun h60 => ?_)
                · refine lv_iload_n (pc := 70) F.1 F.2.1 d_Mo_state_70 rfl (lv_at hl 1 rfl) ?_
                  refine lv_iconst (pc := 71) (v := 4) F.1 F.2.1 d_Mo_state_71 (by decide) ?_
                  refine lv_icmp_ne (pc := 72) F.1 F.2.1 d_Mo_state_72 (tgt := 82) (by decide) (fun h72 => ?_) (fun h72 => ?_)
                  · refine lv_aload_n (pc := 82) F.1 F.2.1 d_Mo_state_82 rfl (lv_at hl 0 rfl) ?_
                    refine gM0_23 (pc := 83) F w (F.2.2.2.2 _ m_798) d_Mo_state_83 ?_
                    refine lv_if_eq (pc := 86) F.1 F.2.1 d_Mo_state_86 (tgt := 93) (by decide) (fun h86 => ?_) (fun h86 => ?_)
                    · refine lv_iconst (pc := 93) (v := 0) F.1 F.2.1 d_Mo_state_93 (by decide) ?_
                      exact k24 0 _ _ _ ⟨(by exact Eq.symm (Eq.trans (if_neg h24) (Eq.trans (if_neg h36) (Eq.trans (if_neg h48) (Eq.trans (if_neg h60) (Eq.trans (if_neg h72) (Eq.trans (if_pos h86) (rfl)))))))), w, lv_sub hl [0, 1] rfl⟩
                    · refine lv_iconst (pc := 89) (v := 1) F.1 F.2.1 d_Mo_state_89 (by decide) ?_
                      refine lv_goto (pc := 90) F.1 F.2.1 d_Mo_state_90 (tgt := 94) (by decide) ?_
                      exact k24 1 _ _ _ ⟨(by exact Eq.symm (Eq.trans (if_neg h24) (Eq.trans (if_neg h36) (Eq.trans (if_neg h48) (Eq.trans (if_neg h60) (Eq.trans (if_neg h72) (Eq.trans (if_neg h86) (rfl)))))))), w, lv_sub hl [0, 1] rfl⟩
                  · refine lv_aload_n (pc := 75) F.1 F.2.1 d_Mo_state_75 rfl (lv_at hl 0 rfl) ?_
                    refine gM0_21 (pc := 76) F w (F.2.2.2.2 _ m_796) d_Mo_state_76 ?_
                    refine lv_goto (pc := 79) F.1 F.2.1 d_Mo_state_79 (tgt := 94) (by decide) ?_
                    exact k24 (s1 0 21) _ _ _ ⟨(by exact Eq.symm (Eq.trans (if_neg h24) (Eq.trans (if_neg h36) (Eq.trans (if_neg h48) (Eq.trans (if_neg h60) (Eq.trans (if_pos h72) (rfl))))))), w, lv_sub hl [0, 1] rfl⟩
                · refine lv_aload_n (pc := 63) F.1 F.2.1 d_Mo_state_63 rfl (lv_at hl 0 rfl) ?_
                  refine gM0_20 (pc := 64) F w (F.2.2.2.2 _ m_795) d_Mo_state_64 ?_
                  refine lv_goto (pc := 67) F.1 F.2.1 d_Mo_state_67 (tgt := 94) (by decide) ?_
                  exact k24 (s1 0 20) _ _ _ ⟨(by exact Eq.symm (Eq.trans (if_neg h24) (Eq.trans (if_neg h36) (Eq.trans (if_neg h48) (Eq.trans (if_pos h60) (rfl)))))), w, lv_sub hl [0, 1] rfl⟩
              · refine lv_aload_n (pc := 51) F.1 F.2.1 d_Mo_state_51 rfl (lv_at hl 0 rfl) ?_
                refine gM0_5 (pc := 52) F w (F.2.2.2.2 _ m_780) d_Mo_state_52 ?_
                refine lv_goto (pc := 55) F.1 F.2.1 d_Mo_state_55 (tgt := 94) (by decide) ?_
                exact k24 (s1 0 5) _ _ _ ⟨(by exact Eq.symm (Eq.trans (if_neg h24) (Eq.trans (if_neg h36) (Eq.trans (if_pos h48) (rfl))))), w, lv_sub hl [0, 1] rfl⟩
            · refine lv_aload_n (pc := 39) F.1 F.2.1 d_Mo_state_39 rfl (lv_at hl 0 rfl) ?_
              refine gM0_4 (pc := 40) F w (F.2.2.2.2 _ m_779) d_Mo_state_40 ?_
              refine lv_goto (pc := 43) F.1 F.2.1 d_Mo_state_43 (tgt := 94) (by decide) ?_
              exact k24 (s1 0 4) _ _ _ ⟨(by exact Eq.symm (Eq.trans (if_neg h24) (Eq.trans (if_pos h36) (rfl)))), w, lv_sub hl [0, 1] rfl⟩
          · refine lv_aload_n (pc := 27) F.1 F.2.1 d_Mo_state_27 rfl (lv_at hl 0 rfl) ?_
            refine gM0_3 (pc := 28) F w (F.2.2.2.2 _ m_778) d_Mo_state_28 ?_
            refine lv_goto (pc := 31) F.1 F.2.1 d_Mo_state_31 (tgt := 94) (by decide) ?_
            exact k24 (s1 0 3) _ _ _ ⟨(by exact Eq.symm (Eq.trans (if_pos h24) (rfl))), w, lv_sub hl [0, 1] rfl⟩
    · refine lv_iconst (pc := 15) (v := (-1)) F.1 F.2.1 d_Mo_state_15 (by decide) ?_
      exact Ri (pc := 16) F hr hlk w (by rw [e_s1]; exact Eq.symm (Eq.trans (if_neg h6) (Eq.trans (if_neg h12) (rfl)))) d_Mo_state_16
