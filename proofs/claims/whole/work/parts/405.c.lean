def f_Mo_tick_r6 (r1 : Int32) (s2 : Sg) : Int32 × Sg := if r1 = 0 then (let r3 := (f_Mo_steps s2).1; let s4 := (f_Mo_steps s2).2; if r3 = 0 then ((0, s4)) else ((1, s4))) else ((0, s2))
def f_Mo_tick_r67 (s8 : Sg) : Sg := if 0 ≤ (s8 0 38) then (s8) else (let s9 := sf s8 0 38 (s8 2 (21 : Int32).toNatClampNeg); let s10 := sf s9 0 39 1; s10)
def f_Mo_tick_r105 (s11 : Sg) (r12 : Int32) : Sg := if r12 = 0 then (s11) else (let s13 := f_Mo_draw s11; s13)
def f_Mo_tick_r92 (s11 : Sg) : Sg := if (s11 0 5) = 23 then (let r12 := f_Mo_in (s11 0 4) 1 12; let s14 := (f_Mo_tick_r105 s11 r12); let s15 := f_Mo_deliver s14; s15) else (s11)
def f_Mo_tick_r134 (s17 : Sg) : Int32 := if (s17 0 5) = 0 then ((((s17 0 4) + 1) - ((s17 0 4) + 1) / 16 * 16)) else ((s17 0 4))
def f_Mo_tick_r161 (s19 : Sg) : Int32 := if (s19 0 5) = 0 then (if (s19 0 4) = 0 then (((s19 0 3) + 1)) else ((s19 0 3))) else ((s19 0 3))
def f_Mo_tick (σ : Sg) : Int32 × Sg := let r1 := (f_Mo_displays σ).1; let s2 := (f_Mo_displays σ).2; let v5 := (f_Mo_tick_r6 r1 s2).1; let s6 := (f_Mo_tick_r6 r1 s2).2; let s7 := sf s6 0 37 (((s6 0 37) >>> ((1 : Int32) &&& 31)) ||| ((((s6 0 37) &&& 1) ^^^ (((s6 0 37) >>> ((4 : Int32) &&& 31)) &&& 1)) <<< ((8 : Int32) &&& 31))); let s8 := sf s7 0 38 ((s7 0 38) - 1); let s11 := (f_Mo_tick_r67 s8); let s16 := (f_Mo_tick_r92 s11); let s17 := sf s16 0 5 (((s16 0 5) + 1) - ((s16 0 5) + 1) / 24 * 24); let v18 := (f_Mo_tick_r134 s17); let s19 := sf s17 0 4 v18; let v20 := (f_Mo_tick_r161 s19); let s21 := sf s19 0 3 v20; (v5, s21)
theorem z_f_Mo_tick_r6_0 (r1 : Int32) (s2 : Sg) : (f_Mo_tick_r6 r1 s2).1 = 0 ∨ (f_Mo_tick_r6 r1 s2).1 = 1 := by unfold f_Mo_tick_r6; (try dsimp only); (repeat' split) <;> (try dsimp only) <;> first | (with_reducible exact Or.inl rfl) | (with_reducible exact Or.inr rfl) | (with_reducible apply z_Mo_displays) | (with_reducible apply z_Mo_in) | (with_reducible apply z_Mo_steps) | exact Or.inl rfl | exact Or.inr rfl | apply z_Mo_displays | apply z_Mo_in | apply z_Mo_steps
theorem z_Mo_tick (σ : Sg) : (f_Mo_tick σ ).1 = 0 ∨ (f_Mo_tick σ ).1 = 1 := by unfold f_Mo_tick; dsimp only; exact z_f_Mo_tick_r6_0 _ _
/-- the state behind the shift register and the timer -/
def mTm (s6 : Sg) : Sg := f_Mo_tick_r67 (sf (sf s6 0 37 (((s6 0 37) >>> ((1 : Int32) &&& 31)) ||| ((((s6 0 37) &&& 1) ^^^ (((s6 0 37) >>> ((4 : Int32) &&& 31)) &&& 1)) <<< ((8 : Int32) &&& 31)))) 0 38 ((sf s6 0 37 (((s6 0 37) >>> ((1 : Int32) &&& 31)) ||| ((((s6 0 37) &&& 1) ^^^ (((s6 0 37) >>> ((4 : Int32) &&& 31)) &&& 1)) <<< ((8 : Int32) &&& 31)))) 0 38 - 1))
/-- what a cycle asks of the reference's state, and of the states on its way -/
def OkM (σ : Sg) : Prop := JM (f_Mo_displays σ).2 ∧ RB (f_Mo_displays σ).2 ∧ JM (f_Mo_tick_r105 (mTm (f_Mo_tick_r6 (f_Mo_displays σ).1 (f_Mo_displays σ).2).2) (f_Mo_in ((mTm (f_Mo_tick_r6 (f_Mo_displays σ).1 (f_Mo_displays σ).2).2) 0 4) 1 12))
set_option maxHeartbeats 1000000 in
set_option maxRecDepth 100000 in
theorem c_Mo_tick (l : Launch) (D : va_G) (cI : ClassId) (am : Nat → Nat) (σ : Sg) (hO : OkM σ) : Met l y_Mo_tick (Cond.code y_Mo_tick b_Mo_tick 4 (some .boolean) :: al) { frames := 8, cells := 0, slots := 0, locals := 181 } (Px D cI (wM cI am) (AM am) σ [.ref (am 0)]) (va_Qi (fun r u => (r, u) = f_Mo_tick σ ) (Bx D cI (wM cI am) (AM am)) (AM am)) 0 0 (AM am) := by
  refine Mx l (by decide) (Nat.le_of_ble_eq_true rfl) ?_
  intro p e s m below meth c ls F w hr hlk hl
  have F : CallFix p m c b_Mo_tick 4 s _ al "PictureMachineModel" := F
  have hl : lv_has ls 4 [(0, .ref (am 0))] := hl
  have hcs : (0 : Nat) ≤ 0 ∧ (0 : Nat) ≤ 0 := ⟨Nat.le_refl _, Nat.le_refl _⟩
  refine lv_aload_n (pc := 0) F.1 F.2.1 d_Mo_tick_0 rfl (lv_at hl 0 rfl) ?_
  refine Cvi (pc := 1) (As := []) (rest := []) F w (c_Mo_displays l D cI am σ) 0 rfl rfl k_Mo_displays m_942 (Nat.le_of_ble_eq_true rfl) (Nat.le_of_ble_eq_true rfl) ⟨rfl, rfl⟩ rfl hl.1 rfl (Nat.le_of_ble_eq_true rfl) d_Mo_tick_1 hcs (fun r1 s2 H locs e_r1 e_s2 w => ?_)
  have iJM_s2 : JM s2 := by rw [e_s2]; exact hO.1
  have iRB_s2 : RB s2 := by rw [e_s2]; exact hO.2.1
  refine lv_istore_n (pc := 4) F.1 F.2.1 d_Mo_tick_4 rfl hl (by decide) rfl (fun ls hl => ?_)
  have hl : lv_has ls 4 [(1, .int r1), (0, .ref (am 0))] := hl
  refine lv_iload_n (pc := 5) F.1 F.2.1 d_Mo_tick_5 rfl (lv_at hl 0 rfl) ?_
  refine cutW (α := Int32 × Sg) (fun x H locs ls => x = f_Mo_tick_r6 r1 s2 ∧ Wx D cI (wM cI am) (AM am) (AM am) s s.heap H locs x.2 ∧ lv_has ls 4 [(0, .ref (am 0)), (1, .int r1)]) (fun x ls => F0 m 21 ls [.int (x.1)]) ?_ (fun k6 => ?_)
  · rintro ⟨v5, s6⟩ H locs ls ⟨ex, w, hl⟩
    have e_v5 : v5 = (f_Mo_tick_r6 r1 s2).1 := congrArg (fun z => z.1) ex
    have e_s6 : s6 = (f_Mo_tick_r6 r1 s2).2 := congrArg (fun z => z.2) ex
    clear ex
    have w : Wx D cI (wM cI am) (AM am) (AM am) s s.heap H locs s6 := w
    have hl : lv_has ls 4 [(0, .ref (am 0)), (1, .int r1)] := hl
    show W _ _ _ _ _ _ _ _ _ _ _ _ _ _ _ (F0 m 21 ls [.int v5])
    refine lv_istore_n (pc := 21) F.1 F.2.1 d_Mo_tick_21 rfl hl (by decide) rfl (fun ls hl => ?_)
    have hl : lv_has ls 4 [(2, .int v5), (0, .ref (am 0)), (1, .int r1)] := hl
    refine lv_aload_n (pc := 22) F.1 F.2.1 d_Mo_tick_22 rfl (lv_at hl 1 rfl) ?_
    refine gM0_37 (pc := 23) F w (F.2.2.2.2 _ m_812) d_Mo_tick_23 ?_
    refine lv_iconst (pc := 26) (v := 1) F.1 F.2.1 d_Mo_tick_26 (by decide) ?_
    refine lv_iand (pc := 27) F.1 F.2.1 d_Mo_tick_27 ?_
    refine lv_aload_n (pc := 28) F.1 F.2.1 d_Mo_tick_28 rfl (lv_at hl 1 rfl) ?_
    refine gM0_37 (pc := 29) F w (F.2.2.2.2 _ m_812) d_Mo_tick_29 ?_
    refine lv_iconst (pc := 32) (v := 4) F.1 F.2.1 d_Mo_tick_32 (by decide) ?_
    refine lv_ishr (pc := 33) F.1 F.2.1 d_Mo_tick_33 ?_
    refine lv_iconst (pc := 34) (v := 1) F.1 F.2.1 d_Mo_tick_34 (by decide) ?_
    refine lv_iand (pc := 35) F.1 F.2.1 d_Mo_tick_35 ?_
    refine lv_ixor (pc := 36) F.1 F.2.1 d_Mo_tick_36 ?_
    refine lv_istore_n (pc := 37) F.1 F.2.1 d_Mo_tick_37 rfl hl (by decide) rfl (fun ls hl => ?_)
    have hl : lv_has ls 4 [(3, .int (((s6 0 37) &&& 1) ^^^ (((s6 0 37) >>> ((4 : Int32) &&& 31)) &&& 1))), (2, .int v5), (0, .ref (am 0)), (1, .int r1)] := hl
    refine lv_aload_n (pc := 38) F.1 F.2.1 d_Mo_tick_38 rfl (lv_at hl 2 rfl) ?_
    refine lv_aload_n (pc := 39) F.1 F.2.1 d_Mo_tick_39 rfl (lv_at hl 2 rfl) ?_
    refine gM0_37 (pc := 40) F w (F.2.2.2.2 _ m_812) d_Mo_tick_40 ?_
    refine lv_iconst (pc := 43) (v := 1) F.1 F.2.1 d_Mo_tick_43 (by decide) ?_
    refine lv_ishr (pc := 44) F.1 F.2.1 d_Mo_tick_44 ?_
    refine lv_iload_n (pc := 45) F.1 F.2.1 d_Mo_tick_45 rfl (lv_at hl 0 rfl) ?_
    refine lv_bipush (pc := 46) (v := 8) F.1 F.2.1 d_Mo_tick_46 (by decide) ?_
    refine lv_ishl (pc := 48) F.1 F.2.1 d_Mo_tick_48 ?_
    refine lv_ior (pc := 49) F.1 F.2.1 d_Mo_tick_49 ?_
    refine pM0_37 (pc := 50) F w (F.2.2.2.2 _ m_812) d_Mo_tick_50 (fun H locs s7 e_s7 w => ?_)
    refine lv_aload_n (pc := 53) F.1 F.2.1 d_Mo_tick_53 rfl (lv_at hl 2 rfl) ?_
    refine lv_dup (pc := 54) F.1 F.2.1 d_Mo_tick_54 rfl ?_
    refine gM0_38 (pc := 55) F w (F.2.2.2.2 _ m_813) d_Mo_tick_55 ?_
    refine lv_iconst (pc := 58) (v := 1) F.1 F.2.1 d_Mo_tick_58 (by decide) ?_
    refine lv_isub (pc := 59) F.1 F.2.1 d_Mo_tick_59 ?_
    refine pM0_38 (pc := 60) F w (F.2.2.2.2 _ m_813) d_Mo_tick_60 (fun H locs s8 e_s8 w => ?_)
    refine lv_aload_n (pc := 63) F.1 F.2.1 d_Mo_tick_63 rfl (lv_at hl 2 rfl) ?_
    refine gM0_38 (pc := 64) F w (F.2.2.2.2 _ m_813) d_Mo_tick_64 ?_
    refine cutW (α := Sg) (fun x H locs ls => x = f_Mo_tick_r67 s8 ∧ Wx D cI (wM cI am) (AM am) (AM am) s s.heap H locs x ∧ lv_has ls 4 [(0, .ref (am 0)), (1, .int r1), (2, .int v5), (3, .int (((s6 0 37) &&& 1) ^^^ (((s6 0 37) >>> ((4 : Int32) &&& 31)) &&& 1)))]) (fun x ls => F0 m 86 ls []) ?_ (fun k67 => ?_)
    · rintro s11 H locs ls ⟨ex, w, hl⟩
      have e_s11 := ex
      have w : Wx D cI (wM cI am) (AM am) (AM am) s s.heap H locs s11 := w
      have hl : lv_has ls 4 [(0, .ref (am 0)), (1, .int r1), (2, .int v5), (3, .int (((s6 0 37) &&& 1) ^^^ (((s6 0 37) >>> ((4 : Int32) &&& 31)) &&& 1)))] := hl
      show W _ _ _ _ _ _ _ _ _ _ _ _ _ _ _ (F0 m 86 ls [])
      refine lv_aload_n (pc := 86) F.1 F.2.1 d_Mo_tick_86 rfl (lv_at hl 0 rfl) ?_
      refine gM0_5 (pc := 87) F w (F.2.2.2.2 _ m_780) d_Mo_tick_87 ?_
      refine lv_bipush (pc := 90) (v := 23) F.1 F.2.1 d_Mo_tick_90 (by decide) ?_
      refine cutW (α := Sg) (fun x H locs ls => x = f_Mo_tick_r92 s11 ∧ Wx D cI (wM cI am) (AM am) (AM am) s s.heap H locs x ∧ lv_has ls 4 [(0, .ref (am 0)), (1, .int r1), (2, .int v5), (3, .int (((s6 0 37) &&& 1) ^^^ (((s6 0 37) >>> ((4 : Int32) &&& 31)) &&& 1)))]) (fun x ls => F0 m 116 ls []) ?_ (fun k92 => ?_)
      · rintro s16 H locs ls ⟨ex, w, hl⟩
        have e_s16 := ex
        have w : Wx D cI (wM cI am) (AM am) (AM am) s s.heap H locs s16 := w
        have hl : lv_has ls 4 [(0, .ref (am 0)), (1, .int r1), (2, .int v5), (3, .int (((s6 0 37) &&& 1) ^^^ (((s6 0 37) >>> ((4 : Int32) &&& 31)) &&& 1)))] := hl
        show W _ _ _ _ _ _ _ _ _ _ _ _ _ _ _ (F0 m 116 ls [])
        refine lv_aload_n (pc := 116) F.1 F.2.1 d_Mo_tick_116 rfl (lv_at hl 0 rfl) ?_
        refine lv_aload_n (pc := 117) F.1 F.2.1 d_Mo_tick_117 rfl (lv_at hl 0 rfl) ?_
        refine gM0_5 (pc := 118) F w (F.2.2.2.2 _ m_780) d_Mo_tick_118 ?_
        refine lv_iconst (pc := 121) (v := 1) F.1 F.2.1 d_Mo_tick_121 (by decide) ?_
        refine lv_iadd (pc := 122) F.1 F.2.1 d_Mo_tick_122 ?_
        refine lv_bipush (pc := 123) (v := 24) F.1 F.2.1 d_Mo_tick_123 (by decide) ?_
        refine lv_irem (pc := 125) F.1 F.2.1 d_Mo_tick_125 (by decide) ?_
        refine pM0_5 (pc := 126) F w (F.2.2.2.2 _ m_780) d_Mo_tick_126 (fun H locs s17 e_s17 w => ?_)
        refine lv_aload_n (pc := 129) F.1 F.2.1 d_Mo_tick_129 rfl (lv_at hl 0 rfl) ?_
        refine lv_aload_n (pc := 130) F.1 F.2.1 d_Mo_tick_130 rfl (lv_at hl 0 rfl) ?_
        refine gM0_5 (pc := 131) F w (F.2.2.2.2 _ m_780) d_Mo_tick_131 ?_
        refine cutW (α := Int32) (fun x H locs ls => x = f_Mo_tick_r134 s17 ∧ Wx D cI (wM cI am) (AM am) (AM am) s s.heap H locs s17 ∧ lv_has ls 4 [(0, .ref (am 0)), (1, .int r1), (2, .int v5), (3, .int (((s6 0 37) &&& 1) ^^^ (((s6 0 37) >>> ((4 : Int32) &&& 31)) &&& 1)))]) (fun x ls => F0 m 153 ls [.int x, .ref (am 0)]) ?_ (fun k134 => ?_)
        · rintro v18 H locs ls ⟨ex, w, hl⟩
          have e_v18 := ex
          have w : Wx D cI (wM cI am) (AM am) (AM am) s s.heap H locs s17 := w
          have hl : lv_has ls 4 [(0, .ref (am 0)), (1, .int r1), (2, .int v5), (3, .int (((s6 0 37) &&& 1) ^^^ (((s6 0 37) >>> ((4 : Int32) &&& 31)) &&& 1)))] := hl
          show W _ _ _ _ _ _ _ _ _ _ _ _ _ _ _ (F0 m 153 ls [.int v18, .ref (am 0)])
          refine pM0_4 (pc := 153) F w (F.2.2.2.2 _ m_779) d_Mo_tick_153 (fun H locs s19 e_s19 w => ?_)
          refine lv_aload_n (pc := 156) F.1 F.2.1 d_Mo_tick_156 rfl (lv_at hl 0 rfl) ?_
          refine lv_aload_n (pc := 157) F.1 F.2.1 d_Mo_tick_157 rfl (lv_at hl 0 rfl) ?_
          refine gM0_5 (pc := 158) F w (F.2.2.2.2 _ m_780) d_Mo_tick_158 ?_
          refine cutW (α := Int32) (fun x H locs ls => x = f_Mo_tick_r161 s19 ∧ Wx D cI (wM cI am) (AM am) (AM am) s s.heap H locs s19 ∧ lv_has ls 4 [(0, .ref (am 0)), (1, .int r1), (2, .int v5), (3, .int (((s6 0 37) &&& 1) ^^^ (((s6 0 37) >>> ((4 : Int32) &&& 31)) &&& 1)))]) (fun x ls => F0 m 184 ls [.int x, .ref (am 0)]) ?_ (fun k161 => ?_)
          · rintro v20 H locs ls ⟨ex, w, hl⟩
            have e_v20 := ex
            have w : Wx D cI (wM cI am) (AM am) (AM am) s s.heap H locs s19 := w
            have hl : lv_has ls 4 [(0, .ref (am 0)), (1, .int r1), (2, .int v5), (3, .int (((s6 0 37) &&& 1) ^^^ (((s6 0 37) >>> ((4 : Int32) &&& 31)) &&& 1)))] := hl
            show W _ _ _ _ _ _ _ _ _ _ _ _ _ _ _ (F0 m 184 ls [.int v20, .ref (am 0)])
            refine pM0_3 (pc := 184) F w (F.2.2.2.2 _ m_778) d_Mo_tick_184 (fun H locs s21 e_s21 w => ?_)
            refine lv_iload_n (pc := 187) F.1 F.2.1 d_Mo_tick_187 rfl (lv_at hl 2 rfl) ?_
            exact Rz (pc := 188) F hr hlk w (e_v5 ▸ z_f_Mo_tick_r6_0 r1 s2) (by rw [e_s21, e_v20, e_s19, e_v18, e_s17, e_s16, e_s11, e_s8, e_s7, e_s6, e_v5, e_s2, e_r1]; exact Eq.symm (rfl)) d_Mo_tick_188
          · refine lv_if_ne (pc := 161) F.1 F.2.1 d_Mo_tick_161 (tgt := 180) (by decide) (fun h161 => ?_) (fun h161 => ?_)
            · refine lv_aload_n (pc := 180) F.1 F.2.1 d_Mo_tick_180 rfl (lv_at hl 0 rfl) ?_
              refine gM0_3 (pc := 181) F w (F.2.2.2.2 _ m_778) d_Mo_tick_181 ?_
              exact k161 (s19 0 3) _ _ _ ⟨(by exact Eq.symm (Eq.trans (if_neg h161) (rfl))), w, lv_sub hl [0, 1, 2, 3] rfl⟩
            · refine lv_aload_n (pc := 164) F.1 F.2.1 d_Mo_tick_164 rfl (lv_at hl 0 rfl) ?_
              refine gM0_4 (pc := 165) F w (F.2.2.2.2 _ m_779) d_Mo_tick_165 ?_
              refine lv_if_ne (pc := 168) F.1 F.2.1 d_Mo_tick_168 (tgt := 180) (by decide) (fun h168 => ?_) (fun h168 => ?_)
              · refine lv_aload_n (pc := 180) F.1 F.2.1 d_Mo_tick_180 rfl (lv_at hl 0 rfl) ?_
                refine gM0_3 (pc := 181) F w (F.2.2.2.2 _ m_778) d_Mo_tick_181 ?_
                exact k161 (s19 0 3) _ _ _ ⟨(by exact Eq.symm (Eq.trans (if_pos h161) (Eq.trans (if_neg h168) (rfl)))), w, lv_sub hl [0, 1, 2, 3] rfl⟩
              · refine lv_aload_n (pc := 171) F.1 F.2.1 d_Mo_tick_171 rfl (lv_at hl 0 rfl) ?_
                refine gM0_3 (pc := 172) F w (F.2.2.2.2 _ m_778) d_Mo_tick_172 ?_
                refine lv_iconst (pc := 175) (v := 1) F.1 F.2.1 d_Mo_tick_175 (by decide) ?_
                refine lv_iadd (pc := 176) F.1 F.2.1 d_Mo_tick_176 ?_
                refine lv_goto (pc := 177) F.1 F.2.1 d_Mo_tick_177 (tgt := 184) (by decide) ?_
                exact k161 ((s19 0 3) + 1) _ _ _ ⟨(by exact Eq.symm (Eq.trans (if_pos h161) (Eq.trans (if_pos h168) (rfl)))), w, lv_sub hl [0, 1, 2, 3] rfl⟩
        · refine lv_if_ne (pc := 134) F.1 F.2.1 d_Mo_tick_134 (tgt := 149) (by decide) (fun h134 => ?_) (fun h134 => ?_)
          · refine lv_aload_n (pc := 149) F.1 F.2.1 d_Mo_tick_149 rfl (lv_at hl 0 rfl) ?_
            refine gM0_4 (pc := 150) F w (F.2.2.2.2 _ m_779) d_Mo_tick_150 ?_
            exact k134 (s17 0 4) _ _ _ ⟨(by exact Eq.symm (Eq.trans (if_neg h134) (rfl))), w, lv_sub hl [0, 1, 2, 3] rfl⟩
          · refine lv_aload_n (pc := 137) F.1 F.2.1 d_Mo_tick_137 rfl (lv_at hl 0 rfl) ?_
            refine gM0_4 (pc := 138) F w (F.2.2.2.2 _ m_779) d_Mo_tick_138 ?_
            refine lv_iconst (pc := 141) (v := 1) F.1 F.2.1 d_Mo_tick_141 (by decide) ?_
            refine lv_iadd (pc := 142) F.1 F.2.1 d_Mo_tick_142 ?_
            refine lv_bipush (pc := 143) (v := 16) F.1 F.2.1 d_Mo_tick_143 (by decide) ?_
            refine lv_irem (pc := 145) F.1 F.2.1 d_Mo_tick_145 (by decide) ?_
            refine lv_goto (pc := 146) F.1 F.2.1 d_Mo_tick_146 (tgt := 153) (by decide) ?_
            exact k134 (((s17 0 4) + 1) - ((s17 0 4) + 1) / 16 * 16) _ _ _ ⟨(by exact Eq.symm (Eq.trans (if_pos h134) (rfl))), w, lv_sub hl [0, 1, 2, 3] rfl⟩
      · refine lv_icmp_ne (pc := 92) F.1 F.2.1 d_Mo_tick_92 (tgt := 116) (by decide) (fun h92 => ?_) (fun h92 => ?_)
        · exact k92 s11 _ _ _ ⟨(by exact Eq.symm (Eq.trans (if_neg h92) (rfl))), w, lv_sub hl [0, 1, 2, 3] rfl⟩
        · refine lv_aload_n (pc := 95) F.1 F.2.1 d_Mo_tick_95 rfl (lv_at hl 0 rfl) ?_
          refine gM0_4 (pc := 96) F w (F.2.2.2.2 _ m_779) d_Mo_tick_96 ?_
          refine lv_iconst (pc := 99) (v := 1) F.1 F.2.1 d_Mo_tick_99 (by decide) ?_
          refine lv_bipush (pc := 100) (v := 12) F.1 F.2.1 d_Mo_tick_100 (by decide) ?_
          refine Usi (pc := 102) (As := [.int (s11 0 4), .int 1, .int 12]) (rest := []) F (c_Mo_in l (s11 0 4) 1 12) k_Mo_in m_931 (Nat.le_of_ble_eq_true rfl) (Nat.le_of_ble_eq_true rfl) ⟨rfl, rfl⟩ rfl hl.1 rfl (Nat.le_of_ble_eq_true rfl) d_Mo_tick_102 hcs (fun r12 e_r12 => ?_)
          refine cutW (α := Sg) (fun x H locs ls => x = f_Mo_tick_r105 s11 r12 ∧ Wx D cI (wM cI am) (AM am) (AM am) s s.heap H locs x ∧ lv_has ls 4 [(0, .ref (am 0)), (1, .int r1), (2, .int v5), (3, .int (((s6 0 37) &&& 1) ^^^ (((s6 0 37) >>> ((4 : Int32) &&& 31)) &&& 1)))]) (fun x ls => F0 m 112 ls []) ?_ (fun k105 => ?_)
          · rintro s14 H locs ls ⟨ex, w, hl⟩
            have e_s14 := ex
            have w : Wx D cI (wM cI am) (AM am) (AM am) s s.heap H locs s14 := w
            have hl : lv_has ls 4 [(0, .ref (am 0)), (1, .int r1), (2, .int v5), (3, .int (((s6 0 37) &&& 1) ^^^ (((s6 0 37) >>> ((4 : Int32) &&& 31)) &&& 1)))] := hl
            show W _ _ _ _ _ _ _ _ _ _ _ _ _ _ _ (F0 m 112 ls [])
            refine lv_aload_n (pc := 112) F.1 F.2.1 d_Mo_tick_112 rfl (lv_at hl 0 rfl) ?_
            refine Cvv (pc := 113) (As := []) (rest := []) F w (c_Mo_deliver l D cI am s14 (by rw [e_s14, e_r12, e_s11, e_s8, e_s7, e_s6, e_s2, e_r1]; exact hO.2.2)) 0 rfl rfl k_Mo_deliver m_1093 (Nat.le_of_ble_eq_true rfl) (Nat.le_of_ble_eq_true rfl) ⟨rfl, rfl⟩ rfl hl.1 rfl (Nat.le_of_ble_eq_true rfl) d_Mo_tick_113 hcs (fun s15 H locs e_s15 w => ?_)
            exact k92 s15 _ _ _ ⟨(by rw [e_s15, e_s14, e_r12]; exact Eq.symm (Eq.trans (if_pos h92) (rfl))), w, lv_sub hl [0, 1, 2, 3] rfl⟩
          · refine lv_if_eq (pc := 105) F.1 F.2.1 d_Mo_tick_105 (tgt := 112) (by decide) (fun h105 => ?_) (fun h105 => ?_)
            · exact k105 s11 _ _ _ ⟨(by exact Eq.symm (Eq.trans (if_pos h105) (rfl))), w, lv_sub hl [0, 1, 2, 3] rfl⟩
            · refine lv_aload_n (pc := 108) F.1 F.2.1 d_Mo_tick_108 rfl (lv_at hl 0 rfl) ?_
              refine Cvv (pc := 109) (As := []) (rest := []) F w (c_Mo_draw l D cI am s11 (show LN s11 from in_ok (x := s11 0 4) (a := 1) (b := 12) (by rw [← e_r12]; assumption))) 0 rfl rfl k_Mo_draw m_1081 (Nat.le_of_ble_eq_true rfl) (Nat.le_of_ble_eq_true rfl) ⟨rfl, rfl⟩ rfl hl.1 rfl (Nat.le_of_ble_eq_true rfl) d_Mo_tick_109 hcs (fun s13 H locs e_s13 w => ?_)
              exact k105 s13 _ _ _ ⟨(by rw [e_s13]; exact Eq.symm (Eq.trans (if_neg h105) (rfl))), w, lv_sub hl [0, 1, 2, 3] rfl⟩
    · refine lv_if_ge (pc := 67) F.1 F.2.1 d_Mo_tick_67 (tgt := 86) (by decide) (fun h67 => ?_) (fun h67 => ?_)
      · exact k67 s8 _ _ _ ⟨(by exact Eq.symm (Eq.trans (if_pos h67) (rfl))), w, lv_sub hl [2, 3, 1, 0] rfl⟩
      · refine lv_aload_n (pc := 70) F.1 F.2.1 d_Mo_tick_70 rfl (lv_at hl 2 rfl) ?_
        refine lv_aload_n (pc := 71) F.1 F.2.1 d_Mo_tick_71 rfl (lv_at hl 2 rfl) ?_
        refine gM0_2 (pc := 72) F w (F.2.2.2.2 _ m_777) d_Mo_tick_72 ?_
        refine lv_bipush (pc := 75) (v := 21) F.1 F.2.1 d_Mo_tick_75 (by decide) ?_
        refine lM2 (pc := 77) F w (by unfold vp_in; decide) d_Mo_tick_77 ?_
        refine pM0_38 (pc := 78) F w (F.2.2.2.2 _ m_813) d_Mo_tick_78 (fun H locs s9 e_s9 w => ?_)
        refine lv_aload_n (pc := 81) F.1 F.2.1 d_Mo_tick_81 rfl (lv_at hl 2 rfl) ?_
        refine lv_iconst (pc := 82) (v := 1) F.1 F.2.1 d_Mo_tick_82 (by decide) ?_
        refine pM0_39 (pc := 83) F w (F.2.2.2.2 _ m_814) d_Mo_tick_83 (fun H locs s10 e_s10 w => ?_)
        exact k67 s10 _ _ _ ⟨(by rw [e_s10, e_s9]; exact Eq.symm (Eq.trans (if_neg h67) (rfl))), w, lv_sub hl [2, 3, 1, 0] rfl⟩
  · refine lv_if_ne (pc := 6) F.1 F.2.1 d_Mo_tick_6 (tgt := 20) (by decide) (fun h6 => ?_) (fun h6 => ?_)
    · refine lv_iconst (pc := 20) (v := 0) F.1 F.2.1 d_Mo_tick_20 (by decide) ?_
      exact k6 (0, s2) _ _ _ ⟨(by exact Eq.symm (Eq.trans (if_neg h6) (rfl))), w, lv_sub hl [1, 0] rfl⟩
    · refine lv_aload_n (pc := 9) F.1 F.2.1 d_Mo_tick_9 rfl (lv_at hl 1 rfl) ?_
      refine Cvi (pc := 10) (As := []) (rest := []) F w (c_Mo_steps l D cI am s2 iJM_s2 iRB_s2) 0 rfl rfl k_Mo_steps m_981 (Nat.le_of_ble_eq_true rfl) (Nat.le_of_ble_eq_true rfl) ⟨rfl, rfl⟩ rfl hl.1 rfl (Nat.le_of_ble_eq_true rfl) d_Mo_tick_10 hcs (fun r3 s4 H locs e_r3 e_s4 w => ?_)
      refine lv_if_eq (pc := 13) F.1 F.2.1 d_Mo_tick_13 (tgt := 20) (by decide) (fun h13 => ?_) (fun h13 => ?_)
      · refine lv_iconst (pc := 20) (v := 0) F.1 F.2.1 d_Mo_tick_20 (by decide) ?_
        exact k6 (0, s4) _ _ _ ⟨(by rw [e_r3] at h13; rw [e_s4]; exact Eq.symm (Eq.trans (if_pos h6) (Eq.trans (if_pos h13) (rfl)))), w, lv_sub hl [1, 0] rfl⟩
      · refine lv_iconst (pc := 16) (v := 1) F.1 F.2.1 d_Mo_tick_16 (by decide) ?_
        refine lv_goto (pc := 17) F.1 F.2.1 d_Mo_tick_17 (tgt := 21) (by decide) ?_
        exact k6 (1, s4) _ _ _ ⟨(by rw [e_r3] at h13; rw [e_s4]; exact Eq.symm (Eq.trans (if_pos h6) (Eq.trans (if_neg h13) (rfl)))), w, lv_sub hl [1, 0] rfl⟩
def f_Mo_run_r35 (r5 : Int32) : Int32 := if r5 = 0 then (0) else (1)
def bd_Mo_run_25 (s1 : Sg) (v3 : Int32) (s4 : Sg) (j25 : Nat) : Int32 × Sg := let r5 := (f_Mo_tick s4).1; let s6 := (f_Mo_tick s4).2; let v7 := (f_Mo_run_r35 r5); ((v3 + v7), s6)
def it_Mo_run_25 (s1 : Sg) : Nat → Int32 × Sg := itr (fun j25 x => bd_Mo_run_25 s1 (x.1) (x.2) j25) (0, s1)
def f_Mo_run (σ : Sg) (x1 : Int32) : Int32 × Sg := let s1 := sf σ 0 0 0; let r2 := f_Mo_in x1 0 1000; if r2 = 0 then (let r8 := (f_Mo_fails s1).1; let s9 := (f_Mo_fails s1).2; (r8, s9)) else (let v3 := (it_Mo_run_25 s1 (x1.toNatClampNeg)).1; let s4 := (it_Mo_run_25 s1 (x1.toNatClampNeg)).2; (v3, s4))
theorem z_f_Mo_run_r35_0 (r5 : Int32) : (f_Mo_run_r35 r5) = 0 ∨ (f_Mo_run_r35 r5) = 1 := by unfold f_Mo_run_r35; (try dsimp only); (repeat' split) <;> (try dsimp only) <;> first | (with_reducible exact Or.inl rfl) | (with_reducible exact Or.inr rfl) | (with_reducible apply z_Mo_in) | (with_reducible apply z_Mo_tick) | exact Or.inl rfl | exact Or.inr rfl | apply z_Mo_in | apply z_Mo_tick
set_option maxHeartbeats 1000000 in
set_option maxRecDepth 100000 in
theorem c_Mo_run (l : Launch) (D : va_G) (cI : ClassId) (am : Nat → Nat) (σ : Sg) (x1 : Int32) (hO : ∀ j, j < x1.toNatClampNeg → OkM (it_Mo_run_25 (sf σ 0 0 0) j).2) : Met l y_Mo_run (Cond.code y_Mo_run b_Mo_run 4 (some .int) :: al) { frames := 9, cells := 0, slots := 0, locals := 204 } (Px D cI (wM cI am) (AM am) σ [.ref (am 0), .int x1]) (va_Qi (fun r u => (r, u) = f_Mo_run σ x1) (Bx D cI (wM cI am) (AM am)) (AM am)) 0 0 (AM am) := by
  refine Mx l (by decide) (Nat.le_of_ble_eq_true rfl) ?_
  intro p e s m below meth c ls F w hr hlk hl
  have F : CallFix p m c b_Mo_run 4 s _ al "PictureMachineModel" := F
  have hl : lv_has ls 4 [(0, .ref (am 0)), (1, .int x1)] := hl
  have hcs : (0 : Nat) ≤ 0 ∧ (0 : Nat) ≤ 0 := ⟨Nat.le_refl _, Nat.le_refl _⟩
  refine lv_aload_n (pc := 0) F.1 F.2.1 d_Mo_run_0 rfl (lv_at hl 0 rfl) ?_
  refine lv_iconst (pc := 1) (v := 0) F.1 F.2.1 d_Mo_run_1 (by decide) ?_
  refine pM0_0 (pc := 2) F w (F.2.2.2.2 _ m_775) d_Mo_run_2 (fun H locs s1 e_s1 w => ?_)
  refine lv_iload_n (pc := 5) F.1 F.2.1 d_Mo_run_5 rfl (lv_at hl 1 rfl) ?_
  refine lv_iconst (pc := 6) (v := 0) F.1 F.2.1 d_Mo_run_6 (by decide) ?_
  refine lv_sipush (pc := 7) (v := 1000) F.1 F.2.1 d_Mo_run_7 (by decide) ?_
  refine Usi (pc := 10) (As := [.int x1, .int 0, .int 1000]) (rest := []) F (c_Mo_in l x1 0 1000) k_Mo_in m_931 (Nat.le_of_ble_eq_true rfl) (Nat.le_of_ble_eq_true rfl) ⟨rfl, rfl⟩ rfl hl.1 rfl (Nat.le_of_ble_eq_true rfl) d_Mo_run_10 hcs (fun r2 e_r2 => ?_)
  refine lv_if_ne (pc := 13) F.1 F.2.1 d_Mo_run_13 (tgt := 21) (by decide) (fun h13 => ?_) (fun h13 => ?_)
  · refine lv_iconst (pc := 21) (v := 0) F.1 F.2.1 d_Mo_run_21 (by decide) ?_
    refine lv_istore_n (pc := 22) F.1 F.2.1 d_Mo_run_22 rfl hl (by decide) rfl (fun ls hl => ?_)
    have hl : lv_has ls 4 [(2, .int 0), (0, .ref (am 0)), (1, .int x1)] := hl
    refine lv_iconst (pc := 23) (v := 0) F.1 F.2.1 d_Mo_run_23 (by decide) ?_
    refine lv_istore_n (pc := 24) F.1 F.2.1 d_Mo_run_24 rfl hl (by decide) rfl (fun ls hl => ?_)
    have hl : lv_has ls 4 [(3, .int 0), (2, .int 0), (0, .ref (am 0)), (1, .int x1)] := hl
    have hx : bt2 0 x1 1000 := in_ok (x := x1) (a := 0) (b := 1000) (by rw [← e_r2]; assumption)
    refine loopW (α := Int32 × Sg) (x1.toNatClampNeg) (fun j25 x H locs ls => x = it_Mo_run_25 s1 j25 ∧ Wx D cI (wM cI am) (AM am) (AM am) s s.heap H locs (x.2) ∧ lv_has ls 4 [(0, .ref (am 0)), (1, .int x1), (2, .int (x.1)), (3, .int (0 + nI j25))]) (fun _ ls => F0 m 25 ls []) ?_ ?_ 0 (0, s1) _ _ _ (Nat.zero_le _) ⟨rfl, w, by rw [ci_0]; exact lv_sub hl [2, 3, 1, 0] rfl⟩
    · rintro j25 ⟨v3, s4⟩ H locs ls hj25 ⟨ex, w, hl⟩ nx25
      have e_v3 : v3 = (it_Mo_run_25 s1 j25).1 := congrArg (fun z => z.1) ex
      have e_s4 : s4 = (it_Mo_run_25 s1 j25).2 := congrArg (fun z => z.2) ex
      clear ex
      have w : Wx D cI (wM cI am) (AM am) (AM am) s s.heap H locs s4 := w
      have hl : lv_has ls 4 [(0, .ref (am 0)), (1, .int x1), (2, .int v3), (3, .int (0 + nI j25))] := hl
      have hc25_0 : ¬ (x1 ≤ (0 + nI j25)) := lp_lt hj25 (nI_cl hx.1).symm (cl_lt x1)
      refine lv_iload_n (pc := 25) F.1 F.2.1 d_Mo_run_25 rfl (lv_at hl 3 rfl) ?_
      refine lv_iload_n (pc := 26) F.1 F.2.1 d_Mo_run_26 rfl (lv_at hl 1 rfl) ?_
      refine lv_icmp_ge (pc := 27) F.1 F.2.1 d_Mo_run_27 (tgt := 51) (by decide) (fun q => absurd q hc25_0) (fun _ => ?_)
      refine lv_iload_n (pc := 30) F.1 F.2.1 d_Mo_run_30 rfl (lv_at hl 2 rfl) ?_
      refine lv_aload_n (pc := 31) F.1 F.2.1 d_Mo_run_31 rfl (lv_at hl 0 rfl) ?_
      refine Cvi (pc := 32) (As := []) (rest := [.int v3]) F w (c_Mo_tick l D cI am s4 (by rw [e_s4, e_s1]; exact hO _ hj25)) 0 rfl rfl k_Mo_tick m_938 (Nat.le_of_ble_eq_true rfl) (Nat.le_of_ble_eq_true rfl) ⟨rfl, rfl⟩ rfl hl.1 rfl (Nat.le_of_ble_eq_true rfl) d_Mo_run_32 hcs (fun r5 s6 H locs e_r5 e_s6 w => ?_)
      refine cutW (α := Int32) (fun x H locs ls => x = f_Mo_run_r35 r5 ∧ Wx D cI (wM cI am) (AM am) (AM am) s s.heap H locs s6 ∧ lv_has ls 4 [(0, .ref (am 0)), (1, .int x1), (2, .int v3), (3, .int (0 + nI j25))]) (fun x ls => F0 m 43 ls [.int x, .int v3]) ?_ (fun k35 => ?_)
      · rintro v7 H locs ls ⟨ex, w, hl⟩
        have e_v7 := ex
        have w : Wx D cI (wM cI am) (AM am) (AM am) s s.heap H locs s6 := w
        have hl : lv_has ls 4 [(0, .ref (am 0)), (1, .int x1), (2, .int v3), (3, .int (0 + nI j25))] := hl
        show W _ _ _ _ _ _ _ _ _ _ _ _ _ _ _ (F0 m 43 ls [.int v7, .int v3])
        refine lv_iadd (pc := 43) F.1 F.2.1 d_Mo_run_43 ?_
        refine lv_istore_n (pc := 44) F.1 F.2.1 d_Mo_run_44 rfl hl (by decide) rfl (fun ls hl => ?_)
        have hl : lv_has ls 4 [(2, .int (v3 + v7)), (0, .ref (am 0)), (1, .int x1), (3, .int (0 + nI j25))] := hl
        refine lv_iinc (pc := 45) (k := 3) (v := ((0 + nI j25) + 1)) F.1 F.2.1 d_Mo_run_45 hl rfl (by first | rfl | decide) (by decide) rfl (fun ls hl => ?_)
        have hl : lv_has ls 4 [(3, .int ((0 + nI j25) + 1)), (2, .int (v3 + v7)), (0, .ref (am 0)), (1, .int x1)] := hl
        refine lv_goto (pc := 48) F.1 F.2.1 d_Mo_run_48 (tgt := 25) (by decide) ?_
        exact nx25 ((v3 + v7), s6) _ _ _ ⟨(by rw [e_v7, e_s6, e_r5, e_s4, e_v3]; exact Eq.symm (rfl)), w, by rw [← ci_s]; exact lv_sub hl [2, 3, 1, 0] rfl⟩
      · refine lv_if_eq (pc := 35) F.1 F.2.1 d_Mo_run_35 (tgt := 42) (by decide) (fun h35 => ?_) (fun h35 => ?_)
        · refine lv_iconst (pc := 42) (v := 0) F.1 F.2.1 d_Mo_run_42 (by decide) ?_
          exact k35 0 _ _ _ ⟨(by exact Eq.symm (Eq.trans (if_pos h35) (rfl))), w, lv_sub hl [0, 1, 2, 3] rfl⟩
        · refine lv_iconst (pc := 38) (v := 1) F.1 F.2.1 d_Mo_run_38 (by decide) ?_
          refine lv_goto (pc := 39) F.1 F.2.1 d_Mo_run_39 (tgt := 43) (by decide) ?_
          exact k35 1 _ _ _ ⟨(by exact Eq.symm (Eq.trans (if_neg h35) (rfl))), w, lv_sub hl [0, 1, 2, 3] rfl⟩
    · rintro ⟨v3, s4⟩ H locs ls ⟨ex, w, hl⟩
      have e_v3 : v3 = (it_Mo_run_25 s1 (x1.toNatClampNeg)).1 := congrArg (fun z => z.1) ex
      have e_s4 : s4 = (it_Mo_run_25 s1 (x1.toNatClampNeg)).2 := congrArg (fun z => z.2) ex
      clear ex
      have w : Wx D cI (wM cI am) (AM am) (AM am) s s.heap H locs s4 := w
      have hl : lv_has ls 4 [(0, .ref (am 0)), (1, .int x1), (2, .int v3), (3, .int (0 + nI (x1.toNatClampNeg)))] := hl
      have hx25_0 : x1 ≤ (0 + nI (x1.toNatClampNeg)) := lp_ge (nI_cl hx.1).symm
      refine lv_iload_n (pc := 25) F.1 F.2.1 d_Mo_run_25 rfl (lv_at hl 3 rfl) ?_
      refine lv_iload_n (pc := 26) F.1 F.2.1 d_Mo_run_26 rfl (lv_at hl 1 rfl) ?_
      refine lv_icmp_ge (pc := 27) F.1 F.2.1 d_Mo_run_27 (tgt := 51) (by decide) (fun _ => ?_) (fun q => absurd hx25_0 q)
      refine lv_iload_n (pc := 51) F.1 F.2.1 d_Mo_run_51 rfl (lv_at hl 2 rfl) ?_
      exact Ri (pc := 52) F hr hlk w (by rw [e_r2] at h13; rw [e_s4, e_v3, e_s1]; exact Eq.symm (Eq.trans (if_neg h13) (rfl))) d_Mo_run_52
  · refine lv_aload_n (pc := 16) F.1 F.2.1 d_Mo_run_16 rfl (lv_at hl 0 rfl) ?_
    refine Cvi (pc := 17) (As := []) (rest := []) F w (c_Mo_fails l D cI am s1) 0 rfl rfl k_Mo_fails m_934 (Nat.le_of_ble_eq_true rfl) (Nat.le_of_ble_eq_true rfl) ⟨rfl, rfl⟩ rfl hl.1 rfl (Nat.le_of_ble_eq_true rfl) d_Mo_run_17 hcs (fun r8 s9 H locs e_r8 e_s9 w => ?_)
    exact Ri (pc := 20) F hr hlk w (by rw [e_r2] at h13; rw [e_s9, e_r8, e_s1]; exact Eq.symm (Eq.trans (if_pos h13) (rfl))) d_Mo_run_20
def f_Mo_poke_r9 (x2 : Int32) (r1 : Int32) : Int32 := if r1 = 0 then (1) else (let r2 := f_Mo_isByte x2; if r2 = 0 then (1) else (0))
def f_Mo_poke_r31 (x1 : Int32) (x2 : Int32) (s4 : Sg) : Sg := if (s4 0 0) = 0 then (let s5 := sf s4 1 x1.toNatClampNeg x2; s5) else (s4)
def f_Mo_poke (σ : Sg) (x1 : Int32) (x2 : Int32) : Sg := let r1 := f_Mo_in x1 0 767; let v3 := (f_Mo_poke_r9 x2 r1); let s4 := sf σ 0 0 v3; let s6 := (f_Mo_poke_r31 x1 x2 s4); s6
theorem z_f_Mo_poke_r9_0 (x2 : Int32) (r1 : Int32) : (f_Mo_poke_r9 x2 r1) = 0 ∨ (f_Mo_poke_r9 x2 r1) = 1 := by unfold f_Mo_poke_r9; (try dsimp only); (repeat' split) <;> (try dsimp only) <;> first | (with_reducible exact Or.inl rfl) | (with_reducible exact Or.inr rfl) | (with_reducible apply z_Mo_in) | (with_reducible apply z_Mo_isByte) | exact Or.inl rfl | exact Or.inr rfl | apply z_Mo_in | apply z_Mo_isByte
theorem mid_Mo_poke {x2 r1 v : Int32} (e : v = f_Mo_poke_r9 x2 r1) (h : v = 0) : ¬ r1 = 0 := by
  intro h1
  rw [e, show f_Mo_poke_r9 x2 r1 = 1 from if_pos h1] at h
  exact absurd h (by decide)
set_option maxHeartbeats 1000000 in
set_option maxRecDepth 100000 in
theorem c_Mo_poke (l : Launch) (D : va_G) (cI : ClassId) (am : Nat → Nat) (σ : Sg) (x1 : Int32) (x2 : Int32) : Met l y_Mo_poke (Cond.code y_Mo_poke b_Mo_poke 3 none :: al) { frames := 2, cells := 0, slots := 0, locals := 42 } (Px D cI (wM cI am) (AM am) σ [.ref (am 0), .int x1, .int x2]) (va_Qv (fun u => u = f_Mo_poke σ x1 x2) (Bx D cI (wM cI am) (AM am)) (AM am)) 0 0 (AM am) := by
  refine Mx l (by decide) (Nat.le_of_ble_eq_true rfl) ?_
  intro p e s m below meth c ls F w hr hlk hl
  have F : CallFix p m c b_Mo_poke 3 s _ al "PictureMachineModel" := F
  have hl : lv_has ls 3 [(0, .ref (am 0)), (1, .int x1), (2, .int x2)] := hl
  have hcs : (0 : Nat) ≤ 0 ∧ (0 : Nat) ≤ 0 := ⟨Nat.le_refl _, Nat.le_refl _⟩
  refine lv_aload_n (pc := 0) F.1 F.2.1 d_Mo_poke_0 rfl (lv_at hl 0 rfl) ?_
  refine lv_iload_n (pc := 1) F.1 F.2.1 d_Mo_poke_1 rfl (lv_at hl 1 rfl) ?_
  refine lv_iconst (pc := 2) (v := 0) F.1 F.2.1 d_Mo_poke_2 (by decide) ?_
  refine lv_sipush (pc := 3) (v := 767) F.1 F.2.1 d_Mo_poke_3 (by decide) ?_
  refine Usi (pc := 6) (As := [.int x1, .int 0, .int 767]) (rest := [.ref (am 0)]) F (c_Mo_in l x1 0 767) k_Mo_in m_931 (Nat.le_of_ble_eq_true rfl) (Nat.le_of_ble_eq_true rfl) ⟨rfl, rfl⟩ rfl hl.1 rfl (Nat.le_of_ble_eq_true rfl) d_Mo_poke_6 hcs (fun r1 e_r1 => ?_)
  refine cutW (α := Int32) (fun x H locs ls => x = f_Mo_poke_r9 x2 r1 ∧ Wx D cI (wM cI am) (AM am) (AM am) s s.heap H locs σ ∧ lv_has ls 3 [(0, .ref (am 0)), (1, .int x1), (2, .int x2)]) (fun x ls => F0 m 24 ls [.int x, .ref (am 0)]) ?_ (fun k9 => ?_)
  · rintro v3 H locs ls ⟨ex, w, hl⟩
    have e_v3 := ex
    have w : Wx D cI (wM cI am) (AM am) (AM am) s s.heap H locs σ := w
    have hl : lv_has ls 3 [(0, .ref (am 0)), (1, .int x1), (2, .int x2)] := hl
    show W _ _ _ _ _ _ _ _ _ _ _ _ _ _ _ (F0 m 24 ls [.int v3, .ref (am 0)])
    refine pM0_0 (pc := 24) F w (F.2.2.2.2 _ m_775) d_Mo_poke_24 (fun H locs s4 e_s4 w => ?_)
    refine lv_aload_n (pc := 27) F.1 F.2.1 d_Mo_poke_27 rfl (lv_at hl 0 rfl) ?_
    refine gM0_0 (pc := 28) F w (F.2.2.2.2 _ m_775) d_Mo_poke_28 ?_
    refine cutW (α := Sg) (fun x H locs ls => x = f_Mo_poke_r31 x1 x2 s4 ∧ Wx D cI (wM cI am) (AM am) (AM am) s s.heap H locs x ∧ lv_has ls 3 [(0, .ref (am 0)), (1, .int x1), (2, .int x2)]) (fun x ls => F0 m 41 ls []) ?_ (fun k31 => ?_)
    · rintro s6 H locs ls ⟨ex, w, hl⟩
      have e_s6 := ex
      have w : Wx D cI (wM cI am) (AM am) (AM am) s s.heap H locs s6 := w
      have hl : lv_has ls 3 [(0, .ref (am 0)), (1, .int x1), (2, .int x2)] := hl
      show W _ _ _ _ _ _ _ _ _ _ _ _ _ _ _ (F0 m 41 ls [])
      exact Rv (pc := 41) F hr hlk w (by rw [e_s6, e_s4, e_v3, e_r1]; exact Eq.symm (rfl)) d_Mo_poke_41
    · refine lv_if_ne (pc := 31) F.1 F.2.1 d_Mo_poke_31 (tgt := 41) (by decide) (fun h31 => ?_) (fun h31 => ?_)
      · exact k31 s4 _ _ _ ⟨(by exact Eq.symm (Eq.trans (if_neg h31) (rfl))), w, lv_sub hl [0, 1, 2] rfl⟩
      · refine lv_aload_n (pc := 34) F.1 F.2.1 d_Mo_poke_34 rfl (lv_at hl 0 rfl) ?_
        refine gM0_1 (pc := 35) F w (F.2.2.2.2 _ m_776) d_Mo_poke_35 ?_
        refine lv_iload_n (pc := 38) F.1 F.2.1 d_Mo_poke_38 rfl (lv_at hl 1 rfl) ?_
        refine lv_iload_n (pc := 39) F.1 F.2.1 d_Mo_poke_39 rfl (lv_at hl 2 rfl) ?_
        refine aM1 (pc := 40) F w (in_767 (by have q := mid_Mo_poke e_v3 (by rw [e_s4] at h31; exact h31); rw [e_r1] at q; exact q)) d_Mo_poke_40 (fun H locs s5 e_s5 w => ?_)
        exact k31 s5 _ _ _ ⟨(by rw [e_s5]; exact Eq.symm (Eq.trans (if_pos h31) (rfl))), w, lv_sub hl [0, 1, 2] rfl⟩
  · refine lv_if_eq (pc := 9) F.1 F.2.1 d_Mo_poke_9 (tgt := 23) (by decide) (fun h9 => ?_) (fun h9 => ?_)
    · refine lv_iconst (pc := 23) (v := 1) F.1 F.2.1 d_Mo_poke_23 (by decide) ?_
      exact k9 1 _ _ _ ⟨(by exact Eq.symm (Eq.trans (if_pos h9) (rfl))), w, lv_sub hl [0, 1, 2] rfl⟩
    · refine lv_iload_n (pc := 12) F.1 F.2.1 d_Mo_poke_12 rfl (lv_at hl 2 rfl) ?_
      refine Usi (pc := 13) (As := [.int x2]) (rest := [.ref (am 0)]) F (c_Mo_isByte l x2) k_Mo_isByte m_1101 (Nat.le_of_ble_eq_true rfl) (Nat.le_of_ble_eq_true rfl) ⟨rfl, rfl⟩ rfl hl.1 rfl (Nat.le_of_ble_eq_true rfl) d_Mo_poke_13 hcs (fun r2 e_r2 => ?_)
      refine lv_if_eq (pc := 16) F.1 F.2.1 d_Mo_poke_16 (tgt := 23) (by decide) (fun h16 => ?_) (fun h16 => ?_)
      · refine lv_iconst (pc := 23) (v := 1) F.1 F.2.1 d_Mo_poke_23 (by decide) ?_
        exact k9 1 _ _ _ ⟨(by rw [e_r2] at h16; exact Eq.symm (Eq.trans (if_neg h9) (Eq.trans (if_pos h16) (rfl)))), w, lv_sub hl [0, 1, 2] rfl⟩
      · refine lv_iconst (pc := 19) (v := 0) F.1 F.2.1 d_Mo_poke_19 (by decide) ?_
        refine lv_goto (pc := 20) F.1 F.2.1 d_Mo_poke_20 (tgt := 24) (by decide) ?_
        exact k9 0 _ _ _ ⟨(by rw [e_r2] at h16; exact Eq.symm (Eq.trans (if_neg h9) (Eq.trans (if_neg h16) (rfl)))), w, lv_sub hl [0, 1, 2] rfl⟩
def f_Mo_peek_r9 (r1 : Int32) : Int32 := if r1 = 0 then (1) else (0)
def f_Mo_peek_r24 (x1 : Int32) (s3 : Sg) : Int32 := if (s3 0 0) = 0 then ((s3 1 x1.toNatClampNeg)) else (0)
def f_Mo_peek (σ : Sg) (x1 : Int32) : Int32 × Sg := let r1 := f_Mo_in x1 0 767; let v2 := (f_Mo_peek_r9 r1); let s3 := sf σ 0 0 v2; let v4 := (f_Mo_peek_r24 x1 s3); (v4, s3)
theorem z_f_Mo_peek_r9_0 (r1 : Int32) : (f_Mo_peek_r9 r1) = 0 ∨ (f_Mo_peek_r9 r1) = 1 := by unfold f_Mo_peek_r9; (try dsimp only); (repeat' split) <;> (try dsimp only) <;> first | (with_reducible exact Or.inl rfl) | (with_reducible exact Or.inr rfl) | (with_reducible apply z_Mo_in) | exact Or.inl rfl | exact Or.inr rfl | apply z_Mo_in
theorem mid_Mo_peek {r1 v : Int32} (e : v = f_Mo_peek_r9 r1) (h : v = 0) : ¬ r1 = 0 := by
  intro h1
  rw [e, show f_Mo_peek_r9 r1 = 1 from if_pos h1] at h
  exact absurd h (by decide)
set_option maxHeartbeats 1000000 in
set_option maxRecDepth 100000 in
theorem c_Mo_peek (l : Launch) (D : va_G) (cI : ClassId) (am : Nat → Nat) (σ : Sg) (x1 : Int32) : Met l y_Mo_peek (Cond.code y_Mo_peek b_Mo_peek 2 (some .int) :: al) { frames := 1, cells := 0, slots := 0, locals := 22 } (Px D cI (wM cI am) (AM am) σ [.ref (am 0), .int x1]) (va_Qi (fun r u => (r, u) = f_Mo_peek σ x1) (Bx D cI (wM cI am) (AM am)) (AM am)) 0 0 (AM am) := by
  refine Mx l (by decide) (Nat.le_of_ble_eq_true rfl) ?_
  intro p e s m below meth c ls F w hr hlk hl
  have F : CallFix p m c b_Mo_peek 2 s _ al "PictureMachineModel" := F
  have hl : lv_has ls 2 [(0, .ref (am 0)), (1, .int x1)] := hl
  have hcs : (0 : Nat) ≤ 0 ∧ (0 : Nat) ≤ 0 := ⟨Nat.le_refl _, Nat.le_refl _⟩
  refine lv_aload_n (pc := 0) F.1 F.2.1 d_Mo_peek_0 rfl (lv_at hl 0 rfl) ?_
  refine lv_iload_n (pc := 1) F.1 F.2.1 d_Mo_peek_1 rfl (lv_at hl 1 rfl) ?_
  refine lv_iconst (pc := 2) (v := 0) F.1 F.2.1 d_Mo_peek_2 (by decide) ?_
  refine lv_sipush (pc := 3) (v := 767) F.1 F.2.1 d_Mo_peek_3 (by decide) ?_
  refine Usi (pc := 6) (As := [.int x1, .int 0, .int 767]) (rest := [.ref (am 0)]) F (c_Mo_in l x1 0 767) k_Mo_in m_931 (Nat.le_of_ble_eq_true rfl) (Nat.le_of_ble_eq_true rfl) ⟨rfl, rfl⟩ rfl hl.1 rfl (Nat.le_of_ble_eq_true rfl) d_Mo_peek_6 hcs (fun r1 e_r1 => ?_)
  refine cutW (α := Int32) (fun x H locs ls => x = f_Mo_peek_r9 r1 ∧ Wx D cI (wM cI am) (AM am) (AM am) s s.heap H locs σ ∧ lv_has ls 2 [(0, .ref (am 0)), (1, .int x1)]) (fun x ls => F0 m 17 ls [.int x, .ref (am 0)]) ?_ (fun k9 => ?_)
  · rintro v2 H locs ls ⟨ex, w, hl⟩
    have e_v2 := ex
    have w : Wx D cI (wM cI am) (AM am) (AM am) s s.heap H locs σ := w
    have hl : lv_has ls 2 [(0, .ref (am 0)), (1, .int x1)] := hl
    show W _ _ _ _ _ _ _ _ _ _ _ _ _ _ _ (F0 m 17 ls [.int v2, .ref (am 0)])
    refine pM0_0 (pc := 17) F w (F.2.2.2.2 _ m_775) d_Mo_peek_17 (fun H locs s3 e_s3 w => ?_)
    refine lv_aload_n (pc := 20) F.1 F.2.1 d_Mo_peek_20 rfl (lv_at hl 0 rfl) ?_
    refine gM0_0 (pc := 21) F w (F.2.2.2.2 _ m_775) d_Mo_peek_21 ?_
    refine cutW (α := Int32) (fun x H locs ls => x = f_Mo_peek_r24 x1 s3 ∧ Wx D cI (wM cI am) (AM am) (AM am) s s.heap H locs s3 ∧ lv_has ls 2 [(0, .ref (am 0)), (1, .int x1)]) (fun x ls => F0 m 37 ls [.int x]) ?_ (fun k24 => ?_)
    · rintro v4 H locs ls ⟨ex, w, hl⟩
      have e_v4 := ex
      have w : Wx D cI (wM cI am) (AM am) (AM am) s s.heap H locs s3 := w
      have hl : lv_has ls 2 [(0, .ref (am 0)), (1, .int x1)] := hl
      show W _ _ _ _ _ _ _ _ _ _ _ _ _ _ _ (F0 m 37 ls [.int v4])
      exact Ri (pc := 37) F hr hlk w (by rw [e_v4, e_s3, e_v2, e_r1]; exact Eq.symm (rfl)) d_Mo_peek_37
    · refine lv_if_ne (pc := 24) F.1 F.2.1 d_Mo_peek_24 (tgt := 36) (by decide) (fun h24 => ?_) (fun h24 => ?_)
      · refine lv_iconst (pc := 36) (v := 0) F.1 F.2.1 d_Mo_peek_36 (by decide) ?_
        exact k24 0 _ _ _ ⟨(by exact Eq.symm (Eq.trans (if_neg h24) (rfl))), w, lv_sub hl [0, 1] rfl⟩
      · refine lv_aload_n (pc := 27) F.1 F.2.1 d_Mo_peek_27 rfl (lv_at hl 0 rfl) ?_
        refine gM0_1 (pc := 28) F w (F.2.2.2.2 _ m_776) d_Mo_peek_28 ?_
        refine lv_iload_n (pc := 31) F.1 F.2.1 d_Mo_peek_31 rfl (lv_at hl 1 rfl) ?_
        refine lM1 (pc := 32) F w (in_767 (by have q := mid_Mo_peek e_v2 (by rw [e_s3] at h24; exact h24); rw [e_r1] at q; exact q)) d_Mo_peek_32 ?_
        refine lv_goto (pc := 33) F.1 F.2.1 d_Mo_peek_33 (tgt := 37) (by decide) ?_
        exact k24 (s3 1 x1.toNatClampNeg) _ _ _ ⟨(by exact Eq.symm (Eq.trans (if_pos h24) (rfl))), w, lv_sub hl [0, 1] rfl⟩
  · refine lv_if_eq (pc := 9) F.1 F.2.1 d_Mo_peek_9 (tgt := 16) (by decide) (fun h9 => ?_) (fun h9 => ?_)
    · refine lv_iconst (pc := 16) (v := 1) F.1 F.2.1 d_Mo_peek_16 (by decide) ?_
      exact k9 1 _ _ _ ⟨(by exact Eq.symm (Eq.trans (if_pos h9) (rfl))), w, lv_sub hl [0, 1] rfl⟩
    · refine lv_iconst (pc := 12) (v := 0) F.1 F.2.1 d_Mo_peek_12 (by decide) ?_
      refine lv_goto (pc := 13) F.1 F.2.1 d_Mo_peek_13 (tgt := 17) (by decide) ?_
      exact k9 0 _ _ _ ⟨(by exact Eq.symm (Eq.trans (if_neg h9) (rfl))), w, lv_sub hl [0, 1] rfl⟩
def f_Mo_write_r8 (x2 : Int32) (r1 : Int32) : Int32 := if r1 = 0 then (1) else (let r2 := f_Mo_isByte x2; if r2 = 0 then (1) else (0))
def f_Mo_write_r30 (x1 : Int32) (x2 : Int32) (s4 : Sg) : Sg := if (s4 0 0) = 0 then (let s5 := f_Mo_change s4 x1 x2; s5) else (s4)
def f_Mo_write (σ : Sg) (x1 : Int32) (x2 : Int32) : Sg := let r1 := f_Mo_in x1 0 31; let v3 := (f_Mo_write_r8 x2 r1); let s4 := sf σ 0 0 v3; let s6 := (f_Mo_write_r30 x1 x2 s4); s6
theorem z_f_Mo_write_r8_0 (x2 : Int32) (r1 : Int32) : (f_Mo_write_r8 x2 r1) = 0 ∨ (f_Mo_write_r8 x2 r1) = 1 := by unfold f_Mo_write_r8; (try dsimp only); (repeat' split) <;> (try dsimp only) <;> first | (with_reducible exact Or.inl rfl) | (with_reducible exact Or.inr rfl) | (with_reducible apply z_Mo_in) | (with_reducible apply z_Mo_isByte) | exact Or.inl rfl | exact Or.inr rfl | apply z_Mo_in | apply z_Mo_isByte
theorem mid_Mo_write {x2 r1 v : Int32} (e : v = f_Mo_write_r8 x2 r1) (h : v = 0) : ¬ r1 = 0 := by
  intro h1
  rw [e, show f_Mo_write_r8 x2 r1 = 1 from if_pos h1] at h
  exact absurd h (by decide)
set_option maxHeartbeats 1000000 in
set_option maxRecDepth 100000 in
theorem c_Mo_write (l : Launch) (D : va_G) (cI : ClassId) (am : Nat → Nat) (σ : Sg) (x1 : Int32) (x2 : Int32) (hI : JM σ) : Met l y_Mo_write (Cond.code y_Mo_write b_Mo_write 3 none :: al) { frames := 5, cells := 0, slots := 0, locals := 112 } (Px D cI (wM cI am) (AM am) σ [.ref (am 0), .int x1, .int x2]) (va_Qv (fun u => u = f_Mo_write σ x1 x2) (Bx D cI (wM cI am) (AM am)) (AM am)) 0 0 (AM am) := by
  refine Mx l (by decide) (Nat.le_of_ble_eq_true rfl) ?_
  intro p e s m below meth c ls F w hr hlk hl
  have F : CallFix p m c b_Mo_write 3 s _ al "PictureMachineModel" := F
  have hl : lv_has ls 3 [(0, .ref (am 0)), (1, .int x1), (2, .int x2)] := hl
  have hcs : (0 : Nat) ≤ 0 ∧ (0 : Nat) ≤ 0 := ⟨Nat.le_refl _, Nat.le_refl _⟩
  refine lv_aload_n (pc := 0) F.1 F.2.1 d_Mo_write_0 rfl (lv_at hl 0 rfl) ?_
  refine lv_iload_n (pc := 1) F.1 F.2.1 d_Mo_write_1 rfl (lv_at hl 1 rfl) ?_
  refine lv_iconst (pc := 2) (v := 0) F.1 F.2.1 d_Mo_write_2 (by decide) ?_
  refine lv_bipush (pc := 3) (v := 31) F.1 F.2.1 d_Mo_write_3 (by decide) ?_
  refine Usi (pc := 5) (As := [.int x1, .int 0, .int 31]) (rest := [.ref (am 0)]) F (c_Mo_in l x1 0 31) k_Mo_in m_931 (Nat.le_of_ble_eq_true rfl) (Nat.le_of_ble_eq_true rfl) ⟨rfl, rfl⟩ rfl hl.1 rfl (Nat.le_of_ble_eq_true rfl) d_Mo_write_5 hcs (fun r1 e_r1 => ?_)
  refine cutW (α := Int32) (fun x H locs ls => x = f_Mo_write_r8 x2 r1 ∧ Wx D cI (wM cI am) (AM am) (AM am) s s.heap H locs σ ∧ lv_has ls 3 [(0, .ref (am 0)), (1, .int x1), (2, .int x2)]) (fun x ls => F0 m 23 ls [.int x, .ref (am 0)]) ?_ (fun k8 => ?_)
  · rintro v3 H locs ls ⟨ex, w, hl⟩
    have e_v3 := ex
    have w : Wx D cI (wM cI am) (AM am) (AM am) s s.heap H locs σ := w
    have hl : lv_has ls 3 [(0, .ref (am 0)), (1, .int x1), (2, .int x2)] := hl
    show W _ _ _ _ _ _ _ _ _ _ _ _ _ _ _ (F0 m 23 ls [.int v3, .ref (am 0)])
    refine pM0_0 (pc := 23) F w (F.2.2.2.2 _ m_775) d_Mo_write_23 (fun H locs s4 e_s4 w => ?_)
    have iJM_s4 : JM s4 := by rw [e_s4]; exact hI
    refine lv_aload_n (pc := 26) F.1 F.2.1 d_Mo_write_26 rfl (lv_at hl 0 rfl) ?_
    refine gM0_0 (pc := 27) F w (F.2.2.2.2 _ m_775) d_Mo_write_27 ?_
    refine cutW (α := Sg) (fun x H locs ls => x = f_Mo_write_r30 x1 x2 s4 ∧ Wx D cI (wM cI am) (AM am) (AM am) s s.heap H locs x ∧ lv_has ls 3 [(0, .ref (am 0)), (1, .int x1), (2, .int x2)]) (fun x ls => F0 m 39 ls []) ?_ (fun k30 => ?_)
    · rintro s6 H locs ls ⟨ex, w, hl⟩
      have e_s6 := ex
      have w : Wx D cI (wM cI am) (AM am) (AM am) s s.heap H locs s6 := w
      have hl : lv_has ls 3 [(0, .ref (am 0)), (1, .int x1), (2, .int x2)] := hl
      show W _ _ _ _ _ _ _ _ _ _ _ _ _ _ _ (F0 m 39 ls [])
      exact Rv (pc := 39) F hr hlk w (by rw [e_s6, e_s4, e_v3, e_r1]; exact Eq.symm (rfl)) d_Mo_write_39
    · refine lv_if_ne (pc := 30) F.1 F.2.1 d_Mo_write_30 (tgt := 39) (by decide) (fun h30 => ?_) (fun h30 => ?_)
      · exact k30 s4 _ _ _ ⟨(by exact Eq.symm (Eq.trans (if_neg h30) (rfl))), w, lv_sub hl [0, 1, 2] rfl⟩
      · refine lv_aload_n (pc := 33) F.1 F.2.1 d_Mo_write_33 rfl (lv_at hl 0 rfl) ?_
        refine lv_iload_n (pc := 34) F.1 F.2.1 d_Mo_write_34 rfl (lv_at hl 1 rfl) ?_
        refine lv_iload_n (pc := 35) F.1 F.2.1 d_Mo_write_35 rfl (lv_at hl 2 rfl) ?_
        refine Cvv (pc := 36) (As := [.int x1, .int x2]) (rest := []) F w (c_Mo_change l D cI am s4 x1 x2 iJM_s4 (in_31 (by have q := mid_Mo_write e_v3 (by rw [e_s4] at h30; exact h30); rw [e_r1] at q; exact q))) 0 rfl rfl k_Mo_change m_1038 (Nat.le_of_ble_eq_true rfl) (Nat.le_of_ble_eq_true rfl) ⟨rfl, rfl⟩ rfl hl.1 rfl (Nat.le_of_ble_eq_true rfl) d_Mo_write_36 hcs (fun s5 H locs e_s5 w => ?_)
        exact k30 s5 _ _ _ ⟨(by rw [e_s5]; exact Eq.symm (Eq.trans (if_pos h30) (rfl))), w, lv_sub hl [0, 1, 2] rfl⟩
  · refine lv_if_eq (pc := 8) F.1 F.2.1 d_Mo_write_8 (tgt := 22) (by decide) (fun h8 => ?_) (fun h8 => ?_)
    · refine lv_iconst (pc := 22) (v := 1) F.1 F.2.1 d_Mo_write_22 (by decide) ?_
      exact k8 1 _ _ _ ⟨(by exact Eq.symm (Eq.trans (if_pos h8) (rfl))), w, lv_sub hl [0, 1, 2] rfl⟩
    · refine lv_iload_n (pc := 11) F.1 F.2.1 d_Mo_write_11 rfl (lv_at hl 2 rfl) ?_
      refine Usi (pc := 12) (As := [.int x2]) (rest := [.ref (am 0)]) F (c_Mo_isByte l x2) k_Mo_isByte m_1101 (Nat.le_of_ble_eq_true rfl) (Nat.le_of_ble_eq_true rfl) ⟨rfl, rfl⟩ rfl hl.1 rfl (Nat.le_of_ble_eq_true rfl) d_Mo_write_12 hcs (fun r2 e_r2 => ?_)
      refine lv_if_eq (pc := 15) F.1 F.2.1 d_Mo_write_15 (tgt := 22) (by decide) (fun h15 => ?_) (fun h15 => ?_)
      · refine lv_iconst (pc := 22) (v := 1) F.1 F.2.1 d_Mo_write_22 (by decide) ?_
        exact k8 1 _ _ _ ⟨(by rw [e_r2] at h15; exact Eq.symm (Eq.trans (if_neg h8) (Eq.trans (if_pos h15) (rfl)))), w, lv_sub hl [0, 1, 2] rfl⟩
      · refine lv_iconst (pc := 18) (v := 0) F.1 F.2.1 d_Mo_write_18 (by decide) ?_
        refine lv_goto (pc := 19) F.1 F.2.1 d_Mo_write_19 (tgt := 23) (by decide) ?_
        exact k8 0 _ _ _ ⟨(by rw [e_r2] at h15; exact Eq.symm (Eq.trans (if_neg h8) (Eq.trans (if_neg h15) (rfl)))), w, lv_sub hl [0, 1, 2] rfl⟩
def f_Mo_isPlace_r7 (x2 : Int32) (r1 : Int32) : Int32 := if r1 = 0 then (0) else (let r2 := f_Mo_in x2 0 7; if r2 = 0 then (0) else (1))
def f_Mo_isPlace  (x1 : Int32) (x2 : Int32) : Int32 := let r1 := f_Mo_in x1 1 8; let v3 := (f_Mo_isPlace_r7 x2 r1); v3
theorem z_f_Mo_isPlace_r7_0 (x2 : Int32) (r1 : Int32) : (f_Mo_isPlace_r7 x2 r1) = 0 ∨ (f_Mo_isPlace_r7 x2 r1) = 1 := by unfold f_Mo_isPlace_r7; (try dsimp only); (repeat' split) <;> (try dsimp only) <;> first | (with_reducible exact Or.inl rfl) | (with_reducible exact Or.inr rfl) | (with_reducible apply z_Mo_in) | exact Or.inl rfl | exact Or.inr rfl | apply z_Mo_in
theorem z_Mo_isPlace  (x1 : Int32) (x2 : Int32) : (f_Mo_isPlace x1 x2) = 0 ∨ (f_Mo_isPlace x1 x2) = 1 := by unfold f_Mo_isPlace; (try dsimp only); (repeat' split) <;> (try dsimp only) <;> first | (with_reducible exact Or.inl rfl) | (with_reducible exact Or.inr rfl) | (with_reducible apply z_f_Mo_isPlace_r7_0) | (with_reducible apply z_Mo_in) | exact Or.inl rfl | exact Or.inr rfl | apply z_f_Mo_isPlace_r7_0 | apply z_Mo_in
set_option maxHeartbeats 1000000 in
set_option maxRecDepth 100000 in
theorem c_Mo_isPlace (l : Launch)  (x1 : Int32) (x2 : Int32) : Met l y_Mo_isPlace (Cond.code y_Mo_isPlace b_Mo_isPlace 2 (some .boolean) :: al) { frames := 1, cells := 0, slots := 0, locals := 22 } (PU [.int x1, .int x2]) (QU (f_Mo_isPlace x1 x2)) 0 0 (fun _ => False) := by
  refine Mu l (by decide) (Nat.le_of_ble_eq_true rfl) ?_
  intro p e s m below meth c ls F hr hlk hl
  have F : CallFix p m c b_Mo_isPlace 2 s _ al "PictureMachineModel" := F
  generalize hH : s.heap = H
  generalize hlo : ([] : List Loc) = locs
  have w : (H = s.heap ∧ locs = []) := ⟨hH.symm, hlo.symm⟩
  have hl : lv_has ls 2 [(0, .int x1), (1, .int x2)] := hl
  have hcs : (0 : Nat) ≤ 0 ∧ (0 : Nat) ≤ 0 := ⟨Nat.le_refl _, Nat.le_refl _⟩
  refine lv_iload_n (pc := 0) F.1 F.2.1 d_Mo_isPlace_0 rfl (lv_at hl 0 rfl) ?_
  refine lv_iconst (pc := 1) (v := 1) F.1 F.2.1 d_Mo_isPlace_1 (by decide) ?_
  refine lv_bipush (pc := 2) (v := 8) F.1 F.2.1 d_Mo_isPlace_2 (by decide) ?_
  refine Usi (pc := 4) (As := [.int x1, .int 1, .int 8]) (rest := []) F (c_Mo_in l x1 1 8) k_Mo_in m_931 (Nat.le_of_ble_eq_true rfl) (Nat.le_of_ble_eq_true rfl) ⟨rfl, rfl⟩ rfl hl.1 rfl (Nat.le_of_ble_eq_true rfl) d_Mo_isPlace_4 hcs (fun r1 e_r1 => ?_)
  refine cutW (α := Int32) (fun x H locs ls => x = f_Mo_isPlace_r7 x2 r1 ∧ (H = s.heap ∧ locs = []) ∧ lv_has ls 2 [(0, .int x1), (1, .int x2)]) (fun x ls => F0 m 25 ls [.int x]) ?_ (fun k7 => ?_)
  · rintro v3 H locs ls ⟨ex, w, hl⟩
    have e_v3 := ex
    have w : (H = s.heap ∧ locs = []) := w
    have hl : lv_has ls 2 [(0, .int x1), (1, .int x2)] := hl
    show W _ _ _ _ _ _ _ _ _ _ _ _ _ _ _ (F0 m 25 ls [.int v3])
    exact Uz (pc := 25) F w hr hlk (e_v3 ▸ z_f_Mo_isPlace_r7_0 x2 r1) (by rw [e_v3, e_r1]; exact Eq.symm (rfl)) d_Mo_isPlace_25
  · refine lv_if_eq (pc := 7) F.1 F.2.1 d_Mo_isPlace_7 (tgt := 24) (by decide) (fun h7 => ?_) (fun h7 => ?_)
    · refine lv_iconst (pc := 24) (v := 0) F.1 F.2.1 d_Mo_isPlace_24 (by decide) ?_
      exact k7 0 _ _ _ ⟨(by exact Eq.symm (Eq.trans (if_pos h7) (rfl))), w, lv_sub hl [0, 1] rfl⟩
    · refine lv_iload_n (pc := 10) F.1 F.2.1 d_Mo_isPlace_10 rfl (lv_at hl 1 rfl) ?_
      refine lv_iconst (pc := 11) (v := 0) F.1 F.2.1 d_Mo_isPlace_11 (by decide) ?_
      refine lv_bipush (pc := 12) (v := 7) F.1 F.2.1 d_Mo_isPlace_12 (by decide) ?_
      refine Usi (pc := 14) (As := [.int x2, .int 0, .int 7]) (rest := []) F (c_Mo_in l x2 0 7) k_Mo_in m_931 (Nat.le_of_ble_eq_true rfl) (Nat.le_of_ble_eq_true rfl) ⟨rfl, rfl⟩ rfl hl.1 rfl (Nat.le_of_ble_eq_true rfl) d_Mo_isPlace_14 hcs (fun r2 e_r2 => ?_)
      refine lv_if_eq (pc := 17) F.1 F.2.1 d_Mo_isPlace_17 (tgt := 24) (by decide) (fun h17 => ?_) (fun h17 => ?_)
      · refine lv_iconst (pc := 24) (v := 0) F.1 F.2.1 d_Mo_isPlace_24 (by decide) ?_
        exact k7 0 _ _ _ ⟨(by rw [e_r2] at h17; exact Eq.symm (Eq.trans (if_neg h7) (Eq.trans (if_pos h17) (rfl)))), w, lv_sub hl [0, 1] rfl⟩
      · refine lv_iconst (pc := 20) (v := 1) F.1 F.2.1 d_Mo_isPlace_20 (by decide) ?_
        refine lv_goto (pc := 21) F.1 F.2.1 d_Mo_isPlace_21 (tgt := 25) (by decide) ?_
        exact k7 1 _ _ _ ⟨(by rw [e_r2] at h17; exact Eq.symm (Eq.trans (if_neg h7) (Eq.trans (if_neg h17) (rfl)))), w, lv_sub hl [0, 1] rfl⟩
theorem ip_ok {x y : Int32} (h : ¬ f_Mo_isPlace x y = 0) : bt2 1 x 8 ∧ bt2 0 y 7 := by
  by_cases h1 : f_Mo_in x 1 8 = 0
  · exact absurd (show f_Mo_isPlace x y = 0 from if_pos h1) h
  by_cases h2 : f_Mo_in y 0 7 = 0
  · exact absurd (show f_Mo_isPlace x y = 0 from (if_neg h1).trans (if_pos h2)) h
  exact ⟨in_ok h1, in_ok h2⟩
def f_Mo_disk_r6 (x3 : Int32) (r1 : Int32) : Int32 := if r1 = 0 then (1) else (let r2 := f_Mo_isByte x3; if r2 = 0 then (1) else (0))
def f_Mo_disk_r28 (x1 : Int32) (x2 : Int32) (x3 : Int32) (s4 : Sg) : Sg := if (s4 0 0) = 0 then (let s5 := sf s4 7 (((8 * x1) - 8) + x2).toNatClampNeg x3; s5) else (s4)
def f_Mo_disk (σ : Sg) (x1 : Int32) (x2 : Int32) (x3 : Int32) : Sg := let r1 := f_Mo_isPlace x1 x2; let v3 := (f_Mo_disk_r6 x3 r1); let s4 := sf σ 0 0 v3; let s6 := (f_Mo_disk_r28 x1 x2 x3 s4); s6
theorem z_f_Mo_disk_r6_0 (x3 : Int32) (r1 : Int32) : (f_Mo_disk_r6 x3 r1) = 0 ∨ (f_Mo_disk_r6 x3 r1) = 1 := by unfold f_Mo_disk_r6; (try dsimp only); (repeat' split) <;> (try dsimp only) <;> first | (with_reducible exact Or.inl rfl) | (with_reducible exact Or.inr rfl) | (with_reducible apply z_Mo_isByte) | (with_reducible apply z_Mo_isPlace) | exact Or.inl rfl | exact Or.inr rfl | apply z_Mo_isByte | apply z_Mo_isPlace
theorem mid_Mo_disk {x3 r1 v : Int32} (e : v = f_Mo_disk_r6 x3 r1) (h : v = 0) : ¬ r1 = 0 := by
  intro h1
  rw [e, show f_Mo_disk_r6 x3 r1 = 1 from if_pos h1] at h
  exact absurd h (by decide)
set_option maxHeartbeats 1000000 in
set_option maxRecDepth 100000 in
theorem c_Mo_disk (l : Launch) (D : va_G) (cI : ClassId) (am : Nat → Nat) (σ : Sg) (x1 : Int32) (x2 : Int32) (x3 : Int32) : Met l y_Mo_disk (Cond.code y_Mo_disk b_Mo_disk 4 none :: al) { frames := 2, cells := 0, slots := 0, locals := 43 } (Px D cI (wM cI am) (AM am) σ [.ref (am 0), .int x1, .int x2, .int x3]) (va_Qv (fun u => u = f_Mo_disk σ x1 x2 x3) (Bx D cI (wM cI am) (AM am)) (AM am)) 0 0 (AM am) := by
  refine Mx l (by decide) (Nat.le_of_ble_eq_true rfl) ?_
  intro p e s m below meth c ls F w hr hlk hl
  have F : CallFix p m c b_Mo_disk 4 s _ al "PictureMachineModel" := F
  have hl : lv_has ls 4 [(0, .ref (am 0)), (1, .int x1), (2, .int x2), (3, .int x3)] := hl
  have hcs : (0 : Nat) ≤ 0 ∧ (0 : Nat) ≤ 0 := ⟨Nat.le_refl _, Nat.le_refl _⟩
  refine lv_aload_n (pc := 0) F.1 F.2.1 d_Mo_disk_0 rfl (lv_at hl 0 rfl) ?_
  refine lv_iload_n (pc := 1) F.1 F.2.1 d_Mo_disk_1 rfl (lv_at hl 1 rfl) ?_
  refine lv_iload_n (pc := 2) F.1 F.2.1 d_Mo_disk_2 rfl (lv_at hl 2 rfl) ?_
  refine Usi (pc := 3) (As := [.int x1, .int x2]) (rest := [.ref (am 0)]) F (c_Mo_isPlace l x1 x2) k_Mo_isPlace m_1116 (Nat.le_of_ble_eq_true rfl) (Nat.le_of_ble_eq_true rfl) ⟨rfl, rfl⟩ rfl hl.1 rfl (Nat.le_of_ble_eq_true rfl) d_Mo_disk_3 hcs (fun r1 e_r1 => ?_)
  refine cutW (α := Int32) (fun x H locs ls => x = f_Mo_disk_r6 x3 r1 ∧ Wx D cI (wM cI am) (AM am) (AM am) s s.heap H locs σ ∧ lv_has ls 4 [(0, .ref (am 0)), (1, .int x1), (2, .int x2), (3, .int x3)]) (fun x ls => F0 m 21 ls [.int x, .ref (am 0)]) ?_ (fun k6 => ?_)
  · rintro v3 H locs ls ⟨ex, w, hl⟩
    have e_v3 := ex
    have w : Wx D cI (wM cI am) (AM am) (AM am) s s.heap H locs σ := w
    have hl : lv_has ls 4 [(0, .ref (am 0)), (1, .int x1), (2, .int x2), (3, .int x3)] := hl
    show W _ _ _ _ _ _ _ _ _ _ _ _ _ _ _ (F0 m 21 ls [.int v3, .ref (am 0)])
    refine pM0_0 (pc := 21) F w (F.2.2.2.2 _ m_775) d_Mo_disk_21 (fun H locs s4 e_s4 w => ?_)
    refine lv_aload_n (pc := 24) F.1 F.2.1 d_Mo_disk_24 rfl (lv_at hl 0 rfl) ?_
    refine gM0_0 (pc := 25) F w (F.2.2.2.2 _ m_775) d_Mo_disk_25 ?_
    refine cutW (α := Sg) (fun x H locs ls => x = f_Mo_disk_r28 x1 x2 x3 s4 ∧ Wx D cI (wM cI am) (AM am) (AM am) s s.heap H locs x ∧ lv_has ls 4 [(0, .ref (am 0)), (1, .int x1), (2, .int x2), (3, .int x3)]) (fun x ls => F0 m 46 ls []) ?_ (fun k28 => ?_)
    · rintro s6 H locs ls ⟨ex, w, hl⟩
      have e_s6 := ex
      have w : Wx D cI (wM cI am) (AM am) (AM am) s s.heap H locs s6 := w
      have hl : lv_has ls 4 [(0, .ref (am 0)), (1, .int x1), (2, .int x2), (3, .int x3)] := hl
      show W _ _ _ _ _ _ _ _ _ _ _ _ _ _ _ (F0 m 46 ls [])
      exact Rv (pc := 46) F hr hlk w (by rw [e_s6, e_s4, e_v3, e_r1]; exact Eq.symm (rfl)) d_Mo_disk_46
    · refine lv_if_ne (pc := 28) F.1 F.2.1 d_Mo_disk_28 (tgt := 46) (by decide) (fun h28 => ?_) (fun h28 => ?_)
      · exact k28 s4 _ _ _ ⟨(by exact Eq.symm (Eq.trans (if_neg h28) (rfl))), w, lv_sub hl [0, 1, 2, 3] rfl⟩
      · refine lv_aload_n (pc := 31) F.1 F.2.1 d_Mo_disk_31 rfl (lv_at hl 0 rfl) ?_
        refine gM0_41 (pc := 32) F w (F.2.2.2.2 _ m_816) d_Mo_disk_32 ?_
        refine lv_bipush (pc := 35) (v := 8) F.1 F.2.1 d_Mo_disk_35 (by decide) ?_
        refine lv_iload_n (pc := 37) F.1 F.2.1 d_Mo_disk_37 rfl (lv_at hl 1 rfl) ?_
        refine lv_imul (pc := 38) F.1 F.2.1 d_Mo_disk_38 ?_
        refine lv_bipush (pc := 39) (v := 8) F.1 F.2.1 d_Mo_disk_39 (by decide) ?_
        refine lv_isub (pc := 41) F.1 F.2.1 d_Mo_disk_41 ?_
        refine lv_iload_n (pc := 42) F.1 F.2.1 d_Mo_disk_42 rfl (lv_at hl 2 rfl) ?_
        refine lv_iadd (pc := 43) F.1 F.2.1 d_Mo_disk_43 ?_
        refine lv_iload_n (pc := 44) F.1 F.2.1 d_Mo_disk_44 rfl (lv_at hl 3 rfl) ?_
        refine aM7 (pc := 45) F w (by have q := mid_Mo_disk e_v3 (by rw [e_s4] at h28; exact h28); rw [e_r1] at q; exact se_in (ip_ok q).1 (ip_ok q).2) d_Mo_disk_45 (fun H locs s5 e_s5 w => ?_)
        exact k28 s5 _ _ _ ⟨(by rw [e_s5]; exact Eq.symm (Eq.trans (if_pos h28) (rfl))), w, lv_sub hl [0, 1, 2, 3] rfl⟩
  · refine lv_if_eq (pc := 6) F.1 F.2.1 d_Mo_disk_6 (tgt := 20) (by decide) (fun h6 => ?_) (fun h6 => ?_)
    · refine lv_iconst (pc := 20) (v := 1) F.1 F.2.1 d_Mo_disk_20 (by decide) ?_
      exact k6 1 _ _ _ ⟨(by exact Eq.symm (Eq.trans (if_pos h6) (rfl))), w, lv_sub hl [0, 1, 2, 3] rfl⟩
    · refine lv_iload_n (pc := 9) F.1 F.2.1 d_Mo_disk_9 rfl (lv_at hl 3 rfl) ?_
      refine Usi (pc := 10) (As := [.int x3]) (rest := [.ref (am 0)]) F (c_Mo_isByte l x3) k_Mo_isByte m_1101 (Nat.le_of_ble_eq_true rfl) (Nat.le_of_ble_eq_true rfl) ⟨rfl, rfl⟩ rfl hl.1 rfl (Nat.le_of_ble_eq_true rfl) d_Mo_disk_10 hcs (fun r2 e_r2 => ?_)
      refine lv_if_eq (pc := 13) F.1 F.2.1 d_Mo_disk_13 (tgt := 20) (by decide) (fun h13 => ?_) (fun h13 => ?_)
      · refine lv_iconst (pc := 20) (v := 1) F.1 F.2.1 d_Mo_disk_20 (by decide) ?_
        exact k6 1 _ _ _ ⟨(by rw [e_r2] at h13; exact Eq.symm (Eq.trans (if_neg h6) (Eq.trans (if_pos h13) (rfl)))), w, lv_sub hl [0, 1, 2, 3] rfl⟩
      · refine lv_iconst (pc := 16) (v := 0) F.1 F.2.1 d_Mo_disk_16 (by decide) ?_
        refine lv_goto (pc := 17) F.1 F.2.1 d_Mo_disk_17 (tgt := 21) (by decide) ?_
        exact k6 0 _ _ _ ⟨(by rw [e_r2] at h13; exact Eq.symm (Eq.trans (if_neg h6) (Eq.trans (if_neg h13) (rfl)))), w, lv_sub hl [0, 1, 2, 3] rfl⟩
def f_Mo_sector_r6 (r1 : Int32) : Int32 := if r1 = 0 then (1) else (0)
def f_Mo_sector_r21 (x1 : Int32) (x2 : Int32) (s3 : Sg) : Int32 := if (s3 0 0) = 0 then ((s3 7 (((8 * x1) - 8) + x2).toNatClampNeg)) else (0)
def f_Mo_sector (σ : Sg) (x1 : Int32) (x2 : Int32) : Int32 × Sg := let r1 := f_Mo_isPlace x1 x2; let v2 := (f_Mo_sector_r6 r1); let s3 := sf σ 0 0 v2; let v4 := (f_Mo_sector_r21 x1 x2 s3); (v4, s3)
theorem z_f_Mo_sector_r6_0 (r1 : Int32) : (f_Mo_sector_r6 r1) = 0 ∨ (f_Mo_sector_r6 r1) = 1 := by unfold f_Mo_sector_r6; (try dsimp only); (repeat' split) <;> (try dsimp only) <;> first | (with_reducible exact Or.inl rfl) | (with_reducible exact Or.inr rfl) | (with_reducible apply z_Mo_isPlace) | exact Or.inl rfl | exact Or.inr rfl | apply z_Mo_isPlace
theorem mid_Mo_sector {r1 v : Int32} (e : v = f_Mo_sector_r6 r1) (h : v = 0) : ¬ r1 = 0 := by
  intro h1
  rw [e, show f_Mo_sector_r6 r1 = 1 from if_pos h1] at h
  exact absurd h (by decide)
set_option maxHeartbeats 1000000 in
set_option maxRecDepth 100000 in
theorem c_Mo_sector (l : Launch) (D : va_G) (cI : ClassId) (am : Nat → Nat) (σ : Sg) (x1 : Int32) (x2 : Int32) : Met l y_Mo_sector (Cond.code y_Mo_sector b_Mo_sector 3 (some .int) :: al) { frames := 2, cells := 0, slots := 0, locals := 43 } (Px D cI (wM cI am) (AM am) σ [.ref (am 0), .int x1, .int x2]) (va_Qi (fun r u => (r, u) = f_Mo_sector σ x1 x2) (Bx D cI (wM cI am) (AM am)) (AM am)) 0 0 (AM am) := by
  refine Mx l (by decide) (Nat.le_of_ble_eq_true rfl) ?_
  intro p e s m below meth c ls F w hr hlk hl
  have F : CallFix p m c b_Mo_sector 3 s _ al "PictureMachineModel" := F
  have hl : lv_has ls 3 [(0, .ref (am 0)), (1, .int x1), (2, .int x2)] := hl
  have hcs : (0 : Nat) ≤ 0 ∧ (0 : Nat) ≤ 0 := ⟨Nat.le_refl _, Nat.le_refl _⟩
  refine lv_aload_n (pc := 0) F.1 F.2.1 d_Mo_sector_0 rfl (lv_at hl 0 rfl) ?_
  refine lv_iload_n (pc := 1) F.1 F.2.1 d_Mo_sector_1 rfl (lv_at hl 1 rfl) ?_
  refine lv_iload_n (pc := 2) F.1 F.2.1 d_Mo_sector_2 rfl (lv_at hl 2 rfl) ?_
  refine Usi (pc := 3) (As := [.int x1, .int x2]) (rest := [.ref (am 0)]) F (c_Mo_isPlace l x1 x2) k_Mo_isPlace m_1116 (Nat.le_of_ble_eq_true rfl) (Nat.le_of_ble_eq_true rfl) ⟨rfl, rfl⟩ rfl hl.1 rfl (Nat.le_of_ble_eq_true rfl) d_Mo_sector_3 hcs (fun r1 e_r1 => ?_)
  refine cutW (α := Int32) (fun x H locs ls => x = f_Mo_sector_r6 r1 ∧ Wx D cI (wM cI am) (AM am) (AM am) s s.heap H locs σ ∧ lv_has ls 3 [(0, .ref (am 0)), (1, .int x1), (2, .int x2)]) (fun x ls => F0 m 14 ls [.int x, .ref (am 0)]) ?_ (fun k6 => ?_)
  · rintro v2 H locs ls ⟨ex, w, hl⟩
    have e_v2 := ex
    have w : Wx D cI (wM cI am) (AM am) (AM am) s s.heap H locs σ := w
    have hl : lv_has ls 3 [(0, .ref (am 0)), (1, .int x1), (2, .int x2)] := hl
    show W _ _ _ _ _ _ _ _ _ _ _ _ _ _ _ (F0 m 14 ls [.int v2, .ref (am 0)])
    refine pM0_0 (pc := 14) F w (F.2.2.2.2 _ m_775) d_Mo_sector_14 (fun H locs s3 e_s3 w => ?_)
    refine lv_aload_n (pc := 17) F.1 F.2.1 d_Mo_sector_17 rfl (lv_at hl 0 rfl) ?_
    refine gM0_0 (pc := 18) F w (F.2.2.2.2 _ m_775) d_Mo_sector_18 ?_
    refine cutW (α := Int32) (fun x H locs ls => x = f_Mo_sector_r21 x1 x2 s3 ∧ Wx D cI (wM cI am) (AM am) (AM am) s s.heap H locs s3 ∧ lv_has ls 3 [(0, .ref (am 0)), (1, .int x1), (2, .int x2)]) (fun x ls => F0 m 42 ls [.int x]) ?_ (fun k21 => ?_)
    · rintro v4 H locs ls ⟨ex, w, hl⟩
      have e_v4 := ex
      have w : Wx D cI (wM cI am) (AM am) (AM am) s s.heap H locs s3 := w
      have hl : lv_has ls 3 [(0, .ref (am 0)), (1, .int x1), (2, .int x2)] := hl
      show W _ _ _ _ _ _ _ _ _ _ _ _ _ _ _ (F0 m 42 ls [.int v4])
      exact Ri (pc := 42) F hr hlk w (by rw [e_v4, e_s3, e_v2, e_r1]; exact Eq.symm (rfl)) d_Mo_sector_42
    · refine lv_if_ne (pc := 21) F.1 F.2.1 d_Mo_sector_21 (tgt := 41) (by decide) (fun h21 => ?_) (fun h21 => ?_)
      · refine lv_iconst (pc := 41) (v := 0) F.1 F.2.1 d_Mo_sector_41 (by decide) ?_
        exact k21 0 _ _ _ ⟨(by exact Eq.symm (Eq.trans (if_neg h21) (rfl))), w, lv_sub hl [0, 1, 2] rfl⟩
      · refine lv_aload_n (pc := 24) F.1 F.2.1 d_Mo_sector_24 rfl (lv_at hl 0 rfl) ?_
        refine gM0_41 (pc := 25) F w (F.2.2.2.2 _ m_816) d_Mo_sector_25 ?_
        refine lv_bipush (pc := 28) (v := 8) F.1 F.2.1 d_Mo_sector_28 (by decide) ?_
        refine lv_iload_n (pc := 30) F.1 F.2.1 d_Mo_sector_30 rfl (lv_at hl 1 rfl) ?_
        refine lv_imul (pc := 31) F.1 F.2.1 d_Mo_sector_31 ?_
        refine lv_bipush (pc := 32) (v := 8) F.1 F.2.1 d_Mo_sector_32 (by decide) ?_
        refine lv_isub (pc := 34) F.1 F.2.1 d_Mo_sector_34 ?_
        refine lv_iload_n (pc := 35) F.1 F.2.1 d_Mo_sector_35 rfl (lv_at hl 2 rfl) ?_
        refine lv_iadd (pc := 36) F.1 F.2.1 d_Mo_sector_36 ?_
        refine lM7 (pc := 37) F w (by have q := mid_Mo_sector e_v2 (by rw [e_s3] at h21; exact h21); rw [e_r1] at q; exact se_in (ip_ok q).1 (ip_ok q).2) d_Mo_sector_37 ?_
        refine lv_goto (pc := 38) F.1 F.2.1 d_Mo_sector_38 (tgt := 42) (by decide) ?_
        exact k21 (s3 7 (((8 * x1) - 8) + x2).toNatClampNeg) _ _ _ ⟨(by exact Eq.symm (Eq.trans (if_pos h21) (rfl))), w, lv_sub hl [0, 1, 2] rfl⟩
  · refine lv_if_eq (pc := 6) F.1 F.2.1 d_Mo_sector_6 (tgt := 13) (by decide) (fun h6 => ?_) (fun h6 => ?_)
    · refine lv_iconst (pc := 13) (v := 1) F.1 F.2.1 d_Mo_sector_13 (by decide) ?_
      exact k6 1 _ _ _ ⟨(by exact Eq.symm (Eq.trans (if_pos h6) (rfl))), w, lv_sub hl [0, 1, 2] rfl⟩
    · refine lv_iconst (pc := 9) (v := 0) F.1 F.2.1 d_Mo_sector_9 (by decide) ?_
      refine lv_goto (pc := 10) F.1 F.2.1 d_Mo_sector_10 (tgt := 14) (by decide) ?_
      exact k6 0 _ _ _ ⟨(by exact Eq.symm (Eq.trans (if_neg h6) (rfl))), w, lv_sub hl [0, 1, 2] rfl⟩
def f_Mo_stick_r5 (r1 : Int32) : Int32 := if r1 = 0 then (1) else (0)
def f_Mo_stick_r20 (x1 : Int32) (s3 : Sg) : Sg := if (s3 0 0) = 0 then (let s4 := sf s3 0 40 x1; s4) else (s3)
def f_Mo_stick (σ : Sg) (x1 : Int32) : Sg := let r1 := f_Mo_isByte x1; let v2 := (f_Mo_stick_r5 r1); let s3 := sf σ 0 0 v2; let s5 := (f_Mo_stick_r20 x1 s3); s5
theorem z_f_Mo_stick_r5_0 (r1 : Int32) : (f_Mo_stick_r5 r1) = 0 ∨ (f_Mo_stick_r5 r1) = 1 := by unfold f_Mo_stick_r5; (try dsimp only); (repeat' split) <;> (try dsimp only) <;> first | (with_reducible exact Or.inl rfl) | (with_reducible exact Or.inr rfl) | (with_reducible apply z_Mo_isByte) | exact Or.inl rfl | exact Or.inr rfl | apply z_Mo_isByte
set_option maxHeartbeats 1000000 in
set_option maxRecDepth 100000 in
theorem c_Mo_stick (l : Launch) (D : va_G) (cI : ClassId) (am : Nat → Nat) (σ : Sg) (x1 : Int32) : Met l y_Mo_stick (Cond.code y_Mo_stick b_Mo_stick 2 none :: al) { frames := 2, cells := 0, slots := 0, locals := 42 } (Px D cI (wM cI am) (AM am) σ [.ref (am 0), .int x1]) (va_Qv (fun u => u = f_Mo_stick σ x1) (Bx D cI (wM cI am) (AM am)) (AM am)) 0 0 (AM am) := by
  refine Mx l (by decide) (Nat.le_of_ble_eq_true rfl) ?_
  intro p e s m below meth c ls F w hr hlk hl
  have F : CallFix p m c b_Mo_stick 2 s _ al "PictureMachineModel" := F
  have hl : lv_has ls 2 [(0, .ref (am 0)), (1, .int x1)] := hl
  have hcs : (0 : Nat) ≤ 0 ∧ (0 : Nat) ≤ 0 := ⟨Nat.le_refl _, Nat.le_refl _⟩
  refine lv_aload_n (pc := 0) F.1 F.2.1 d_Mo_stick_0 rfl (lv_at hl 0 rfl) ?_
  refine lv_iload_n (pc := 1) F.1 F.2.1 d_Mo_stick_1 rfl (lv_at hl 1 rfl) ?_
  refine Usi (pc := 2) (As := [.int x1]) (rest := [.ref (am 0)]) F (c_Mo_isByte l x1) k_Mo_isByte m_1101 (Nat.le_of_ble_eq_true rfl) (Nat.le_of_ble_eq_true rfl) ⟨rfl, rfl⟩ rfl hl.1 rfl (Nat.le_of_ble_eq_true rfl) d_Mo_stick_2 hcs (fun r1 e_r1 => ?_)
  refine cutW (α := Int32) (fun x H locs ls => x = f_Mo_stick_r5 r1 ∧ Wx D cI (wM cI am) (AM am) (AM am) s s.heap H locs σ ∧ lv_has ls 2 [(0, .ref (am 0)), (1, .int x1)]) (fun x ls => F0 m 13 ls [.int x, .ref (am 0)]) ?_ (fun k5 => ?_)
  · rintro v2 H locs ls ⟨ex, w, hl⟩
    have e_v2 := ex
    have w : Wx D cI (wM cI am) (AM am) (AM am) s s.heap H locs σ := w
    have hl : lv_has ls 2 [(0, .ref (am 0)), (1, .int x1)] := hl
    show W _ _ _ _ _ _ _ _ _ _ _ _ _ _ _ (F0 m 13 ls [.int v2, .ref (am 0)])
    refine pM0_0 (pc := 13) F w (F.2.2.2.2 _ m_775) d_Mo_stick_13 (fun H locs s3 e_s3 w => ?_)
    refine lv_aload_n (pc := 16) F.1 F.2.1 d_Mo_stick_16 rfl (lv_at hl 0 rfl) ?_
    refine gM0_0 (pc := 17) F w (F.2.2.2.2 _ m_775) d_Mo_stick_17 ?_
    refine cutW (α := Sg) (fun x H locs ls => x = f_Mo_stick_r20 x1 s3 ∧ Wx D cI (wM cI am) (AM am) (AM am) s s.heap H locs x ∧ lv_has ls 2 [(0, .ref (am 0)), (1, .int x1)]) (fun x ls => F0 m 28 ls []) ?_ (fun k20 => ?_)
    · rintro s5 H locs ls ⟨ex, w, hl⟩
      have e_s5 := ex
      have w : Wx D cI (wM cI am) (AM am) (AM am) s s.heap H locs s5 := w
      have hl : lv_has ls 2 [(0, .ref (am 0)), (1, .int x1)] := hl
      show W _ _ _ _ _ _ _ _ _ _ _ _ _ _ _ (F0 m 28 ls [])
      exact Rv (pc := 28) F hr hlk w (by rw [e_s5, e_s3, e_v2, e_r1]; exact Eq.symm (rfl)) d_Mo_stick_28
    · refine lv_if_ne (pc := 20) F.1 F.2.1 d_Mo_stick_20 (tgt := 28) (by decide) (fun h20 => ?_) (fun h20 => ?_)
      · exact k20 s3 _ _ _ ⟨(by exact Eq.symm (Eq.trans (if_neg h20) (rfl))), w, lv_sub hl [0, 1] rfl⟩
      · refine lv_aload_n (pc := 23) F.1 F.2.1 d_Mo_stick_23 rfl (lv_at hl 0 rfl) ?_
        refine lv_iload_n (pc := 24) F.1 F.2.1 d_Mo_stick_24 rfl (lv_at hl 1 rfl) ?_
        refine pM0_40 (pc := 25) F w (F.2.2.2.2 _ m_815) d_Mo_stick_25 (fun H locs s4 e_s4 w => ?_)
        exact k20 s4 _ _ _ ⟨(by rw [e_s4]; exact Eq.symm (Eq.trans (if_pos h20) (rfl))), w, lv_sub hl [0, 1] rfl⟩
  · refine lv_if_eq (pc := 5) F.1 F.2.1 d_Mo_stick_5 (tgt := 12) (by decide) (fun h5 => ?_) (fun h5 => ?_)
    · refine lv_iconst (pc := 12) (v := 1) F.1 F.2.1 d_Mo_stick_12 (by decide) ?_
      exact k5 1 _ _ _ ⟨(by exact Eq.symm (Eq.trans (if_pos h5) (rfl))), w, lv_sub hl [0, 1] rfl⟩
    · refine lv_iconst (pc := 8) (v := 0) F.1 F.2.1 d_Mo_stick_8 (by decide) ?_
      refine lv_goto (pc := 9) F.1 F.2.1 d_Mo_stick_9 (tgt := 13) (by decide) ?_
      exact k5 0 _ _ _ ⟨(by exact Eq.symm (Eq.trans (if_neg h5) (rfl))), w, lv_sub hl [0, 1] rfl⟩
def f_Mo_dot_r8 (x2 : Int32) (r1 : Int32) : Int32 := if r1 = 0 then (1) else (let r2 := f_Mo_in x2 0 31; if r2 = 0 then (1) else (0))
def f_Mo_dot_r33 (x1 : Int32) (x2 : Int32) (s4 : Sg) : Int32 := if (s4 0 0) = 0 then ((s4 6 ((32 * (x1 - 1)) + x2).toNatClampNeg)) else (0)
def f_Mo_dot (σ : Sg) (x1 : Int32) (x2 : Int32) : Int32 × Sg := let r1 := f_Mo_in x1 1 12; let v3 := (f_Mo_dot_r8 x2 r1); let s4 := sf σ 0 0 v3; let v5 := (f_Mo_dot_r33 x1 x2 s4); (v5, s4)
theorem z_f_Mo_dot_r8_0 (x2 : Int32) (r1 : Int32) : (f_Mo_dot_r8 x2 r1) = 0 ∨ (f_Mo_dot_r8 x2 r1) = 1 := by unfold f_Mo_dot_r8; (try dsimp only); (repeat' split) <;> (try dsimp only) <;> first | (with_reducible exact Or.inl rfl) | (with_reducible exact Or.inr rfl) | (with_reducible apply z_Mo_in) | exact Or.inl rfl | exact Or.inr rfl | apply z_Mo_in
theorem mid_Mo_dot {x2 r1 v : Int32} (e : v = f_Mo_dot_r8 x2 r1) (h : v = 0) : ¬ r1 = 0 ∧ ¬ f_Mo_in x2 0 31 = 0 := by
  refine ⟨fun h1 => ?_, fun h2 => ?_⟩
  · rw [e, show f_Mo_dot_r8 x2 r1 = 1 from if_pos h1] at h
    exact absurd h (by decide)
  · by_cases h1 : r1 = 0
    · rw [e, show f_Mo_dot_r8 x2 r1 = 1 from if_pos h1] at h
      exact absurd h (by decide)
    · rw [e, show f_Mo_dot_r8 x2 r1 = 1 from (if_neg h1).trans (if_pos h2)] at h
      exact absurd h (by decide)
set_option maxHeartbeats 1000000 in
set_option maxRecDepth 100000 in
theorem c_Mo_dot (l : Launch) (D : va_G) (cI : ClassId) (am : Nat → Nat) (σ : Sg) (x1 : Int32) (x2 : Int32) : Met l y_Mo_dot (Cond.code y_Mo_dot b_Mo_dot 3 (some .int) :: al) { frames := 1, cells := 0, slots := 0, locals := 22 } (Px D cI (wM cI am) (AM am) σ [.ref (am 0), .int x1, .int x2]) (va_Qi (fun r u => (r, u) = f_Mo_dot σ x1 x2) (Bx D cI (wM cI am) (AM am)) (AM am)) 0 0 (AM am) := by
  refine Mx l (by decide) (Nat.le_of_ble_eq_true rfl) ?_
  intro p e s m below meth c ls F w hr hlk hl
  have F : CallFix p m c b_Mo_dot 3 s _ al "PictureMachineModel" := F
  have hl : lv_has ls 3 [(0, .ref (am 0)), (1, .int x1), (2, .int x2)] := hl
  have hcs : (0 : Nat) ≤ 0 ∧ (0 : Nat) ≤ 0 := ⟨Nat.le_refl _, Nat.le_refl _⟩
  refine lv_aload_n (pc := 0) F.1 F.2.1 d_Mo_dot_0 rfl (lv_at hl 0 rfl) ?_
  refine lv_iload_n (pc := 1) F.1 F.2.1 d_Mo_dot_1 rfl (lv_at hl 1 rfl) ?_
  refine lv_iconst (pc := 2) (v := 1) F.1 F.2.1 d_Mo_dot_2 (by decide) ?_
  refine lv_bipush (pc := 3) (v := 12) F.1 F.2.1 d_Mo_dot_3 (by decide) ?_
  refine Usi (pc := 5) (As := [.int x1, .int 1, .int 12]) (rest := [.ref (am 0)]) F (c_Mo_in l x1 1 12) k_Mo_in m_931 (Nat.le_of_ble_eq_true rfl) (Nat.le_of_ble_eq_true rfl) ⟨rfl, rfl⟩ rfl hl.1 rfl (Nat.le_of_ble_eq_true rfl) d_Mo_dot_5 hcs (fun r1 e_r1 => ?_)
  refine cutW (α := Int32) (fun x H locs ls => x = f_Mo_dot_r8 x2 r1 ∧ Wx D cI (wM cI am) (AM am) (AM am) s s.heap H locs σ ∧ lv_has ls 3 [(0, .ref (am 0)), (1, .int x1), (2, .int x2)]) (fun x ls => F0 m 26 ls [.int x, .ref (am 0)]) ?_ (fun k8 => ?_)
  · rintro v3 H locs ls ⟨ex, w, hl⟩
    have e_v3 := ex
    have w : Wx D cI (wM cI am) (AM am) (AM am) s s.heap H locs σ := w
    have hl : lv_has ls 3 [(0, .ref (am 0)), (1, .int x1), (2, .int x2)] := hl
    show W _ _ _ _ _ _ _ _ _ _ _ _ _ _ _ (F0 m 26 ls [.int v3, .ref (am 0)])
    refine pM0_0 (pc := 26) F w (F.2.2.2.2 _ m_775) d_Mo_dot_26 (fun H locs s4 e_s4 w => ?_)
    refine lv_aload_n (pc := 29) F.1 F.2.1 d_Mo_dot_29 rfl (lv_at hl 0 rfl) ?_
    refine gM0_0 (pc := 30) F w (F.2.2.2.2 _ m_775) d_Mo_dot_30 ?_
    refine cutW (α := Int32) (fun x H locs ls => x = f_Mo_dot_r33 x1 x2 s4 ∧ Wx D cI (wM cI am) (AM am) (AM am) s s.heap H locs s4 ∧ lv_has ls 3 [(0, .ref (am 0)), (1, .int x1), (2, .int x2)]) (fun x ls => F0 m 53 ls [.int x]) ?_ (fun k33 => ?_)
    · rintro v5 H locs ls ⟨ex, w, hl⟩
      have e_v5 := ex
      have w : Wx D cI (wM cI am) (AM am) (AM am) s s.heap H locs s4 := w
      have hl : lv_has ls 3 [(0, .ref (am 0)), (1, .int x1), (2, .int x2)] := hl
      show W _ _ _ _ _ _ _ _ _ _ _ _ _ _ _ (F0 m 53 ls [.int v5])
      exact Ri (pc := 53) F hr hlk w (by rw [e_v5, e_s4, e_v3, e_r1]; exact Eq.symm (rfl)) d_Mo_dot_53
    · refine lv_if_ne (pc := 33) F.1 F.2.1 d_Mo_dot_33 (tgt := 52) (by decide) (fun h33 => ?_) (fun h33 => ?_)
      · refine lv_iconst (pc := 52) (v := 0) F.1 F.2.1 d_Mo_dot_52 (by decide) ?_
        exact k33 0 _ _ _ ⟨(by exact Eq.symm (Eq.trans (if_neg h33) (rfl))), w, lv_sub hl [0, 1, 2] rfl⟩
      · refine lv_aload_n (pc := 36) F.1 F.2.1 d_Mo_dot_36 rfl (lv_at hl 0 rfl) ?_
        refine gM0_36 (pc := 37) F w (F.2.2.2.2 _ m_811) d_Mo_dot_37 ?_
        refine lv_bipush (pc := 40) (v := 32) F.1 F.2.1 d_Mo_dot_40 (by decide) ?_
        refine lv_iload_n (pc := 42) F.1 F.2.1 d_Mo_dot_42 rfl (lv_at hl 1 rfl) ?_
        refine lv_iconst (pc := 43) (v := 1) F.1 F.2.1 d_Mo_dot_43 (by decide) ?_
        refine lv_isub (pc := 44) F.1 F.2.1 d_Mo_dot_44 ?_
        refine lv_imul (pc := 45) F.1 F.2.1 d_Mo_dot_45 ?_
        refine lv_iload_n (pc := 46) F.1 F.2.1 d_Mo_dot_46 rfl (lv_at hl 2 rfl) ?_
        refine lv_iadd (pc := 47) F.1 F.2.1 d_Mo_dot_47 ?_
        refine lM6 (pc := 48) F w (by have q := mid_Mo_dot e_v3 (by rw [e_s4] at h33; exact h33); rw [e_r1] at q; exact d2_in (in_ok q.1) (in_ok q.2)) d_Mo_dot_48 ?_
        refine lv_goto (pc := 49) F.1 F.2.1 d_Mo_dot_49 (tgt := 53) (by decide) ?_
        exact k33 (s4 6 ((32 * (x1 - 1)) + x2).toNatClampNeg) _ _ _ ⟨(by exact Eq.symm (Eq.trans (if_pos h33) (rfl))), w, lv_sub hl [0, 1, 2] rfl⟩
  · refine lv_if_eq (pc := 8) F.1 F.2.1 d_Mo_dot_8 (tgt := 25) (by decide) (fun h8 => ?_) (fun h8 => ?_)
    · refine lv_iconst (pc := 25) (v := 1) F.1 F.2.1 d_Mo_dot_25 (by decide) ?_
      exact k8 1 _ _ _ ⟨(by exact Eq.symm (Eq.trans (if_pos h8) (rfl))), w, lv_sub hl [0, 1, 2] rfl⟩
    · refine lv_iload_n (pc := 11) F.1 F.2.1 d_Mo_dot_11 rfl (lv_at hl 2 rfl) ?_
      refine lv_iconst (pc := 12) (v := 0) F.1 F.2.1 d_Mo_dot_12 (by decide) ?_
      refine lv_bipush (pc := 13) (v := 31) F.1 F.2.1 d_Mo_dot_13 (by decide) ?_
      refine Usi (pc := 15) (As := [.int x2, .int 0, .int 31]) (rest := [.ref (am 0)]) F (c_Mo_in l x2 0 31) k_Mo_in m_931 (Nat.le_of_ble_eq_true rfl) (Nat.le_of_ble_eq_true rfl) ⟨rfl, rfl⟩ rfl hl.1 rfl (Nat.le_of_ble_eq_true rfl) d_Mo_dot_15 hcs (fun r2 e_r2 => ?_)
      refine lv_if_eq (pc := 18) F.1 F.2.1 d_Mo_dot_18 (tgt := 25) (by decide) (fun h18 => ?_) (fun h18 => ?_)
      · refine lv_iconst (pc := 25) (v := 1) F.1 F.2.1 d_Mo_dot_25 (by decide) ?_
        exact k8 1 _ _ _ ⟨(by rw [e_r2] at h18; exact Eq.symm (Eq.trans (if_neg h8) (Eq.trans (if_pos h18) (rfl)))), w, lv_sub hl [0, 1, 2] rfl⟩
      · refine lv_iconst (pc := 21) (v := 0) F.1 F.2.1 d_Mo_dot_21 (by decide) ?_
        refine lv_goto (pc := 22) F.1 F.2.1 d_Mo_dot_22 (tgt := 26) (by decide) ?_
        exact k8 0 _ _ _ ⟨(by rw [e_r2] at h18; exact Eq.symm (Eq.trans (if_neg h8) (Eq.trans (if_neg h18) (rfl)))), w, lv_sub hl [0, 1, 2] rfl⟩
def f_Mo_processor_r94 (s1 : Sg) : Int32 := if (s1 0 14) = 0 then (0) else (1)
def f_Mo_processor_r107 (s1 : Sg) : Int32 := if (s1 0 15) = 0 then (0) else (1)
def f_Mo_processor_r120 (s1 : Sg) : Int32 := if (s1 0 16) = 0 then (0) else (1)
def f_Mo_processor (σ : Sg) (x1 : Int32) : Int32 × Sg := let s1 := sf σ 0 0 0; if x1 = 0 then (((s1 0 10), s1)) else if x1 = 1 then (((s1 0 6), s1)) else if x1 = 2 then (((s1 0 7), s1)) else if x1 = 3 then (((s1 0 8), s1)) else if x1 = 4 then (((s1 0 9), s1)) else if x1 = 5 then (let r2 := f_Mo_flags s1; (r2, s1)) else if x1 = 6 then (let v3 := (f_Mo_processor_r94 s1); (v3, s1)) else if x1 = 7 then (let v4 := (f_Mo_processor_r107 s1); (v4, s1)) else if x1 = 8 then (let v5 := (f_Mo_processor_r120 s1); (v5, s1)) else if x1 = 9 then (((s1 0 18), s1)) else (((-1), s1))
theorem z_f_Mo_processor_r94_0 (s1 : Sg) : (f_Mo_processor_r94 s1) = 0 ∨ (f_Mo_processor_r94 s1) = 1 := by unfold f_Mo_processor_r94; (try dsimp only); (repeat' split) <;> (try dsimp only) <;> first | (with_reducible exact Or.inl rfl) | (with_reducible exact Or.inr rfl) | exact Or.inl rfl | exact Or.inr rfl
theorem z_f_Mo_processor_r107_0 (s1 : Sg) : (f_Mo_processor_r107 s1) = 0 ∨ (f_Mo_processor_r107 s1) = 1 := by unfold f_Mo_processor_r107; (try dsimp only); (repeat' split) <;> (try dsimp only) <;> first | (with_reducible exact Or.inl rfl) | (with_reducible exact Or.inr rfl) | (with_reducible apply z_f_Mo_processor_r94_0) | exact Or.inl rfl | exact Or.inr rfl | apply z_f_Mo_processor_r94_0
theorem z_f_Mo_processor_r120_0 (s1 : Sg) : (f_Mo_processor_r120 s1) = 0 ∨ (f_Mo_processor_r120 s1) = 1 := by unfold f_Mo_processor_r120; (try dsimp only); (repeat' split) <;> (try dsimp only) <;> first | (with_reducible exact Or.inl rfl) | (with_reducible exact Or.inr rfl) | (with_reducible apply z_f_Mo_processor_r107_0) | (with_reducible apply z_f_Mo_processor_r94_0) | exact Or.inl rfl | exact Or.inr rfl | apply z_f_Mo_processor_r107_0 | apply z_f_Mo_processor_r94_0
set_option maxHeartbeats 1000000 in
set_option maxRecDepth 100000 in
theorem c_Mo_processor (l : Launch) (D : va_G) (cI : ClassId) (am : Nat → Nat) (σ : Sg) (x1 : Int32) : Met l y_Mo_processor (Cond.code y_Mo_processor b_Mo_processor 2 (some .int) :: al) { frames := 1, cells := 0, slots := 0, locals := 20 } (Px D cI (wM cI am) (AM am) σ [.ref (am 0), .int x1]) (va_Qi (fun r u => (r, u) = f_Mo_processor σ x1) (Bx D cI (wM cI am) (AM am)) (AM am)) 0 0 (AM am) := by
  refine Mx l (by decide) (Nat.le_of_ble_eq_true rfl) ?_
  intro p e s m below meth c ls F w hr hlk hl
  have F : CallFix p m c b_Mo_processor 2 s _ al "PictureMachineModel" := F
  have hl : lv_has ls 2 [(0, .ref (am 0)), (1, .int x1)] := hl
  have hcs : (0 : Nat) ≤ 0 ∧ (0 : Nat) ≤ 0 := ⟨Nat.le_refl _, Nat.le_refl _⟩
  refine lv_aload_n (pc := 0) F.1 F.2.1 d_Mo_processor_0 rfl (lv_at hl 0 rfl) ?_
  refine lv_iconst (pc := 1) (v := 0) F.1 F.2.1 d_Mo_processor_1 (by decide) ?_
  refine pM0_0 (pc := 2) F w (F.2.2.2.2 _ m_775) d_Mo_processor_2 (fun H locs s1 e_s1 w => ?_)
  refine lv_iload_n (pc := 5) F.1 F.2.1 d_Mo_processor_5 rfl (lv_at hl 1 rfl) ?_
  by_cases h6_0 : x1 = 0
  · refine lv_tableIn (pc := 6) F.1 F.2.1 d_Mo_processor_6 (tgt := 60) (by rw [h6_0]; decide) (by rw [h6_0]; decide) (by rw [h6_0]; rfl) (by decide) ?_
    refine lv_aload_n (pc := 60) F.1 F.2.1 d_Mo_processor_60 rfl (lv_at hl 0 rfl) ?_
    refine gM0_10 (pc := 61) F w (F.2.2.2.2 _ m_785) d_Mo_processor_61 ?_
    exact Ri (pc := 64) F hr hlk w (by rw [e_s1]; exact Eq.symm (Eq.trans (if_pos h6_0) (rfl))) d_Mo_processor_64
  by_cases h6_1 : x1 = 1
  · refine lv_tableIn (pc := 6) F.1 F.2.1 d_Mo_processor_6 (tgt := 65) (by rw [h6_1]; decide) (by rw [h6_1]; decide) (by rw [h6_1]; rfl) (by decide) ?_
    refine lv_aload_n (pc := 65) F.1 F.2.1 d_Mo_processor_65 rfl (lv_at hl 0 rfl) ?_
    refine gM0_6 (pc := 66) F w (F.2.2.2.2 _ m_781) d_Mo_processor_66 ?_
    exact Ri (pc := 69) F hr hlk w (by rw [e_s1]; exact Eq.symm (Eq.trans (if_neg h6_0) (Eq.trans (if_pos h6_1) (rfl)))) d_Mo_processor_69
  by_cases h6_2 : x1 = 2
  · refine lv_tableIn (pc := 6) F.1 F.2.1 d_Mo_processor_6 (tgt := 70) (by rw [h6_2]; decide) (by rw [h6_2]; decide) (by rw [h6_2]; rfl) (by decide) ?_
    refine lv_aload_n (pc := 70) F.1 F.2.1 d_Mo_processor_70 rfl (lv_at hl 0 rfl) ?_
    refine gM0_7 (pc := 71) F w (F.2.2.2.2 _ m_782) d_Mo_processor_71 ?_
    exact Ri (pc := 74) F hr hlk w (by rw [e_s1]; exact Eq.symm (Eq.trans (if_neg h6_0) (Eq.trans (if_neg h6_1) (Eq.trans (if_pos h6_2) (rfl))))) d_Mo_processor_74
  by_cases h6_3 : x1 = 3
  · refine lv_tableIn (pc := 6) F.1 F.2.1 d_Mo_processor_6 (tgt := 75) (by rw [h6_3]; decide) (by rw [h6_3]; decide) (by rw [h6_3]; rfl) (by decide) ?_
    refine lv_aload_n (pc := 75) F.1 F.2.1 d_Mo_processor_75 rfl (lv_at hl 0 rfl) ?_
    refine gM0_8 (pc := 76) F w (F.2.2.2.2 _ m_783) d_Mo_processor_76 ?_
    exact Ri (pc := 79) F hr hlk w (by rw [e_s1]; exact Eq.symm (Eq.trans (if_neg h6_0) (Eq.trans (if_neg h6_1) (Eq.trans (if_neg h6_2) (Eq.trans (if_pos h6_3) (rfl)))))) d_Mo_processor_79
  by_cases h6_4 : x1 = 4
  · refine lv_tableIn (pc := 6) F.1 F.2.1 d_Mo_processor_6 (tgt := 80) (by rw [h6_4]; decide) (by rw [h6_4]; decide) (by rw [h6_4]; rfl) (by decide) ?_
    refine lv_aload_n (pc := 80) F.1 F.2.1 d_Mo_processor_80 rfl (lv_at hl 0 rfl) ?_
    refine gM0_9 (pc := 81) F w (F.2.2.2.2 _ m_784) d_Mo_processor_81 ?_
    exact Ri (pc := 84) F hr hlk w (by rw [e_s1]; exact Eq.symm (Eq.trans (if_neg h6_0) (Eq.trans (if_neg h6_1) (Eq.trans (if_neg h6_2) (Eq.trans (if_neg h6_3) (Eq.trans (if_pos h6_4) (rfl))))))) d_Mo_processor_84
  by_cases h6_5 : x1 = 5
  · refine lv_tableIn (pc := 6) F.1 F.2.1 d_Mo_processor_6 (tgt := 85) (by rw [h6_5]; decide) (by rw [h6_5]; decide) (by rw [h6_5]; rfl) (by decide) ?_
    refine lv_aload_n (pc := 85) F.1 F.2.1 d_Mo_processor_85 rfl (lv_at hl 0 rfl) ?_
    refine Kvi (pc := 86) (As := []) (rest := []) F w (c_Mo_flags l D cI am s1) 0 rfl rfl k_Mo_flags m_1010 (Nat.le_of_ble_eq_true rfl) (Nat.le_of_ble_eq_true rfl) ⟨rfl, rfl⟩ rfl hl.1 rfl (Nat.le_of_ble_eq_true rfl) d_Mo_processor_86 hcs (fun r2 H locs e_r2 w => ?_)
    exact Ri (pc := 89) F hr hlk w (by rw [e_r2, e_s1]; exact Eq.symm (Eq.trans (if_neg h6_0) (Eq.trans (if_neg h6_1) (Eq.trans (if_neg h6_2) (Eq.trans (if_neg h6_3) (Eq.trans (if_neg h6_4) (Eq.trans (if_pos h6_5) (rfl)))))))) d_Mo_processor_89
  by_cases h6_6 : x1 = 6
  · refine lv_tableIn (pc := 6) F.1 F.2.1 d_Mo_processor_6 (tgt := 90) (by rw [h6_6]; decide) (by rw [h6_6]; decide) (by rw [h6_6]; rfl) (by decide) ?_
    refine lv_aload_n (pc := 90) F.1 F.2.1 d_Mo_processor_90 rfl (lv_at hl 0 rfl) ?_
    refine gM0_14 (pc := 91) F w (F.2.2.2.2 _ m_789) d_Mo_processor_91 ?_
    refine cutW (α := Int32) (fun x H locs ls => x = f_Mo_processor_r94 s1 ∧ Wx D cI (wM cI am) (AM am) (AM am) s s.heap H locs s1 ∧ lv_has ls 2 [(0, .ref (am 0)), (1, .int x1)]) (fun x ls => F0 m 102 ls [.int x]) ?_ (fun k94 => ?_)
    · rintro v3 H locs ls ⟨ex, w, hl⟩
      have e_v3 := ex
      have w : Wx D cI (wM cI am) (AM am) (AM am) s s.heap H locs s1 := w
      have hl : lv_has ls 2 [(0, .ref (am 0)), (1, .int x1)] := hl
      show W _ _ _ _ _ _ _ _ _ _ _ _ _ _ _ (F0 m 102 ls [.int v3])
      exact Ri (pc := 102) F hr hlk w (by rw [e_v3, e_s1]; exact Eq.symm (Eq.trans (if_neg h6_0) (Eq.trans (if_neg h6_1) (Eq.trans (if_neg h6_2) (Eq.trans (if_neg h6_3) (Eq.trans (if_neg h6_4) (Eq.trans (if_neg h6_5) (Eq.trans (if_pos h6_6) (rfl))))))))) d_Mo_processor_102
    · refine lv_if_eq (pc := 94) F.1 F.2.1 d_Mo_processor_94 (tgt := 101) (by decide) (fun h94 => ?_) (fun h94 => ?_)
      · refine lv_iconst (pc := 101) (v := 0) F.1 F.2.1 d_Mo_processor_101 (by decide) ?_
        exact k94 0 _ _ _ ⟨(by exact Eq.symm (Eq.trans (if_pos h94) (rfl))), w, lv_sub hl [0, 1] rfl⟩
      · refine lv_iconst (pc := 97) (v := 1) F.1 F.2.1 d_Mo_processor_97 (by decide) ?_
        refine lv_goto (pc := 98) F.1 F.2.1 d_Mo_processor_98 (tgt := 102) (by decide) ?_
        exact k94 1 _ _ _ ⟨(by exact Eq.symm (Eq.trans (if_neg h94) (rfl))), w, lv_sub hl [0, 1] rfl⟩
  by_cases h6_7 : x1 = 7
  · refine lv_tableIn (pc := 6) F.1 F.2.1 d_Mo_processor_6 (tgt := 103) (by rw [h6_7]; decide) (by rw [h6_7]; decide) (by rw [h6_7]; rfl) (by decide) ?_
    refine lv_aload_n (pc := 103) F.1 F.2.1 d_Mo_processor_103 rfl (lv_at hl 0 rfl) ?_
    refine gM0_15 (pc := 104) F w (F.2.2.2.2 _ m_790) d_Mo_processor_104 ?_
    refine cutW (α := Int32) (fun x H locs ls => x = f_Mo_processor_r107 s1 ∧ Wx D cI (wM cI am) (AM am) (AM am) s s.heap H locs s1 ∧ lv_has ls 2 [(0, .ref (am 0)), (1, .int x1)]) (fun x ls => F0 m 115 ls [.int x]) ?_ (fun k107 => ?_)
    · rintro v4 H locs ls ⟨ex, w, hl⟩
      have e_v4 := ex
      have w : Wx D cI (wM cI am) (AM am) (AM am) s s.heap H locs s1 := w
      have hl : lv_has ls 2 [(0, .ref (am 0)), (1, .int x1)] := hl
      show W _ _ _ _ _ _ _ _ _ _ _ _ _ _ _ (F0 m 115 ls [.int v4])
      exact Ri (pc := 115) F hr hlk w (by rw [e_v4, e_s1]; exact Eq.symm (Eq.trans (if_neg h6_0) (Eq.trans (if_neg h6_1) (Eq.trans (if_neg h6_2) (Eq.trans (if_neg h6_3) (Eq.trans (if_neg h6_4) (Eq.trans (if_neg h6_5) (Eq.trans (if_neg h6_6) (Eq.trans (if_pos h6_7) (rfl)))))))))) d_Mo_processor_115
    · refine lv_if_eq (pc := 107) F.1 F.2.1 d_Mo_processor_107 (tgt := 114) (by decide) (fun h107 => ?_) (fun h107 => ?_)
      · refine lv_iconst (pc := 114) (v := 0) F.1 F.2.1 d_Mo_processor_114 (by decide) ?_
        exact k107 0 _ _ _ ⟨(by exact Eq.symm (Eq.trans (if_pos h107) (rfl))), w, lv_sub hl [0, 1] rfl⟩
      · refine lv_iconst (pc := 110) (v := 1) F.1 F.2.1 d_Mo_processor_110 (by decide) ?_
        refine lv_goto (pc := 111) F.1 F.2.1 d_Mo_processor_111 (tgt := 115) (by decide) ?_
        exact k107 1 _ _ _ ⟨(by exact Eq.symm (Eq.trans (if_neg h107) (rfl))), w, lv_sub hl [0, 1] rfl⟩
  by_cases h6_8 : x1 = 8
  · refine lv_tableIn (pc := 6) F.1 F.2.1 d_Mo_processor_6 (tgt := 116) (by rw [h6_8]; decide) (by rw [h6_8]; decide) (by rw [h6_8]; rfl) (by decide) ?_
    refine lv_aload_n (pc := 116) F.1 F.2.1 d_Mo_processor_116 rfl (lv_at hl 0 rfl) ?_
    refine gM0_16 (pc := 117) F w (F.2.2.2.2 _ m_791) d_Mo_processor_117 ?_
    refine cutW (α := Int32) (fun x H locs ls => x = f_Mo_processor_r120 s1 ∧ Wx D cI (wM cI am) (AM am) (AM am) s s.heap H locs s1 ∧ lv_has ls 2 [(0, .ref (am 0)), (1, .int x1)]) (fun x ls => F0 m 128 ls [.int x]) ?_ (fun k120 => ?_)
    · rintro v5 H locs ls ⟨ex, w, hl⟩
      have e_v5 := ex
      have w : Wx D cI (wM cI am) (AM am) (AM am) s s.heap H locs s1 := w
      have hl : lv_has ls 2 [(0, .ref (am 0)), (1, .int x1)] := hl
      show W _ _ _ _ _ _ _ _ _ _ _ _ _ _ _ (F0 m 128 ls [.int v5])
      exact Ri (pc := 128) F hr hlk w (by rw [e_v5, e_s1]; exact Eq.symm (Eq.trans (if_neg h6_0) (Eq.trans (if_neg h6_1) (Eq.trans (if_neg h6_2) (Eq.trans (if_neg h6_3) (Eq.trans (if_neg h6_4) (Eq.trans (if_neg h6_5) (Eq.trans (if_neg h6_6) (Eq.trans (if_neg h6_7) (Eq.trans (if_pos h6_8) (rfl))))))))))) d_Mo_processor_128
    · refine lv_if_eq (pc := 120) F.1 F.2.1 d_Mo_processor_120 (tgt := 127) (by decide) (fun h120 => ?_) (fun h120 => ?_)
      · refine lv_iconst (pc := 127) (v := 0) F.1 F.2.1 d_Mo_processor_127 (by decide) ?_
        exact k120 0 _ _ _ ⟨(by exact Eq.symm (Eq.trans (if_pos h120) (rfl))), w, lv_sub hl [0, 1] rfl⟩
      · refine lv_iconst (pc := 123) (v := 1) F.1 F.2.1 d_Mo_processor_123 (by decide) ?_
        refine lv_goto (pc := 124) F.1 F.2.1 d_Mo_processor_124 (tgt := 128) (by decide) ?_
        exact k120 1 _ _ _ ⟨(by exact Eq.symm (Eq.trans (if_neg h120) (rfl))), w, lv_sub hl [0, 1] rfl⟩
  by_cases h6_9 : x1 = 9
  · refine lv_tableIn (pc := 6) F.1 F.2.1 d_Mo_processor_6 (tgt := 129) (by rw [h6_9]; decide) (by rw [h6_9]; decide) (by rw [h6_9]; rfl) (by decide) ?_
    refine lv_aload_n (pc := 129) F.1 F.2.1 d_Mo_processor_129 rfl (lv_at hl 0 rfl) ?_
    refine gM0_18 (pc := 130) F w (F.2.2.2.2 _ m_793) d_Mo_processor_130 ?_
    exact Ri (pc := 133) F hr hlk w (by rw [e_s1]; exact Eq.symm (Eq.trans (if_neg h6_0) (Eq.trans (if_neg h6_1) (Eq.trans (if_neg h6_2) (Eq.trans (if_neg h6_3) (Eq.trans (if_neg h6_4) (Eq.trans (if_neg h6_5) (Eq.trans (if_neg h6_6) (Eq.trans (if_neg h6_7) (Eq.trans (if_neg h6_8) (Eq.trans (if_pos h6_9) (rfl)))))))))))) d_Mo_processor_133
  refine lv_tableOut (pc := 6) F.1 F.2.1 d_Mo_processor_6 (tgt := 134) (by have q_h6_0 := lv_neT h6_0 (a := 0) rfl; have q_h6_1 := lv_neT h6_1 (a := 1) rfl; have q_h6_2 := lv_neT h6_2 (a := 2) rfl; have q_h6_3 := lv_neT h6_3 (a := 3) rfl; have q_h6_4 := lv_neT h6_4 (a := 4) rfl; have q_h6_5 := lv_neT h6_5 (a := 5) rfl; have q_h6_6 := lv_neT h6_6 (a := 6) rfl; have q_h6_7 := lv_neT h6_7 (a := 7) rfl; have q_h6_8 := lv_neT h6_8 (a := 8) rfl; have q_h6_9 := lv_neT h6_9 (a := 9) rfl; omega) (by decide) ?_
  refine lv_iconst (pc := 134) (v := (-1)) F.1 F.2.1 d_Mo_processor_134 (by decide) ?_
  exact Ri (pc := 135) F hr hlk w (by rw [e_s1]; exact Eq.symm (Eq.trans (if_neg h6_0) (Eq.trans (if_neg h6_1) (Eq.trans (if_neg h6_2) (Eq.trans (if_neg h6_3) (Eq.trans (if_neg h6_4) (Eq.trans (if_neg h6_5) (Eq.trans (if_neg h6_6) (Eq.trans (if_neg h6_7) (Eq.trans (if_neg h6_8) (Eq.trans (if_neg h6_9) (rfl)))))))))))) d_Mo_processor_135
