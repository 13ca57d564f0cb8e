def f_Mo_execute_r32 (σ : Sg) (r1 : Int32) : Int32 × Sg := if ((r1 / 10) - (r1 / 10) / 10 * 10) ≤ 0 then ((0, σ)) else (let r2 := (f_Mo_read σ ((σ 0 10) + 1)).1; let s3 := (f_Mo_read σ ((σ 0 10) + 1)).2; (r2, s3))
def f_Mo_execute_r53 (r1 : Int32) (v4 : Int32) (s5 : Sg) : Int32 × Sg := if ((r1 / 10) - (r1 / 10) / 10 * 10) < 3 then ((v4, s5)) else (let r6 := (f_Mo_read s5 ((s5 0 10) + 2)).1; let s7 := (f_Mo_read s5 ((s5 0 10) + 2)).2; ((v4 + (256 * r6)), s7))
def f_Mo_execute_r82 (r1 : Int32) (v8 : Int32) (s9 : Sg) : Int32 := if ((r1 / 10) - (r1 / 10) / 10 * 10) = 4 then ((v8 + (s9 0 7))) else (v8)
def f_Mo_execute_r106 (r1 : Int32) : Int32 := if ((r1 / 10) - (r1 / 10) / 10 * 10) = 0 then (1) else (if 3 ≤ ((r1 / 10) - (r1 / 10) / 10 * 10) then (3) else (2))
def f_Mo_execute_r237 (r1 : Int32) (v4 : Int32) (v10 : Int32) (s12 : Sg) : Int32 × Sg := if ((r1 / 10) - (r1 / 10) / 10 * 10) = 1 then ((v4, s12)) else (let r18 := (f_Mo_read s12 v10).1; let s19 := (f_Mo_read s12 v10).2; (r18, s19))
def f_Mo_execute_r134 (r1 : Int32) (v4 : Int32) (s9 : Sg) (v10 : Int32) (s12 : Sg) : Sg := if (r1 / 100) < 25 then (if (r1 / 100) = 4 then (let s13 := f_Mo_store s12 v10 (s12 0 6); s13) else (if (r1 / 100) = 5 then (let s26 := f_Mo_store s12 v10 (s12 0 7); s26) else (if (r1 / 100) = 17 then (let r14 := (f_Mo_set s12 ((s12 1 v10.toNatClampNeg) + 1)).1; let s15 := (f_Mo_set s12 ((s12 1 v10.toNatClampNeg) + 1)).2; let s16 := sf s15 1 v10.toNatClampNeg r14; s16) else (if (r1 / 100) = 18 then (let r23 := (f_Mo_set s12 ((s12 1 v10.toNatClampNeg) + (-1))).1; let s24 := (f_Mo_set s12 ((s12 1 v10.toNatClampNeg) + (-1))).2; let s25 := sf s24 1 v10.toNatClampNeg r23; s25) else (if ((r1 / 10) - (r1 / 10) / 10 * 10) ≤ 0 then (let s17 := f_Mo_alter s12 (r1 / 100); s17) else (let v20 := (f_Mo_execute_r237 r1 v4 v10 s12).1; let s21 := (f_Mo_execute_r237 r1 v4 v10 s12).2; let s22 := f_Mo_use s21 (r1 / 100) v20; s22)))))) else (let s27 := f_Mo_go s12 (r1 / 100) (s9 0 10) v10; s27)
def f_Mo_execute (σ : Sg) : Sg := let r1 := f_Mo_meaning (σ 0 19); if (r1 / 100) = 0 then (let s29 := sf σ 0 14 1; s29) else (let v4 := (f_Mo_execute_r32 σ r1).1; let s5 := (f_Mo_execute_r32 σ r1).2; let v8 := (f_Mo_execute_r53 r1 v4 s5).1; let s9 := (f_Mo_execute_r53 r1 v4 s5).2; let v10 := (f_Mo_execute_r82 r1 v8 s9); let v11 := (f_Mo_execute_r106 r1); let s12 := sf s9 0 10 (((s9 0 10) + v11) &&& 1023); let s28 := (f_Mo_execute_r134 r1 v4 s9 v10 s12); s28)
theorem ex_in {σ : Sg} (hB : RB σ) {r1 v4 v8 v10 : Int32} {s5 s9 : Sg} (e1 : r1 = f_Mo_meaning (σ 0 19)) (e4 : v4 = (f_Mo_execute_r32 σ r1).1) (e8 : v8 = (f_Mo_execute_r53 r1 v4 s5).1) (e10 : v10 = f_Mo_execute_r82 r1 v8 s9) (h : r1 / 100 = 17 ∨ r1 / 100 = 18) : vp_in v10 768 := by
  have hr : r1 = 1725 ∨ r1 = 1825 := by
    rw [e1] at h ⊢
    exact h.imp mean_17 mean_18
  have e : v10 = (f_Mo_read σ ((σ 0 10) + 1)).1 := by
    rcases hr with hr | hr
    · rw [e10, hr, show f_Mo_execute_r82 1725 v8 s9 = v8 from if_neg (by decide), e8, hr, show f_Mo_execute_r53 1725 v4 s5 = (v4, s5) from if_pos (by decide)]
      show v4 = _
      rw [e4, hr, show f_Mo_execute_r32 σ 1725 = ((f_Mo_read σ ((σ 0 10) + 1)).1, (f_Mo_read σ ((σ 0 10) + 1)).2) from if_neg (by decide)]
    · rw [e10, hr, show f_Mo_execute_r82 1825 v8 s9 = v8 from if_neg (by decide), e8, hr, show f_Mo_execute_r53 1825 v4 s5 = (v4, s5) from if_pos (by decide)]
      show v4 = _
      rw [e4, hr, show f_Mo_execute_r32 σ 1825 = ((f_Mo_read σ ((σ 0 10) + 1)).1, (f_Mo_read σ ((σ 0 10) + 1)).2) from if_neg (by decide)]
  rw [e]
  exact bt_in (rb_val hB _) (by decide) (by decide)
set_option maxHeartbeats 1000000 in
set_option maxRecDepth 100000 in
theorem c_Mo_execute (l : Launch) (D : va_G) (cI : ClassId) (am : Nat → Nat) (σ : Sg) (hI : JM σ) (hB : RB σ) : Met l y_Mo_execute (Cond.code y_Mo_execute b_Mo_execute 7 none :: al) { frames := 6, cells := 0, slots := 0, locals := 135 } (Px D cI (wM cI am) (AM am) σ [.ref (am 0)]) (va_Qv (fun u => u = f_Mo_execute σ ) (Bx D cI (wM cI am) (AM am)) (AM am)) 0 0 (AM am) := by
  refine Mx l (by decide) (Nat.le_of_ble_eq_true rfl) ?_
  intro p e s m below meth c ls F w hr hlk hl
  have F : CallFix p m c b_Mo_execute 7 s _ al "PictureMachineModel" := F
  have hl : lv_has ls 7 [(0, .ref (am 0))] := hl
  have hcs : (0 : Nat) ≤ 0 ∧ (0 : Nat) ≤ 0 := ⟨Nat.le_refl _, Nat.le_refl _⟩
  refine lv_aload_n (pc := 0) F.1 F.2.1 d_Mo_execute_0 rfl (lv_at hl 0 rfl) ?_
  refine gM0_19 (pc := 1) F w (F.2.2.2.2 _ m_794) d_Mo_execute_1 ?_
  refine Usi (pc := 4) (As := [.int (σ 0 19)]) (rest := []) F (c_Mo_meaning l (σ 0 19)) k_Mo_meaning m_993 (Nat.le_of_ble_eq_true rfl) (Nat.le_of_ble_eq_true rfl) ⟨rfl, rfl⟩ rfl hl.1 rfl (Nat.le_of_ble_eq_true rfl) d_Mo_execute_4 hcs (fun r1 e_r1 => ?_)
  refine lv_istore_n (pc := 7) F.1 F.2.1 d_Mo_execute_7 rfl hl (by decide) rfl (fun ls hl => ?_)
  have hl : lv_has ls 7 [(1, .int r1), (0, .ref (am 0))] := hl
  refine lv_iload_n (pc := 8) F.1 F.2.1 d_Mo_execute_8 rfl (lv_at hl 0 rfl) ?_
  refine lv_bipush (pc := 9) (v := 100) F.1 F.2.1 d_Mo_execute_9 (by decide) ?_
  refine lv_idiv (pc := 11) F.1 F.2.1 d_Mo_execute_11 (by decide) ?_
  refine lv_istore_n (pc := 12) F.1 F.2.1 d_Mo_execute_12 rfl hl (by decide) rfl (fun ls hl => ?_)
  have hl : lv_has ls 7 [(2, .int (r1 / 100)), (1, .int r1), (0, .ref (am 0))] := hl
  refine lv_iload_n (pc := 13) F.1 F.2.1 d_Mo_execute_13 rfl (lv_at hl 1 rfl) ?_
  refine lv_bipush (pc := 14) (v := 10) F.1 F.2.1 d_Mo_execute_14 (by decide) ?_
  refine lv_idiv (pc := 16) F.1 F.2.1 d_Mo_execute_16 (by decide) ?_
  refine lv_bipush (pc := 17) (v := 10) F.1 F.2.1 d_Mo_execute_17 (by decide) ?_
  refine lv_irem (pc := 19) F.1 F.2.1 d_Mo_execute_19 (by decide) ?_
  refine lv_istore_n (pc := 20) F.1 F.2.1 d_Mo_execute_20 rfl hl (by decide) rfl (fun ls hl => ?_)
  have hl : lv_has ls 7 [(3, .int ((r1 / 10) - (r1 / 10) / 10 * 10)), (2, .int (r1 / 100)), (1, .int r1), (0, .ref (am 0))] := hl
  refine lv_iload_n (pc := 21) F.1 F.2.1 d_Mo_execute_21 rfl (lv_at hl 1 rfl) ?_
  refine lv_if_ne (pc := 22) F.1 F.2.1 d_Mo_execute_22 (tgt := 31) (by decide) (fun h22 => ?_) (fun h22 => ?_)
  · refine lv_iload_n (pc := 31) F.1 F.2.1 d_Mo_execute_31 rfl (lv_at hl 0 rfl) ?_
    refine cutW (α := Int32 × Sg) (fun x H locs ls => x = f_Mo_execute_r32 σ r1 ∧ Wx D cI (wM cI am) (AM am) (AM am) s s.heap H locs x.2 ∧ lv_has ls 7 [(0, .ref (am 0)), (1, .int r1), (2, .int (r1 / 100)), (3, .int ((r1 / 10) - (r1 / 10) / 10 * 10))] ∧ JM (x.2) ∧ RB (x.2)) (fun x ls => F0 m 49 ls [.int (x.1)]) ?_ (fun k32 => ?_)
    · rintro ⟨v4, s5⟩ H locs ls ⟨ex, w, hl, iJM_s5, iRB_s5⟩
      have e_v4 : v4 = (f_Mo_execute_r32 σ r1).1 := congrArg (fun z => z.1) ex
      have e_s5 : s5 = (f_Mo_execute_r32 σ r1).2 := congrArg (fun z => z.2) ex
      clear ex
      have w : Wx D cI (wM cI am) (AM am) (AM am) s s.heap H locs s5 := w
      have iJM_s5 : JM s5 := iJM_s5
      have iRB_s5 : RB s5 := iRB_s5
      have hl : lv_has ls 7 [(0, .ref (am 0)), (1, .int r1), (2, .int (r1 / 100)), (3, .int ((r1 / 10) - (r1 / 10) / 10 * 10))] := hl
      show W _ _ _ _ _ _ _ _ _ _ _ _ _ _ _ (F0 m 49 ls [.int v4])
      refine lv_istore (pc := 49) F.1 F.2.1 d_Mo_execute_49 hl (by decide) rfl (fun ls hl => ?_)
      have hl : lv_has ls 7 [(4, .int v4), (0, .ref (am 0)), (1, .int r1), (2, .int (r1 / 100)), (3, .int ((r1 / 10) - (r1 / 10) / 10 * 10))] := hl
      refine lv_iload_n (pc := 51) F.1 F.2.1 d_Mo_execute_51 rfl (lv_at hl 4 rfl) ?_
      refine lv_iconst (pc := 52) (v := 3) F.1 F.2.1 d_Mo_execute_52 (by decide) ?_
      refine cutW (α := Int32 × Sg) (fun x H locs ls => x = f_Mo_execute_r53 r1 v4 s5 ∧ Wx D cI (wM cI am) (AM am) (AM am) s s.heap H locs x.2 ∧ lv_has ls 7 [(0, .ref (am 0)), (1, .int r1), (2, .int (r1 / 100)), (3, .int ((r1 / 10) - (r1 / 10) / 10 * 10)), (4, .int v4)] ∧ JM (x.2) ∧ RB (x.2)) (fun x ls => F0 m 78 ls [.int (x.1)]) ?_ (fun k53 => ?_)
      · rintro ⟨v8, s9⟩ H locs ls ⟨ex, w, hl, iJM_s9, iRB_s9⟩
        have e_v8 : v8 = (f_Mo_execute_r53 r1 v4 s5).1 := congrArg (fun z => z.1) ex
        have e_s9 : s9 = (f_Mo_execute_r53 r1 v4 s5).2 := congrArg (fun z => z.2) ex
        clear ex
        have w : Wx D cI (wM cI am) (AM am) (AM am) s s.heap H locs s9 := w
        have iJM_s9 : JM s9 := iJM_s9
        have iRB_s9 : RB s9 := iRB_s9
        have hl : lv_has ls 7 [(0, .ref (am 0)), (1, .int r1), (2, .int (r1 / 100)), (3, .int ((r1 / 10) - (r1 / 10) / 10 * 10)), (4, .int v4)] := hl
        show W _ _ _ _ _ _ _ _ _ _ _ _ _ _ _ (F0 m 78 ls [.int v8])
        refine lv_istore (pc := 78) F.1 F.2.1 d_Mo_execute_78 hl (by decide) rfl (fun ls hl => ?_)
        have hl : lv_has ls 7 [(5, .int v8), (0, .ref (am 0)), (1, .int r1), (2, .int (r1 / 100)), (3, .int ((r1 / 10) - (r1 / 10) / 10 * 10)), (4, .int v4)] := hl
        refine lv_iload_n (pc := 80) F.1 F.2.1 d_Mo_execute_80 rfl (lv_at hl 4 rfl) ?_
        refine lv_iconst (pc := 81) (v := 4) F.1 F.2.1 d_Mo_execute_81 (by decide) ?_
        refine cutW (α := Int32) (fun x H locs ls => x = f_Mo_execute_r82 r1 v8 s9 ∧ Wx D cI (wM cI am) (AM am) (AM am) s s.heap H locs s9 ∧ lv_has ls 7 [(0, .ref (am 0)), (1, .int r1), (2, .int (r1 / 100)), (3, .int ((r1 / 10) - (r1 / 10) / 10 * 10)), (4, .int v4), (5, .int x)]) (fun x ls => F0 m 94 ls []) ?_ (fun k82 => ?_)
        · rintro v10 H locs ls ⟨ex, w, hl⟩
          have e_v10 := ex
          have w : Wx D cI (wM cI am) (AM am) (AM am) s s.heap H locs s9 := w
          have hl : lv_has ls 7 [(0, .ref (am 0)), (1, .int r1), (2, .int (r1 / 100)), (3, .int ((r1 / 10) - (r1 / 10) / 10 * 10)), (4, .int v4), (5, .int v10)] := hl
          show W _ _ _ _ _ _ _ _ _ _ _ _ _ _ _ (F0 m 94 ls [])
          refine lv_aload_n (pc := 94) F.1 F.2.1 d_Mo_execute_94 rfl (lv_at hl 0 rfl) ?_
          refine gM0_10 (pc := 95) F w (F.2.2.2.2 _ m_785) d_Mo_execute_95 ?_
          refine lv_istore (pc := 98) F.1 F.2.1 d_Mo_execute_98 hl (by decide) rfl (fun ls hl => ?_)
          have hl : lv_has ls 7 [(6, .int (s9 0 10)), (0, .ref (am 0)), (1, .int r1), (2, .int (r1 / 100)), (3, .int ((r1 / 10) - (r1 / 10) / 10 * 10)), (4, .int v4), (5, .int v10)] := hl
          refine lv_aload_n (pc := 100) F.1 F.2.1 d_Mo_execute_100 rfl (lv_at hl 1 rfl) ?_
          refine lv_aload_n (pc := 101) F.1 F.2.1 d_Mo_execute_101 rfl (lv_at hl 1 rfl) ?_
          refine gM0_10 (pc := 102) F w (F.2.2.2.2 _ m_785) d_Mo_execute_102 ?_
          refine lv_iload_n (pc := 105) F.1 F.2.1 d_Mo_execute_105 rfl (lv_at hl 4 rfl) ?_
          refine cutW (α := Int32) (fun x H locs ls => x = f_Mo_execute_r106 r1 ∧ Wx D cI (wM cI am) (AM am) (AM am) s s.heap H locs s9 ∧ lv_has ls 7 [(0, .ref (am 0)), (1, .int r1), (2, .int (r1 / 100)), (3, .int ((r1 / 10) - (r1 / 10) / 10 * 10)), (4, .int v4), (5, .int v10), (6, .int (s9 0 10))]) (fun x ls => F0 m 123 ls [.int x, .int (s9 0 10), .ref (am 0)]) ?_ (fun k106 => ?_)
          · rintro v11 H locs ls ⟨ex, w, hl⟩
            have e_v11 := ex
            have w : Wx D cI (wM cI am) (AM am) (AM am) s s.heap H locs s9 := w
            have hl : lv_has ls 7 [(0, .ref (am 0)), (1, .int r1), (2, .int (r1 / 100)), (3, .int ((r1 / 10) - (r1 / 10) / 10 * 10)), (4, .int v4), (5, .int v10), (6, .int (s9 0 10))] := hl
            show W _ _ _ _ _ _ _ _ _ _ _ _ _ _ _ (F0 m 123 ls [.int v11, .int (s9 0 10), .ref (am 0)])
            refine lv_iadd (pc := 123) F.1 F.2.1 d_Mo_execute_123 ?_
            refine lv_sipush (pc := 124) (v := 1023) F.1 F.2.1 d_Mo_execute_124 (by decide) ?_
            refine lv_iand (pc := 127) F.1 F.2.1 d_Mo_execute_127 ?_
            refine pM0_10 (pc := 128) F w (F.2.2.2.2 _ m_785) d_Mo_execute_128 (fun H locs s12 e_s12 w => ?_)
            have iJM_s12 : JM s12 := by rw [e_s12]; exact iJM_s9
            have iRB_s12 : RB s12 := by rw [e_s12]; exact iRB_s9
            refine lv_iload_n (pc := 131) F.1 F.2.1 d_Mo_execute_131 rfl (lv_at hl 2 rfl) ?_
            refine lv_bipush (pc := 132) (v := 25) F.1 F.2.1 d_Mo_execute_132 (by decide) ?_
            refine cutW (α := Sg) (fun x H locs ls => x = f_Mo_execute_r134 r1 v4 s9 v10 s12 ∧ Wx D cI (wM cI am) (AM am) (AM am) s s.heap H locs x ∧ lv_has ls 7 [(0, .ref (am 0)), (1, .int r1), (2, .int (r1 / 100)), (3, .int ((r1 / 10) - (r1 / 10) / 10 * 10)), (4, .int v4), (5, .int v10), (6, .int (s9 0 10))]) (fun x ls => F0 m 262 ls []) ?_ (fun k134 => ?_)
            · rintro s28 H locs ls ⟨ex, w, hl⟩
              have e_s28 := ex
              have w : Wx D cI (wM cI am) (AM am) (AM am) s s.heap H locs s28 := w
              have hl : lv_has ls 7 [(0, .ref (am 0)), (1, .int r1), (2, .int (r1 / 100)), (3, .int ((r1 / 10) - (r1 / 10) / 10 * 10)), (4, .int v4), (5, .int v10), (6, .int (s9 0 10))] := hl
              show W _ _ _ _ _ _ _ _ _ _ _ _ _ _ _ (F0 m 262 ls [])
              exact Rv (pc := 262) F hr hlk w (by rw [e_r1] at h22; rw [e_s28, e_s12, e_v11, e_v10, e_s9, e_v8, e_s5, e_v4, e_r1]; exact Eq.symm (Eq.trans (if_neg h22) (rfl))) d_Mo_execute_262
            · refine lv_icmp_lt (pc := 134) F.1 F.2.1 d_Mo_execute_134 (tgt := 149) (by decide) (fun h134 => ?_) (fun h134 => ?_)
              · refine lv_iload_n (pc := 149) F.1 F.2.1 d_Mo_execute_149 rfl (lv_at hl 2 rfl) ?_
                refine lv_iconst (pc := 150) (v := 4) F.1 F.2.1 d_Mo_execute_150 (by decide) ?_
                refine lv_icmp_eq (pc := 151) F.1 F.2.1 d_Mo_execute_151 (tgt := 159) (by decide) (fun h151 => ?_) (fun h151 => ?_)
                · refine lv_aload_n (pc := 159) F.1 F.2.1 d_Mo_execute_159 rfl (lv_at hl 0 rfl) ?_
                  refine lv_iload (pc := 160) F.1 F.2.1 d_Mo_execute_160 (lv_at hl 5 rfl) ?_
                  refine lv_iload_n (pc := 162) F.1 F.2.1 d_Mo_execute_162 rfl (lv_at hl 2 rfl) ?_
                  refine lv_iconst (pc := 163) (v := 4) F.1 F.2.1 d_Mo_execute_163 (by decide) ?_
                  refine lv_icmp_ne (pc := 164) F.1 F.2.1 d_Mo_execute_164 (tgt := 174) (by decide) (fun q => absurd h151 q) (fun _ => ?_)
                  refine lv_aload_n (pc := 167) F.1 F.2.1 d_Mo_execute_167 rfl (lv_at hl 0 rfl) ?_
                  refine gM0_6 (pc := 168) F w (F.2.2.2.2 _ m_781) d_Mo_execute_168 ?_
                  refine lv_goto (pc := 171) F.1 F.2.1 d_Mo_execute_171 (tgt := 178) (by decide) ?_
                  refine Cvv (pc := 178) (As := [.int v10, .int (s12 0 6)]) (rest := []) F w (c_Mo_store l D cI am s12 v10 (s12 0 6) iJM_s12) 0 rfl rfl k_Mo_store m_1034 (Nat.le_of_ble_eq_true rfl) (Nat.le_of_ble_eq_true rfl) ⟨rfl, rfl⟩ rfl hl.1 rfl (Nat.le_of_ble_eq_true rfl) d_Mo_execute_178 hcs (fun s13 H locs e_s13 w => ?_)
                  refine lv_goto (pc := 181) F.1 F.2.1 d_Mo_execute_181 (tgt := 262) (by decide) ?_
                  exact k134 s13 _ _ _ ⟨(by rw [e_s13]; exact Eq.symm (Eq.trans (if_pos h134) (Eq.trans (if_pos h151) (rfl)))), w, lv_sub hl [0, 1, 2, 3, 4, 5, 6] rfl⟩
                · refine lv_iload_n (pc := 154) F.1 F.2.1 d_Mo_execute_154 rfl (lv_at hl 2 rfl) ?_
                  refine lv_iconst (pc := 155) (v := 5) F.1 F.2.1 d_Mo_execute_155 (by decide) ?_
                  refine lv_icmp_ne (pc := 156) F.1 F.2.1 d_Mo_execute_156 (tgt := 184) (by decide) (fun h156 => ?_) (fun h156 => ?_)
                  · refine lv_iload_n (pc := 184) F.1 F.2.1 d_Mo_execute_184 rfl (lv_at hl 2 rfl) ?_
                    refine lv_bipush (pc := 185) (v := 17) F.1 F.2.1 d_Mo_execute_185 (by decide) ?_
                    refine lv_icmp_eq (pc := 187) F.1 F.2.1 d_Mo_execute_187 (tgt := 196) (by decide) (fun h187 => ?_) (fun h187 => ?_)
                    · refine lv_aload_n (pc := 196) F.1 F.2.1 d_Mo_execute_196 rfl (lv_at hl 0 rfl) ?_
                      refine gM0_1 (pc := 197) F w (F.2.2.2.2 _ m_776) d_Mo_execute_197 ?_
                      refine lv_iload (pc := 200) F.1 F.2.1 d_Mo_execute_200 (lv_at hl 5 rfl) ?_
                      refine lv_aload_n (pc := 202) F.1 F.2.1 d_Mo_execute_202 rfl (lv_at hl 0 rfl) ?_
                      refine lv_aload_n (pc := 203) F.1 F.2.1 d_Mo_execute_203 rfl (lv_at hl 0 rfl) ?_
                      refine gM0_1 (pc := 204) F w (F.2.2.2.2 _ m_776) d_Mo_execute_204 ?_
                      refine lv_iload (pc := 207) F.1 F.2.1 d_Mo_execute_207 (lv_at hl 5 rfl) ?_
                      refine lM1 (pc := 209) F w (ex_in hB e_r1 e_v4 e_v8 e_v10 (by first | exact Or.inl (by assumption) | exact Or.inr (by assumption))) d_Mo_execute_209 ?_
                      refine lv_iload_n (pc := 210) F.1 F.2.1 d_Mo_execute_210 rfl (lv_at hl 2 rfl) ?_
                      refine lv_bipush (pc := 211) (v := 17) F.1 F.2.1 d_Mo_execute_211 (by decide) ?_
                      refine lv_icmp_ne (pc := 213) F.1 F.2.1 d_Mo_execute_213 (tgt := 220) (by decide) (fun q => absurd h187 q) (fun _ => ?_)
                      refine lv_iconst (pc := 216) (v := 1) F.1 F.2.1 d_Mo_execute_216 (by decide) ?_
                      refine lv_goto (pc := 217) F.1 F.2.1 d_Mo_execute_217 (tgt := 221) (by decide) ?_
                      refine lv_iadd (pc := 221) F.1 F.2.1 d_Mo_execute_221 ?_
                      refine Cvi (pc := 222) (As := [.int ((s12 1 v10.toNatClampNeg) + 1)]) (rest := [.int v10, .ref (am 1)]) F w (c_Mo_set l D cI am s12 ((s12 1 v10.toNatClampNeg) + 1)) 0 rfl rfl k_Mo_set m_1061 (Nat.le_of_ble_eq_true rfl) (Nat.le_of_ble_eq_true rfl) ⟨rfl, rfl⟩ rfl hl.1 rfl (Nat.le_of_ble_eq_true rfl) d_Mo_execute_222 hcs (fun r14 s15 H locs e_r14 e_s15 w => ?_)
                      refine aM1 (pc := 225) F w (ex_in hB e_r1 e_v4 e_v8 e_v10 (by first | exact Or.inl (by assumption) | exact Or.inr (by assumption))) d_Mo_execute_225 (fun H locs s16 e_s16 w => ?_)
                      refine lv_goto (pc := 226) F.1 F.2.1 d_Mo_execute_226 (tgt := 262) (by decide) ?_
                      exact k134 s16 _ _ _ ⟨(by rw [e_s16, e_s15, e_r14]; exact Eq.symm (Eq.trans (if_pos h134) (Eq.trans (if_neg h151) (Eq.trans (if_neg h156) (Eq.trans (if_pos h187) (rfl)))))), w, lv_sub hl [0, 1, 2, 3, 4, 5, 6] rfl⟩
                    · refine lv_iload_n (pc := 190) F.1 F.2.1 d_Mo_execute_190 rfl (lv_at hl 2 rfl) ?_
                      refine lv_bipush (pc := 191) (v := 18) F.1 F.2.1 d_Mo_execute_191 (by decide) ?_
                      refine lv_icmp_ne (pc := 193) F.1 F.2.1 d_Mo_execute_193 (tgt := 229) (by decide) (fun h193 => ?_) (fun h193 => ?_)
                      · refine lv_iload_n (pc := 229) F.1 F.2.1 d_Mo_execute_229 rfl (lv_at hl 3 rfl) ?_
                        refine lv_if_le (pc := 230) F.1 F.2.1 d_Mo_execute_230 (tgt := 257) (by decide) (fun h230 => ?_) (fun h230 => ?_)
                        · refine lv_aload_n (pc := 257) F.1 F.2.1 d_Mo_execute_257 rfl (lv_at hl 0 rfl) ?_
                          refine lv_iload_n (pc := 258) F.1 F.2.1 d_Mo_execute_258 rfl (lv_at hl 2 rfl) ?_
                          refine Cvv (pc := 259) (As := [.int (r1 / 100)]) (rest := []) F w (c_Mo_alter l D cI am s12 (r1 / 100) iJM_s12) 0 rfl rfl k_Mo_alter m_1077 (Nat.le_of_ble_eq_true rfl) (Nat.le_of_ble_eq_true rfl) ⟨rfl, rfl⟩ rfl hl.1 rfl (Nat.le_of_ble_eq_true rfl) d_Mo_execute_259 hcs (fun s17 H locs e_s17 w => ?_)
                          exact k134 s17 _ _ _ ⟨(by rw [e_s17]; exact Eq.symm (Eq.trans (if_pos h134) (Eq.trans (if_neg h151) (Eq.trans (if_neg h156) (Eq.trans (if_neg h187) (Eq.trans (if_neg h193) (Eq.trans (if_pos h230) (rfl)))))))), w, lv_sub hl [0, 1, 2, 3, 4, 5, 6] rfl⟩
                        · refine lv_aload_n (pc := 233) F.1 F.2.1 d_Mo_execute_233 rfl (lv_at hl 0 rfl) ?_
                          refine lv_iload_n (pc := 234) F.1 F.2.1 d_Mo_execute_234 rfl (lv_at hl 2 rfl) ?_
                          refine lv_iload_n (pc := 235) F.1 F.2.1 d_Mo_execute_235 rfl (lv_at hl 3 rfl) ?_
                          refine lv_iconst (pc := 236) (v := 1) F.1 F.2.1 d_Mo_execute_236 (by decide) ?_
                          refine cutW (α := Int32 × Sg) (fun x H locs ls => x = f_Mo_execute_r237 r1 v4 v10 s12 ∧ Wx D cI (wM cI am) (AM am) (AM am) s s.heap H locs x.2 ∧ lv_has ls 7 [(0, .ref (am 0)), (1, .int r1), (2, .int (r1 / 100)), (3, .int ((r1 / 10) - (r1 / 10) / 10 * 10)), (4, .int v4), (5, .int v10), (6, .int (s9 0 10))] ∧ JM (x.2) ∧ RB (x.2)) (fun x ls => F0 m 251 ls [.int (x.1), .int (r1 / 100), .ref (am 0)]) ?_ (fun k237 => ?_)
                          · rintro ⟨v20, s21⟩ H locs ls ⟨ex, w, hl, iJM_s21, iRB_s21⟩
                            have e_v20 : v20 = (f_Mo_execute_r237 r1 v4 v10 s12).1 := congrArg (fun z => z.1) ex
                            have e_s21 : s21 = (f_Mo_execute_r237 r1 v4 v10 s12).2 := congrArg (fun z => z.2) ex
                            clear ex
                            have w : Wx D cI (wM cI am) (AM am) (AM am) s s.heap H locs s21 := w
                            have iJM_s21 : JM s21 := iJM_s21
                            have iRB_s21 : RB s21 := iRB_s21
                            have hl : lv_has ls 7 [(0, .ref (am 0)), (1, .int r1), (2, .int (r1 / 100)), (3, .int ((r1 / 10) - (r1 / 10) / 10 * 10)), (4, .int v4), (5, .int v10), (6, .int (s9 0 10))] := hl
                            show W _ _ _ _ _ _ _ _ _ _ _ _ _ _ _ (F0 m 251 ls [.int v20, .int (r1 / 100), .ref (am 0)])
                            refine Cvv (pc := 251) (As := [.int (r1 / 100), .int v20]) (rest := []) F w (c_Mo_use l D cI am s21 (r1 / 100) v20) 0 rfl rfl k_Mo_use m_1065 (Nat.le_of_ble_eq_true rfl) (Nat.le_of_ble_eq_true rfl) ⟨rfl, rfl⟩ rfl hl.1 rfl (Nat.le_of_ble_eq_true rfl) d_Mo_execute_251 hcs (fun s22 H locs e_s22 w => ?_)
                            refine lv_goto (pc := 254) F.1 F.2.1 d_Mo_execute_254 (tgt := 262) (by decide) ?_
                            exact k134 s22 _ _ _ ⟨(by rw [e_s22, e_s21, e_v20]; exact Eq.symm (Eq.trans (if_pos h134) (Eq.trans (if_neg h151) (Eq.trans (if_neg h156) (Eq.trans (if_neg h187) (Eq.trans (if_neg h193) (Eq.trans (if_neg h230) (rfl)))))))), w, lv_sub hl [0, 1, 2, 3, 4, 5, 6] rfl⟩
                          · refine lv_icmp_ne (pc := 237) F.1 F.2.1 d_Mo_execute_237 (tgt := 245) (by decide) (fun h237 => ?_) (fun h237 => ?_)
                            · refine lv_aload_n (pc := 245) F.1 F.2.1 d_Mo_execute_245 rfl (lv_at hl 0 rfl) ?_
                              refine lv_iload (pc := 246) F.1 F.2.1 d_Mo_execute_246 (lv_at hl 5 rfl) ?_
                              refine Cvi (pc := 248) (As := [.int v10]) (rest := [.int (r1 / 100), .ref (am 0)]) F w (c_Mo_read l D cI am s12 v10) 0 rfl rfl k_Mo_read m_985 (Nat.le_of_ble_eq_true rfl) (Nat.le_of_ble_eq_true rfl) ⟨rfl, rfl⟩ rfl hl.1 rfl (Nat.le_of_ble_eq_true rfl) d_Mo_execute_248 hcs (fun r18 s19 H locs e_r18 e_s19 w => ?_)
                              have iJM_s19 : JM s19 := by rw [e_s19]; exact iJM_Mo_read iJM_s12 v10
                              have iRB_s19 : RB s19 := by rw [e_s19]; exact iRB_Mo_read iRB_s12 v10
                              exact k237 (r18, s19) _ _ _ ⟨(by rw [e_s19, e_r18]; exact Eq.symm (Eq.trans (if_neg h237) (rfl))), w, lv_sub hl [0, 1, 2, 3, 4, 5, 6] rfl, iJM_s19, iRB_s19⟩
                            · refine lv_iload (pc := 240) F.1 F.2.1 d_Mo_execute_240 (lv_at hl 4 rfl) ?_
                              refine lv_goto (pc := 242) F.1 F.2.1 d_Mo_execute_242 (tgt := 251) (by decide) ?_
                              exact k237 (v4, s12) _ _ _ ⟨(by exact Eq.symm (Eq.trans (if_pos h237) (rfl))), w, lv_sub hl [0, 1, 2, 3, 4, 5, 6] rfl, iJM_s12, iRB_s12⟩
                      · refine lv_aload_n (pc := 196) F.1 F.2.1 d_Mo_execute_196 rfl (lv_at hl 0 rfl) ?_
                        refine gM0_1 (pc := 197) F w (F.2.2.2.2 _ m_776) d_Mo_execute_197 ?_
                        refine lv_iload (pc := 200) F.1 F.2.1 d_Mo_execute_200 (lv_at hl 5 rfl) ?_
                        refine lv_aload_n (pc := 202) F.1 F.2.1 d_Mo_execute_202 rfl (lv_at hl 0 rfl) ?_
                        refine lv_aload_n (pc := 203) F.1 F.2.1 d_Mo_execute_203 rfl (lv_at hl 0 rfl) ?_
                        refine gM0_1 (pc := 204) F w (F.2.2.2.2 _ m_776) d_Mo_execute_204 ?_
                        refine lv_iload (pc := 207) F.1 F.2.1 d_Mo_execute_207 (lv_at hl 5 rfl) ?_
                        refine lM1 (pc := 209) F w (ex_in hB e_r1 e_v4 e_v8 e_v10 (by first | exact Or.inl (by assumption) | exact Or.inr (by assumption))) d_Mo_execute_209 ?_
                        refine lv_iload_n (pc := 210) F.1 F.2.1 d_Mo_execute_210 rfl (lv_at hl 2 rfl) ?_
                        refine lv_bipush (pc := 211) (v := 17) F.1 F.2.1 d_Mo_execute_211 (by decide) ?_
                        refine lv_icmp_ne (pc := 213) F.1 F.2.1 d_Mo_execute_213 (tgt := 220) (by decide) (fun _ => ?_) (fun q => absurd q h187)
                        refine lv_iconst (pc := 220) (v := (-1)) F.1 F.2.1 d_Mo_execute_220 (by decide) ?_
                        refine lv_iadd (pc := 221) F.1 F.2.1 d_Mo_execute_221 ?_
                        refine Cvi (pc := 222) (As := [.int ((s12 1 v10.toNatClampNeg) + (-1))]) (rest := [.int v10, .ref (am 1)]) F w (c_Mo_set l D cI am s12 ((s12 1 v10.toNatClampNeg) + (-1))) 0 rfl rfl k_Mo_set m_1061 (Nat.le_of_ble_eq_true rfl) (Nat.le_of_ble_eq_true rfl) ⟨rfl, rfl⟩ rfl hl.1 rfl (Nat.le_of_ble_eq_true rfl) d_Mo_execute_222 hcs (fun r23 s24 H locs e_r23 e_s24 w => ?_)
                        refine aM1 (pc := 225) F w (ex_in hB e_r1 e_v4 e_v8 e_v10 (by first | exact Or.inl (by assumption) | exact Or.inr (by assumption))) d_Mo_execute_225 (fun H locs s25 e_s25 w => ?_)
                        refine lv_goto (pc := 226) F.1 F.2.1 d_Mo_execute_226 (tgt := 262) (by decide) ?_
                        exact k134 s25 _ _ _ ⟨(by rw [e_s25, e_s24, e_r23]; exact Eq.symm (Eq.trans (if_pos h134) (Eq.trans (if_neg h151) (Eq.trans (if_neg h156) (Eq.trans (if_neg h187) (Eq.trans (if_pos h193) (rfl))))))), w, lv_sub hl [0, 1, 2, 3, 4, 5, 6] rfl⟩
                  · refine lv_aload_n (pc := 159) F.1 F.2.1 d_Mo_execute_159 rfl (lv_at hl 0 rfl) ?_
                    refine lv_iload (pc := 160) F.1 F.2.1 d_Mo_execute_160 (lv_at hl 5 rfl) ?_
                    refine lv_iload_n (pc := 162) F.1 F.2.1 d_Mo_execute_162 rfl (lv_at hl 2 rfl) ?_
                    refine lv_iconst (pc := 163) (v := 4) F.1 F.2.1 d_Mo_execute_163 (by decide) ?_
                    refine lv_icmp_ne (pc := 164) F.1 F.2.1 d_Mo_execute_164 (tgt := 174) (by decide) (fun _ => ?_) (fun q => absurd q h151)
                    refine lv_aload_n (pc := 174) F.1 F.2.1 d_Mo_execute_174 rfl (lv_at hl 0 rfl) ?_
                    refine gM0_7 (pc := 175) F w (F.2.2.2.2 _ m_782) d_Mo_execute_175 ?_
                    refine Cvv (pc := 178) (As := [.int v10, .int (s12 0 7)]) (rest := []) F w (c_Mo_store l D cI am s12 v10 (s12 0 7) iJM_s12) 0 rfl rfl k_Mo_store m_1034 (Nat.le_of_ble_eq_true rfl) (Nat.le_of_ble_eq_true rfl) ⟨rfl, rfl⟩ rfl hl.1 rfl (Nat.le_of_ble_eq_true rfl) d_Mo_execute_178 hcs (fun s26 H locs e_s26 w => ?_)
                    refine lv_goto (pc := 181) F.1 F.2.1 d_Mo_execute_181 (tgt := 262) (by decide) ?_
                    exact k134 s26 _ _ _ ⟨(by rw [e_s26]; exact Eq.symm (Eq.trans (if_pos h134) (Eq.trans (if_neg h151) (Eq.trans (if_pos h156) (rfl))))), w, lv_sub hl [0, 1, 2, 3, 4, 5, 6] rfl⟩
              · refine lv_aload_n (pc := 137) F.1 F.2.1 d_Mo_execute_137 rfl (lv_at hl 0 rfl) ?_
                refine lv_iload_n (pc := 138) F.1 F.2.1 d_Mo_execute_138 rfl (lv_at hl 2 rfl) ?_
                refine lv_iload (pc := 139) F.1 F.2.1 d_Mo_execute_139 (lv_at hl 6 rfl) ?_
                refine lv_iload (pc := 141) F.1 F.2.1 d_Mo_execute_141 (lv_at hl 5 rfl) ?_
                refine Cvv (pc := 143) (As := [.int (r1 / 100), .int (s9 0 10), .int v10]) (rest := []) F w (c_Mo_go l D cI am s12 (r1 / 100) (s9 0 10) v10 iJM_s12) 0 rfl rfl k_Mo_go m_1018 (Nat.le_of_ble_eq_true rfl) (Nat.le_of_ble_eq_true rfl) ⟨rfl, rfl⟩ rfl hl.1 rfl (Nat.le_of_ble_eq_true rfl) d_Mo_execute_143 hcs (fun s27 H locs e_s27 w => ?_)
                refine lv_goto (pc := 146) F.1 F.2.1 d_Mo_execute_146 (tgt := 262) (by decide) ?_
                exact k134 s27 _ _ _ ⟨(by rw [e_s27]; exact Eq.symm (Eq.trans (if_neg h134) (rfl))), w, lv_sub hl [0, 1, 2, 3, 4, 5, 6] rfl⟩
          · refine lv_if_ne (pc := 106) F.1 F.2.1 d_Mo_execute_106 (tgt := 113) (by decide) (fun h106 => ?_) (fun h106 => ?_)
            · refine lv_iload_n (pc := 113) F.1 F.2.1 d_Mo_execute_113 rfl (lv_at hl 4 rfl) ?_
              refine lv_iconst (pc := 114) (v := 3) F.1 F.2.1 d_Mo_execute_114 (by decide) ?_
              refine lv_icmp_ge (pc := 115) F.1 F.2.1 d_Mo_execute_115 (tgt := 122) (by decide) (fun h115 => ?_) (fun h115 => ?_)
              · refine lv_iconst (pc := 122) (v := 3) F.1 F.2.1 d_Mo_execute_122 (by decide) ?_
                exact k106 3 _ _ _ ⟨(by exact Eq.symm (Eq.trans (if_neg h106) (Eq.trans (if_pos h115) (rfl)))), w, lv_sub hl [1, 2, 3, 4, 5, 6, 0] rfl⟩
              · refine lv_iconst (pc := 118) (v := 2) F.1 F.2.1 d_Mo_execute_118 (by decide) ?_
                refine lv_goto (pc := 119) F.1 F.2.1 d_Mo_execute_119 (tgt := 123) (by decide) ?_
                exact k106 2 _ _ _ ⟨(by exact Eq.symm (Eq.trans (if_neg h106) (Eq.trans (if_neg h115) (rfl)))), w, lv_sub hl [1, 2, 3, 4, 5, 6, 0] rfl⟩
            · refine lv_iconst (pc := 109) (v := 1) F.1 F.2.1 d_Mo_execute_109 (by decide) ?_
              refine lv_goto (pc := 110) F.1 F.2.1 d_Mo_execute_110 (tgt := 123) (by decide) ?_
              exact k106 1 _ _ _ ⟨(by exact Eq.symm (Eq.trans (if_pos h106) (rfl))), w, lv_sub hl [1, 2, 3, 4, 5, 6, 0] rfl⟩
        · refine lv_icmp_ne (pc := 82) F.1 F.2.1 d_Mo_execute_82 (tgt := 94) (by decide) (fun h82 => ?_) (fun h82 => ?_)
          · exact k82 v8 _ _ _ ⟨(by exact Eq.symm (Eq.trans (if_neg h82) (rfl))), w, lv_sub hl [1, 2, 3, 4, 5, 0] rfl⟩
          · refine lv_iload (pc := 85) F.1 F.2.1 d_Mo_execute_85 (lv_at hl 0 rfl) ?_
            refine lv_aload_n (pc := 87) F.1 F.2.1 d_Mo_execute_87 rfl (lv_at hl 1 rfl) ?_
            refine gM0_7 (pc := 88) F w (F.2.2.2.2 _ m_782) d_Mo_execute_88 ?_
            refine lv_iadd (pc := 91) F.1 F.2.1 d_Mo_execute_91 ?_
            refine lv_istore (pc := 92) F.1 F.2.1 d_Mo_execute_92 hl (by decide) rfl (fun ls hl => ?_)
            have hl : lv_has ls 7 [(5, .int (v8 + (s9 0 7))), (0, .ref (am 0)), (1, .int r1), (2, .int (r1 / 100)), (3, .int ((r1 / 10) - (r1 / 10) / 10 * 10)), (4, .int v4)] := hl
            exact k82 (v8 + (s9 0 7)) _ _ _ ⟨(by exact Eq.symm (Eq.trans (if_pos h82) (rfl))), w, lv_sub hl [1, 2, 3, 4, 5, 0] rfl⟩
      · refine lv_icmp_lt (pc := 53) F.1 F.2.1 d_Mo_execute_53 (tgt := 76) (by decide) (fun h53 => ?_) (fun h53 => ?_)
        · refine lv_iload (pc := 76) F.1 F.2.1 d_Mo_execute_76 (lv_at hl 0 rfl) ?_
          exact k53 (v4, s5) _ _ _ ⟨(by exact Eq.symm (Eq.trans (if_pos h53) (rfl))), w, lv_sub hl [1, 2, 3, 4, 0] rfl, iJM_s5, iRB_s5⟩
        · refine lv_iload (pc := 56) F.1 F.2.1 d_Mo_execute_56 (lv_at hl 0 rfl) ?_
          refine lv_sipush (pc := 58) (v := 256) F.1 F.2.1 d_Mo_execute_58 (by decide) ?_
          refine lv_aload_n (pc := 61) F.1 F.2.1 d_Mo_execute_61 rfl (lv_at hl 1 rfl) ?_
          refine lv_aload_n (pc := 62) F.1 F.2.1 d_Mo_execute_62 rfl (lv_at hl 1 rfl) ?_
          refine gM0_10 (pc := 63) F w (F.2.2.2.2 _ m_785) d_Mo_execute_63 ?_
          refine lv_iconst (pc := 66) (v := 2) F.1 F.2.1 d_Mo_execute_66 (by decide) ?_
          refine lv_iadd (pc := 67) F.1 F.2.1 d_Mo_execute_67 ?_
          refine Cvi (pc := 68) (As := [.int ((s5 0 10) + 2)]) (rest := [.int 256, .int v4]) F w (c_Mo_read l D cI am s5 ((s5 0 10) + 2)) 0 rfl rfl k_Mo_read m_985 (Nat.le_of_ble_eq_true rfl) (Nat.le_of_ble_eq_true rfl) ⟨rfl, rfl⟩ rfl hl.1 rfl (Nat.le_of_ble_eq_true rfl) d_Mo_execute_68 hcs (fun r6 s7 H locs e_r6 e_s7 w => ?_)
          have iJM_s7 : JM s7 := by rw [e_s7]; exact iJM_Mo_read iJM_s5 ((s5 0 10) + 2)
          have iRB_s7 : RB s7 := by rw [e_s7]; exact iRB_Mo_read iRB_s5 ((s5 0 10) + 2)
          refine lv_imul (pc := 71) F.1 F.2.1 d_Mo_execute_71 ?_
          refine lv_iadd (pc := 72) F.1 F.2.1 d_Mo_execute_72 ?_
          refine lv_goto (pc := 73) F.1 F.2.1 d_Mo_execute_73 (tgt := 78) (by decide) ?_
          exact k53 ((v4 + (256 * r6)), s7) _ _ _ ⟨(by rw [e_s7, e_r6]; exact Eq.symm (Eq.trans (if_neg h53) (rfl))), w, lv_sub hl [1, 2, 3, 4, 0] rfl, iJM_s7, iRB_s7⟩
    · refine lv_if_le (pc := 32) F.1 F.2.1 d_Mo_execute_32 (tgt := 48) (by decide) (fun h32 => ?_) (fun h32 => ?_)
      · refine lv_iconst (pc := 48) (v := 0) F.1 F.2.1 d_Mo_execute_48 (by decide) ?_
        exact k32 (0, σ) _ _ _ ⟨(by exact Eq.symm (Eq.trans (if_pos h32) (rfl))), w, lv_sub hl [3, 2, 1, 0] rfl, hI, hB⟩
      · refine lv_aload_n (pc := 35) F.1 F.2.1 d_Mo_execute_35 rfl (lv_at hl 3 rfl) ?_
        refine lv_aload_n (pc := 36) F.1 F.2.1 d_Mo_execute_36 rfl (lv_at hl 3 rfl) ?_
        refine gM0_10 (pc := 37) F w (F.2.2.2.2 _ m_785) d_Mo_execute_37 ?_
        refine lv_iconst (pc := 40) (v := 1) F.1 F.2.1 d_Mo_execute_40 (by decide) ?_
        refine lv_iadd (pc := 41) F.1 F.2.1 d_Mo_execute_41 ?_
        refine Cvi (pc := 42) (As := [.int ((σ 0 10) + 1)]) (rest := []) F w (c_Mo_read l D cI am σ ((σ 0 10) + 1)) 0 rfl rfl k_Mo_read m_985 (Nat.le_of_ble_eq_true rfl) (Nat.le_of_ble_eq_true rfl) ⟨rfl, rfl⟩ rfl hl.1 rfl (Nat.le_of_ble_eq_true rfl) d_Mo_execute_42 hcs (fun r2 s3 H locs e_r2 e_s3 w => ?_)
        have iJM_s3 : JM s3 := by rw [e_s3]; exact iJM_Mo_read hI ((σ 0 10) + 1)
        have iRB_s3 : RB s3 := by rw [e_s3]; exact iRB_Mo_read hB ((σ 0 10) + 1)
        refine lv_goto (pc := 45) F.1 F.2.1 d_Mo_execute_45 (tgt := 49) (by decide) ?_
        exact k32 (r2, s3) _ _ _ ⟨(by rw [e_s3, e_r2]; exact Eq.symm (Eq.trans (if_neg h32) (rfl))), w, lv_sub hl [3, 2, 1, 0] rfl, iJM_s3, iRB_s3⟩
  · refine lv_aload_n (pc := 25) F.1 F.2.1 d_Mo_execute_25 rfl (lv_at hl 3 rfl) ?_
    refine lv_iconst (pc := 26) (v := 1) F.1 F.2.1 d_Mo_execute_26 (by decide) ?_
    refine pM0_14 (pc := 27) F w (Or.inr rfl) (F.2.2.2.2 _ m_789) d_Mo_execute_27 (fun H locs s29 e_s29 w => ?_)
    have iJM_s29 : JM s29 := by rw [e_s29]; exact hI
    have iRB_s29 : RB s29 := by rw [e_s29]; exact hB
    exact Rv (pc := 30) F hr hlk w (by rw [e_r1] at h22; rw [e_s29]; exact Eq.symm (Eq.trans (if_pos h22) (rfl))) d_Mo_execute_30
def f_Mo_steps_r36 (s1 : Sg) : Int32 × Sg := if (s1 0 17) = 0 then (let r2 := (f_Mo_read s1 (s1 0 10)).1; let s3 := (f_Mo_read s1 (s1 0 10)).2; (r2, s3)) else ((0, s1))
def f_Mo_steps_r59 (s6 : Sg) : Int32 := if (s6 0 17) = 0 then (let r7 := f_Mo_meaning (s6 0 19); (r7 - r7 / 10 * 10)) else (7)
def f_Mo_steps_r20 (σ : Sg) : Sg := if (σ 0 18) = 0 then (let s1 := sf σ 0 17 (σ 0 16); let v4 := (f_Mo_steps_r36 s1).1; let s5 := (f_Mo_steps_r36 s1).2; let s6 := sf s5 0 19 v4; let v8 := (f_Mo_steps_r59 s6); let s9 := sf s6 0 18 v8; s9) else (σ)
def f_Mo_steps_r94 (s11 : Sg) : Sg := if (s11 0 18) = 0 then (if (s11 0 17) = 0 then (let s12 := f_Mo_execute s11; s12) else (let s13 := f_Mo_interrupt s11; s13)) else (s11)
def f_Mo_steps (σ : Sg) : Int32 × Sg := if (σ 0 15) = 0 then (if (σ 0 14) = 0 then (let s10 := (f_Mo_steps_r20 σ); let s11 := sf s10 0 18 ((s10 0 18) - 1); let s14 := (f_Mo_steps_r94 s11); (1, s14)) else ((0, σ))) else ((0, σ))
theorem z_Mo_steps (σ : Sg) : (f_Mo_steps σ ).1 = 0 ∨ (f_Mo_steps σ ).1 = 1 := by unfold f_Mo_steps; (try dsimp only); (repeat' split) <;> first | exact Or.inl rfl | exact Or.inr rfl
set_option maxHeartbeats 1000000 in
set_option maxRecDepth 100000 in
theorem c_Mo_steps (l : Launch) (D : va_G) (cI : ClassId) (am : Nat → Nat) (σ : Sg) (hI : JM σ) (hB : RB σ) : Met l y_Mo_steps (Cond.code y_Mo_steps b_Mo_steps 1 (some .boolean) :: al) { frames := 7, cells := 0, slots := 0, locals := 161 } (Px D cI (wM cI am) (AM am) σ [.ref (am 0)]) (va_Qi (fun r u => (r, u) = f_Mo_steps σ ) (Bx D cI (wM cI am) (AM am)) (AM am)) 0 0 (AM am) := by
  refine Mx l (by decide) (Nat.le_of_ble_eq_true rfl) ?_
  intro p e s m below meth c ls F w hr hlk hl
  have F : CallFix p m c b_Mo_steps 1 s _ al "PictureMachineModel" := F
  have hl : lv_has ls 1 [(0, .ref (am 0))] := hl
  have hcs : (0 : Nat) ≤ 0 ∧ (0 : Nat) ≤ 0 := ⟨Nat.le_refl _, Nat.le_refl _⟩
  refine lv_aload_n (pc := 0) F.1 F.2.1 d_Mo_steps_0 rfl (lv_at hl 0 rfl) ?_
  refine gM0_15 (pc := 1) F w (F.2.2.2.2 _ m_790) d_Mo_steps_1 ?_
  refine lv_if_ne (pc := 4) F.1 F.2.1 d_Mo_steps_4 (tgt := 14) (by decide) (fun h4 => ?_) (fun h4 => ?_)
  · refine lv_iconst (pc := 14) (v := 0) F.1 F.2.1 d_Mo_steps_14 (by decide) ?_
    exact Rz (pc := 15) F hr hlk w (Or.inl rfl) (by exact Eq.symm (Eq.trans (if_neg h4) (rfl))) d_Mo_steps_15
  · refine lv_aload_n (pc := 7) F.1 F.2.1 d_Mo_steps_7 rfl (lv_at hl 0 rfl) ?_
    refine gM0_14 (pc := 8) F w (F.2.2.2.2 _ m_789) d_Mo_steps_8 ?_
    refine lv_if_eq (pc := 11) F.1 F.2.1 d_Mo_steps_11 (tgt := 16) (by decide) (fun h11 => ?_) (fun h11 => ?_)
    · refine lv_aload_n (pc := 16) F.1 F.2.1 d_Mo_steps_16 rfl (lv_at hl 0 rfl) ?_
      refine gM0_18 (pc := 17) F w (F.2.2.2.2 _ m_793) d_Mo_steps_17 ?_
      refine cutW (α := Sg) (fun x H locs ls => x = f_Mo_steps_r20 σ ∧ Wx D cI (wM cI am) (AM am) (AM am) s s.heap H locs x ∧ lv_has ls 1 [(0, .ref (am 0))] ∧ JM x ∧ RB x) (fun x ls => F0 m 80 ls []) ?_ (fun k20 => ?_)
      · rintro s10 H locs ls ⟨ex, w, hl, iJM_s10, iRB_s10⟩
        have e_s10 := ex
        have w : Wx D cI (wM cI am) (AM am) (AM am) s s.heap H locs s10 := w
        have iJM_s10 : JM s10 := iJM_s10
        have iRB_s10 : RB s10 := iRB_s10
        have hl : lv_has ls 1 [(0, .ref (am 0))] := hl
        show W _ _ _ _ _ _ _ _ _ _ _ _ _ _ _ (F0 m 80 ls [])
        refine lv_aload_n (pc := 80) F.1 F.2.1 d_Mo_steps_80 rfl (lv_at hl 0 rfl) ?_
        refine lv_dup (pc := 81) F.1 F.2.1 d_Mo_steps_81 rfl ?_
        refine gM0_18 (pc := 82) F w (F.2.2.2.2 _ m_793) d_Mo_steps_82 ?_
        refine lv_iconst (pc := 85) (v := 1) F.1 F.2.1 d_Mo_steps_85 (by decide) ?_
        refine lv_isub (pc := 86) F.1 F.2.1 d_Mo_steps_86 ?_
        refine pM0_18 (pc := 87) F w (F.2.2.2.2 _ m_793) d_Mo_steps_87 (fun H locs s11 e_s11 w => ?_)
        have iJM_s11 : JM s11 := by rw [e_s11]; exact iJM_s10
        have iRB_s11 : RB s11 := by rw [e_s11]; exact iRB_s10
        refine lv_aload_n (pc := 90) F.1 F.2.1 d_Mo_steps_90 rfl (lv_at hl 0 rfl) ?_
        refine gM0_18 (pc := 91) F w (F.2.2.2.2 _ m_793) d_Mo_steps_91 ?_
        refine cutW (α := Sg) (fun x H locs ls => x = f_Mo_steps_r94 s11 ∧ Wx D cI (wM cI am) (AM am) (AM am) s s.heap H locs x ∧ lv_has ls 1 [(0, .ref (am 0))]) (fun x ls => F0 m 122 ls []) ?_ (fun k94 => ?_)
        · rintro s14 H locs ls ⟨ex, w, hl⟩
          have e_s14 := ex
          have w : Wx D cI (wM cI am) (AM am) (AM am) s s.heap H locs s14 := w
          have hl : lv_has ls 1 [(0, .ref (am 0))] := hl
          show W _ _ _ _ _ _ _ _ _ _ _ _ _ _ _ (F0 m 122 ls [])
          refine lv_iconst (pc := 122) (v := 1) F.1 F.2.1 d_Mo_steps_122 (by decide) ?_
          exact Rz (pc := 123) F hr hlk w (Or.inr rfl) (by rw [e_s14, e_s11, e_s10]; exact Eq.symm (Eq.trans (if_pos h4) (Eq.trans (if_pos h11) (rfl)))) d_Mo_steps_123
        · refine lv_if_ne (pc := 94) F.1 F.2.1 d_Mo_steps_94 (tgt := 111) (by decide) (fun h94 => ?_) (fun h94 => ?_)
          · refine lv_aload_n (pc := 111) F.1 F.2.1 d_Mo_steps_111 rfl (lv_at hl 0 rfl) ?_
            refine gM0_18 (pc := 112) F w (F.2.2.2.2 _ m_793) d_Mo_steps_112 ?_
            refine lv_if_ne (pc := 115) F.1 F.2.1 d_Mo_steps_115 (tgt := 122) (by decide) (fun _ => ?_) (fun q => absurd q h94)
            exact k94 s11 _ _ _ ⟨(by exact Eq.symm (Eq.trans (if_neg h94) (rfl))), w, lv_sub hl [0] rfl⟩
          · refine lv_aload_n (pc := 97) F.1 F.2.1 d_Mo_steps_97 rfl (lv_at hl 0 rfl) ?_
            refine gM0_17 (pc := 98) F w (F.2.2.2.2 _ m_792) d_Mo_steps_98 ?_
            refine lv_if_eq (pc := 101) F.1 F.2.1 d_Mo_steps_101 (tgt := 111) (by decide) (fun h101 => ?_) (fun h101 => ?_)
            · refine lv_aload_n (pc := 111) F.1 F.2.1 d_Mo_steps_111 rfl (lv_at hl 0 rfl) ?_
              refine gM0_18 (pc := 112) F w (F.2.2.2.2 _ m_793) d_Mo_steps_112 ?_
              refine lv_if_ne (pc := 115) F.1 F.2.1 d_Mo_steps_115 (tgt := 122) (by decide) (fun q => absurd h94 q) (fun _ => ?_)
              refine lv_aload_n (pc := 118) F.1 F.2.1 d_Mo_steps_118 rfl (lv_at hl 0 rfl) ?_
              refine Cvv (pc := 119) (As := []) (rest := []) F w (c_Mo_execute l D cI am s11 iJM_s11 iRB_s11) 0 rfl rfl k_Mo_execute m_1014 (Nat.le_of_ble_eq_true rfl) (Nat.le_of_ble_eq_true rfl) ⟨rfl, rfl⟩ rfl hl.1 rfl (Nat.le_of_ble_eq_true rfl) d_Mo_steps_119 hcs (fun s12 H locs e_s12 w => ?_)
              exact k94 s12 _ _ _ ⟨(by rw [e_s12]; exact Eq.symm (Eq.trans (if_pos h94) (Eq.trans (if_pos h101) (rfl)))), w, lv_sub hl [0] rfl⟩
            · refine lv_aload_n (pc := 104) F.1 F.2.1 d_Mo_steps_104 rfl (lv_at hl 0 rfl) ?_
              refine Cvv (pc := 105) (As := []) (rest := []) F w (c_Mo_interrupt l D cI am s11 iJM_s11) 0 rfl rfl k_Mo_interrupt m_1002 (Nat.le_of_ble_eq_true rfl) (Nat.le_of_ble_eq_true rfl) ⟨rfl, rfl⟩ rfl hl.1 rfl (Nat.le_of_ble_eq_true rfl) d_Mo_steps_105 hcs (fun s13 H locs e_s13 w => ?_)
              refine lv_goto (pc := 108) F.1 F.2.1 d_Mo_steps_108 (tgt := 122) (by decide) ?_
              exact k94 s13 _ _ _ ⟨(by rw [e_s13]; exact Eq.symm (Eq.trans (if_pos h94) (Eq.trans (if_neg h101) (rfl)))), w, lv_sub hl [0] rfl⟩
      · refine lv_if_ne (pc := 20) F.1 F.2.1 d_Mo_steps_20 (tgt := 80) (by decide) (fun h20 => ?_) (fun h20 => ?_)
        · exact k20 σ _ _ _ ⟨(by exact Eq.symm (Eq.trans (if_neg h20) (rfl))), w, lv_sub hl [0] rfl, hI, hB⟩
        · refine lv_aload_n (pc := 23) F.1 F.2.1 d_Mo_steps_23 rfl (lv_at hl 0 rfl) ?_
          refine lv_aload_n (pc := 24) F.1 F.2.1 d_Mo_steps_24 rfl (lv_at hl 0 rfl) ?_
          refine gM0_16 (pc := 25) F w (F.2.2.2.2 _ m_791) d_Mo_steps_25 ?_
          refine pM0_17 (pc := 28) F w hI.2.2.2.2.2.2.1 (F.2.2.2.2 _ m_792) d_Mo_steps_28 (fun H locs s1 e_s1 w => ?_)
          have iJM_s1 : JM s1 := by rw [e_s1]; exact hI
          have iRB_s1 : RB s1 := by rw [e_s1]; exact hB
          refine lv_aload_n (pc := 31) F.1 F.2.1 d_Mo_steps_31 rfl (lv_at hl 0 rfl) ?_
          refine lv_aload_n (pc := 32) F.1 F.2.1 d_Mo_steps_32 rfl (lv_at hl 0 rfl) ?_
          refine gM0_17 (pc := 33) F w (F.2.2.2.2 _ m_792) d_Mo_steps_33 ?_
          refine cutW (α := Int32 × Sg) (fun x H locs ls => x = f_Mo_steps_r36 s1 ∧ Wx D cI (wM cI am) (AM am) (AM am) s s.heap H locs x.2 ∧ lv_has ls 1 [(0, .ref (am 0))] ∧ JM (x.2) ∧ RB (x.2)) (fun x ls => F0 m 51 ls [.int (x.1), .ref (am 0)]) ?_ (fun k36 => ?_)
          · rintro ⟨v4, s5⟩ H locs ls ⟨ex, w, hl, iJM_s5, iRB_s5⟩
            have e_v4 : v4 = (f_Mo_steps_r36 s1).1 := congrArg (fun z => z.1) ex
            have e_s5 : s5 = (f_Mo_steps_r36 s1).2 := congrArg (fun z => z.2) ex
            clear ex
            have w : Wx D cI (wM cI am) (AM am) (AM am) s s.heap H locs s5 := w
            have iJM_s5 : JM s5 := iJM_s5
            have iRB_s5 : RB s5 := iRB_s5
            have hl : lv_has ls 1 [(0, .ref (am 0))] := hl
            show W _ _ _ _ _ _ _ _ _ _ _ _ _ _ _ (F0 m 51 ls [.int v4, .ref (am 0)])
            refine pM0_19 (pc := 51) F w (F.2.2.2.2 _ m_794) d_Mo_steps_51 (fun H locs s6 e_s6 w => ?_)
            have iJM_s6 : JM s6 := by rw [e_s6]; exact iJM_s5
            have iRB_s6 : RB s6 := by rw [e_s6]; exact iRB_s5
            refine lv_aload_n (pc := 54) F.1 F.2.1 d_Mo_steps_54 rfl (lv_at hl 0 rfl) ?_
            refine lv_aload_n (pc := 55) F.1 F.2.1 d_Mo_steps_55 rfl (lv_at hl 0 rfl) ?_
            refine gM0_17 (pc := 56) F w (F.2.2.2.2 _ m_792) d_Mo_steps_56 ?_
            refine cutW (α := Int32) (fun x H locs ls => x = f_Mo_steps_r59 s6 ∧ Wx D cI (wM cI am) (AM am) (AM am) s s.heap H locs s6 ∧ lv_has ls 1 [(0, .ref (am 0))]) (fun x ls => F0 m 77 ls [.int x, .ref (am 0)]) ?_ (fun k59 => ?_)
            · rintro v8 H locs ls ⟨ex, w, hl⟩
              have e_v8 := ex
              have w : Wx D cI (wM cI am) (AM am) (AM am) s s.heap H locs s6 := w
              have hl : lv_has ls 1 [(0, .ref (am 0))] := hl
              show W _ _ _ _ _ _ _ _ _ _ _ _ _ _ _ (F0 m 77 ls [.int v8, .ref (am 0)])
              refine pM0_18 (pc := 77) F w (F.2.2.2.2 _ m_793) d_Mo_steps_77 (fun H locs s9 e_s9 w => ?_)
              have iJM_s9 : JM s9 := by rw [e_s9]; exact iJM_s6
              have iRB_s9 : RB s9 := by rw [e_s9]; exact iRB_s6
              exact k20 s9 _ _ _ ⟨(by rw [e_s9, e_v8, e_s6, e_s5, e_v4, e_s1]; exact Eq.symm (Eq.trans (if_pos h20) (rfl))), w, lv_sub hl [0] rfl, iJM_s9, iRB_s9⟩
            · refine lv_if_eq (pc := 59) F.1 F.2.1 d_Mo_steps_59 (tgt := 67) (by decide) (fun h59 => ?_) (fun h59 => ?_)
              · refine lv_aload_n (pc := 67) F.1 F.2.1 d_Mo_steps_67 rfl (lv_at hl 0 rfl) ?_
                refine gM0_19 (pc := 68) F w (F.2.2.2.2 _ m_794) d_Mo_steps_68 ?_
                refine Usi (pc := 71) (As := [.int (s6 0 19)]) (rest := [.ref (am 0)]) F (c_Mo_meaning l (s6 0 19)) k_Mo_meaning m_993 (Nat.le_of_ble_eq_true rfl) (Nat.le_of_ble_eq_true rfl) ⟨rfl, rfl⟩ rfl hl.1 rfl (Nat.le_of_ble_eq_true rfl) d_Mo_steps_71 hcs (fun r7 e_r7 => ?_)
                refine lv_bipush (pc := 74) (v := 10) F.1 F.2.1 d_Mo_steps_74 (by decide) ?_
                refine lv_irem (pc := 76) F.1 F.2.1 d_Mo_steps_76 (by decide) ?_
                exact k59 (r7 - r7 / 10 * 10) _ _ _ ⟨(by rw [e_r7]; exact Eq.symm (Eq.trans (if_pos h59) (rfl))), w, lv_sub hl [0] rfl⟩
              · refine lv_bipush (pc := 62) (v := 7) F.1 F.2.1 d_Mo_steps_62 (by decide) ?_
                refine lv_goto (pc := 64) F.1 F.2.1 d_Mo_steps_64 (tgt := 77) (by decide) ?_
                exact k59 7 _ _ _ ⟨(by exact Eq.symm (Eq.trans (if_neg h59) (rfl))), w, lv_sub hl [0] rfl⟩
          · refine lv_if_eq (pc := 36) F.1 F.2.1 d_Mo_steps_36 (tgt := 43) (by decide) (fun h36 => ?_) (fun h36 => ?_)
            · refine lv_aload_n (pc := 43) F.1 F.2.1 d_Mo_steps_43 rfl (lv_at hl 0 rfl) ?_
              refine lv_aload_n (pc := 44) F.1 F.2.1 d_Mo_steps_44 rfl (lv_at hl 0 rfl) ?_
              refine gM0_10 (pc := 45) F w (F.2.2.2.2 _ m_785) d_Mo_steps_45 ?_
              refine Cvi (pc := 48) (As := [.int (s1 0 10)]) (rest := [.ref (am 0)]) F w (c_Mo_read l D cI am s1 (s1 0 10)) 0 rfl rfl k_Mo_read m_985 (Nat.le_of_ble_eq_true rfl) (Nat.le_of_ble_eq_true rfl) ⟨rfl, rfl⟩ rfl hl.1 rfl (Nat.le_of_ble_eq_true rfl) d_Mo_steps_48 hcs (fun r2 s3 H locs e_r2 e_s3 w => ?_)
              have iJM_s3 : JM s3 := by rw [e_s3]; exact iJM_Mo_read iJM_s1 (s1 0 10)
              have iRB_s3 : RB s3 := by rw [e_s3]; exact iRB_Mo_read iRB_s1 (s1 0 10)
              exact k36 (r2, s3) _ _ _ ⟨(by rw [e_s3, e_r2]; exact Eq.symm (Eq.trans (if_pos h36) (rfl))), w, lv_sub hl [0] rfl, iJM_s3, iRB_s3⟩
            · refine lv_iconst (pc := 39) (v := 0) F.1 F.2.1 d_Mo_steps_39 (by decide) ?_
              refine lv_goto (pc := 40) F.1 F.2.1 d_Mo_steps_40 (tgt := 51) (by decide) ?_
              exact k36 (0, s1) _ _ _ ⟨(by exact Eq.symm (Eq.trans (if_neg h36) (rfl))), w, lv_sub hl [0] rfl, iJM_s1, iRB_s1⟩
    · refine lv_iconst (pc := 14) (v := 0) F.1 F.2.1 d_Mo_steps_14 (by decide) ?_
      exact Rz (pc := 15) F hr hlk w (Or.inl rfl) (by exact Eq.symm (Eq.trans (if_pos h4) (Eq.trans (if_neg h11) (rfl)))) d_Mo_steps_15
def f_Mo_moved  (x1 : Int32) : Int32 := ((x1 &&& 768) ||| ((x1 + 1) &&& 255))
set_option maxHeartbeats 1000000 in
set_option maxRecDepth 100000 in
theorem c_Mo_moved (l : Launch)  (x1 : Int32) : Met l y_Mo_moved (Cond.code y_Mo_moved b_Mo_moved 1 (some .int) :: al) { frames := 0, cells := 0, slots := 0, locals := 0 } (PU [.int x1]) (QU (f_Mo_moved x1)) 0 0 (fun _ => False) := by
  refine Mu l (by decide) (Nat.le_of_ble_eq_true rfl) ?_
  intro p e s m below meth c ls F hr hlk hl
  have F : CallFix p m c b_Mo_moved 1 s _ al "PictureMachineModel" := F
  generalize hH : s.heap = H
  generalize hlo : ([] : List Loc) = locs
  have w : (H = s.heap ∧ locs = []) := ⟨hH.symm, hlo.symm⟩
  have hl : lv_has ls 1 [(0, .int x1)] := hl
  refine lv_iload_n (pc := 0) F.1 F.2.1 d_Mo_moved_0 rfl (lv_at hl 0 rfl) ?_
  refine lv_sipush (pc := 1) (v := 768) F.1 F.2.1 d_Mo_moved_1 (by decide) ?_
  refine lv_iand (pc := 4) F.1 F.2.1 d_Mo_moved_4 ?_
  refine lv_iload_n (pc := 5) F.1 F.2.1 d_Mo_moved_5 rfl (lv_at hl 0 rfl) ?_
  refine lv_iconst (pc := 6) (v := 1) F.1 F.2.1 d_Mo_moved_6 (by decide) ?_
  refine lv_iadd (pc := 7) F.1 F.2.1 d_Mo_moved_7 ?_
  refine lv_sipush (pc := 8) (v := 255) F.1 F.2.1 d_Mo_moved_8 (by decide) ?_
  refine lv_iand (pc := 11) F.1 F.2.1 d_Mo_moved_11 ?_
  refine lv_ior (pc := 12) F.1 F.2.1 d_Mo_moved_12 ?_
  exact Ui (pc := 13) F w hr hlk (by exact Eq.symm (rfl)) d_Mo_moved_13
def f_Mo_isPicture_r10 (σ : Sg) (r1 : Int32) : Int32 := if r1 = 0 then (0) else (let r2 := f_Mo_control σ 0; if r2 = 0 then (0) else (1))
def f_Mo_isPicture (σ : Sg) : Int32 := let r1 := f_Mo_in (σ 0 4) 1 12; let v3 := (f_Mo_isPicture_r10 σ r1); v3
theorem z_f_Mo_isPicture_r10_0 (σ : Sg) (r1 : Int32) : (f_Mo_isPicture_r10 σ r1) = 0 ∨ (f_Mo_isPicture_r10 σ r1) = 1 := by unfold f_Mo_isPicture_r10; (try dsimp only); (repeat' split) <;> first | exact Or.inl rfl | exact Or.inr rfl | apply z_Mo_control | apply z_Mo_in
theorem z_Mo_isPicture (σ : Sg) : (f_Mo_isPicture σ ) = 0 ∨ (f_Mo_isPicture σ ) = 1 := by unfold f_Mo_isPicture; (try dsimp only); (repeat' split) <;> first | exact Or.inl rfl | exact Or.inr rfl | apply z_f_Mo_isPicture_r10_0 | apply z_Mo_control | apply z_Mo_in
set_option maxHeartbeats 1000000 in
set_option maxRecDepth 100000 in
theorem c_Mo_isPicture (l : Launch) (D : va_G) (cI : ClassId) (am : Nat → Nat) (σ : Sg) : Met l y_Mo_isPicture (Cond.code y_Mo_isPicture b_Mo_isPicture 1 (some .boolean) :: al) { frames := 1, cells := 0, slots := 0, locals := 22 } (Px D cI (wM cI am) (AM am) σ [.ref (am 0)]) (va_Qi (fun r u => r = f_Mo_isPicture σ  ∧ u = σ) (Bx D cI (wM cI am) (AM am)) (AM am)) 0 0 (AM am) := by
  refine Mx l (by decide) (Nat.le_of_ble_eq_true rfl) ?_
  intro p e s m below meth c ls F w hr hlk hl
  have F : CallFix p m c b_Mo_isPicture 1 s _ al "PictureMachineModel" := F
  have hl : lv_has ls 1 [(0, .ref (am 0))] := hl
  have hcs : (0 : Nat) ≤ 0 ∧ (0 : Nat) ≤ 0 := ⟨Nat.le_refl _, Nat.le_refl _⟩
  refine lv_aload_n (pc := 0) F.1 F.2.1 d_Mo_isPicture_0 rfl (lv_at hl 0 rfl) ?_
  refine gM0_4 (pc := 1) F w (F.2.2.2.2 _ m_779) d_Mo_isPicture_1 ?_
  refine lv_iconst (pc := 4) (v := 1) F.1 F.2.1 d_Mo_isPicture_4 (by decide) ?_
  refine lv_bipush (pc := 5) (v := 12) F.1 F.2.1 d_Mo_isPicture_5 (by decide) ?_
  refine Usi (pc := 7) (As := [.int (σ 0 4), .int 1, .int 12]) (rest := []) F (c_Mo_in l (σ 0 4) 1 12) k_Mo_in m_931 (Nat.le_of_ble_eq_true rfl) (Nat.le_of_ble_eq_true rfl) ⟨rfl, rfl⟩ rfl hl.1 rfl (Nat.le_of_ble_eq_true rfl) d_Mo_isPicture_7 hcs (fun r1 e_r1 => ?_)
  refine cutW (α := Int32) (fun x H locs ls => x = f_Mo_isPicture_r10 σ r1 ∧ Wx D cI (wM cI am) (AM am) (AM am) s s.heap H locs σ ∧ lv_has ls 1 [(0, .ref (am 0))]) (fun x ls => F0 m 26 ls [.int x]) ?_ (fun k10 => ?_)
  · rintro v3 H locs ls ⟨ex, w, hl⟩
    have e_v3 := ex
    have w : Wx D cI (wM cI am) (AM am) (AM am) s s.heap H locs σ := w
    have hl : lv_has ls 1 [(0, .ref (am 0))] := hl
    show W _ _ _ _ _ _ _ _ _ _ _ _ _ _ _ (F0 m 26 ls [.int v3])
    exact Kz (pc := 26) F hr hlk w (e_v3 ▸ z_f_Mo_isPicture_r10_0 σ r1) (by rw [e_v3, e_r1]; exact Eq.symm (rfl)) d_Mo_isPicture_26
  · refine lv_if_eq (pc := 10) F.1 F.2.1 d_Mo_isPicture_10 (tgt := 25) (by decide) (fun h10 => ?_) (fun h10 => ?_)
    · refine lv_iconst (pc := 25) (v := 0) F.1 F.2.1 d_Mo_isPicture_25 (by decide) ?_
      exact k10 0 _ _ _ ⟨(by exact Eq.symm (Eq.trans (if_pos h10) (rfl))), w, lv_sub hl [0] rfl⟩
    · refine lv_aload_n (pc := 13) F.1 F.2.1 d_Mo_isPicture_13 rfl (lv_at hl 0 rfl) ?_
      refine lv_iconst (pc := 14) (v := 0) F.1 F.2.1 d_Mo_isPicture_14 (by decide) ?_
      refine Kvi (pc := 15) (As := [.int 0]) (rest := []) F w (c_Mo_control l D cI am σ 0) 0 rfl rfl k_Mo_control m_954 (Nat.le_of_ble_eq_true rfl) (Nat.le_of_ble_eq_true rfl) ⟨rfl, rfl⟩ rfl hl.1 rfl (Nat.le_of_ble_eq_true rfl) d_Mo_isPicture_15 hcs (fun r2 H locs e_r2 w => ?_)
      refine lv_if_eq (pc := 18) F.1 F.2.1 d_Mo_isPicture_18 (tgt := 25) (by decide) (fun h18 => ?_) (fun h18 => ?_)
      · refine lv_iconst (pc := 25) (v := 0) F.1 F.2.1 d_Mo_isPicture_25 (by decide) ?_
        exact k10 0 _ _ _ ⟨(by rw [e_r2] at h18; exact Eq.symm (Eq.trans (if_neg h10) (Eq.trans (if_pos h18) (rfl)))), w, lv_sub hl [0] rfl⟩
      · refine lv_iconst (pc := 21) (v := 1) F.1 F.2.1 d_Mo_isPicture_21 (by decide) ?_
        refine lv_goto (pc := 22) F.1 F.2.1 d_Mo_isPicture_22 (tgt := 26) (by decide) ?_
        exact k10 1 _ _ _ ⟨(by rw [e_r2] at h18; exact Eq.symm (Eq.trans (if_neg h10) (Eq.trans (if_neg h18) (rfl)))), w, lv_sub hl [0] rfl⟩
def f_Mo_hasRows_r4 (σ : Sg) : Int32 := if (σ 0 22) = 0 then (0) else (if (σ 0 29) ≤ (σ 0 28) then (0) else (1))
def f_Mo_hasRows (σ : Sg) : Int32 := let v1 := (f_Mo_hasRows_r4 σ); v1
theorem z_f_Mo_hasRows_r4_0 (σ : Sg) : (f_Mo_hasRows_r4 σ) = 0 ∨ (f_Mo_hasRows_r4 σ) = 1 := by unfold f_Mo_hasRows_r4; (try dsimp only); (repeat' split) <;> first | exact Or.inl rfl | exact Or.inr rfl
theorem z_Mo_hasRows (σ : Sg) : (f_Mo_hasRows σ ) = 0 ∨ (f_Mo_hasRows σ ) = 1 := by unfold f_Mo_hasRows; (try dsimp only); (repeat' split) <;> first | exact Or.inl rfl | exact Or.inr rfl | apply z_f_Mo_hasRows_r4_0
set_option maxHeartbeats 1000000 in
set_option maxRecDepth 100000 in
theorem c_Mo_hasRows (l : Launch) (D : va_G) (cI : ClassId) (am : Nat → Nat) (σ : Sg) : Met l y_Mo_hasRows (Cond.code y_Mo_hasRows b_Mo_hasRows 1 (some .boolean) :: al) { frames := 0, cells := 0, slots := 0, locals := 0 } (Px D cI (wM cI am) (AM am) σ [.ref (am 0)]) (va_Qi (fun r u => r = f_Mo_hasRows σ  ∧ u = σ) (Bx D cI (wM cI am) (AM am)) (AM am)) 0 0 (AM am) := by
  refine Mx l (by decide) (Nat.le_of_ble_eq_true rfl) ?_
  intro p e s m below meth c ls F w hr hlk hl
  have F : CallFix p m c b_Mo_hasRows 1 s _ al "PictureMachineModel" := F
  have hl : lv_has ls 1 [(0, .ref (am 0))] := hl
  refine lv_aload_n (pc := 0) F.1 F.2.1 d_Mo_hasRows_0 rfl (lv_at hl 0 rfl) ?_
  refine gM0_22 (pc := 1) F w (F.2.2.2.2 _ m_797) d_Mo_hasRows_1 ?_
  refine cutW (α := Int32) (fun x H locs ls => x = f_Mo_hasRows_r4 σ ∧ Wx D cI (wM cI am) (AM am) (AM am) s s.heap H locs σ ∧ lv_has ls 1 [(0, .ref (am 0))]) (fun x ls => F0 m 23 ls [.int x]) ?_ (fun k4 => ?_)
  · rintro v1 H locs ls ⟨ex, w, hl⟩
    have e_v1 := ex
    have w : Wx D cI (wM cI am) (AM am) (AM am) s s.heap H locs σ := w
    have hl : lv_has ls 1 [(0, .ref (am 0))] := hl
    show W _ _ _ _ _ _ _ _ _ _ _ _ _ _ _ (F0 m 23 ls [.int v1])
    exact Kz (pc := 23) F hr hlk w (e_v1 ▸ z_f_Mo_hasRows_r4_0 σ) (by rw [e_v1]; exact Eq.symm (rfl)) d_Mo_hasRows_23
  · refine lv_if_eq (pc := 4) F.1 F.2.1 d_Mo_hasRows_4 (tgt := 22) (by decide) (fun h4 => ?_) (fun h4 => ?_)
    · refine lv_iconst (pc := 22) (v := 0) F.1 F.2.1 d_Mo_hasRows_22 (by decide) ?_
      exact k4 0 _ _ _ ⟨(by exact Eq.symm (Eq.trans (if_pos h4) (rfl))), w, lv_sub hl [0] rfl⟩
    · refine lv_aload_n (pc := 7) F.1 F.2.1 d_Mo_hasRows_7 rfl (lv_at hl 0 rfl) ?_
      refine gM0_28 (pc := 8) F w (F.2.2.2.2 _ m_803) d_Mo_hasRows_8 ?_
      refine lv_aload_n (pc := 11) F.1 F.2.1 d_Mo_hasRows_11 rfl (lv_at hl 0 rfl) ?_
      refine gM0_29 (pc := 12) F w (F.2.2.2.2 _ m_804) d_Mo_hasRows_12 ?_
      refine lv_icmp_ge (pc := 15) F.1 F.2.1 d_Mo_hasRows_15 (tgt := 22) (by decide) (fun h15 => ?_) (fun h15 => ?_)
      · refine lv_iconst (pc := 22) (v := 0) F.1 F.2.1 d_Mo_hasRows_22 (by decide) ?_
        exact k4 0 _ _ _ ⟨(by exact Eq.symm (Eq.trans (if_neg h4) (Eq.trans (if_pos h15) (rfl)))), w, lv_sub hl [0] rfl⟩
      · refine lv_iconst (pc := 18) (v := 1) F.1 F.2.1 d_Mo_hasRows_18 (by decide) ?_
        refine lv_goto (pc := 19) F.1 F.2.1 d_Mo_hasRows_19 (tgt := 23) (by decide) ?_
        exact k4 1 _ _ _ ⟨(by exact Eq.symm (Eq.trans (if_neg h4) (Eq.trans (if_neg h15) (rfl)))), w, lv_sub hl [0] rfl⟩
def f_Mo_asks_r4 (σ : Sg) (r1 : Int32) : Int32 := if r1 = 0 then (0) else (let r2 := f_Mo_hasRows σ; if r2 = 0 then (0) else (if (σ 0 25) = 0 then (0) else (if (σ 0 28) = ((σ 0 29) - 1) then (if ((σ 2 (6 : Int32).toNatClampNeg) &&& 128) = 0 then (0) else (1)) else (0))))
def f_Mo_asks_r60 (σ : Sg) : Int32 := if (σ 0 4) = 13 then (if ((σ 2 (6 : Int32).toNatClampNeg) &&& 64) = 0 then (0) else (1)) else (0)
def f_Mo_asks (σ : Sg) : Sg := let r1 := f_Mo_isPicture σ; let v3 := (f_Mo_asks_r4 σ r1); let v4 := (f_Mo_asks_r60 σ); if v3 = 0 then (if v4 = 0 then (σ) else (let s7 := sf σ 0 33 ((σ 0 33) ||| 64); let s8 := sf s7 0 16 1; s8)) else (let s5 := sf σ 0 33 ((σ 0 33) ||| 128); let s6 := sf s5 0 16 1; s6)
theorem z_f_Mo_asks_r4_0 (σ : Sg) (r1 : Int32) : (f_Mo_asks_r4 σ r1) = 0 ∨ (f_Mo_asks_r4 σ r1) = 1 := by unfold f_Mo_asks_r4; (try dsimp only); (repeat' split) <;> first | exact Or.inl rfl | exact Or.inr rfl | apply z_Mo_hasRows | apply z_Mo_isPicture
theorem z_f_Mo_asks_r60_0 (σ : Sg) : (f_Mo_asks_r60 σ) = 0 ∨ (f_Mo_asks_r60 σ) = 1 := by unfold f_Mo_asks_r60; (try dsimp only); (repeat' split) <;> first | exact Or.inl rfl | exact Or.inr rfl | apply z_f_Mo_asks_r4_0 | apply z_Mo_hasRows | apply z_Mo_isPicture
set_option maxHeartbeats 1000000 in
set_option maxRecDepth 100000 in
theorem c_Mo_asks (l : Launch) (D : va_G) (cI : ClassId) (am : Nat → Nat) (σ : Sg) : Met l y_Mo_asks (Cond.code y_Mo_asks b_Mo_asks 3 none :: al) { frames := 2, cells := 0, slots := 0, locals := 42 } (Px D cI (wM cI am) (AM am) σ [.ref (am 0)]) (va_Qv (fun u => u = f_Mo_asks σ ) (Bx D cI (wM cI am) (AM am)) (AM am)) 0 0 (AM am) := by
  refine Mx l (by decide) (Nat.le_of_ble_eq_true rfl) ?_
  intro p e s m below meth c ls F w hr hlk hl
  have F : CallFix p m c b_Mo_asks 3 s _ al "PictureMachineModel" := F
  have hl : lv_has ls 3 [(0, .ref (am 0))] := hl
  have hcs : (0 : Nat) ≤ 0 ∧ (0 : Nat) ≤ 0 := ⟨Nat.le_refl _, Nat.le_refl _⟩
  refine lv_aload_n (pc := 0) F.1 F.2.1 d_Mo_asks_0 rfl (lv_at hl 0 rfl) ?_
  refine Kvi (pc := 1) (As := []) (rest := []) F w (c_Mo_isPicture l D cI am σ) 0 rfl rfl k_Mo_isPicture m_950 (Nat.le_of_ble_eq_true rfl) (Nat.le_of_ble_eq_true rfl) ⟨rfl, rfl⟩ rfl hl.1 rfl (Nat.le_of_ble_eq_true rfl) d_Mo_asks_1 hcs (fun r1 H locs e_r1 w => ?_)
  refine cutW (α := Int32) (fun x H locs ls => x = f_Mo_asks_r4 σ r1 ∧ Wx D cI (wM cI am) (AM am) (AM am) s s.heap H locs σ ∧ lv_has ls 3 [(0, .ref (am 0))]) (fun x ls => F0 m 53 ls [.int x]) ?_ (fun k4 => ?_)
  · rintro v3 H locs ls ⟨ex, w, hl⟩
    have e_v3 := ex
    have w : Wx D cI (wM cI am) (AM am) (AM am) s s.heap H locs σ := w
    have hl : lv_has ls 3 [(0, .ref (am 0))] := hl
    show W _ _ _ _ _ _ _ _ _ _ _ _ _ _ _ (F0 m 53 ls [.int v3])
    refine lv_istore_n (pc := 53) F.1 F.2.1 d_Mo_asks_53 rfl hl (by decide) rfl (fun ls hl => ?_)
    have hl : lv_has ls 3 [(1, .int v3), (0, .ref (am 0))] := hl
    refine lv_aload_n (pc := 54) F.1 F.2.1 d_Mo_asks_54 rfl (lv_at hl 1 rfl) ?_
    refine gM0_4 (pc := 55) F w (F.2.2.2.2 _ m_779) d_Mo_asks_55 ?_
    refine lv_bipush (pc := 58) (v := 13) F.1 F.2.1 d_Mo_asks_58 (by decide) ?_
    refine cutW (α := Int32) (fun x H locs ls => x = f_Mo_asks_r60 σ ∧ Wx D cI (wM cI am) (AM am) (AM am) s s.heap H locs σ ∧ lv_has ls 3 [(0, .ref (am 0)), (1, .int v3)]) (fun x ls => F0 m 81 ls [.int x]) ?_ (fun k60 => ?_)
    · rintro v4 H locs ls ⟨ex, w, hl⟩
      have e_v4 := ex
      have w : Wx D cI (wM cI am) (AM am) (AM am) s s.heap H locs σ := w
      have hl : lv_has ls 3 [(0, .ref (am 0)), (1, .int v3)] := hl
      show W _ _ _ _ _ _ _ _ _ _ _ _ _ _ _ (F0 m 81 ls [.int v4])
      refine lv_istore_n (pc := 81) F.1 F.2.1 d_Mo_asks_81 rfl hl (by decide) rfl (fun ls hl => ?_)
      have hl : lv_has ls 3 [(2, .int v4), (0, .ref (am 0)), (1, .int v3)] := hl
      refine lv_iload_n (pc := 82) F.1 F.2.1 d_Mo_asks_82 rfl (lv_at hl 2 rfl) ?_
      refine lv_if_ne (pc := 83) F.1 F.2.1 d_Mo_asks_83 (tgt := 91) (by decide) (fun h83 => ?_) (fun h83 => ?_)
      · refine lv_aload_n (pc := 91) F.1 F.2.1 d_Mo_asks_91 rfl (lv_at hl 1 rfl) ?_
        refine lv_aload_n (pc := 92) F.1 F.2.1 d_Mo_asks_92 rfl (lv_at hl 1 rfl) ?_
        refine gM0_33 (pc := 93) F w (F.2.2.2.2 _ m_808) d_Mo_asks_93 ?_
        refine lv_iload_n (pc := 96) F.1 F.2.1 d_Mo_asks_96 rfl (lv_at hl 2 rfl) ?_
        refine lv_if_eq (pc := 97) F.1 F.2.1 d_Mo_asks_97 (tgt := 106) (by decide) (fun q => absurd q h83) (fun _ => ?_)
        refine lv_sipush (pc := 100) (v := 128) F.1 F.2.1 d_Mo_asks_100 (by decide) ?_
        refine lv_goto (pc := 103) F.1 F.2.1 d_Mo_asks_103 (tgt := 108) (by decide) ?_
        refine lv_ior (pc := 108) F.1 F.2.1 d_Mo_asks_108 ?_
        refine pM0_33 (pc := 109) F w (F.2.2.2.2 _ m_808) d_Mo_asks_109 (fun H locs s5 e_s5 w => ?_)
        refine lv_aload_n (pc := 112) F.1 F.2.1 d_Mo_asks_112 rfl (lv_at hl 1 rfl) ?_
        refine lv_iconst (pc := 113) (v := 1) F.1 F.2.1 d_Mo_asks_113 (by decide) ?_
        refine pM0_16 (pc := 114) F w (Or.inr rfl) (F.2.2.2.2 _ m_791) d_Mo_asks_114 (fun H locs s6 e_s6 w => ?_)
        exact Rv (pc := 117) F hr hlk w (by rw [e_v3, e_r1] at h83; rw [e_s6, e_s5]; exact Eq.symm (Eq.trans (if_neg h83) (rfl))) d_Mo_asks_117
      · refine lv_iload_n (pc := 86) F.1 F.2.1 d_Mo_asks_86 rfl (lv_at hl 0 rfl) ?_
        refine lv_if_ne (pc := 87) F.1 F.2.1 d_Mo_asks_87 (tgt := 91) (by decide) (fun h87 => ?_) (fun h87 => ?_)
        · refine lv_aload_n (pc := 91) F.1 F.2.1 d_Mo_asks_91 rfl (lv_at hl 1 rfl) ?_
          refine lv_aload_n (pc := 92) F.1 F.2.1 d_Mo_asks_92 rfl (lv_at hl 1 rfl) ?_
          refine gM0_33 (pc := 93) F w (F.2.2.2.2 _ m_808) d_Mo_asks_93 ?_
          refine lv_iload_n (pc := 96) F.1 F.2.1 d_Mo_asks_96 rfl (lv_at hl 2 rfl) ?_
          refine lv_if_eq (pc := 97) F.1 F.2.1 d_Mo_asks_97 (tgt := 106) (by decide) (fun _ => ?_) (fun q => absurd h83 q)
          refine lv_bipush (pc := 106) (v := 64) F.1 F.2.1 d_Mo_asks_106 (by decide) ?_
          refine lv_ior (pc := 108) F.1 F.2.1 d_Mo_asks_108 ?_
          refine pM0_33 (pc := 109) F w (F.2.2.2.2 _ m_808) d_Mo_asks_109 (fun H locs s7 e_s7 w => ?_)
          refine lv_aload_n (pc := 112) F.1 F.2.1 d_Mo_asks_112 rfl (lv_at hl 1 rfl) ?_
          refine lv_iconst (pc := 113) (v := 1) F.1 F.2.1 d_Mo_asks_113 (by decide) ?_
          refine pM0_16 (pc := 114) F w (Or.inr rfl) (F.2.2.2.2 _ m_791) d_Mo_asks_114 (fun H locs s8 e_s8 w => ?_)
          exact Rv (pc := 117) F hr hlk w (by rw [e_v3, e_r1] at h83; rw [e_v4] at h87; rw [e_s8, e_s7]; exact Eq.symm (Eq.trans (if_pos h83) (Eq.trans (if_neg h87) (rfl)))) d_Mo_asks_117
        · exact Rv (pc := 90) F hr hlk w (by rw [e_v3, e_r1] at h83; rw [e_v4] at h87; exact Eq.symm (Eq.trans (if_pos h83) (Eq.trans (if_pos h87) (rfl)))) d_Mo_asks_90
    · refine lv_icmp_ne (pc := 60) F.1 F.2.1 d_Mo_asks_60 (tgt := 80) (by decide) (fun h60 => ?_) (fun h60 => ?_)
      · refine lv_iconst (pc := 80) (v := 0) F.1 F.2.1 d_Mo_asks_80 (by decide) ?_
        exact k60 0 _ _ _ ⟨(by exact Eq.symm (Eq.trans (if_neg h60) (rfl))), w, lv_sub hl [1, 0] rfl⟩
      · refine lv_aload_n (pc := 63) F.1 F.2.1 d_Mo_asks_63 rfl (lv_at hl 1 rfl) ?_
        refine gM0_2 (pc := 64) F w (F.2.2.2.2 _ m_777) d_Mo_asks_64 ?_
        refine lv_bipush (pc := 67) (v := 6) F.1 F.2.1 d_Mo_asks_67 (by decide) ?_
        refine lM2 (pc := 69) F w (by unfold vp_in; decide) d_Mo_asks_69 ?_
        refine lv_bipush (pc := 70) (v := 64) F.1 F.2.1 d_Mo_asks_70 (by decide) ?_
        refine lv_iand (pc := 72) F.1 F.2.1 d_Mo_asks_72 ?_
        refine lv_if_eq (pc := 73) F.1 F.2.1 d_Mo_asks_73 (tgt := 80) (by decide) (fun h73 => ?_) (fun h73 => ?_)
        · refine lv_iconst (pc := 80) (v := 0) F.1 F.2.1 d_Mo_asks_80 (by decide) ?_
          exact k60 0 _ _ _ ⟨(by exact Eq.symm (Eq.trans (if_pos h60) (Eq.trans (if_pos h73) (rfl)))), w, lv_sub hl [1, 0] rfl⟩
        · refine lv_iconst (pc := 76) (v := 1) F.1 F.2.1 d_Mo_asks_76 (by decide) ?_
          refine lv_goto (pc := 77) F.1 F.2.1 d_Mo_asks_77 (tgt := 81) (by decide) ?_
          exact k60 1 _ _ _ ⟨(by exact Eq.symm (Eq.trans (if_pos h60) (Eq.trans (if_neg h73) (rfl)))), w, lv_sub hl [1, 0] rfl⟩
  · refine lv_if_eq (pc := 4) F.1 F.2.1 d_Mo_asks_4 (tgt := 52) (by decide) (fun h4 => ?_) (fun h4 => ?_)
    · refine lv_iconst (pc := 52) (v := 0) F.1 F.2.1 d_Mo_asks_52 (by decide) ?_
      exact k4 0 _ _ _ ⟨(by exact Eq.symm (Eq.trans (if_pos h4) (rfl))), w, lv_sub hl [0] rfl⟩
    · refine lv_aload_n (pc := 7) F.1 F.2.1 d_Mo_asks_7 rfl (lv_at hl 0 rfl) ?_
      refine Kvi (pc := 8) (As := []) (rest := []) F w (c_Mo_hasRows l D cI am σ) 0 rfl rfl k_Mo_hasRows m_958 (Nat.le_of_ble_eq_true rfl) (Nat.le_of_ble_eq_true rfl) ⟨rfl, rfl⟩ rfl hl.1 rfl (Nat.le_of_ble_eq_true rfl) d_Mo_asks_8 hcs (fun r2 H locs e_r2 w => ?_)
      refine lv_if_eq (pc := 11) F.1 F.2.1 d_Mo_asks_11 (tgt := 52) (by decide) (fun h11 => ?_) (fun h11 => ?_)
      · refine lv_iconst (pc := 52) (v := 0) F.1 F.2.1 d_Mo_asks_52 (by decide) ?_
        exact k4 0 _ _ _ ⟨(by rw [e_r2] at h11; exact Eq.symm (Eq.trans (if_neg h4) (Eq.trans (if_pos h11) (rfl)))), w, lv_sub hl [0] rfl⟩
      · refine lv_aload_n (pc := 14) F.1 F.2.1 d_Mo_asks_14 rfl (lv_at hl 0 rfl) ?_
        refine gM0_25 (pc := 15) F w (F.2.2.2.2 _ m_800) d_Mo_asks_15 ?_
        refine lv_if_eq (pc := 18) F.1 F.2.1 d_Mo_asks_18 (tgt := 52) (by decide) (fun h18 => ?_) (fun h18 => ?_)
        · refine lv_iconst (pc := 52) (v := 0) F.1 F.2.1 d_Mo_asks_52 (by decide) ?_
          exact k4 0 _ _ _ ⟨(by rw [e_r2] at h11; exact Eq.symm (Eq.trans (if_neg h4) (Eq.trans (if_neg h11) (Eq.trans (if_pos h18) (rfl))))), w, lv_sub hl [0] rfl⟩
        · refine lv_aload_n (pc := 21) F.1 F.2.1 d_Mo_asks_21 rfl (lv_at hl 0 rfl) ?_
          refine gM0_28 (pc := 22) F w (F.2.2.2.2 _ m_803) d_Mo_asks_22 ?_
          refine lv_aload_n (pc := 25) F.1 F.2.1 d_Mo_asks_25 rfl (lv_at hl 0 rfl) ?_
          refine gM0_29 (pc := 26) F w (F.2.2.2.2 _ m_804) d_Mo_asks_26 ?_
          refine lv_iconst (pc := 29) (v := 1) F.1 F.2.1 d_Mo_asks_29 (by decide) ?_
          refine lv_isub (pc := 30) F.1 F.2.1 d_Mo_asks_30 ?_
          refine lv_icmp_ne (pc := 31) F.1 F.2.1 d_Mo_asks_31 (tgt := 52) (by decide) (fun h31 => ?_) (fun h31 => ?_)
          · refine lv_iconst (pc := 52) (v := 0) F.1 F.2.1 d_Mo_asks_52 (by decide) ?_
            exact k4 0 _ _ _ ⟨(by rw [e_r2] at h11; exact Eq.symm (Eq.trans (if_neg h4) (Eq.trans (if_neg h11) (Eq.trans (if_neg h18) (Eq.trans (if_neg h31) (rfl)))))), w, lv_sub hl [0] rfl⟩
          · refine lv_aload_n (pc := 34) F.1 F.2.1 d_Mo_asks_34 rfl (lv_at hl 0 rfl) ?_
            refine gM0_2 (pc := 35) F w (F.2.2.2.2 _ m_777) d_Mo_asks_35 ?_
            refine lv_bipush (pc := 38) (v := 6) F.1 F.2.1 d_Mo_asks_38 (by decide) ?_
            refine lM2 (pc := 40) F w (by unfold vp_in; decide) d_Mo_asks_40 ?_
            refine lv_sipush (pc := 41) (v := 128) F.1 F.2.1 d_Mo_asks_41 (by decide) ?_
            refine lv_iand (pc := 44) F.1 F.2.1 d_Mo_asks_44 ?_
            refine lv_if_eq (pc := 45) F.1 F.2.1 d_Mo_asks_45 (tgt := 52) (by decide) (fun h45 => ?_) (fun h45 => ?_)
            · refine lv_iconst (pc := 52) (v := 0) F.1 F.2.1 d_Mo_asks_52 (by decide) ?_
              exact k4 0 _ _ _ ⟨(by rw [e_r2] at h11; exact Eq.symm (Eq.trans (if_neg h4) (Eq.trans (if_neg h11) (Eq.trans (if_neg h18) (Eq.trans (if_pos h31) (Eq.trans (if_pos h45) (rfl))))))), w, lv_sub hl [0] rfl⟩
            · refine lv_iconst (pc := 48) (v := 1) F.1 F.2.1 d_Mo_asks_48 (by decide) ?_
              refine lv_goto (pc := 49) F.1 F.2.1 d_Mo_asks_49 (tgt := 53) (by decide) ?_
              exact k4 1 _ _ _ ⟨(by rw [e_r2] at h11; exact Eq.symm (Eq.trans (if_neg h4) (Eq.trans (if_neg h11) (Eq.trans (if_neg h18) (Eq.trans (if_pos h31) (Eq.trans (if_neg h45) (rfl))))))), w, lv_sub hl [0] rfl⟩
def f_Mo_begin_r34 (x1 : Int32) (s5 : Sg) : Int32 := if (s5 0 27) = 0 then ((((x1 >>> ((4 : Int32) &&& 31)) &&& 7) + 1)) else (if (s5 0 27) = 2 then (4) else (if (s5 0 27) = 4 then (2) else (1)))
def f_Mo_begin_r80 (x1 : Int32) : Int32 := if x1 ≤ 127 then (0) else (1)
def f_Mo_begin_r95 (x1 : Int32) : Int32 := if (x1 &&& 64) = 0 then (0) else (1)
def f_Mo_begin_r110 (s9 : Sg) (v10 : Int32) : Int32 := if (s9 0 27) = 1 then (1) else (let r11 := f_Mo_in (s9 0 27) 2 4; if r11 = 0 then (0) else (if v10 = 0 then (0) else (1)))
def f_Mo_begin_r143 (v10 : Int32) (s13 : Sg) : Int32 := if (s13 0 27) = 1 then (if v10 = 0 then (0) else (1)) else (0)
def f_Mo_begin (σ : Sg) (x1 : Int32) : Sg := let r1 := f_Mo_moved (σ 0 20); let s2 := sf σ 0 20 r1; let s3 := sf s2 0 27 (x1 &&& 15); let s4 := sf s3 0 22 1; let s5 := sf s4 0 28 0; let v6 := (f_Mo_begin_r34 x1 s5); let s7 := sf s5 0 29 v6; let v8 := (f_Mo_begin_r80 x1); let s9 := sf s7 0 25 v8; let v10 := (f_Mo_begin_r95 x1); let v12 := (f_Mo_begin_r110 s9 v10); let s13 := sf s9 0 26 v12; let v14 := (f_Mo_begin_r143 v10 s13); let s15 := sf s13 0 24 v14; s15
theorem z_f_Mo_begin_r80_0 (x1 : Int32) : (f_Mo_begin_r80 x1) = 0 ∨ (f_Mo_begin_r80 x1) = 1 := by unfold f_Mo_begin_r80; (try dsimp only); (repeat' split) <;> first | exact Or.inl rfl | exact Or.inr rfl | apply z_Mo_in
theorem z_f_Mo_begin_r95_0 (x1 : Int32) : (f_Mo_begin_r95 x1) = 0 ∨ (f_Mo_begin_r95 x1) = 1 := by unfold f_Mo_begin_r95; (try dsimp only); (repeat' split) <;> first | exact Or.inl rfl | exact Or.inr rfl | apply z_f_Mo_begin_r80_0 | apply z_Mo_in
theorem z_f_Mo_begin_r110_0 (s9 : Sg) (v10 : Int32) : (f_Mo_begin_r110 s9 v10) = 0 ∨ (f_Mo_begin_r110 s9 v10) = 1 := by unfold f_Mo_begin_r110; (try dsimp only); (repeat' split) <;> first | exact Or.inl rfl | exact Or.inr rfl | apply z_f_Mo_begin_r95_0 | apply z_f_Mo_begin_r80_0 | apply z_Mo_in
theorem z_f_Mo_begin_r143_0 (v10 : Int32) (s13 : Sg) : (f_Mo_begin_r143 v10 s13) = 0 ∨ (f_Mo_begin_r143 v10 s13) = 1 := by unfold f_Mo_begin_r143; (try dsimp only); (repeat' split) <;> first | exact Or.inl rfl | exact Or.inr rfl | apply z_f_Mo_begin_r110_0 | apply z_f_Mo_begin_r95_0 | apply z_f_Mo_begin_r80_0 | apply z_Mo_in
set_option maxHeartbeats 1000000 in
set_option maxRecDepth 100000 in
theorem c_Mo_begin (l : Launch) (D : va_G) (cI : ClassId) (am : Nat → Nat) (σ : Sg) (x1 : Int32) : Met l y_Mo_begin (Cond.code y_Mo_begin b_Mo_begin 3 none :: al) { frames := 1, cells := 0, slots := 0, locals := 22 } (Px D cI (wM cI am) (AM am) σ [.ref (am 0), .int x1]) (va_Qv (fun u => u = f_Mo_begin σ x1) (Bx D cI (wM cI am) (AM am)) (AM am)) 0 0 (AM am) := by
  refine Mx l (by decide) (Nat.le_of_ble_eq_true rfl) ?_
  intro p e s m below meth c ls F w hr hlk hl
  have F : CallFix p m c b_Mo_begin 3 s _ al "PictureMachineModel" := F
  have hl : lv_has ls 3 [(0, .ref (am 0)), (1, .int x1)] := hl
  have hcs : (0 : Nat) ≤ 0 ∧ (0 : Nat) ≤ 0 := ⟨Nat.le_refl _, Nat.le_refl _⟩
  refine lv_aload_n (pc := 0) F.1 F.2.1 d_Mo_begin_0 rfl (lv_at hl 0 rfl) ?_
  refine lv_aload_n (pc := 1) F.1 F.2.1 d_Mo_begin_1 rfl (lv_at hl 0 rfl) ?_
  refine gM0_20 (pc := 2) F w (F.2.2.2.2 _ m_795) d_Mo_begin_2 ?_
  refine Usi (pc := 5) (As := [.int (σ 0 20)]) (rest := [.ref (am 0)]) F (c_Mo_moved l (σ 0 20)) k_Mo_moved m_974 (Nat.le_of_ble_eq_true rfl) (Nat.le_of_ble_eq_true rfl) ⟨rfl, rfl⟩ rfl hl.1 rfl (Nat.le_of_ble_eq_true rfl) d_Mo_begin_5 hcs (fun r1 e_r1 => ?_)
  refine pM0_20 (pc := 8) F w (F.2.2.2.2 _ m_795) d_Mo_begin_8 (fun H locs s2 e_s2 w => ?_)
  refine lv_aload_n (pc := 11) F.1 F.2.1 d_Mo_begin_11 rfl (lv_at hl 0 rfl) ?_
  refine lv_iload_n (pc := 12) F.1 F.2.1 d_Mo_begin_12 rfl (lv_at hl 1 rfl) ?_
  refine lv_bipush (pc := 13) (v := 15) F.1 F.2.1 d_Mo_begin_13 (by decide) ?_
  refine lv_iand (pc := 15) F.1 F.2.1 d_Mo_begin_15 ?_
  refine pM0_27 (pc := 16) F w (F.2.2.2.2 _ m_802) d_Mo_begin_16 (fun H locs s3 e_s3 w => ?_)
  refine lv_aload_n (pc := 19) F.1 F.2.1 d_Mo_begin_19 rfl (lv_at hl 0 rfl) ?_
  refine lv_iconst (pc := 20) (v := 1) F.1 F.2.1 d_Mo_begin_20 (by decide) ?_
  refine pM0_22 (pc := 21) F w (Or.inr rfl) (F.2.2.2.2 _ m_797) d_Mo_begin_21 (fun H locs s4 e_s4 w => ?_)
  refine lv_aload_n (pc := 24) F.1 F.2.1 d_Mo_begin_24 rfl (lv_at hl 0 rfl) ?_
  refine lv_iconst (pc := 25) (v := 0) F.1 F.2.1 d_Mo_begin_25 (by decide) ?_
  refine pM0_28 (pc := 26) F w (F.2.2.2.2 _ m_803) d_Mo_begin_26 (fun H locs s5 e_s5 w => ?_)
  refine lv_aload_n (pc := 29) F.1 F.2.1 d_Mo_begin_29 rfl (lv_at hl 0 rfl) ?_
  refine lv_aload_n (pc := 30) F.1 F.2.1 d_Mo_begin_30 rfl (lv_at hl 0 rfl) ?_
  refine gM0_27 (pc := 31) F w (F.2.2.2.2 _ m_802) d_Mo_begin_31 ?_
  refine cutW (α := Int32) (fun x H locs ls => x = f_Mo_begin_r34 x1 s5 ∧ Wx D cI (wM cI am) (AM am) (AM am) s s.heap H locs s5 ∧ lv_has ls 3 [(0, .ref (am 0)), (1, .int x1)]) (fun x ls => F0 m 73 ls [.int x, .ref (am 0)]) ?_ (fun k34 => ?_)
  · rintro v6 H locs ls ⟨ex, w, hl⟩
    have e_v6 := ex
    have w : Wx D cI (wM cI am) (AM am) (AM am) s s.heap H locs s5 := w
    have hl : lv_has ls 3 [(0, .ref (am 0)), (1, .int x1)] := hl
    show W _ _ _ _ _ _ _ _ _ _ _ _ _ _ _ (F0 m 73 ls [.int v6, .ref (am 0)])
    refine pM0_29 (pc := 73) F w (F.2.2.2.2 _ m_804) d_Mo_begin_73 (fun H locs s7 e_s7 w => ?_)
    refine lv_aload_n (pc := 76) F.1 F.2.1 d_Mo_begin_76 rfl (lv_at hl 0 rfl) ?_
    refine lv_iload_n (pc := 77) F.1 F.2.1 d_Mo_begin_77 rfl (lv_at hl 1 rfl) ?_
    refine lv_bipush (pc := 78) (v := 127) F.1 F.2.1 d_Mo_begin_78 (by decide) ?_
    refine cutW (α := Int32) (fun x H locs ls => x = f_Mo_begin_r80 x1 ∧ Wx D cI (wM cI am) (AM am) (AM am) s s.heap H locs s7 ∧ lv_has ls 3 [(0, .ref (am 0)), (1, .int x1)]) (fun x ls => F0 m 88 ls [.int x, .ref (am 0)]) ?_ (fun k80 => ?_)
    · rintro v8 H locs ls ⟨ex, w, hl⟩
      have e_v8 := ex
      have w : Wx D cI (wM cI am) (AM am) (AM am) s s.heap H locs s7 := w
      have hl : lv_has ls 3 [(0, .ref (am 0)), (1, .int x1)] := hl
      show W _ _ _ _ _ _ _ _ _ _ _ _ _ _ _ (F0 m 88 ls [.int v8, .ref (am 0)])
      refine pM0_25 (pc := 88) F w (e_v8 ▸ z_f_Mo_begin_r80_0 x1) (F.2.2.2.2 _ m_800) d_Mo_begin_88 (fun H locs s9 e_s9 w => ?_)
      refine lv_iload_n (pc := 91) F.1 F.2.1 d_Mo_begin_91 rfl (lv_at hl 1 rfl) ?_
      refine lv_bipush (pc := 92) (v := 64) F.1 F.2.1 d_Mo_begin_92 (by decide) ?_
      refine lv_iand (pc := 94) F.1 F.2.1 d_Mo_begin_94 ?_
      refine cutW (α := Int32) (fun x H locs ls => x = f_Mo_begin_r95 x1 ∧ Wx D cI (wM cI am) (AM am) (AM am) s s.heap H locs s9 ∧ lv_has ls 3 [(0, .ref (am 0)), (1, .int x1)]) (fun x ls => F0 m 103 ls [.int x]) ?_ (fun k95 => ?_)
      · rintro v10 H locs ls ⟨ex, w, hl⟩
        have e_v10 := ex
        have w : Wx D cI (wM cI am) (AM am) (AM am) s s.heap H locs s9 := w
        have hl : lv_has ls 3 [(0, .ref (am 0)), (1, .int x1)] := hl
        show W _ _ _ _ _ _ _ _ _ _ _ _ _ _ _ (F0 m 103 ls [.int v10])
        refine lv_istore_n (pc := 103) F.1 F.2.1 d_Mo_begin_103 rfl hl (by decide) rfl (fun ls hl => ?_)
        have hl : lv_has ls 3 [(2, .int v10), (0, .ref (am 0)), (1, .int x1)] := hl
        refine lv_aload_n (pc := 104) F.1 F.2.1 d_Mo_begin_104 rfl (lv_at hl 1 rfl) ?_
        refine lv_aload_n (pc := 105) F.1 F.2.1 d_Mo_begin_105 rfl (lv_at hl 1 rfl) ?_
        refine gM0_27 (pc := 106) F w (F.2.2.2.2 _ m_802) d_Mo_begin_106 ?_
        refine lv_iconst (pc := 109) (v := 1) F.1 F.2.1 d_Mo_begin_109 (by decide) ?_
        refine cutW (α := Int32) (fun x H locs ls => x = f_Mo_begin_r110 s9 v10 ∧ Wx D cI (wM cI am) (AM am) (AM am) s s.heap H locs s9 ∧ lv_has ls 3 [(0, .ref (am 0)), (1, .int x1), (2, .int v10)]) (fun x ls => F0 m 134 ls [.int x, .ref (am 0)]) ?_ (fun k110 => ?_)
        · rintro v12 H locs ls ⟨ex, w, hl⟩
          have e_v12 := ex
          have w : Wx D cI (wM cI am) (AM am) (AM am) s s.heap H locs s9 := w
          have hl : lv_has ls 3 [(0, .ref (am 0)), (1, .int x1), (2, .int v10)] := hl
          show W _ _ _ _ _ _ _ _ _ _ _ _ _ _ _ (F0 m 134 ls [.int v12, .ref (am 0)])
          refine pM0_26 (pc := 134) F w (e_v12 ▸ z_f_Mo_begin_r110_0 s9 v10) (F.2.2.2.2 _ m_801) d_Mo_begin_134 (fun H locs s13 e_s13 w => ?_)
          refine lv_aload_n (pc := 137) F.1 F.2.1 d_Mo_begin_137 rfl (lv_at hl 0 rfl) ?_
          refine lv_aload_n (pc := 138) F.1 F.2.1 d_Mo_begin_138 rfl (lv_at hl 0 rfl) ?_
          refine gM0_27 (pc := 139) F w (F.2.2.2.2 _ m_802) d_Mo_begin_139 ?_
          refine lv_iconst (pc := 142) (v := 1) F.1 F.2.1 d_Mo_begin_142 (by decide) ?_
          refine cutW (α := Int32) (fun x H locs ls => x = f_Mo_begin_r143 v10 s13 ∧ Wx D cI (wM cI am) (AM am) (AM am) s s.heap H locs s13 ∧ lv_has ls 3 [(0, .ref (am 0)), (1, .int x1), (2, .int v10)]) (fun x ls => F0 m 155 ls [.int x, .ref (am 0)]) ?_ (fun k143 => ?_)
          · rintro v14 H locs ls ⟨ex, w, hl⟩
            have e_v14 := ex
            have w : Wx D cI (wM cI am) (AM am) (AM am) s s.heap H locs s13 := w
            have hl : lv_has ls 3 [(0, .ref (am 0)), (1, .int x1), (2, .int v10)] := hl
            show W _ _ _ _ _ _ _ _ _ _ _ _ _ _ _ (F0 m 155 ls [.int v14, .ref (am 0)])
            refine pM0_24 (pc := 155) F w (e_v14 ▸ z_f_Mo_begin_r143_0 v10 s13) (F.2.2.2.2 _ m_799) d_Mo_begin_155 (fun H locs s15 e_s15 w => ?_)
            exact Rv (pc := 158) F hr hlk w (by rw [e_s15, e_v14, e_s13, e_v12, e_v10, e_s9, e_v8, e_s7, e_v6, e_s5, e_s4, e_s3, e_s2, e_r1]; exact Eq.symm (rfl)) d_Mo_begin_158
          · refine lv_icmp_ne (pc := 143) F.1 F.2.1 d_Mo_begin_143 (tgt := 154) (by decide) (fun h143 => ?_) (fun h143 => ?_)
            · refine lv_iconst (pc := 154) (v := 0) F.1 F.2.1 d_Mo_begin_154 (by decide) ?_
              exact k143 0 _ _ _ ⟨(by exact Eq.symm (Eq.trans (if_neg h143) (rfl))), w, lv_sub hl [0, 1, 2] rfl⟩
            · refine lv_iload_n (pc := 146) F.1 F.2.1 d_Mo_begin_146 rfl (lv_at hl 2 rfl) ?_
              refine lv_if_eq (pc := 147) F.1 F.2.1 d_Mo_begin_147 (tgt := 154) (by decide) (fun h147 => ?_) (fun h147 => ?_)
              · refine lv_iconst (pc := 154) (v := 0) F.1 F.2.1 d_Mo_begin_154 (by decide) ?_
                exact k143 0 _ _ _ ⟨(by exact Eq.symm (Eq.trans (if_pos h143) (Eq.trans (if_pos h147) (rfl)))), w, lv_sub hl [0, 1, 2] rfl⟩
              · refine lv_iconst (pc := 150) (v := 1) F.1 F.2.1 d_Mo_begin_150 (by decide) ?_
                refine lv_goto (pc := 151) F.1 F.2.1 d_Mo_begin_151 (tgt := 155) (by decide) ?_
                exact k143 1 _ _ _ ⟨(by exact Eq.symm (Eq.trans (if_pos h143) (Eq.trans (if_neg h147) (rfl)))), w, lv_sub hl [0, 1, 2] rfl⟩
        · refine lv_icmp_eq (pc := 110) F.1 F.2.1 d_Mo_begin_110 (tgt := 129) (by decide) (fun h110 => ?_) (fun h110 => ?_)
          · refine lv_iconst (pc := 129) (v := 1) F.1 F.2.1 d_Mo_begin_129 (by decide) ?_
            refine lv_goto (pc := 130) F.1 F.2.1 d_Mo_begin_130 (tgt := 134) (by decide) ?_
            exact k110 1 _ _ _ ⟨(by exact Eq.symm (Eq.trans (if_pos h110) (rfl))), w, lv_sub hl [1, 2, 0] rfl⟩
          · refine lv_aload_n (pc := 113) F.1 F.2.1 d_Mo_begin_113 rfl (lv_at hl 1 rfl) ?_
            refine gM0_27 (pc := 114) F w (F.2.2.2.2 _ m_802) d_Mo_begin_114 ?_
            refine lv_iconst (pc := 117) (v := 2) F.1 F.2.1 d_Mo_begin_117 (by decide) ?_
            refine lv_iconst (pc := 118) (v := 4) F.1 F.2.1 d_Mo_begin_118 (by decide) ?_
            refine Usi (pc := 119) (As := [.int (s9 0 27), .int 2, .int 4]) (rest := [.ref (am 0)]) F (c_Mo_in l (s9 0 27) 2 4) k_Mo_in m_931 (Nat.le_of_ble_eq_true rfl) (Nat.le_of_ble_eq_true rfl) ⟨rfl, rfl⟩ rfl hl.1 rfl (Nat.le_of_ble_eq_true rfl) d_Mo_begin_119 hcs (fun r11 e_r11 => ?_)
            refine lv_if_eq (pc := 122) F.1 F.2.1 d_Mo_begin_122 (tgt := 133) (by decide) (fun h122 => ?_) (fun h122 => ?_)
            · refine lv_iconst (pc := 133) (v := 0) F.1 F.2.1 d_Mo_begin_133 (by decide) ?_
              exact k110 0 _ _ _ ⟨(by rw [e_r11] at h122; exact Eq.symm (Eq.trans (if_neg h110) (Eq.trans (if_pos h122) (rfl)))), w, lv_sub hl [1, 2, 0] rfl⟩
            · refine lv_iload_n (pc := 125) F.1 F.2.1 d_Mo_begin_125 rfl (lv_at hl 0 rfl) ?_
              refine lv_if_eq (pc := 126) F.1 F.2.1 d_Mo_begin_126 (tgt := 133) (by decide) (fun h126 => ?_) (fun h126 => ?_)
              · refine lv_iconst (pc := 133) (v := 0) F.1 F.2.1 d_Mo_begin_133 (by decide) ?_
                exact k110 0 _ _ _ ⟨(by rw [e_r11] at h122; exact Eq.symm (Eq.trans (if_neg h110) (Eq.trans (if_neg h122) (Eq.trans (if_pos h126) (rfl))))), w, lv_sub hl [1, 2, 0] rfl⟩
              · refine lv_iconst (pc := 129) (v := 1) F.1 F.2.1 d_Mo_begin_129 (by decide) ?_
                refine lv_goto (pc := 130) F.1 F.2.1 d_Mo_begin_130 (tgt := 134) (by decide) ?_
                exact k110 1 _ _ _ ⟨(by rw [e_r11] at h122; exact Eq.symm (Eq.trans (if_neg h110) (Eq.trans (if_neg h122) (Eq.trans (if_neg h126) (rfl))))), w, lv_sub hl [1, 2, 0] rfl⟩
      · refine lv_if_eq (pc := 95) F.1 F.2.1 d_Mo_begin_95 (tgt := 102) (by decide) (fun h95 => ?_) (fun h95 => ?_)
        · refine lv_iconst (pc := 102) (v := 0) F.1 F.2.1 d_Mo_begin_102 (by decide) ?_
          exact k95 0 _ _ _ ⟨(by exact Eq.symm (Eq.trans (if_pos h95) (rfl))), w, lv_sub hl [0, 1] rfl⟩
        · refine lv_iconst (pc := 98) (v := 1) F.1 F.2.1 d_Mo_begin_98 (by decide) ?_
          refine lv_goto (pc := 99) F.1 F.2.1 d_Mo_begin_99 (tgt := 103) (by decide) ?_
          exact k95 1 _ _ _ ⟨(by exact Eq.symm (Eq.trans (if_neg h95) (rfl))), w, lv_sub hl [0, 1] rfl⟩
    · refine lv_icmp_le (pc := 80) F.1 F.2.1 d_Mo_begin_80 (tgt := 87) (by decide) (fun h80 => ?_) (fun h80 => ?_)
      · refine lv_iconst (pc := 87) (v := 0) F.1 F.2.1 d_Mo_begin_87 (by decide) ?_
        exact k80 0 _ _ _ ⟨(by exact Eq.symm (Eq.trans (if_pos h80) (rfl))), w, lv_sub hl [0, 1] rfl⟩
      · refine lv_iconst (pc := 83) (v := 1) F.1 F.2.1 d_Mo_begin_83 (by decide) ?_
        refine lv_goto (pc := 84) F.1 F.2.1 d_Mo_begin_84 (tgt := 88) (by decide) ?_
        exact k80 1 _ _ _ ⟨(by exact Eq.symm (Eq.trans (if_neg h80) (rfl))), w, lv_sub hl [0, 1] rfl⟩
  · refine lv_if_ne (pc := 34) F.1 F.2.1 d_Mo_begin_34 (tgt := 48) (by decide) (fun h34 => ?_) (fun h34 => ?_)
    · refine lv_aload_n (pc := 48) F.1 F.2.1 d_Mo_begin_48 rfl (lv_at hl 0 rfl) ?_
      refine gM0_27 (pc := 49) F w (F.2.2.2.2 _ m_802) d_Mo_begin_49 ?_
      refine lv_iconst (pc := 52) (v := 2) F.1 F.2.1 d_Mo_begin_52 (by decide) ?_
      refine lv_icmp_ne (pc := 53) F.1 F.2.1 d_Mo_begin_53 (tgt := 60) (by decide) (fun h53 => ?_) (fun h53 => ?_)
      · refine lv_aload_n (pc := 60) F.1 F.2.1 d_Mo_begin_60 rfl (lv_at hl 0 rfl) ?_
        refine gM0_27 (pc := 61) F w (F.2.2.2.2 _ m_802) d_Mo_begin_61 ?_
        refine lv_iconst (pc := 64) (v := 4) F.1 F.2.1 d_Mo_begin_64 (by decide) ?_
        refine lv_icmp_ne (pc := 65) F.1 F.2.1 d_Mo_begin_65 (tgt := 72) (by decide) (fun h65 => ?_) (fun h65 => ?_)
        · refine lv_iconst (pc := 72) (v := 1) F.1 F.2.1 d_Mo_begin_72 (by decide) ?_
          exact k34 1 _ _ _ ⟨(by exact Eq.symm (Eq.trans (if_neg h34) (Eq.trans (if_neg h53) (Eq.trans (if_neg h65) (rfl))))), w, lv_sub hl [0, 1] rfl⟩
        · refine lv_iconst (pc := 68) (v := 2) F.1 F.2.1 d_Mo_begin_68 (by decide) ?_
          refine lv_goto (pc := 69) F.1 F.2.1 d_Mo_begin_69 (tgt := 73) (by decide) ?_
          exact k34 2 _ _ _ ⟨(by exact Eq.symm (Eq.trans (if_neg h34) (Eq.trans (if_neg h53) (Eq.trans (if_pos h65) (rfl))))), w, lv_sub hl [0, 1] rfl⟩
      · refine lv_iconst (pc := 56) (v := 4) F.1 F.2.1 d_Mo_begin_56 (by decide) ?_
        refine lv_goto (pc := 57) F.1 F.2.1 d_Mo_begin_57 (tgt := 73) (by decide) ?_
        exact k34 4 _ _ _ ⟨(by exact Eq.symm (Eq.trans (if_neg h34) (Eq.trans (if_pos h53) (rfl)))), w, lv_sub hl [0, 1] rfl⟩
    · refine lv_iload_n (pc := 37) F.1 F.2.1 d_Mo_begin_37 rfl (lv_at hl 1 rfl) ?_
      refine lv_iconst (pc := 38) (v := 4) F.1 F.2.1 d_Mo_begin_38 (by decide) ?_
      refine lv_ishr (pc := 39) F.1 F.2.1 d_Mo_begin_39 ?_
      refine lv_bipush (pc := 40) (v := 7) F.1 F.2.1 d_Mo_begin_40 (by decide) ?_
      refine lv_iand (pc := 42) F.1 F.2.1 d_Mo_begin_42 ?_
      refine lv_iconst (pc := 43) (v := 1) F.1 F.2.1 d_Mo_begin_43 (by decide) ?_
      refine lv_iadd (pc := 44) F.1 F.2.1 d_Mo_begin_44 ?_
      refine lv_goto (pc := 45) F.1 F.2.1 d_Mo_begin_45 (tgt := 73) (by decide) ?_
      exact k34 (((x1 >>> ((4 : Int32) &&& 31)) &&& 7) + 1) _ _ _ ⟨(by exact Eq.symm (Eq.trans (if_pos h34) (rfl))), w, lv_sub hl [0, 1] rfl⟩
def f_Mo_addressed_r55 (r1 : Int32) (s3 : Sg) : Sg := if (s3 0 27) = 1 then (let s5 := sf s3 0 20 (((s3 0 30) + (256 * r1)) &&& 1023); s5) else (let s4 := sf s3 0 21 (((s3 0 30) + (256 * r1)) &&& 1023); s4)
def f_Mo_addressed (σ : Sg) : Int32 × Sg := let r1 := f_Mo_fetch σ (σ 0 20); let r2 := f_Mo_moved (σ 0 20); let s3 := sf σ 0 20 r2; if (s3 0 5) = 2 then (let s7 := sf s3 0 30 r1; (1, s7)) else (let s6 := (f_Mo_addressed_r55 r1 s3); (1, s6))
theorem z_Mo_addressed (σ : Sg) : (f_Mo_addressed σ ).1 = 0 ∨ (f_Mo_addressed σ ).1 = 1 := by unfold f_Mo_addressed; (try dsimp only); (repeat' split) <;> first | exact Or.inl rfl | exact Or.inr rfl
set_option maxHeartbeats 1000000 in
set_option maxRecDepth 100000 in
theorem c_Mo_addressed (l : Launch) (D : va_G) (cI : ClassId) (am : Nat → Nat) (σ : Sg) : Met l y_Mo_addressed (Cond.code y_Mo_addressed b_Mo_addressed 3 (some .boolean) :: al) { frames := 1, cells := 0, slots := 0, locals := 21 } (Px D cI (wM cI am) (AM am) σ [.ref (am 0)]) (va_Qi (fun r u => (r, u) = f_Mo_addressed σ ) (Bx D cI (wM cI am) (AM am)) (AM am)) 0 0 (AM am) := by
  refine Mx l (by decide) (Nat.le_of_ble_eq_true rfl) ?_
  intro p e s m below meth c ls F w hr hlk hl
  have F : CallFix p m c b_Mo_addressed 3 s _ al "PictureMachineModel" := F
  have hl : lv_has ls 3 [(0, .ref (am 0))] := hl
  have hcs : (0 : Nat) ≤ 0 ∧ (0 : Nat) ≤ 0 := ⟨Nat.le_refl _, Nat.le_refl _⟩
  refine lv_aload_n (pc := 0) F.1 F.2.1 d_Mo_addressed_0 rfl (lv_at hl 0 rfl) ?_
  refine lv_aload_n (pc := 1) F.1 F.2.1 d_Mo_addressed_1 rfl (lv_at hl 0 rfl) ?_
  refine gM0_20 (pc := 2) F w (F.2.2.2.2 _ m_795) d_Mo_addressed_2 ?_
  refine Kvi (pc := 5) (As := [.int (σ 0 20)]) (rest := []) F w (c_Mo_fetch l D cI am σ (σ 0 20)) 0 rfl rfl k_Mo_fetch m_962 (Nat.le_of_ble_eq_true rfl) (Nat.le_of_ble_eq_true rfl) ⟨rfl, rfl⟩ rfl hl.1 rfl (Nat.le_of_ble_eq_true rfl) d_Mo_addressed_5 hcs (fun r1 H locs e_r1 w => ?_)
  refine lv_istore_n (pc := 8) F.1 F.2.1 d_Mo_addressed_8 rfl hl (by decide) rfl (fun ls hl => ?_)
  have hl : lv_has ls 3 [(1, .int r1), (0, .ref (am 0))] := hl
  refine lv_aload_n (pc := 9) F.1 F.2.1 d_Mo_addressed_9 rfl (lv_at hl 1 rfl) ?_
  refine lv_aload_n (pc := 10) F.1 F.2.1 d_Mo_addressed_10 rfl (lv_at hl 1 rfl) ?_
  refine gM0_20 (pc := 11) F w (F.2.2.2.2 _ m_795) d_Mo_addressed_11 ?_
  refine Usi (pc := 14) (As := [.int (σ 0 20)]) (rest := [.ref (am 0)]) F (c_Mo_moved l (σ 0 20)) k_Mo_moved m_974 (Nat.le_of_ble_eq_true rfl) (Nat.le_of_ble_eq_true rfl) ⟨rfl, rfl⟩ rfl hl.1 rfl (Nat.le_of_ble_eq_true rfl) d_Mo_addressed_14 hcs (fun r2 e_r2 => ?_)
  refine pM0_20 (pc := 17) F w (F.2.2.2.2 _ m_795) d_Mo_addressed_17 (fun H locs s3 e_s3 w => ?_)
  refine lv_aload_n (pc := 20) F.1 F.2.1 d_Mo_addressed_20 rfl (lv_at hl 1 rfl) ?_
  refine gM0_5 (pc := 21) F w (F.2.2.2.2 _ m_780) d_Mo_addressed_21 ?_
  refine lv_iconst (pc := 24) (v := 2) F.1 F.2.1 d_Mo_addressed_24 (by decide) ?_
  refine lv_icmp_ne (pc := 25) F.1 F.2.1 d_Mo_addressed_25 (tgt := 35) (by decide) (fun h25 => ?_) (fun h25 => ?_)
  · refine lv_aload_n (pc := 35) F.1 F.2.1 d_Mo_addressed_35 rfl (lv_at hl 1 rfl) ?_
    refine gM0_30 (pc := 36) F w (F.2.2.2.2 _ m_805) d_Mo_addressed_36 ?_
    refine lv_sipush (pc := 39) (v := 256) F.1 F.2.1 d_Mo_addressed_39 (by decide) ?_
    refine lv_iload_n (pc := 42) F.1 F.2.1 d_Mo_addressed_42 rfl (lv_at hl 0 rfl) ?_
    refine lv_imul (pc := 43) F.1 F.2.1 d_Mo_addressed_43 ?_
    refine lv_iadd (pc := 44) F.1 F.2.1 d_Mo_addressed_44 ?_
    refine lv_sipush (pc := 45) (v := 1023) F.1 F.2.1 d_Mo_addressed_45 (by decide) ?_
    refine lv_iand (pc := 48) F.1 F.2.1 d_Mo_addressed_48 ?_
    refine lv_istore_n (pc := 49) F.1 F.2.1 d_Mo_addressed_49 rfl hl (by decide) rfl (fun ls hl => ?_)
    have hl : lv_has ls 3 [(2, .int (((s3 0 30) + (256 * r1)) &&& 1023)), (1, .int r1), (0, .ref (am 0))] := hl
    refine lv_aload_n (pc := 50) F.1 F.2.1 d_Mo_addressed_50 rfl (lv_at hl 2 rfl) ?_
    refine gM0_27 (pc := 51) F w (F.2.2.2.2 _ m_802) d_Mo_addressed_51 ?_
    refine lv_iconst (pc := 54) (v := 1) F.1 F.2.1 d_Mo_addressed_54 (by decide) ?_
    refine cutW (α := Sg) (fun x H locs ls => x = f_Mo_addressed_r55 r1 s3 ∧ Wx D cI (wM cI am) (AM am) (AM am) s s.heap H locs x ∧ lv_has ls 3 [(0, .ref (am 0)), (1, .int r1), (2, .int (((s3 0 30) + (256 * r1)) &&& 1023))]) (fun x ls => F0 m 71 ls []) ?_ (fun k55 => ?_)
    · rintro s6 H locs ls ⟨ex, w, hl⟩
      have e_s6 := ex
      have w : Wx D cI (wM cI am) (AM am) (AM am) s s.heap H locs s6 := w
      have hl : lv_has ls 3 [(0, .ref (am 0)), (1, .int r1), (2, .int (((s3 0 30) + (256 * r1)) &&& 1023))] := hl
      show W _ _ _ _ _ _ _ _ _ _ _ _ _ _ _ (F0 m 71 ls [])
      refine lv_iconst (pc := 71) (v := 1) F.1 F.2.1 d_Mo_addressed_71 (by decide) ?_
      exact Rz (pc := 72) F hr hlk w (Or.inr rfl) (by rw [e_s3, e_r2] at h25; rw [e_s6, e_s3, e_r2, e_r1]; exact Eq.symm (Eq.trans (if_neg h25) (rfl))) d_Mo_addressed_72
    · refine lv_icmp_ne (pc := 55) F.1 F.2.1 d_Mo_addressed_55 (tgt := 66) (by decide) (fun h55 => ?_) (fun h55 => ?_)
      · refine lv_aload_n (pc := 66) F.1 F.2.1 d_Mo_addressed_66 rfl (lv_at hl 2 rfl) ?_
        refine lv_iload_n (pc := 67) F.1 F.2.1 d_Mo_addressed_67 rfl (lv_at hl 0 rfl) ?_
        refine pM0_21 (pc := 68) F w (F.2.2.2.2 _ m_796) d_Mo_addressed_68 (fun H locs s4 e_s4 w => ?_)
        exact k55 s4 _ _ _ ⟨(by rw [e_s4]; exact Eq.symm (Eq.trans (if_neg h55) (rfl))), w, lv_sub hl [2, 1, 0] rfl⟩
      · refine lv_aload_n (pc := 58) F.1 F.2.1 d_Mo_addressed_58 rfl (lv_at hl 2 rfl) ?_
        refine lv_iload_n (pc := 59) F.1 F.2.1 d_Mo_addressed_59 rfl (lv_at hl 0 rfl) ?_
        refine pM0_20 (pc := 60) F w (F.2.2.2.2 _ m_795) d_Mo_addressed_60 (fun H locs s5 e_s5 w => ?_)
        refine lv_goto (pc := 63) F.1 F.2.1 d_Mo_addressed_63 (tgt := 71) (by decide) ?_
        exact k55 s5 _ _ _ ⟨(by rw [e_s5]; exact Eq.symm (Eq.trans (if_pos h55) (rfl))), w, lv_sub hl [2, 1, 0] rfl⟩
  · refine lv_aload_n (pc := 28) F.1 F.2.1 d_Mo_addressed_28 rfl (lv_at hl 1 rfl) ?_
    refine lv_iload_n (pc := 29) F.1 F.2.1 d_Mo_addressed_29 rfl (lv_at hl 0 rfl) ?_
    refine pM0_30 (pc := 30) F w (F.2.2.2.2 _ m_805) d_Mo_addressed_30 (fun H locs s7 e_s7 w => ?_)
    refine lv_iconst (pc := 33) (v := 1) F.1 F.2.1 d_Mo_addressed_33 (by decide) ?_
    exact Rz (pc := 34) F hr hlk w (Or.inr rfl) (by rw [e_s3, e_r2] at h25; rw [e_s7, e_s3, e_r2, e_r1]; exact Eq.symm (Eq.trans (if_pos h25) (rfl))) d_Mo_addressed_34
