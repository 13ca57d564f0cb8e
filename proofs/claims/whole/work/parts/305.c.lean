def f_Pc_drawnDot_r16 (σ : Sg) (x2 : Int32) (r1 : Int32) : Sg := if r1 = 0 then (σ) else (let s3 := f_Pc_collide σ 0 x2; s3)
def f_Pc_drawnDot_r27 (x2 : Int32) (r2 : Int32) (s4 : Sg) : Sg := if r2 = 0 then (s4) else (let s5 := f_Pc_collide s4 1 x2; s5)
def f_Pc_drawnDot_r37 (r1 : Int32) (r2 : Int32) (s6 : Sg) : Sg := if r1 = 0 then (s6) else (if r2 = 0 then (s6) else (let s7 := sf s6 7 4 1; s7))
def f_Pc_drawnDot_r59 (x2 : Int32) (s8 : Sg) : Int32 := if ((s8 11 (17 : Int32).toNatClampNeg) &&& 1) = 0 then (0) else (if x2 = 0 then (0) else (1))
def f_Pc_drawnDot (σ : Sg) (x1 : Int32) (x2 : Int32) : Int32 × Sg := let r1 := f_Pc_covers σ 0 x1; let r2 := f_Pc_covers σ 1 x1; let s4 := (f_Pc_drawnDot_r16 σ x2 r1); let s6 := (f_Pc_drawnDot_r27 x2 r2 s4); let s8 := (f_Pc_drawnDot_r37 r1 r2 s6); let v9 := (f_Pc_drawnDot_r59 x2 s8); if v9 = 0 then (if r1 = 0 then (if r2 = 0 then (((s8 11 (8 + x2).toNatClampNeg), s8)) else (((s8 11 (13 : Int32).toNatClampNeg), s8))) else (((s8 11 (12 : Int32).toNatClampNeg), s8))) else (((s8 11 (8 + x2).toNatClampNeg), s8))
theorem z_f_Pc_drawnDot_r59_0 (x2 : Int32) (s8 : Sg) : (f_Pc_drawnDot_r59 x2 s8) = 0 ∨ (f_Pc_drawnDot_r59 x2 s8) = 1 := by unfold f_Pc_drawnDot_r59; (try dsimp only); (repeat' split) <;> first | exact Or.inl rfl | exact Or.inr rfl | apply z_Pc_covers
set_option maxHeartbeats 1000000 in
set_option maxRecDepth 100000 in
theorem c_Pc_drawnDot (l : Launch) (D : va_G) (cI : ClassId) (ad : Nat → Nat) (σ : Sg) (x1 : Int32) (x2 : Int32) (hq : bt2 0 x2 3) : Met l y_Pc_drawnDot (Cond.code y_Pc_drawnDot b_Pc_drawnDot 6 (some .int) :: al) { frames := 1, cells := 0, slots := 0, locals := 25 } (Px D cI (wC cI ad) (AC ad) σ [.ref (ad 7), .int x1, .int x2]) (va_Qi (fun r u => (r, u) = f_Pc_drawnDot σ x1 x2) (Bx D cI (wC cI ad) (AC ad)) (AC ad)) 0 0 (AC ad) := by
  refine Mx l (by decide) (Nat.le_of_ble_eq_true rfl) ?_
  intro p e s m below meth c ls F w hr hlk hl
  have F : CallFix p m c b_Pc_drawnDot 6 s _ al "PictureMachine$Picture" := F
  have hl : lv_has ls 6 [(0, .ref (ad 7)), (1, .int x1), (2, .int x2)] := hl
  have hcs : (0 : Nat) ≤ 0 ∧ (0 : Nat) ≤ 0 := ⟨Nat.le_refl _, Nat.le_refl _⟩
  refine lv_aload_n (pc := 0) F.1 F.2.1 d_Pc_drawnDot_0 rfl (lv_at hl 0 rfl) ?_
  refine lv_iconst (pc := 1) (v := 0) F.1 F.2.1 d_Pc_drawnDot_1 (by decide) ?_
  refine lv_iload_n (pc := 2) F.1 F.2.1 d_Pc_drawnDot_2 rfl (lv_at hl 1 rfl) ?_
  refine Kvi (pc := 3) (As := [.int 0, .int x1]) (rest := []) F w (c_Pc_covers l D cI ad σ 0 x1 (Or.inl rfl)) 7 rfl rfl k_Pc_covers m_722 (Nat.le_of_ble_eq_true rfl) (Nat.le_of_ble_eq_true rfl) ⟨rfl, rfl⟩ rfl hl.1 rfl (Nat.le_of_ble_eq_true rfl) d_Pc_drawnDot_3 hcs (fun r1 H locs e_r1 w => ?_)
  refine lv_istore_n (pc := 6) F.1 F.2.1 d_Pc_drawnDot_6 rfl hl (by decide) rfl (fun ls hl => ?_)
  have hl : lv_has ls 6 [(3, .int r1), (0, .ref (ad 7)), (1, .int x1), (2, .int x2)] := hl
  refine lv_aload_n (pc := 7) F.1 F.2.1 d_Pc_drawnDot_7 rfl (lv_at hl 1 rfl) ?_
  refine lv_iconst (pc := 8) (v := 1) F.1 F.2.1 d_Pc_drawnDot_8 (by decide) ?_
  refine lv_iload_n (pc := 9) F.1 F.2.1 d_Pc_drawnDot_9 rfl (lv_at hl 2 rfl) ?_
  refine Kvi (pc := 10) (As := [.int 1, .int x1]) (rest := []) F w (c_Pc_covers l D cI ad σ 1 x1 (Or.inr rfl)) 7 rfl rfl k_Pc_covers m_722 (Nat.le_of_ble_eq_true rfl) (Nat.le_of_ble_eq_true rfl) ⟨rfl, rfl⟩ rfl hl.1 rfl (Nat.le_of_ble_eq_true rfl) d_Pc_drawnDot_10 hcs (fun r2 H locs e_r2 w => ?_)
  refine lv_istore (pc := 13) F.1 F.2.1 d_Pc_drawnDot_13 hl (by decide) rfl (fun ls hl => ?_)
  have hl : lv_has ls 6 [(4, .int r2), (3, .int r1), (0, .ref (ad 7)), (1, .int x1), (2, .int x2)] := hl
  refine lv_iload_n (pc := 15) F.1 F.2.1 d_Pc_drawnDot_15 rfl (lv_at hl 1 rfl) ?_
  refine cutW (α := Sg) (fun x H locs ls => x = f_Pc_drawnDot_r16 σ x2 r1 ∧ Wx D cI (wC cI ad) (AC ad) (AC ad) s s.heap H locs x ∧ lv_has ls 6 [(0, .ref (ad 7)), (1, .int x1), (2, .int x2), (3, .int r1), (4, .int r2)]) (fun x ls => F0 m 25 ls []) ?_ (fun k16 => ?_)
  · rintro s4 H locs ls ⟨ex, w, hl⟩
    have e_s4 := ex
    have w : Wx D cI (wC cI ad) (AC ad) (AC ad) s s.heap H locs s4 := w
    have hl : lv_has ls 6 [(0, .ref (ad 7)), (1, .int x1), (2, .int x2), (3, .int r1), (4, .int r2)] := hl
    show W _ _ _ _ _ _ _ _ _ _ _ _ _ _ _ (F0 m 25 ls [])
    refine lv_iload (pc := 25) F.1 F.2.1 d_Pc_drawnDot_25 (lv_at hl 4 rfl) ?_
    refine cutW (α := Sg) (fun x H locs ls => x = f_Pc_drawnDot_r27 x2 r2 s4 ∧ Wx D cI (wC cI ad) (AC ad) (AC ad) s s.heap H locs x ∧ lv_has ls 6 [(0, .ref (ad 7)), (1, .int x1), (2, .int x2), (3, .int r1), (4, .int r2)]) (fun x ls => F0 m 36 ls []) ?_ (fun k27 => ?_)
    · rintro s6 H locs ls ⟨ex, w, hl⟩
      have e_s6 := ex
      have w : Wx D cI (wC cI ad) (AC ad) (AC ad) s s.heap H locs s6 := w
      have hl : lv_has ls 6 [(0, .ref (ad 7)), (1, .int x1), (2, .int x2), (3, .int r1), (4, .int r2)] := hl
      show W _ _ _ _ _ _ _ _ _ _ _ _ _ _ _ (F0 m 36 ls [])
      refine lv_iload_n (pc := 36) F.1 F.2.1 d_Pc_drawnDot_36 rfl (lv_at hl 3 rfl) ?_
      refine cutW (α := Sg) (fun x H locs ls => x = f_Pc_drawnDot_r37 r1 r2 s6 ∧ Wx D cI (wC cI ad) (AC ad) (AC ad) s s.heap H locs x ∧ lv_has ls 6 [(0, .ref (ad 7)), (1, .int x1), (2, .int x2), (3, .int r1), (4, .int r2)]) (fun x ls => F0 m 50 ls []) ?_ (fun k37 => ?_)
      · rintro s8 H locs ls ⟨ex, w, hl⟩
        have e_s8 := ex
        have w : Wx D cI (wC cI ad) (AC ad) (AC ad) s s.heap H locs s8 := w
        have hl : lv_has ls 6 [(0, .ref (ad 7)), (1, .int x1), (2, .int x2), (3, .int r1), (4, .int r2)] := hl
        show W _ _ _ _ _ _ _ _ _ _ _ _ _ _ _ (F0 m 50 ls [])
        refine lv_aload_n (pc := 50) F.1 F.2.1 d_Pc_drawnDot_50 rfl (lv_at hl 0 rfl) ?_
        refine gC7_1 (pc := 51) F w (F.2.2.2.2 _ m_208) d_Pc_drawnDot_51 ?_
        refine lv_bipush (pc := 54) (v := 17) F.1 F.2.1 d_Pc_drawnDot_54 (by decide) ?_
        refine lC11 (pc := 56) F w (by unfold vp_in; decide) d_Pc_drawnDot_56 ?_
        refine lv_iconst (pc := 57) (v := 1) F.1 F.2.1 d_Pc_drawnDot_57 (by decide) ?_
        refine lv_iand (pc := 58) F.1 F.2.1 d_Pc_drawnDot_58 ?_
        refine cutW (α := Int32) (fun x H locs ls => x = f_Pc_drawnDot_r59 x2 s8 ∧ Wx D cI (wC cI ad) (AC ad) (AC ad) s s.heap H locs s8 ∧ lv_has ls 6 [(0, .ref (ad 7)), (1, .int x1), (2, .int x2), (3, .int r1), (4, .int r2)]) (fun x ls => F0 m 71 ls [.int x]) ?_ (fun k59 => ?_)
        · rintro v9 H locs ls ⟨ex, w, hl⟩
          have e_v9 := ex
          have w : Wx D cI (wC cI ad) (AC ad) (AC ad) s s.heap H locs s8 := w
          have hl : lv_has ls 6 [(0, .ref (ad 7)), (1, .int x1), (2, .int x2), (3, .int r1), (4, .int r2)] := hl
          show W _ _ _ _ _ _ _ _ _ _ _ _ _ _ _ (F0 m 71 ls [.int v9])
          refine lv_istore (pc := 71) F.1 F.2.1 d_Pc_drawnDot_71 hl (by decide) rfl (fun ls hl => ?_)
          have hl : lv_has ls 6 [(5, .int v9), (0, .ref (ad 7)), (1, .int x1), (2, .int x2), (3, .int r1), (4, .int r2)] := hl
          refine lv_iload (pc := 73) F.1 F.2.1 d_Pc_drawnDot_73 (lv_at hl 0 rfl) ?_
          refine lv_if_ne (pc := 75) F.1 F.2.1 d_Pc_drawnDot_75 (tgt := 87) (by decide) (fun h75 => ?_) (fun h75 => ?_)
          · refine lv_aload_n (pc := 87) F.1 F.2.1 d_Pc_drawnDot_87 rfl (lv_at hl 1 rfl) ?_
            refine gC7_1 (pc := 88) F w (F.2.2.2.2 _ m_208) d_Pc_drawnDot_88 ?_
            refine lv_bipush (pc := 91) (v := 8) F.1 F.2.1 d_Pc_drawnDot_91 (by decide) ?_
            refine lv_iload_n (pc := 93) F.1 F.2.1 d_Pc_drawnDot_93 rfl (lv_at hl 3 rfl) ?_
            refine lv_iadd (pc := 94) F.1 F.2.1 d_Pc_drawnDot_94 ?_
            refine lC11 (pc := 95) F w (col_in hq) d_Pc_drawnDot_95 ?_
            exact Ri (pc := 96) F hr hlk w (by rw [e_v9, e_s8, e_s6, e_s4, e_r2, e_r1] at h75; rw [e_s8, e_s6, e_s4, e_r2, e_r1]; exact Eq.symm (Eq.trans (if_neg h75) (rfl))) d_Pc_drawnDot_96
          · refine lv_iload_n (pc := 78) F.1 F.2.1 d_Pc_drawnDot_78 rfl (lv_at hl 4 rfl) ?_
            refine lv_if_ne (pc := 79) F.1 F.2.1 d_Pc_drawnDot_79 (tgt := 97) (by decide) (fun h79 => ?_) (fun h79 => ?_)
            · refine lv_aload_n (pc := 97) F.1 F.2.1 d_Pc_drawnDot_97 rfl (lv_at hl 1 rfl) ?_
              refine gC7_1 (pc := 98) F w (F.2.2.2.2 _ m_208) d_Pc_drawnDot_98 ?_
              refine lv_iload_n (pc := 101) F.1 F.2.1 d_Pc_drawnDot_101 rfl (lv_at hl 4 rfl) ?_
              refine lv_if_eq (pc := 102) F.1 F.2.1 d_Pc_drawnDot_102 (tgt := 110) (by decide) (fun q => absurd q h79) (fun _ => ?_)
              refine lv_bipush (pc := 105) (v := 12) F.1 F.2.1 d_Pc_drawnDot_105 (by decide) ?_
              refine lv_goto (pc := 107) F.1 F.2.1 d_Pc_drawnDot_107 (tgt := 112) (by decide) ?_
              refine lC11 (pc := 112) F w (by unfold vp_in; decide) d_Pc_drawnDot_112 ?_
              exact Ri (pc := 113) F hr hlk w (by rw [e_v9, e_s8, e_s6, e_s4, e_r2, e_r1] at h75; rw [e_r1] at h79; rw [e_s8, e_s6, e_s4, e_r2, e_r1]; exact Eq.symm (Eq.trans (if_pos h75) (Eq.trans (if_neg h79) (rfl)))) d_Pc_drawnDot_113
            · refine lv_iload (pc := 82) F.1 F.2.1 d_Pc_drawnDot_82 (lv_at hl 5 rfl) ?_
              refine lv_if_ne (pc := 84) F.1 F.2.1 d_Pc_drawnDot_84 (tgt := 97) (by decide) (fun h84 => ?_) (fun h84 => ?_)
              · refine lv_aload_n (pc := 97) F.1 F.2.1 d_Pc_drawnDot_97 rfl (lv_at hl 1 rfl) ?_
                refine gC7_1 (pc := 98) F w (F.2.2.2.2 _ m_208) d_Pc_drawnDot_98 ?_
                refine lv_iload_n (pc := 101) F.1 F.2.1 d_Pc_drawnDot_101 rfl (lv_at hl 4 rfl) ?_
                refine lv_if_eq (pc := 102) F.1 F.2.1 d_Pc_drawnDot_102 (tgt := 110) (by decide) (fun _ => ?_) (fun q => absurd h79 q)
                refine lv_bipush (pc := 110) (v := 13) F.1 F.2.1 d_Pc_drawnDot_110 (by decide) ?_
                refine lC11 (pc := 112) F w (by unfold vp_in; decide) d_Pc_drawnDot_112 ?_
                exact Ri (pc := 113) F hr hlk w (by rw [e_v9, e_s8, e_s6, e_s4, e_r2, e_r1] at h75; rw [e_r1] at h79; rw [e_r2] at h84; rw [e_s8, e_s6, e_s4, e_r2, e_r1]; exact Eq.symm (Eq.trans (if_pos h75) (Eq.trans (if_pos h79) (Eq.trans (if_neg h84) (rfl))))) d_Pc_drawnDot_113
              · refine lv_aload_n (pc := 87) F.1 F.2.1 d_Pc_drawnDot_87 rfl (lv_at hl 1 rfl) ?_
                refine gC7_1 (pc := 88) F w (F.2.2.2.2 _ m_208) d_Pc_drawnDot_88 ?_
                refine lv_bipush (pc := 91) (v := 8) F.1 F.2.1 d_Pc_drawnDot_91 (by decide) ?_
                refine lv_iload_n (pc := 93) F.1 F.2.1 d_Pc_drawnDot_93 rfl (lv_at hl 3 rfl) ?_
                refine lv_iadd (pc := 94) F.1 F.2.1 d_Pc_drawnDot_94 ?_
                refine lC11 (pc := 95) F w (col_in hq) d_Pc_drawnDot_95 ?_
                exact Ri (pc := 96) F hr hlk w (by rw [e_v9, e_s8, e_s6, e_s4, e_r2, e_r1] at h75; rw [e_r1] at h79; rw [e_r2] at h84; rw [e_s8, e_s6, e_s4, e_r2, e_r1]; exact Eq.symm (Eq.trans (if_pos h75) (Eq.trans (if_pos h79) (Eq.trans (if_pos h84) (rfl))))) d_Pc_drawnDot_96
        · refine lv_if_eq (pc := 59) F.1 F.2.1 d_Pc_drawnDot_59 (tgt := 70) (by decide) (fun h59 => ?_) (fun h59 => ?_)
          · refine lv_iconst (pc := 70) (v := 0) F.1 F.2.1 d_Pc_drawnDot_70 (by decide) ?_
            exact k59 0 _ _ _ ⟨(by exact Eq.symm (Eq.trans (if_pos h59) (rfl))), w, lv_sub hl [0, 1, 2, 3, 4] rfl⟩
          · refine lv_iload_n (pc := 62) F.1 F.2.1 d_Pc_drawnDot_62 rfl (lv_at hl 2 rfl) ?_
            refine lv_if_eq (pc := 63) F.1 F.2.1 d_Pc_drawnDot_63 (tgt := 70) (by decide) (fun h63 => ?_) (fun h63 => ?_)
            · refine lv_iconst (pc := 70) (v := 0) F.1 F.2.1 d_Pc_drawnDot_70 (by decide) ?_
              exact k59 0 _ _ _ ⟨(by exact Eq.symm (Eq.trans (if_neg h59) (Eq.trans (if_pos h63) (rfl)))), w, lv_sub hl [0, 1, 2, 3, 4] rfl⟩
            · refine lv_iconst (pc := 66) (v := 1) F.1 F.2.1 d_Pc_drawnDot_66 (by decide) ?_
              refine lv_goto (pc := 67) F.1 F.2.1 d_Pc_drawnDot_67 (tgt := 71) (by decide) ?_
              exact k59 1 _ _ _ ⟨(by exact Eq.symm (Eq.trans (if_neg h59) (Eq.trans (if_neg h63) (rfl)))), w, lv_sub hl [0, 1, 2, 3, 4] rfl⟩
      · refine lv_if_eq (pc := 37) F.1 F.2.1 d_Pc_drawnDot_37 (tgt := 50) (by decide) (fun h37 => ?_) (fun h37 => ?_)
        · exact k37 s6 _ _ _ ⟨(by exact Eq.symm (Eq.trans (if_pos h37) (rfl))), w, lv_sub hl [0, 1, 2, 3, 4] rfl⟩
        · refine lv_iload (pc := 40) F.1 F.2.1 d_Pc_drawnDot_40 (lv_at hl 4 rfl) ?_
          refine lv_if_eq (pc := 42) F.1 F.2.1 d_Pc_drawnDot_42 (tgt := 50) (by decide) (fun h42 => ?_) (fun h42 => ?_)
          · exact k37 s6 _ _ _ ⟨(by exact Eq.symm (Eq.trans (if_neg h37) (Eq.trans (if_pos h42) (rfl)))), w, lv_sub hl [0, 1, 2, 3, 4] rfl⟩
          · refine lv_aload_n (pc := 45) F.1 F.2.1 d_Pc_drawnDot_45 rfl (lv_at hl 0 rfl) ?_
            refine lv_iconst (pc := 46) (v := 1) F.1 F.2.1 d_Pc_drawnDot_46 (by decide) ?_
            refine pC7_4 (pc := 47) F w (Or.inr rfl) (F.2.2.2.2 _ m_214) d_Pc_drawnDot_47 (fun H locs s7 e_s7 w => ?_)
            exact k37 s7 _ _ _ ⟨(by rw [e_s7]; exact Eq.symm (Eq.trans (if_neg h37) (Eq.trans (if_neg h42) (rfl)))), w, lv_sub hl [0, 1, 2, 3, 4] rfl⟩
    · refine lv_if_eq (pc := 27) F.1 F.2.1 d_Pc_drawnDot_27 (tgt := 36) (by decide) (fun h27 => ?_) (fun h27 => ?_)
      · exact k27 s4 _ _ _ ⟨(by exact Eq.symm (Eq.trans (if_pos h27) (rfl))), w, lv_sub hl [0, 1, 2, 3, 4] rfl⟩
      · refine lv_aload_n (pc := 30) F.1 F.2.1 d_Pc_drawnDot_30 rfl (lv_at hl 0 rfl) ?_
        refine lv_iconst (pc := 31) (v := 1) F.1 F.2.1 d_Pc_drawnDot_31 (by decide) ?_
        refine lv_iload_n (pc := 32) F.1 F.2.1 d_Pc_drawnDot_32 rfl (lv_at hl 2 rfl) ?_
        refine Cvv (pc := 33) (As := [.int 1, .int x2]) (rest := []) F w (c_Pc_collide l D cI ad s4 1 x2 (Or.inr rfl)) 7 rfl rfl k_Pc_collide m_726 (Nat.le_of_ble_eq_true rfl) (Nat.le_of_ble_eq_true rfl) ⟨rfl, rfl⟩ rfl hl.1 rfl (Nat.le_of_ble_eq_true rfl) d_Pc_drawnDot_33 hcs (fun s5 H locs e_s5 w => ?_)
        exact k27 s5 _ _ _ ⟨(by rw [e_s5]; exact Eq.symm (Eq.trans (if_neg h27) (rfl))), w, lv_sub hl [0, 1, 2, 3, 4] rfl⟩
  · refine lv_if_eq (pc := 16) F.1 F.2.1 d_Pc_drawnDot_16 (tgt := 25) (by decide) (fun h16 => ?_) (fun h16 => ?_)
    · exact k16 σ _ _ _ ⟨(by exact Eq.symm (Eq.trans (if_pos h16) (rfl))), w, lv_sub hl [2, 3, 4, 1, 0] rfl⟩
    · refine lv_aload_n (pc := 19) F.1 F.2.1 d_Pc_drawnDot_19 rfl (lv_at hl 2 rfl) ?_
      refine lv_iconst (pc := 20) (v := 0) F.1 F.2.1 d_Pc_drawnDot_20 (by decide) ?_
      refine lv_iload_n (pc := 21) F.1 F.2.1 d_Pc_drawnDot_21 rfl (lv_at hl 4 rfl) ?_
      refine Cvv (pc := 22) (As := [.int 0, .int x2]) (rest := []) F w (c_Pc_collide l D cI ad σ 0 x2 (Or.inl rfl)) 7 rfl rfl k_Pc_collide m_726 (Nat.le_of_ble_eq_true rfl) (Nat.le_of_ble_eq_true rfl) ⟨rfl, rfl⟩ rfl hl.1 rfl (Nat.le_of_ble_eq_true rfl) d_Pc_drawnDot_22 hcs (fun s3 H locs e_s3 w => ?_)
      exact k16 s3 _ _ _ ⟨(by rw [e_s3]; exact Eq.symm (Eq.trans (if_neg h16) (rfl))), w, lv_sub hl [2, 3, 4, 1, 0] rfl⟩
def bd_Pc_drawLine_26 (r1 : Int32) (s2 : Sg) (j7 : Nat) (r3 : Int32) (s4 : Sg) (j26 : Nat) : Sg := let r5 := (f_Pc_drawnDot s4 ((4 * (0 + nI j7)) + (0 + nI j26)) ((r3 >>> ((6 - (2 * (0 + nI j26))) &&& 31)) &&& 3)).1; let s6 := (f_Pc_drawnDot s4 ((4 * (0 + nI j7)) + (0 + nI j26)) ((r3 >>> ((6 - (2 * (0 + nI j26))) &&& 31)) &&& 3)).2; let s7 := sf s6 14 (r1 + ((4 * (0 + nI j7)) + (0 + nI j26))).toNatClampNeg r5; s7
def it_Pc_drawLine_26 (r1 : Int32) (s2 : Sg) (j7 : Nat) (r3 : Int32) : Nat → Sg := itr (fun j26 x => bd_Pc_drawLine_26 r1 s2 j7 r3 x j26) s2
def bd_Pc_drawLine_7 (σ : Sg) (r1 : Int32) (s2 : Sg) (j7 : Nat) : Sg := let r3 := f_Ds_shownByte s2 (0 + nI j7); let s4 := (it_Pc_drawLine_26 r1 s2 j7 r3 4); s4
def it_Pc_drawLine_7 (σ : Sg) (r1 : Int32) : Nat → Sg := itr (fun j7 x => bd_Pc_drawLine_7 σ r1 x j7) σ
def f_Pc_drawLine (σ : Sg) (x1 : Int32) : Sg := let r1 := f_Pc_firstDotOf x1; let s2 := (it_Pc_drawLine_7 σ r1 8); s2
set_option maxHeartbeats 1000000 in
set_option maxRecDepth 100000 in
theorem c_Pc_drawLine (l : Launch) (D : va_G) (cI : ClassId) (ad : Nat → Nat) (σ : Sg) (x1 : Int32) (hq : bt2 1 x1 12) : Met l y_Pc_drawLine (Cond.code y_Pc_drawLine b_Pc_drawLine 8 none :: al) { frames := 3, cells := 0, slots := 0, locals := 61 } (Px D cI (wC cI ad) (AC ad) σ [.ref (ad 7), .int x1]) (va_Qv (fun u => u = f_Pc_drawLine σ x1) (Bx D cI (wC cI ad) (AC ad)) (AC ad)) 0 0 (AC ad) := by
  refine Mx l (by decide) (Nat.le_of_ble_eq_true rfl) ?_
  intro p e s m below meth c ls F w hr hlk hl
  have F : CallFix p m c b_Pc_drawLine 8 s _ al "PictureMachine$Picture" := F
  have hl : lv_has ls 8 [(0, .ref (ad 7)), (1, .int x1)] := hl
  have hcs : (0 : Nat) ≤ 0 ∧ (0 : Nat) ≤ 0 := ⟨Nat.le_refl _, Nat.le_refl _⟩
  refine lv_iload_n (pc := 0) F.1 F.2.1 d_Pc_drawLine_0 rfl (lv_at hl 1 rfl) ?_
  refine Usi (pc := 1) (As := [.int x1]) (rest := []) F (c_Pc_firstDotOf l x1) k_Pc_firstDotOf m_711 (Nat.le_of_ble_eq_true rfl) (Nat.le_of_ble_eq_true rfl) ⟨rfl, rfl⟩ rfl hl.1 rfl (Nat.le_of_ble_eq_true rfl) d_Pc_drawLine_1 hcs (fun r1 e_r1 => ?_)
  refine lv_istore_n (pc := 4) F.1 F.2.1 d_Pc_drawLine_4 rfl hl (by decide) rfl (fun ls hl => ?_)
  have hl : lv_has ls 8 [(2, .int r1), (0, .ref (ad 7)), (1, .int x1)] := hl
  refine lv_iconst (pc := 5) (v := 0) F.1 F.2.1 d_Pc_drawLine_5 (by decide) ?_
  refine lv_istore_n (pc := 6) F.1 F.2.1 d_Pc_drawLine_6 rfl hl (by decide) rfl (fun ls hl => ?_)
  have hl : lv_has ls 8 [(3, .int 0), (2, .int r1), (0, .ref (ad 7)), (1, .int x1)] := hl
  refine loopW (α := Sg) 8 (fun j7 x H locs ls => x = it_Pc_drawLine_7 σ r1 j7 ∧ Wx D cI (wC cI ad) (AC ad) (AC ad) s s.heap H locs x ∧ lv_has ls 8 [(0, .ref (ad 7)), (1, .int x1), (2, .int r1), (3, .int (0 + nI j7))]) (fun _ ls => F0 m 7 ls []) ?_ ?_ 0 σ _ _ _ (Nat.zero_le _) ⟨rfl, w, by rw [ci_0]; exact lv_sub hl [2, 3, 1, 0] rfl⟩
  · rintro j7 s2 H locs ls hj7 ⟨ex, w, hl⟩ nx7
    have e_s2 := ex
    have w : Wx D cI (wC cI ad) (AC ad) (AC ad) s s.heap H locs s2 := w
    have hl : lv_has ls 8 [(0, .ref (ad 7)), (1, .int x1), (2, .int r1), (3, .int (0 + nI j7))] := hl
    have hc7_0 : ¬ (8 ≤ (0 + nI j7)) := lp_lt hj7 (by decide) (by decide)
    refine lv_iload_n (pc := 7) F.1 F.2.1 d_Pc_drawLine_7 rfl (lv_at hl 3 rfl) ?_
    refine lv_bipush (pc := 8) (v := 8) F.1 F.2.1 d_Pc_drawLine_8 (by decide) ?_
    refine lv_icmp_ge (pc := 10) F.1 F.2.1 d_Pc_drawLine_10 (tgt := 83) (by decide) (fun q => absurd q hc7_0) (fun _ => ?_)
    refine lv_aload_n (pc := 13) F.1 F.2.1 d_Pc_drawLine_13 rfl (lv_at hl 0 rfl) ?_
    refine gC7_0 (pc := 14) F w (F.2.2.2.2 _ m_207) d_Pc_drawLine_14 ?_
    refine lv_iload_n (pc := 17) F.1 F.2.1 d_Pc_drawLine_17 rfl (lv_at hl 3 rfl) ?_
    refine Kvi (pc := 18) (As := [.int (0 + nI j7)]) (rest := []) F w (c_Ds_shownByte l D cI ad s2 (0 + nI j7) (lp_in hj7 (by decide))) 6 rfl rfl k_Ds_shownByte m_714 (Nat.le_of_ble_eq_true rfl) (Nat.le_of_ble_eq_true rfl) ⟨rfl, rfl⟩ rfl hl.1 rfl (Nat.le_of_ble_eq_true rfl) d_Pc_drawLine_18 hcs (fun r3 H locs e_r3 w => ?_)
    refine lv_istore (pc := 21) F.1 F.2.1 d_Pc_drawLine_21 hl (by decide) rfl (fun ls hl => ?_)
    have hl : lv_has ls 8 [(4, .int r3), (0, .ref (ad 7)), (1, .int x1), (2, .int r1), (3, .int (0 + nI j7))] := hl
    refine lv_iconst (pc := 23) (v := 0) F.1 F.2.1 d_Pc_drawLine_23 (by decide) ?_
    refine lv_istore (pc := 24) F.1 F.2.1 d_Pc_drawLine_24 hl (by decide) rfl (fun ls hl => ?_)
    have hl : lv_has ls 8 [(5, .int 0), (4, .int r3), (0, .ref (ad 7)), (1, .int x1), (2, .int r1), (3, .int (0 + nI j7))] := hl
    refine loopW (α := Sg) 4 (fun j26 x H locs ls => x = it_Pc_drawLine_26 r1 s2 j7 r3 j26 ∧ Wx D cI (wC cI ad) (AC ad) (AC ad) s s.heap H locs x ∧ lv_has ls 8 [(0, .ref (ad 7)), (1, .int x1), (2, .int r1), (3, .int (0 + nI j7)), (4, .int r3), (5, .int (0 + nI j26))]) (fun _ ls => F0 m 26 ls []) ?_ ?_ 0 s2 _ _ _ (Nat.zero_le _) ⟨rfl, w, by rw [ci_0]; exact lv_sub hl [2, 3, 4, 5, 1, 0] rfl⟩
    · rintro j26 s4 H locs ls hj26 ⟨ex, w, hl⟩ nx26
      have e_s4 := ex
      have w : Wx D cI (wC cI ad) (AC ad) (AC ad) s s.heap H locs s4 := w
      have hl : lv_has ls 8 [(0, .ref (ad 7)), (1, .int x1), (2, .int r1), (3, .int (0 + nI j7)), (4, .int r3), (5, .int (0 + nI j26))] := hl
      have hc26_0 : ¬ (4 ≤ (0 + nI j26)) := lp_lt hj26 (by decide) (by decide)
      refine lv_iload (pc := 26) F.1 F.2.1 d_Pc_drawLine_26 (lv_at hl 5 rfl) ?_
      refine lv_iconst (pc := 28) (v := 4) F.1 F.2.1 d_Pc_drawLine_28 (by decide) ?_
      refine lv_icmp_ge (pc := 29) F.1 F.2.1 d_Pc_drawLine_29 (tgt := 77) (by decide) (fun q => absurd q hc26_0) (fun _ => ?_)
      refine lv_iconst (pc := 32) (v := 4) F.1 F.2.1 d_Pc_drawLine_32 (by decide) ?_
      refine lv_iload_n (pc := 33) F.1 F.2.1 d_Pc_drawLine_33 rfl (lv_at hl 3 rfl) ?_
      refine lv_imul (pc := 34) F.1 F.2.1 d_Pc_drawLine_34 ?_
      refine lv_iload (pc := 35) F.1 F.2.1 d_Pc_drawLine_35 (lv_at hl 5 rfl) ?_
      refine lv_iadd (pc := 37) F.1 F.2.1 d_Pc_drawLine_37 ?_
      refine lv_istore (pc := 38) F.1 F.2.1 d_Pc_drawLine_38 hl (by decide) rfl (fun ls hl => ?_)
      have hl : lv_has ls 8 [(6, .int ((4 * (0 + nI j7)) + (0 + nI j26))), (0, .ref (ad 7)), (1, .int x1), (2, .int r1), (3, .int (0 + nI j7)), (4, .int r3), (5, .int (0 + nI j26))] := hl
      refine lv_iload (pc := 40) F.1 F.2.1 d_Pc_drawLine_40 (lv_at hl 5 rfl) ?_
      refine lv_bipush (pc := 42) (v := 6) F.1 F.2.1 d_Pc_drawLine_42 (by decide) ?_
      refine lv_iconst (pc := 44) (v := 2) F.1 F.2.1 d_Pc_drawLine_44 (by decide) ?_
      refine lv_iload (pc := 45) F.1 F.2.1 d_Pc_drawLine_45 (lv_at hl 6 rfl) ?_
      refine lv_imul (pc := 47) F.1 F.2.1 d_Pc_drawLine_47 ?_
      refine lv_isub (pc := 48) F.1 F.2.1 d_Pc_drawLine_48 ?_
      refine lv_ishr (pc := 49) F.1 F.2.1 d_Pc_drawLine_49 ?_
      refine lv_iconst (pc := 50) (v := 3) F.1 F.2.1 d_Pc_drawLine_50 (by decide) ?_
      refine lv_iand (pc := 51) F.1 F.2.1 d_Pc_drawLine_51 ?_
      refine lv_istore (pc := 52) F.1 F.2.1 d_Pc_drawLine_52 hl (by decide) rfl (fun ls hl => ?_)
      have hl : lv_has ls 8 [(7, .int ((r3 >>> ((6 - (2 * (0 + nI j26))) &&& 31)) &&& 3)), (6, .int ((4 * (0 + nI j7)) + (0 + nI j26))), (0, .ref (ad 7)), (1, .int x1), (2, .int r1), (3, .int (0 + nI j7)), (4, .int r3), (5, .int (0 + nI j26))] := hl
      refine lv_aload_n (pc := 54) F.1 F.2.1 d_Pc_drawLine_54 rfl (lv_at hl 2 rfl) ?_
      refine gC7_2 (pc := 55) F w (F.2.2.2.2 _ m_209) d_Pc_drawLine_55 ?_
      refine lv_iload_n (pc := 58) F.1 F.2.1 d_Pc_drawLine_58 rfl (lv_at hl 4 rfl) ?_
      refine lv_iload (pc := 59) F.1 F.2.1 d_Pc_drawLine_59 (lv_at hl 1 rfl) ?_
      refine lv_iadd (pc := 61) F.1 F.2.1 d_Pc_drawLine_61 ?_
      refine lv_aload_n (pc := 62) F.1 F.2.1 d_Pc_drawLine_62 rfl (lv_at hl 2 rfl) ?_
      refine lv_iload (pc := 63) F.1 F.2.1 d_Pc_drawLine_63 (lv_at hl 1 rfl) ?_
      refine lv_iload (pc := 65) F.1 F.2.1 d_Pc_drawLine_65 (lv_at hl 0 rfl) ?_
      refine Cvi (pc := 67) (As := [.int ((4 * (0 + nI j7)) + (0 + nI j26)), .int ((r3 >>> ((6 - (2 * (0 + nI j26))) &&& 31)) &&& 3)]) (rest := [.int (r1 + ((4 * (0 + nI j7)) + (0 + nI j26))), .ref (ad 14)]) F w (c_Pc_drawnDot l D cI ad s4 ((4 * (0 + nI j7)) + (0 + nI j26)) ((r3 >>> ((6 - (2 * (0 + nI j26))) &&& 31)) &&& 3) (bt_2 _)) 7 rfl rfl k_Pc_drawnDot m_718 (Nat.le_of_ble_eq_true rfl) (Nat.le_of_ble_eq_true rfl) ⟨rfl, rfl⟩ rfl hl.1 rfl (Nat.le_of_ble_eq_true rfl) d_Pc_drawLine_67 hcs (fun r5 s6 H locs e_r5 e_s6 w => ?_)
      refine aC14 (pc := 70) F w (by rw [e_r1]; exact dl_in hq hj7 hj26) d_Pc_drawLine_70 (fun H locs s7 e_s7 w => ?_)
      refine lv_iinc (pc := 71) (k := 7) (v := ((0 + nI j26) + 1)) F.1 F.2.1 d_Pc_drawLine_71 hl rfl (by first | rfl | decide) (by decide) rfl (fun ls hl => ?_)
      have hl : lv_has ls 8 [(5, .int ((0 + nI j26) + 1)), (7, .int ((r3 >>> ((6 - (2 * (0 + nI j26))) &&& 31)) &&& 3)), (6, .int ((4 * (0 + nI j7)) + (0 + nI j26))), (0, .ref (ad 7)), (1, .int x1), (2, .int r1), (3, .int (0 + nI j7)), (4, .int r3)] := hl
      refine lv_goto (pc := 74) F.1 F.2.1 d_Pc_drawLine_74 (tgt := 26) (by decide) ?_
      exact nx26 s7 _ _ _ ⟨(by rw [e_s7, e_s6, e_r5, e_s4]; exact Eq.symm (rfl)), w, by rw [← ci_s]; exact lv_sub hl [3, 4, 5, 6, 7, 0] rfl⟩
    · rintro s4 H locs ls ⟨ex, w, hl⟩
      have e_s4 := ex
      have w : Wx D cI (wC cI ad) (AC ad) (AC ad) s s.heap H locs s4 := w
      have hl : lv_has ls 8 [(0, .ref (ad 7)), (1, .int x1), (2, .int r1), (3, .int (0 + nI j7)), (4, .int r3), (5, .int (0 + nI 4))] := hl
      have hx26_0 : 4 ≤ (0 + nI 4) := lp_ge (by decide)
      refine lv_iload (pc := 26) F.1 F.2.1 d_Pc_drawLine_26 (lv_at hl 5 rfl) ?_
      refine lv_iconst (pc := 28) (v := 4) F.1 F.2.1 d_Pc_drawLine_28 (by decide) ?_
      refine lv_icmp_ge (pc := 29) F.1 F.2.1 d_Pc_drawLine_29 (tgt := 77) (by decide) (fun _ => ?_) (fun q => absurd hx26_0 q)
      refine lv_iinc (pc := 77) (k := 3) (v := ((0 + nI j7) + 1)) F.1 F.2.1 d_Pc_drawLine_77 hl rfl (by first | rfl | decide) (by decide) rfl (fun ls hl => ?_)
      have hl : lv_has ls 8 [(3, .int ((0 + nI j7) + 1)), (0, .ref (ad 7)), (1, .int x1), (2, .int r1), (4, .int r3), (5, .int (0 + nI 4))] := hl
      refine lv_goto (pc := 80) F.1 F.2.1 d_Pc_drawLine_80 (tgt := 7) (by decide) ?_
      exact nx7 s4 _ _ _ ⟨(by rw [e_s4, e_r3, e_s2]; exact Eq.symm (rfl)), w, by rw [← ci_s]; exact lv_sub hl [1, 2, 3, 0] rfl⟩
  · rintro s2 H locs ls ⟨ex, w, hl⟩
    have e_s2 := ex
    have w : Wx D cI (wC cI ad) (AC ad) (AC ad) s s.heap H locs s2 := w
    have hl : lv_has ls 8 [(0, .ref (ad 7)), (1, .int x1), (2, .int r1), (3, .int (0 + nI 8))] := hl
    have hx7_0 : 8 ≤ (0 + nI 8) := lp_ge (by decide)
    refine lv_iload_n (pc := 7) F.1 F.2.1 d_Pc_drawLine_7 rfl (lv_at hl 3 rfl) ?_
    refine lv_bipush (pc := 8) (v := 8) F.1 F.2.1 d_Pc_drawLine_8 (by decide) ?_
    refine lv_icmp_ge (pc := 10) F.1 F.2.1 d_Pc_drawLine_10 (tgt := 83) (by decide) (fun _ => ?_) (fun q => absurd hx7_0 q)
    exact Rv (pc := 83) F hr hlk w (by rw [e_s2, e_r1]; exact Eq.symm (rfl)) d_Pc_drawLine_83
def f_Ds_finishRow_r30 (s3 : Sg) (r4 : Int32) : Sg := if r4 = 1 then (if ((s3 6 8) &&& 64) = 0 then (s3) else (let s5 := sf s3 6 11 1; s5)) else (s3)
def f_Ds_finishRow (σ : Sg) : Sg := let r1 := f_Ds_isOn σ; if r1 = 0 then (σ) else (let r2 := f_Ds_hasRow σ; if r2 = 0 then (σ) else (let s3 := sf σ 6 10 ((σ 6 10) + 1); let r4 := f_Ds_mode s3; let s6 := (f_Ds_finishRow_r30 s3 r4); s6))
set_option maxHeartbeats 1000000 in
set_option maxRecDepth 100000 in
theorem c_Ds_finishRow (l : Launch) (D : va_G) (cI : ClassId) (ad : Nat → Nat) (σ : Sg) : Met l y_Ds_finishRow (Cond.code y_Ds_finishRow b_Ds_finishRow 1 none :: al) { frames := 1, cells := 0, slots := 0, locals := 20 } (Px D cI (wC cI ad) (AC ad) σ [.ref (ad 6)]) (va_Qv (fun u => u = f_Ds_finishRow σ ) (Bx D cI (wC cI ad) (AC ad)) (AC ad)) 0 0 (AC ad) := by
  refine Mx l (by decide) (Nat.le_of_ble_eq_true rfl) ?_
  intro p e s m below meth c ls F w hr hlk hl
  have F : CallFix p m c b_Ds_finishRow 1 s _ al "PictureMachine$Display" := F
  have hl : lv_has ls 1 [(0, .ref (ad 6))] := hl
  have hcs : (0 : Nat) ≤ 0 ∧ (0 : Nat) ≤ 0 := ⟨Nat.le_refl _, Nat.le_refl _⟩
  refine lv_aload_n (pc := 0) F.1 F.2.1 d_Ds_finishRow_0 rfl (lv_at hl 0 rfl) ?_
  refine Kvi (pc := 1) (As := []) (rest := []) F w (c_Ds_isOn l D cI ad σ) 6 rfl rfl k_Ds_isOn m_563 (Nat.le_of_ble_eq_true rfl) (Nat.le_of_ble_eq_true rfl) ⟨rfl, rfl⟩ rfl hl.1 rfl (Nat.le_of_ble_eq_true rfl) d_Ds_finishRow_1 hcs (fun r1 H locs e_r1 w => ?_)
  refine lv_if_eq (pc := 4) F.1 F.2.1 d_Ds_finishRow_4 (tgt := 14) (by decide) (fun h4 => ?_) (fun h4 => ?_)
  · exact Rv (pc := 14) F hr hlk w (by rw [e_r1] at h4; exact Eq.symm (Eq.trans (if_pos h4) (rfl))) d_Ds_finishRow_14
  · refine lv_aload_n (pc := 7) F.1 F.2.1 d_Ds_finishRow_7 rfl (lv_at hl 0 rfl) ?_
    refine Kvi (pc := 8) (As := []) (rest := []) F w (c_Ds_hasRow l D cI ad σ) 6 rfl rfl k_Ds_hasRow m_345 (Nat.le_of_ble_eq_true rfl) (Nat.le_of_ble_eq_true rfl) ⟨rfl, rfl⟩ rfl hl.1 rfl (Nat.le_of_ble_eq_true rfl) d_Ds_finishRow_8 hcs (fun r2 H locs e_r2 w => ?_)
    refine lv_if_ne (pc := 11) F.1 F.2.1 d_Ds_finishRow_11 (tgt := 15) (by decide) (fun h11 => ?_) (fun h11 => ?_)
    · refine lv_aload_n (pc := 15) F.1 F.2.1 d_Ds_finishRow_15 rfl (lv_at hl 0 rfl) ?_
      refine lv_dup (pc := 16) F.1 F.2.1 d_Ds_finishRow_16 rfl ?_
      refine gC6_10 (pc := 17) F w (F.2.2.2.2 _ m_167) d_Ds_finishRow_17 ?_
      refine lv_iconst (pc := 20) (v := 1) F.1 F.2.1 d_Ds_finishRow_20 (by decide) ?_
      refine lv_iadd (pc := 21) F.1 F.2.1 d_Ds_finishRow_21 ?_
      refine pC6_10 (pc := 22) F w (F.2.2.2.2 _ m_167) d_Ds_finishRow_22 (fun H locs s3 e_s3 w => ?_)
      refine lv_aload_n (pc := 25) F.1 F.2.1 d_Ds_finishRow_25 rfl (lv_at hl 0 rfl) ?_
      refine Kvi (pc := 26) (As := []) (rest := []) F w (c_Ds_mode l D cI ad s3) 6 rfl rfl k_Ds_mode m_349 (Nat.le_of_ble_eq_true rfl) (Nat.le_of_ble_eq_true rfl) ⟨rfl, rfl⟩ rfl hl.1 rfl (Nat.le_of_ble_eq_true rfl) d_Ds_finishRow_26 hcs (fun r4 H locs e_r4 w => ?_)
      refine lv_iconst (pc := 29) (v := 1) F.1 F.2.1 d_Ds_finishRow_29 (by decide) ?_
      refine cutW (α := Sg) (fun x H locs ls => x = f_Ds_finishRow_r30 s3 r4 ∧ Wx D cI (wC cI ad) (AC ad) (AC ad) s s.heap H locs x ∧ lv_has ls 1 [(0, .ref (ad 6))]) (fun x ls => F0 m 48 ls []) ?_ (fun k30 => ?_)
      · rintro s6 H locs ls ⟨ex, w, hl⟩
        have e_s6 := ex
        have w : Wx D cI (wC cI ad) (AC ad) (AC ad) s s.heap H locs s6 := w
        have hl : lv_has ls 1 [(0, .ref (ad 6))] := hl
        show W _ _ _ _ _ _ _ _ _ _ _ _ _ _ _ (F0 m 48 ls [])
        exact Rv (pc := 48) F hr hlk w (by rw [e_r1] at h4; rw [e_r2] at h11; rw [e_s6, e_r4, e_s3]; exact Eq.symm (Eq.trans (if_neg h4) (Eq.trans (if_neg h11) (rfl)))) d_Ds_finishRow_48
      · refine lv_icmp_ne (pc := 30) F.1 F.2.1 d_Ds_finishRow_30 (tgt := 48) (by decide) (fun h30 => ?_) (fun h30 => ?_)
        · exact k30 s3 _ _ _ ⟨(by exact Eq.symm (Eq.trans (if_neg h30) (rfl))), w, lv_sub hl [0] rfl⟩
        · refine lv_aload_n (pc := 33) F.1 F.2.1 d_Ds_finishRow_33 rfl (lv_at hl 0 rfl) ?_
          refine gC6_8 (pc := 34) F w (F.2.2.2.2 _ m_165) d_Ds_finishRow_34 ?_
          refine lv_bipush (pc := 37) (v := 64) F.1 F.2.1 d_Ds_finishRow_37 (by decide) ?_
          refine lv_iand (pc := 39) F.1 F.2.1 d_Ds_finishRow_39 ?_
          refine lv_if_eq (pc := 40) F.1 F.2.1 d_Ds_finishRow_40 (tgt := 48) (by decide) (fun h40 => ?_) (fun h40 => ?_)
          · exact k30 s3 _ _ _ ⟨(by exact Eq.symm (Eq.trans (if_pos h30) (Eq.trans (if_pos h40) (rfl)))), w, lv_sub hl [0] rfl⟩
          · refine lv_aload_n (pc := 43) F.1 F.2.1 d_Ds_finishRow_43 rfl (lv_at hl 0 rfl) ?_
            refine lv_iconst (pc := 44) (v := 1) F.1 F.2.1 d_Ds_finishRow_44 (by decide) ?_
            refine pC6_11 (pc := 45) F w (Or.inr rfl) (F.2.2.2.2 _ m_168) d_Ds_finishRow_45 (fun H locs s5 e_s5 w => ?_)
            exact k30 s5 _ _ _ ⟨(by rw [e_s5]; exact Eq.symm (Eq.trans (if_pos h30) (Eq.trans (if_neg h40) (rfl)))), w, lv_sub hl [0] rfl⟩
    · exact Rv (pc := 14) F hr hlk w (by rw [e_r1] at h4; rw [e_r2] at h11; exact Eq.symm (Eq.trans (if_neg h4) (Eq.trans (if_pos h11) (rfl)))) d_Ds_finishRow_14
def f_Dr_sendAnswer (σ : Sg) : Sg := if (σ 8 8) = 0 then (if (σ 8 7) = 0 then (σ) else (let s1 := sf σ 8 9 (σ 18 (σ 8 6).toNatClampNeg); let s2 := sf s1 8 6 (((s1 8 6) + 1) - ((s1 8 6) + 1) / 40 * 40); let s3 := sf s2 8 7 ((s2 8 7) - 1); let s4 := sf s3 8 8 1; s4)) else (σ)
set_option maxHeartbeats 1000000 in
set_option maxRecDepth 100000 in
theorem c_Dr_sendAnswer (l : Launch) (D : va_G) (cI : ClassId) (ad : Nat → Nat) (σ : Sg) (hI : IC σ) : Met l y_Dr_sendAnswer (Cond.code y_Dr_sendAnswer b_Dr_sendAnswer 1 none :: al) { frames := 0, cells := 0, slots := 0, locals := 0 } (Px D cI (wC cI ad) (AC ad) σ [.ref (ad 8)]) (va_Qv (fun u => u = f_Dr_sendAnswer σ ) (Bx D cI (wC cI ad) (AC ad)) (AC ad)) 0 0 (AC ad) := by
  refine Mx l (by decide) (Nat.le_of_ble_eq_true rfl) ?_
  intro p e s m below meth c ls F w hr hlk hl
  have F : CallFix p m c b_Dr_sendAnswer 1 s _ al "PictureMachine$Drive" := F
  have hl : lv_has ls 1 [(0, .ref (ad 8))] := hl
  refine lv_aload_n (pc := 0) F.1 F.2.1 d_Dr_sendAnswer_0 rfl (lv_at hl 0 rfl) ?_
  refine gC8_8 (pc := 1) F w (F.2.2.2.2 _ m_100) d_Dr_sendAnswer_1 ?_
  refine lv_if_ne (pc := 4) F.1 F.2.1 d_Dr_sendAnswer_4 (tgt := 14) (by decide) (fun h4 => ?_) (fun h4 => ?_)
  · exact Rv (pc := 14) F hr hlk w (by exact Eq.symm (Eq.trans (if_neg h4) (rfl))) d_Dr_sendAnswer_14
  · refine lv_aload_n (pc := 7) F.1 F.2.1 d_Dr_sendAnswer_7 rfl (lv_at hl 0 rfl) ?_
    refine gC8_7 (pc := 8) F w (F.2.2.2.2 _ m_97) d_Dr_sendAnswer_8 ?_
    refine lv_if_ne (pc := 11) F.1 F.2.1 d_Dr_sendAnswer_11 (tgt := 15) (by decide) (fun h11 => ?_) (fun h11 => ?_)
    · refine lv_aload_n (pc := 15) F.1 F.2.1 d_Dr_sendAnswer_15 rfl (lv_at hl 0 rfl) ?_
      refine lv_aload_n (pc := 16) F.1 F.2.1 d_Dr_sendAnswer_16 rfl (lv_at hl 0 rfl) ?_
      refine gC8_2 (pc := 17) F w (F.2.2.2.2 _ m_90) d_Dr_sendAnswer_17 ?_
      refine lv_aload_n (pc := 20) F.1 F.2.1 d_Dr_sendAnswer_20 rfl (lv_at hl 0 rfl) ?_
      refine gC8_6 (pc := 21) F w (F.2.2.2.2 _ m_96) d_Dr_sendAnswer_21 ?_
      refine lC18 (pc := 24) F w (bt_in hI.2.2.1 (by decide) (by decide)) d_Dr_sendAnswer_24 ?_
      refine pC8_9 (pc := 25) F w (F.2.2.2.2 _ m_102) d_Dr_sendAnswer_25 (fun H locs s1 e_s1 w => ?_)
      have iIC_s1 : IC s1 := by rw [e_s1]; exact hI
      refine lv_aload_n (pc := 28) F.1 F.2.1 d_Dr_sendAnswer_28 rfl (lv_at hl 0 rfl) ?_
      refine lv_aload_n (pc := 29) F.1 F.2.1 d_Dr_sendAnswer_29 rfl (lv_at hl 0 rfl) ?_
      refine gC8_6 (pc := 30) F w (F.2.2.2.2 _ m_96) d_Dr_sendAnswer_30 ?_
      refine lv_iconst (pc := 33) (v := 1) F.1 F.2.1 d_Dr_sendAnswer_33 (by decide) ?_
      refine lv_iadd (pc := 34) F.1 F.2.1 d_Dr_sendAnswer_34 ?_
      refine lv_bipush (pc := 35) (v := 40) F.1 F.2.1 d_Dr_sendAnswer_35 (by decide) ?_
      refine lv_irem (pc := 37) F.1 F.2.1 d_Dr_sendAnswer_37 (by decide) ?_
      refine pC8_6 (pc := 38) F w (F.2.2.2.2 _ m_96) d_Dr_sendAnswer_38 (fun H locs s2 e_s2 w => ?_)
      refine lv_aload_n (pc := 41) F.1 F.2.1 d_Dr_sendAnswer_41 rfl (lv_at hl 0 rfl) ?_
      refine lv_dup (pc := 42) F.1 F.2.1 d_Dr_sendAnswer_42 rfl ?_
      refine gC8_7 (pc := 43) F w (F.2.2.2.2 _ m_97) d_Dr_sendAnswer_43 ?_
      refine lv_iconst (pc := 46) (v := 1) F.1 F.2.1 d_Dr_sendAnswer_46 (by decide) ?_
      refine lv_isub (pc := 47) F.1 F.2.1 d_Dr_sendAnswer_47 ?_
      refine pC8_7 (pc := 48) F w (F.2.2.2.2 _ m_97) d_Dr_sendAnswer_48 (fun H locs s3 e_s3 w => ?_)
      refine lv_aload_n (pc := 51) F.1 F.2.1 d_Dr_sendAnswer_51 rfl (lv_at hl 0 rfl) ?_
      refine lv_iconst (pc := 52) (v := 1) F.1 F.2.1 d_Dr_sendAnswer_52 (by decide) ?_
      refine pC8_8 (pc := 53) F w (Or.inr rfl) (F.2.2.2.2 _ m_100) d_Dr_sendAnswer_53 (fun H locs s4 e_s4 w => ?_)
      exact Rv (pc := 56) F hr hlk w (by rw [e_s4, e_s3, e_s2, e_s1]; exact Eq.symm (Eq.trans (if_pos h4) (Eq.trans (if_neg h11) (rfl)))) d_Dr_sendAnswer_56
    · exact Rv (pc := 14) F hr hlk w (by exact Eq.symm (Eq.trans (if_pos h4) (Eq.trans (if_pos h11) (rfl)))) d_Dr_sendAnswer_14
def f_Pm_endLine_r4 (σ : Sg) (x1 : Int32) (r1 : Int32) : Sg := if r1 = 0 then (σ) else (let s2 := f_Pc_drawLine σ x1; let s3 := f_Ds_finishRow s2; s3)
def f_Pm_endLine (σ : Sg) (x1 : Int32) : Sg := let r1 := f_Pm_isShownLine x1; let s4 := (f_Pm_endLine_r4 σ x1 r1); let s5 := f_Dr_sendAnswer s4; s5
set_option maxHeartbeats 1000000 in
set_option maxRecDepth 100000 in
theorem c_Pm_endLine (l : Launch) (D : va_G) (cI : ClassId) (ad : Nat → Nat) (σ : Sg) (x1 : Int32) (hI : IC σ) (h2 : IC (f_Pm_endLine_r4 σ x1 (f_Pm_isShownLine x1))) : Met l y_Pm_endLine (Cond.code y_Pm_endLine b_Pm_endLine 2 none :: al) { frames := 4, cells := 0, slots := 0, locals := 88 } (Px D cI (wC cI ad) (AC ad) σ [.ref (ad 0), .int x1]) (va_Qv (fun u => u = f_Pm_endLine σ x1) (Bx D cI (wC cI ad) (AC ad)) (AC ad)) 0 0 (AC ad) := by
  refine Mx l (by decide) (Nat.le_of_ble_eq_true rfl) ?_
  intro p e s m below meth c ls F w hr hlk hl
  have F : CallFix p m c b_Pm_endLine 2 s _ al "PictureMachine" := F
  have hl : lv_has ls 2 [(0, .ref (ad 0)), (1, .int x1)] := hl
  have hcs : (0 : Nat) ≤ 0 ∧ (0 : Nat) ≤ 0 := ⟨Nat.le_refl _, Nat.le_refl _⟩
  refine lv_iload_n (pc := 0) F.1 F.2.1 d_Pm_endLine_0 rfl (lv_at hl 1 rfl) ?_
  refine Usi (pc := 1) (As := [.int x1]) (rest := []) F (c_Pm_isShownLine l x1) k_Pm_isShownLine m_706 (Nat.le_of_ble_eq_true rfl) (Nat.le_of_ble_eq_true rfl) ⟨rfl, rfl⟩ rfl hl.1 rfl (Nat.le_of_ble_eq_true rfl) d_Pm_endLine_1 hcs (fun r1 e_r1 => ?_)
  refine cutW (α := Sg) (fun x H locs ls => x = f_Pm_endLine_r4 σ x1 r1 ∧ Wx D cI (wC cI ad) (AC ad) (AC ad) s s.heap H locs x ∧ lv_has ls 2 [(0, .ref (ad 0)), (1, .int x1)]) (fun x ls => F0 m 28 ls []) ?_ (fun k4 => ?_)
  · rintro s4 H locs ls ⟨ex, w, hl⟩
    have e_s4 := ex
    have w : Wx D cI (wC cI ad) (AC ad) (AC ad) s s.heap H locs s4 := w
    have iIC_s4 : IC s4 := by rw [e_s4, e_r1]; exact h2
    have iIC_s4 : IC s4 := by rw [e_s4, e_r1]; exact h2
    have hl : lv_has ls 2 [(0, .ref (ad 0)), (1, .int x1)] := hl
    show W _ _ _ _ _ _ _ _ _ _ _ _ _ _ _ (F0 m 28 ls [])
    refine lv_aload_n (pc := 28) F.1 F.2.1 d_Pm_endLine_28 rfl (lv_at hl 0 rfl) ?_
    refine gC0_0 (pc := 29) F w (F.2.2.2.2 _ m_319) d_Pm_endLine_29 ?_
    refine gNC1_7 (pc := 32) F w m_244 d_Pm_endLine_32 ?_
    refine Cvv (pc := 35) (As := []) (rest := []) F w (c_Dr_sendAnswer l D cI ad s4 iIC_s4) 8 rfl rfl k_Dr_sendAnswer m_734 (Nat.le_of_ble_eq_true rfl) (Nat.le_of_ble_eq_true rfl) ⟨rfl, rfl⟩ rfl hl.1 rfl (Nat.le_of_ble_eq_true rfl) d_Pm_endLine_35 hcs (fun s5 H locs e_s5 w => ?_)
    exact Rv (pc := 38) F hr hlk w (by rw [e_s5, e_s4, e_r1]; exact Eq.symm (rfl)) d_Pm_endLine_38
  · refine lv_if_eq (pc := 4) F.1 F.2.1 d_Pm_endLine_4 (tgt := 28) (by decide) (fun h4 => ?_) (fun h4 => ?_)
    · exact k4 σ _ _ _ ⟨(by exact Eq.symm (Eq.trans (if_pos h4) (rfl))), w, lv_sub hl [0, 1] rfl⟩
    · refine lv_aload_n (pc := 7) F.1 F.2.1 d_Pm_endLine_7 rfl (lv_at hl 0 rfl) ?_
      refine gC0_0 (pc := 8) F w (F.2.2.2.2 _ m_319) d_Pm_endLine_8 ?_
      refine gNC1_6 (pc := 11) F w m_242 d_Pm_endLine_11 ?_
      refine lv_iload_n (pc := 14) F.1 F.2.1 d_Pm_endLine_14 rfl (lv_at hl 1 rfl) ?_
      refine Cvv (pc := 15) (As := [.int x1]) (rest := []) F w (c_Pc_drawLine l D cI ad σ x1 (isl_ok (by rw [← e_r1]; assumption))) 7 rfl rfl k_Pc_drawLine m_707 (Nat.le_of_ble_eq_true rfl) (Nat.le_of_ble_eq_true rfl) ⟨rfl, rfl⟩ rfl hl.1 rfl (Nat.le_of_ble_eq_true rfl) d_Pm_endLine_15 hcs (fun s2 H locs e_s2 w => ?_)
      refine lv_aload_n (pc := 18) F.1 F.2.1 d_Pm_endLine_18 rfl (lv_at hl 0 rfl) ?_
      refine gC0_0 (pc := 19) F w (F.2.2.2.2 _ m_319) d_Pm_endLine_19 ?_
      refine gNC1_5 (pc := 22) F w m_240 d_Pm_endLine_22 ?_
      refine Cvv (pc := 25) (As := []) (rest := []) F w (c_Ds_finishRow l D cI ad s2) 6 rfl rfl k_Ds_finishRow m_730 (Nat.le_of_ble_eq_true rfl) (Nat.le_of_ble_eq_true rfl) ⟨rfl, rfl⟩ rfl hl.1 rfl (Nat.le_of_ble_eq_true rfl) d_Pm_endLine_25 hcs (fun s3 H locs e_s3 w => ?_)
      exact k4 s3 _ _ _ ⟨(by rw [e_s3, e_s2]; exact Eq.symm (Eq.trans (if_neg h4) (rfl))), w, lv_sub hl [0, 1] rfl⟩
def f_Ck_moveOn_r16 (s1 : Sg) : Sg := if (s1 2 2) = 24 then (let s2 := sf s1 2 2 0; let s3 := sf s2 2 1 ((s2 2 1) + 1); s3) else (s1)
def f_Ck_moveOn_r40 (s4 : Sg) : Sg := if (s4 2 1) = 16 then (let s5 := sf s4 2 1 0; let s6 := sf s5 2 0 ((s5 2 0) + 1); s6) else (s4)
def f_Ck_moveOn (σ : Sg) : Sg := let s1 := sf σ 2 2 ((σ 2 2) + 1); let s4 := (f_Ck_moveOn_r16 s1); let s7 := (f_Ck_moveOn_r40 s4); s7
set_option maxHeartbeats 1000000 in
set_option maxRecDepth 100000 in
theorem c_Ck_moveOn (l : Launch) (D : va_G) (cI : ClassId) (ad : Nat → Nat) (σ : Sg) : Met l y_Ck_moveOn (Cond.code y_Ck_moveOn b_Ck_moveOn 1 none :: al) { frames := 0, cells := 0, slots := 0, locals := 0 } (Px D cI (wC cI ad) (AC ad) σ [.ref (ad 2)]) (va_Qv (fun u => u = f_Ck_moveOn σ ) (Bx D cI (wC cI ad) (AC ad)) (AC ad)) 0 0 (AC ad) := by
  refine Mx l (by decide) (Nat.le_of_ble_eq_true rfl) ?_
  intro p e s m below meth c ls F w hr hlk hl
  have F : CallFix p m c b_Ck_moveOn 1 s _ al "PictureMachine$Clock" := F
  have hl : lv_has ls 1 [(0, .ref (ad 2))] := hl
  refine lv_aload_n (pc := 0) F.1 F.2.1 d_Ck_moveOn_0 rfl (lv_at hl 0 rfl) ?_
  refine lv_dup (pc := 1) F.1 F.2.1 d_Ck_moveOn_1 rfl ?_
  refine gC2_2 (pc := 2) F w (F.2.2.2.2 _ m_43) d_Ck_moveOn_2 ?_
  refine lv_iconst (pc := 5) (v := 1) F.1 F.2.1 d_Ck_moveOn_5 (by decide) ?_
  refine lv_iadd (pc := 6) F.1 F.2.1 d_Ck_moveOn_6 ?_
  refine pC2_2 (pc := 7) F w (F.2.2.2.2 _ m_43) d_Ck_moveOn_7 (fun H locs s1 e_s1 w => ?_)
  refine lv_aload_n (pc := 10) F.1 F.2.1 d_Ck_moveOn_10 rfl (lv_at hl 0 rfl) ?_
  refine gC2_2 (pc := 11) F w (F.2.2.2.2 _ m_43) d_Ck_moveOn_11 ?_
  refine lv_bipush (pc := 14) (v := 24) F.1 F.2.1 d_Ck_moveOn_14 (by decide) ?_
  refine cutW (α := Sg) (fun x H locs ls => x = f_Ck_moveOn_r16 s1 ∧ Wx D cI (wC cI ad) (AC ad) (AC ad) s s.heap H locs x ∧ lv_has ls 1 [(0, .ref (ad 2))]) (fun x ls => F0 m 34 ls []) ?_ (fun k16 => ?_)
  · rintro s4 H locs ls ⟨ex, w, hl⟩
    have e_s4 := ex
    have w : Wx D cI (wC cI ad) (AC ad) (AC ad) s s.heap H locs s4 := w
    have hl : lv_has ls 1 [(0, .ref (ad 2))] := hl
    show W _ _ _ _ _ _ _ _ _ _ _ _ _ _ _ (F0 m 34 ls [])
    refine lv_aload_n (pc := 34) F.1 F.2.1 d_Ck_moveOn_34 rfl (lv_at hl 0 rfl) ?_
    refine gC2_1 (pc := 35) F w (F.2.2.2.2 _ m_40) d_Ck_moveOn_35 ?_
    refine lv_bipush (pc := 38) (v := 16) F.1 F.2.1 d_Ck_moveOn_38 (by decide) ?_
    refine cutW (α := Sg) (fun x H locs ls => x = f_Ck_moveOn_r40 s4 ∧ Wx D cI (wC cI ad) (AC ad) (AC ad) s s.heap H locs x ∧ lv_has ls 1 [(0, .ref (ad 2))]) (fun x ls => F0 m 58 ls []) ?_ (fun k40 => ?_)
    · rintro s7 H locs ls ⟨ex, w, hl⟩
      have e_s7 := ex
      have w : Wx D cI (wC cI ad) (AC ad) (AC ad) s s.heap H locs s7 := w
      have hl : lv_has ls 1 [(0, .ref (ad 2))] := hl
      show W _ _ _ _ _ _ _ _ _ _ _ _ _ _ _ (F0 m 58 ls [])
      exact Rv (pc := 58) F hr hlk w (by rw [e_s7, e_s4, e_s1]; exact Eq.symm (rfl)) d_Ck_moveOn_58
    · refine lv_icmp_ne (pc := 40) F.1 F.2.1 d_Ck_moveOn_40 (tgt := 58) (by decide) (fun h40 => ?_) (fun h40 => ?_)
      · exact k40 s4 _ _ _ ⟨(by exact Eq.symm (Eq.trans (if_neg h40) (rfl))), w, lv_sub hl [0] rfl⟩
      · refine lv_aload_n (pc := 43) F.1 F.2.1 d_Ck_moveOn_43 rfl (lv_at hl 0 rfl) ?_
        refine lv_iconst (pc := 44) (v := 0) F.1 F.2.1 d_Ck_moveOn_44 (by decide) ?_
        refine pC2_1 (pc := 45) F w (F.2.2.2.2 _ m_40) d_Ck_moveOn_45 (fun H locs s5 e_s5 w => ?_)
        refine lv_aload_n (pc := 48) F.1 F.2.1 d_Ck_moveOn_48 rfl (lv_at hl 0 rfl) ?_
        refine lv_dup (pc := 49) F.1 F.2.1 d_Ck_moveOn_49 rfl ?_
        refine gC2_0 (pc := 50) F w (F.2.2.2.2 _ m_38) d_Ck_moveOn_50 ?_
        refine lv_iconst (pc := 53) (v := 1) F.1 F.2.1 d_Ck_moveOn_53 (by decide) ?_
        refine lv_iadd (pc := 54) F.1 F.2.1 d_Ck_moveOn_54 ?_
        refine pC2_0 (pc := 55) F w (F.2.2.2.2 _ m_38) d_Ck_moveOn_55 (fun H locs s6 e_s6 w => ?_)
        exact k40 s6 _ _ _ ⟨(by rw [e_s6, e_s5]; exact Eq.symm (Eq.trans (if_pos h40) (rfl))), w, lv_sub hl [0] rfl⟩
  · refine lv_icmp_ne (pc := 16) F.1 F.2.1 d_Ck_moveOn_16 (tgt := 34) (by decide) (fun h16 => ?_) (fun h16 => ?_)
    · exact k16 s1 _ _ _ ⟨(by exact Eq.symm (Eq.trans (if_neg h16) (rfl))), w, lv_sub hl [0] rfl⟩
    · refine lv_aload_n (pc := 19) F.1 F.2.1 d_Ck_moveOn_19 rfl (lv_at hl 0 rfl) ?_
      refine lv_iconst (pc := 20) (v := 0) F.1 F.2.1 d_Ck_moveOn_20 (by decide) ?_
      refine pC2_2 (pc := 21) F w (F.2.2.2.2 _ m_43) d_Ck_moveOn_21 (fun H locs s2 e_s2 w => ?_)
      refine lv_aload_n (pc := 24) F.1 F.2.1 d_Ck_moveOn_24 rfl (lv_at hl 0 rfl) ?_
      refine lv_dup (pc := 25) F.1 F.2.1 d_Ck_moveOn_25 rfl ?_
      refine gC2_1 (pc := 26) F w (F.2.2.2.2 _ m_40) d_Ck_moveOn_26 ?_
      refine lv_iconst (pc := 29) (v := 1) F.1 F.2.1 d_Ck_moveOn_29 (by decide) ?_
      refine lv_iadd (pc := 30) F.1 F.2.1 d_Ck_moveOn_30 ?_
      refine pC2_1 (pc := 31) F w (F.2.2.2.2 _ m_40) d_Ck_moveOn_31 (fun H locs s3 e_s3 w => ?_)
      exact k16 s3 _ _ _ ⟨(by rw [e_s3, e_s2]; exact Eq.symm (Eq.trans (if_pos h16) (rfl))), w, lv_sub hl [0] rfl⟩
def f_Pm_passCycle_r36 (r1 : Int32) (s2 : Sg) : Int32 × Sg := if r1 = 0 then (let r3 := (f_Pr_passCycle s2).1; let s4 := (f_Pr_passCycle s2).2; if r3 = 0 then ((0, s4)) else ((1, s4))) else ((0, s2))
def f_Pm_passCycle_r69 (σ : Sg) (s7 : Sg) : Sg := if (σ 2 2) = 23 then (let s8 := f_Pm_endLine s7 (σ 2 1); s8) else (s7)
def f_Pm_passCycle (σ : Sg) : Int32 × Sg := let r1 := (f_Ds_passCycle σ (σ 2 1) (σ 2 2)).1; let s2 := (f_Ds_passCycle σ (σ 2 1) (σ 2 2)).2; let v5 := (f_Pm_passCycle_r36 r1 s2).1; let s6 := (f_Pm_passCycle_r36 r1 s2).2; let s7 := f_Ch_passCycle s6; let s9 := (f_Pm_passCycle_r69 σ s7); let s10 := f_Ck_moveOn s9; (v5, s10)
theorem z_f_Pm_passCycle_r36_0 (r1 : Int32) (s2 : Sg) : (f_Pm_passCycle_r36 r1 s2).1 = 0 ∨ (f_Pm_passCycle_r36 r1 s2).1 = 1 := by unfold f_Pm_passCycle_r36; (try dsimp only); (repeat' split) <;> first | exact Or.inl rfl | exact Or.inr rfl | apply z_Ds_passCycle | apply z_Pr_passCycle
theorem z_Pm_passCycle (σ : Sg) : (f_Pm_passCycle σ ).1 = 0 ∨ (f_Pm_passCycle σ ).1 = 1 := by unfold f_Pm_passCycle; (try dsimp only); (repeat' split) <;> first | exact Or.inl rfl | exact Or.inr rfl | apply z_f_Pm_passCycle_r36_0 | apply z_Ds_passCycle | apply z_Pr_passCycle
/-- what a cycle asks of the state, and of the states on its way -/
def OkC (σ : Sg) : Prop := IC σ ∧ IC (f_Ds_passCycle σ (σ 2 1) (σ 2 2)).2 ∧ IC (f_Pm_passCycle_r36 (f_Ds_passCycle σ (σ 2 1) (σ 2 2)).1 (f_Ds_passCycle σ (σ 2 1) (σ 2 2)).2).2 ∧ IC (f_Pm_endLine_r4 (f_Ch_passCycle (f_Pm_passCycle_r36 (f_Ds_passCycle σ (σ 2 1) (σ 2 2)).1 (f_Ds_passCycle σ (σ 2 1) (σ 2 2)).2).2) (σ 2 1) (f_Pm_isShownLine (σ 2 1)))
set_option maxHeartbeats 1000000 in
set_option maxRecDepth 100000 in
theorem c_Pm_passCycle (l : Launch) (D : va_G) (cI : ClassId) (ad : Nat → Nat) (σ : Sg) (hO : OkC σ) : Met l y_Pm_passCycle (Cond.code y_Pm_passCycle b_Pm_passCycle 5 (some .boolean) :: al) { frames := 6, cells := 0, slots := 0, locals := 170 } (Px D cI (wC cI ad) (AC ad) σ [.ref (ad 0)]) (va_Qi (fun r u => (r, u) = f_Pm_passCycle σ ) (Bx D cI (wC cI ad) (AC ad)) (AC ad)) 0 0 (AC ad) := by
  refine Mx l (by decide) (Nat.le_of_ble_eq_true rfl) ?_
  intro p e s m below meth c ls F w hr hlk hl
  have F : CallFix p m c b_Pm_passCycle 5 s _ al "PictureMachine" := F
  have hl : lv_has ls 5 [(0, .ref (ad 0))] := hl
  have hcs : (0 : Nat) ≤ 0 ∧ (0 : Nat) ≤ 0 := ⟨Nat.le_refl _, Nat.le_refl _⟩
  refine lv_aload_n (pc := 0) F.1 F.2.1 d_Pm_passCycle_0 rfl (lv_at hl 0 rfl) ?_
  refine gC0_0 (pc := 1) F w (F.2.2.2.2 _ m_319) d_Pm_passCycle_1 ?_
  refine gNC1_0 (pc := 4) F w m_228 d_Pm_passCycle_4 ?_
  refine gNC2_1 (pc := 7) F w m_42 d_Pm_passCycle_7 ?_
  refine lv_istore_n (pc := 10) F.1 F.2.1 d_Pm_passCycle_10 rfl hl (by decide) rfl (fun ls hl => ?_)
  have hl : lv_has ls 5 [(1, .int (σ 2 1)), (0, .ref (ad 0))] := hl
  refine lv_aload_n (pc := 11) F.1 F.2.1 d_Pm_passCycle_11 rfl (lv_at hl 1 rfl) ?_
  refine gC0_0 (pc := 12) F w (F.2.2.2.2 _ m_319) d_Pm_passCycle_12 ?_
  refine gNC1_0 (pc := 15) F w m_228 d_Pm_passCycle_15 ?_
  refine gNC2_2 (pc := 18) F w m_44 d_Pm_passCycle_18 ?_
  refine lv_istore_n (pc := 21) F.1 F.2.1 d_Pm_passCycle_21 rfl hl (by decide) rfl (fun ls hl => ?_)
  have hl : lv_has ls 5 [(2, .int (σ 2 2)), (1, .int (σ 2 1)), (0, .ref (ad 0))] := hl
  refine lv_aload_n (pc := 22) F.1 F.2.1 d_Pm_passCycle_22 rfl (lv_at hl 2 rfl) ?_
  refine gC0_0 (pc := 23) F w (F.2.2.2.2 _ m_319) d_Pm_passCycle_23 ?_
  refine gNC1_5 (pc := 26) F w m_240 d_Pm_passCycle_26 ?_
  refine lv_iload_n (pc := 29) F.1 F.2.1 d_Pm_passCycle_29 rfl (lv_at hl 1 rfl) ?_
  refine lv_iload_n (pc := 30) F.1 F.2.1 d_Pm_passCycle_30 rfl (lv_at hl 0 rfl) ?_
  refine Cvi (pc := 31) (As := [.int (σ 2 1), .int (σ 2 2)]) (rest := []) F w (c_Ds_passCycle l D cI ad σ (σ 2 1) (σ 2 2) (hO.1.2.2.2.2.2)) 6 rfl rfl k_Ds_passCycle m_539 (Nat.le_of_ble_eq_true rfl) (Nat.le_of_ble_eq_true rfl) ⟨rfl, rfl⟩ rfl hl.1 rfl (Nat.le_of_ble_eq_true rfl) d_Pm_passCycle_31 hcs (fun r1 s2 H locs e_r1 e_s2 w => ?_)
  have iIC_s2 : IC s2 := by rw [e_s2]; exact hO.2.1
  refine lv_istore_n (pc := 34) F.1 F.2.1 d_Pm_passCycle_34 rfl hl (by decide) rfl (fun ls hl => ?_)
  have hl : lv_has ls 5 [(3, .int r1), (2, .int (σ 2 2)), (1, .int (σ 2 1)), (0, .ref (ad 0))] := hl
  refine lv_iload_n (pc := 35) F.1 F.2.1 d_Pm_passCycle_35 rfl (lv_at hl 0 rfl) ?_
  refine cutW (α := Int32 × Sg) (fun x H locs ls => x = f_Pm_passCycle_r36 r1 s2 ∧ Wx D cI (wC cI ad) (AC ad) (AC ad) s s.heap H locs x.2 ∧ lv_has ls 5 [(0, .ref (ad 0)), (1, .int (σ 2 1)), (2, .int (σ 2 2)), (3, .int r1)]) (fun x ls => F0 m 54 ls [.int (x.1)]) ?_ (fun k36 => ?_)
  · rintro ⟨v5, s6⟩ H locs ls ⟨ex, w, hl⟩
    have e_v5 : v5 = (f_Pm_passCycle_r36 r1 s2).1 := congrArg (fun z => z.1) ex
    have e_s6 : s6 = (f_Pm_passCycle_r36 r1 s2).2 := congrArg (fun z => z.2) ex
    clear ex
    have w : Wx D cI (wC cI ad) (AC ad) (AC ad) s s.heap H locs s6 := w
    have iIC_s6 : IC s6 := by rw [e_s6, e_s2, e_r1]; exact hO.2.2.1
    have hl : lv_has ls 5 [(0, .ref (ad 0)), (1, .int (σ 2 1)), (2, .int (σ 2 2)), (3, .int r1)] := hl
    show W _ _ _ _ _ _ _ _ _ _ _ _ _ _ _ (F0 m 54 ls [.int v5])
    refine lv_istore (pc := 54) F.1 F.2.1 d_Pm_passCycle_54 hl (by decide) rfl (fun ls hl => ?_)
    have hl : lv_has ls 5 [(4, .int v5), (0, .ref (ad 0)), (1, .int (σ 2 1)), (2, .int (σ 2 2)), (3, .int r1)] := hl
    refine lv_aload_n (pc := 56) F.1 F.2.1 d_Pm_passCycle_56 rfl (lv_at hl 1 rfl) ?_
    refine gC0_0 (pc := 57) F w (F.2.2.2.2 _ m_319) d_Pm_passCycle_57 ?_
    refine gNC1_4 (pc := 60) F w m_238 d_Pm_passCycle_60 ?_
    refine Cvv (pc := 63) (As := []) (rest := []) F w (c_Ch_passCycle l D cI ad s6) 5 rfl rfl k_Ch_passCycle m_698 (Nat.le_of_ble_eq_true rfl) (Nat.le_of_ble_eq_true rfl) ⟨rfl, rfl⟩ rfl hl.1 rfl (Nat.le_of_ble_eq_true rfl) d_Pm_passCycle_63 hcs (fun s7 H locs e_s7 w => ?_)
    have iIC_s7 : IC s7 := by rw [e_s7]; exact iIC_Ch_passCycle iIC_s6 
    refine lv_iload_n (pc := 66) F.1 F.2.1 d_Pm_passCycle_66 rfl (lv_at hl 3 rfl) ?_
    refine lv_bipush (pc := 67) (v := 23) F.1 F.2.1 d_Pm_passCycle_67 (by decide) ?_
    refine cutW (α := Sg) (fun x H locs ls => x = f_Pm_passCycle_r69 σ s7 ∧ Wx D cI (wC cI ad) (AC ad) (AC ad) s s.heap H locs x ∧ lv_has ls 5 [(0, .ref (ad 0)), (1, .int (σ 2 1)), (2, .int (σ 2 2)), (3, .int r1), (4, .int v5)]) (fun x ls => F0 m 77 ls []) ?_ (fun k69 => ?_)
    · rintro s9 H locs ls ⟨ex, w, hl⟩
      have e_s9 := ex
      have w : Wx D cI (wC cI ad) (AC ad) (AC ad) s s.heap H locs s9 := w
      have hl : lv_has ls 5 [(0, .ref (ad 0)), (1, .int (σ 2 1)), (2, .int (σ 2 2)), (3, .int r1), (4, .int v5)] := hl
      show W _ _ _ _ _ _ _ _ _ _ _ _ _ _ _ (F0 m 77 ls [])
      refine lv_aload_n (pc := 77) F.1 F.2.1 d_Pm_passCycle_77 rfl (lv_at hl 0 rfl) ?_
      refine gC0_0 (pc := 78) F w (F.2.2.2.2 _ m_319) d_Pm_passCycle_78 ?_
      refine gNC1_0 (pc := 81) F w m_228 d_Pm_passCycle_81 ?_
      refine Cvv (pc := 84) (As := []) (rest := []) F w (c_Ck_moveOn l D cI ad s9) 2 rfl rfl k_Ck_moveOn m_738 (Nat.le_of_ble_eq_true rfl) (Nat.le_of_ble_eq_true rfl) ⟨rfl, rfl⟩ rfl hl.1 rfl (Nat.le_of_ble_eq_true rfl) d_Pm_passCycle_84 hcs (fun s10 H locs e_s10 w => ?_)
      refine lv_iload (pc := 87) F.1 F.2.1 d_Pm_passCycle_87 (lv_at hl 4 rfl) ?_
      exact Rz (pc := 89) F hr hlk w (e_v5 ▸ z_f_Pm_passCycle_r36_0 r1 s2) (by rw [e_s10, e_s9, e_s7, e_s6, e_v5, e_s2, e_r1]; exact Eq.symm (rfl)) d_Pm_passCycle_89
    · refine lv_icmp_ne (pc := 69) F.1 F.2.1 d_Pm_passCycle_69 (tgt := 77) (by decide) (fun h69 => ?_) (fun h69 => ?_)
      · exact k69 s7 _ _ _ ⟨(by exact Eq.symm (Eq.trans (if_neg h69) (rfl))), w, lv_sub hl [1, 2, 3, 4, 0] rfl⟩
      · refine lv_aload_n (pc := 72) F.1 F.2.1 d_Pm_passCycle_72 rfl (lv_at hl 1 rfl) ?_
        refine lv_iload_n (pc := 73) F.1 F.2.1 d_Pm_passCycle_73 rfl (lv_at hl 2 rfl) ?_
        refine Cvv (pc := 74) (As := [.int (σ 2 1)]) (rest := []) F w (c_Pm_endLine l D cI ad s7 (σ 2 1) iIC_s7 (by rw [e_s7, e_s6, e_s2, e_r1]; exact hO.2.2.2)) 0 rfl rfl k_Pm_endLine m_702 (Nat.le_of_ble_eq_true rfl) (Nat.le_of_ble_eq_true rfl) ⟨rfl, rfl⟩ rfl hl.1 rfl (Nat.le_of_ble_eq_true rfl) d_Pm_passCycle_74 hcs (fun s8 H locs e_s8 w => ?_)
        exact k69 s8 _ _ _ ⟨(by rw [e_s8]; exact Eq.symm (Eq.trans (if_pos h69) (rfl))), w, lv_sub hl [1, 2, 3, 4, 0] rfl⟩
  · refine lv_if_ne (pc := 36) F.1 F.2.1 d_Pm_passCycle_36 (tgt := 53) (by decide) (fun h36 => ?_) (fun h36 => ?_)
    · refine lv_iconst (pc := 53) (v := 0) F.1 F.2.1 d_Pm_passCycle_53 (by decide) ?_
      exact k36 (0, s2) _ _ _ ⟨(by exact Eq.symm (Eq.trans (if_neg h36) (rfl))), w, lv_sub hl [3, 2, 1, 0] rfl⟩
    · refine lv_aload_n (pc := 39) F.1 F.2.1 d_Pm_passCycle_39 rfl (lv_at hl 3 rfl) ?_
      refine gC0_1 (pc := 40) F w (F.2.2.2.2 _ m_320) d_Pm_passCycle_40 ?_
      refine Cvi (pc := 43) (As := []) (rest := []) F w (c_Pr_passCycle l D cI ad s2 iIC_s2) 9 rfl rfl k_Pr_passCycle m_606 (Nat.le_of_ble_eq_true rfl) (Nat.le_of_ble_eq_true rfl) ⟨rfl, rfl⟩ rfl hl.1 rfl (Nat.le_of_ble_eq_true rfl) d_Pm_passCycle_43 hcs (fun r3 s4 H locs e_r3 e_s4 w => ?_)
      refine lv_if_eq (pc := 46) F.1 F.2.1 d_Pm_passCycle_46 (tgt := 53) (by decide) (fun h46 => ?_) (fun h46 => ?_)
      · refine lv_iconst (pc := 53) (v := 0) F.1 F.2.1 d_Pm_passCycle_53 (by decide) ?_
        exact k36 (0, s4) _ _ _ ⟨(by rw [e_r3] at h46; rw [e_s4]; exact Eq.symm (Eq.trans (if_pos h36) (Eq.trans (if_pos h46) (rfl)))), w, lv_sub hl [3, 2, 1, 0] rfl⟩
      · refine lv_iconst (pc := 49) (v := 1) F.1 F.2.1 d_Pm_passCycle_49 (by decide) ?_
        refine lv_goto (pc := 50) F.1 F.2.1 d_Pm_passCycle_50 (tgt := 54) (by decide) ?_
        exact k36 (1, s4) _ _ _ ⟨(by rw [e_r3] at h46; rw [e_s4]; exact Eq.symm (Eq.trans (if_pos h36) (Eq.trans (if_neg h46) (rfl)))), w, lv_sub hl [3, 2, 1, 0] rfl⟩
def f_Pm_run_r1 (x1 : Int32) : Int32 := if x1 < 0 then (0) else (if 1000 < x1 then (0) else (1))
def f_Pm_run_r32 (v2 : Int32) (r4 : Int32) : Int32 := if r4 = 0 then (v2) else ((v2 + 1))
def bd_Pm_run_23 (σ : Sg) (v2 : Int32) (s3 : Sg) (j23 : Nat) : Int32 × Sg := let r4 := (f_Pm_passCycle s3).1; let s5 := (f_Pm_passCycle s3).2; let v6 := (f_Pm_run_r32 v2 r4); (v6, s5)
def it_Pm_run_23 (σ : Sg) : Nat → Int32 × Sg := itr (fun j23 x => bd_Pm_run_23 σ (x.1) (x.2) j23) (0, σ)
def f_Pm_run (σ : Sg) (x1 : Int32) : Int32 × Sg := let v1 := (f_Pm_run_r1 x1); let v2 := (it_Pm_run_23 σ (x1.toNatClampNeg)).1; let s3 := (it_Pm_run_23 σ (x1.toNatClampNeg)).2; (v2, s3)
theorem z_f_Pm_run_r1_0 (x1 : Int32) : (f_Pm_run_r1 x1) = 0 ∨ (f_Pm_run_r1 x1) = 1 := by unfold f_Pm_run_r1; (try dsimp only); (repeat' split) <;> first | exact Or.inl rfl | exact Or.inr rfl | apply z_Pm_passCycle
theorem run_ok {x1 : Int32} (h : ¬ f_Pm_run_r1 x1 = 0) : bt2 0 x1 1000 := by
  by_cases h1 : x1 < 0
  · exact absurd (show f_Pm_run_r1 x1 = 0 from if_pos h1) h
  by_cases h2 : 1000 < x1
  · exact absurd (show f_Pm_run_r1 x1 = 0 from (if_neg h1).trans (if_pos h2)) h
  rw [ti_lt, show (0 : Int32).toInt = 0 by decide] at h1
  rw [ti_lt, show (1000 : Int32).toInt = 1000 by decide] at h2
  exact ⟨by omega, by omega⟩
set_option maxHeartbeats 1000000 in
set_option maxRecDepth 100000 in
theorem c_Pm_run (l : Launch) (D : va_G) (cI : ClassId) (ad : Nat → Nat) (σ : Sg) (x1 : Int32) (hO : ∀ j, j < x1.toNatClampNeg → OkC (it_Pm_run_23 σ j).2) (hp : ¬ (f_Pm_run_r1 x1) = 0) : Met l y_Pm_run (Cond.code y_Pm_run b_Pm_run 4 (some .int) :: al) { frames := 7, cells := 0, slots := 0, locals := 194 } (Px D cI (wC cI ad) (AC ad) σ [.ref (ad 0), .int x1]) (va_Qi (fun r u => (r, u) = f_Pm_run σ x1) (Bx D cI (wC cI ad) (AC ad)) (AC ad)) 0 0 (AC ad) := by
  refine Mx l (by decide) (Nat.le_of_ble_eq_true rfl) ?_
  intro p e s m below meth c ls F w hr hlk hl
  have F : CallFix p m c b_Pm_run 4 s _ al "PictureMachine" := F
  have hl : lv_has ls 4 [(0, .ref (ad 0)), (1, .int x1)] := hl
  have hcs : (0 : Nat) ≤ 0 ∧ (0 : Nat) ≤ 0 := ⟨Nat.le_refl _, Nat.le_refl _⟩
  have hx := run_ok hp
  refine lv_iload_n (pc := 0) F.1 F.2.1 d_Pm_run_0 rfl (lv_at hl 1 rfl) ?_
  refine cutW (α := Int32) (fun x H locs ls => x = f_Pm_run_r1 x1 ∧ Wx D cI (wC cI ad) (AC ad) (AC ad) s s.heap H locs σ ∧ lv_has ls 4 [(0, .ref (ad 0)), (1, .int x1)]) (fun x ls => F0 m 16 ls [.int x]) ?_ (fun k1 => ?_)
  · rintro v1 H locs ls ⟨ex, w, hl⟩
    have e_v1 := ex
    have w : Wx D cI (wC cI ad) (AC ad) (AC ad) s s.heap H locs σ := w
    have hl : lv_has ls 4 [(0, .ref (ad 0)), (1, .int x1)] := hl
    show W _ _ _ _ _ _ _ _ _ _ _ _ _ _ _ (F0 m 16 ls [.int v1])
    refine Usv (pc := 16) F (c_Pm_need l (by rw [e_v1]; exact hp)) k_Pm_need m_371 (Nat.le_of_ble_eq_true rfl) (Nat.le_of_ble_eq_true rfl) ⟨rfl, rfl⟩ rfl hl.1 rfl (Nat.le_of_ble_eq_true rfl) d_Pm_run_16 hcs ?_
    refine lv_iconst (pc := 19) (v := 0) F.1 F.2.1 d_Pm_run_19 (by decide) ?_
    refine lv_istore_n (pc := 20) F.1 F.2.1 d_Pm_run_20 rfl hl (by decide) rfl (fun ls hl => ?_)
    have hl : lv_has ls 4 [(2, .int 0), (0, .ref (ad 0)), (1, .int x1)] := hl
    refine lv_iconst (pc := 21) (v := 0) F.1 F.2.1 d_Pm_run_21 (by decide) ?_
    refine lv_istore_n (pc := 22) F.1 F.2.1 d_Pm_run_22 rfl hl (by decide) rfl (fun ls hl => ?_)
    have hl : lv_has ls 4 [(3, .int 0), (2, .int 0), (0, .ref (ad 0)), (1, .int x1)] := hl
    refine loopW (α := Int32 × Sg) (x1.toNatClampNeg) (fun j23 x H locs ls => x = it_Pm_run_23 σ j23 ∧ Wx D cI (wC cI ad) (AC ad) (AC ad) s s.heap H locs (x.2) ∧ lv_has ls 4 [(0, .ref (ad 0)), (1, .int x1), (2, .int (x.1)), (3, .int (0 + nI j23))]) (fun _ ls => F0 m 23 ls []) ?_ ?_ 0 (0, σ) _ _ _ (Nat.zero_le _) ⟨rfl, w, by rw [ci_0]; exact lv_sub hl [2, 3, 1, 0] rfl⟩
    · rintro j23 ⟨v2, s3⟩ H locs ls hj23 ⟨ex, w, hl⟩ nx23
      have e_v2 : v2 = (it_Pm_run_23 σ j23).1 := congrArg (fun z => z.1) ex
      have e_s3 : s3 = (it_Pm_run_23 σ j23).2 := congrArg (fun z => z.2) ex
      clear ex
      have w : Wx D cI (wC cI ad) (AC ad) (AC ad) s s.heap H locs s3 := w
      have hl : lv_has ls 4 [(0, .ref (ad 0)), (1, .int x1), (2, .int v2), (3, .int (0 + nI j23))] := hl
      have hc23_0 : ¬ (x1 ≤ (0 + nI j23)) := lp_lt hj23 (nI_cl hx.1).symm (cl_lt x1)
      refine lv_iload_n (pc := 23) F.1 F.2.1 d_Pm_run_23 rfl (lv_at hl 3 rfl) ?_
      refine lv_iload_n (pc := 24) F.1 F.2.1 d_Pm_run_24 rfl (lv_at hl 1 rfl) ?_
      refine lv_icmp_ge (pc := 25) F.1 F.2.1 d_Pm_run_25 (tgt := 44) (by decide) (fun q => absurd q hc23_0) (fun _ => ?_)
      refine lv_aload_n (pc := 28) F.1 F.2.1 d_Pm_run_28 rfl (lv_at hl 0 rfl) ?_
      refine Cvi (pc := 29) (As := []) (rest := []) F w (c_Pm_passCycle l D cI ad s3 (by rw [e_s3]; exact hO _ hj23)) 0 rfl rfl k_Pm_passCycle m_535 (Nat.le_of_ble_eq_true rfl) (Nat.le_of_ble_eq_true rfl) ⟨rfl, rfl⟩ rfl hl.1 rfl (Nat.le_of_ble_eq_true rfl) d_Pm_run_29 hcs (fun r4 s5 H locs e_r4 e_s5 w => ?_)
      refine cutW (α := Int32) (fun x H locs ls => x = f_Pm_run_r32 v2 r4 ∧ Wx D cI (wC cI ad) (AC ad) (AC ad) s s.heap H locs s5 ∧ lv_has ls 4 [(0, .ref (ad 0)), (1, .int x1), (2, .int x), (3, .int (0 + nI j23))]) (fun x ls => F0 m 38 ls []) ?_ (fun k32 => ?_)
      · rintro v6 H locs ls ⟨ex, w, hl⟩
        have e_v6 := ex
        have w : Wx D cI (wC cI ad) (AC ad) (AC ad) s s.heap H locs s5 := w
        have hl : lv_has ls 4 [(0, .ref (ad 0)), (1, .int x1), (2, .int v6), (3, .int (0 + nI j23))] := hl
        show W _ _ _ _ _ _ _ _ _ _ _ _ _ _ _ (F0 m 38 ls [])
        refine lv_iinc (pc := 38) (k := 3) (v := ((0 + nI j23) + 1)) F.1 F.2.1 d_Pm_run_38 hl rfl (by first | rfl | decide) (by decide) rfl (fun ls hl => ?_)
        have hl : lv_has ls 4 [(3, .int ((0 + nI j23) + 1)), (0, .ref (ad 0)), (1, .int x1), (2, .int v6)] := hl
        refine lv_goto (pc := 41) F.1 F.2.1 d_Pm_run_41 (tgt := 23) (by decide) ?_
        exact nx23 (v6, s5) _ _ _ ⟨(by rw [e_v6, e_s5, e_r4, e_s3, e_v2]; exact Eq.symm (rfl)), w, by rw [← ci_s]; exact lv_sub hl [1, 2, 3, 0] rfl⟩
      · refine lv_if_eq (pc := 32) F.1 F.2.1 d_Pm_run_32 (tgt := 38) (by decide) (fun h32 => ?_) (fun h32 => ?_)
        · exact k32 v2 _ _ _ ⟨(by exact Eq.symm (Eq.trans (if_pos h32) (rfl))), w, lv_sub hl [0, 1, 2, 3] rfl⟩
        · refine lv_iinc (pc := 35) (k := 2) (v := (v2 + 1)) F.1 F.2.1 d_Pm_run_35 hl rfl (by first | rfl | decide) (by decide) rfl (fun ls hl => ?_)
          have hl : lv_has ls 4 [(2, .int (v2 + 1)), (0, .ref (ad 0)), (1, .int x1), (3, .int (0 + nI j23))] := hl
          exact k32 (v2 + 1) _ _ _ ⟨(by exact Eq.symm (Eq.trans (if_neg h32) (rfl))), w, lv_sub hl [1, 2, 0, 3] rfl⟩
    · rintro ⟨v2, s3⟩ H locs ls ⟨ex, w, hl⟩
      have e_v2 : v2 = (it_Pm_run_23 σ (x1.toNatClampNeg)).1 := congrArg (fun z => z.1) ex
      have e_s3 : s3 = (it_Pm_run_23 σ (x1.toNatClampNeg)).2 := congrArg (fun z => z.2) ex
      clear ex
      have w : Wx D cI (wC cI ad) (AC ad) (AC ad) s s.heap H locs s3 := w
      have hl : lv_has ls 4 [(0, .ref (ad 0)), (1, .int x1), (2, .int v2), (3, .int (0 + nI (x1.toNatClampNeg)))] := hl
      have hx23_0 : x1 ≤ (0 + nI (x1.toNatClampNeg)) := lp_ge (nI_cl hx.1).symm
      refine lv_iload_n (pc := 23) F.1 F.2.1 d_Pm_run_23 rfl (lv_at hl 3 rfl) ?_
      refine lv_iload_n (pc := 24) F.1 F.2.1 d_Pm_run_24 rfl (lv_at hl 1 rfl) ?_
      refine lv_icmp_ge (pc := 25) F.1 F.2.1 d_Pm_run_25 (tgt := 44) (by decide) (fun _ => ?_) (fun q => absurd hx23_0 q)
      refine lv_iload_n (pc := 44) F.1 F.2.1 d_Pm_run_44 rfl (lv_at hl 2 rfl) ?_
      exact Ri (pc := 45) F hr hlk w (by rw [e_s3, e_v2]; exact Eq.symm (rfl)) d_Pm_run_45
  · refine lv_if_lt (pc := 1) F.1 F.2.1 d_Pm_run_1 (tgt := 15) (by decide) (fun h1 => ?_) (fun h1 => ?_)
    · refine lv_iconst (pc := 15) (v := 0) F.1 F.2.1 d_Pm_run_15 (by decide) ?_
      exact k1 0 _ _ _ ⟨(by exact Eq.symm (Eq.trans (if_pos h1) (rfl))), w, lv_sub hl [0, 1] rfl⟩
    · refine lv_iload_n (pc := 4) F.1 F.2.1 d_Pm_run_4 rfl (lv_at hl 1 rfl) ?_
      refine lv_sipush (pc := 5) (v := 1000) F.1 F.2.1 d_Pm_run_5 (by decide) ?_
      refine lv_icmp_gt (pc := 8) F.1 F.2.1 d_Pm_run_8 (tgt := 15) (by decide) (fun h8 => ?_) (fun h8 => ?_)
      · refine lv_iconst (pc := 15) (v := 0) F.1 F.2.1 d_Pm_run_15 (by decide) ?_
        exact k1 0 _ _ _ ⟨(by exact Eq.symm (Eq.trans (if_neg h1) (Eq.trans (if_pos h8) (rfl)))), w, lv_sub hl [0, 1] rfl⟩
      · refine lv_iconst (pc := 11) (v := 1) F.1 F.2.1 d_Pm_run_11 (by decide) ?_
        refine lv_goto (pc := 12) F.1 F.2.1 d_Pm_run_12 (tgt := 16) (by decide) ?_
        exact k1 1 _ _ _ ⟨(by exact Eq.symm (Eq.trans (if_neg h1) (Eq.trans (if_neg h8) (rfl)))), w, lv_sub hl [0, 1] rfl⟩
set_option maxHeartbeats 1000000 in
set_option maxRecDepth 100000 in
theorem t_Pm_run (l : Launch) (htr : l.stackTraces = false) (A : Nat → Prop) (ad : Nat → Nat)  (x1 : Int32) (hp : (f_Pm_run_r1 x1) = 0) : MetT l y_Pm_run (Cond.code y_Pm_run b_Pm_run 4 (some .int) :: al) { frames := 7, cells := 1, slots := 6, locals := 128 } (PZ A [.ref (ad 0), .int x1]) (QX "java/lang/IllegalArgumentException") 1 6 (fun _ => False) := by
  refine MuT l (by decide) (Nat.le_of_ble_eq_true rfl) ?_
  intro p e s m below meth c ls F hno hlk hl hZ
  have F : CallFix p m c b_Pm_run 4 s _ al "PictureMachine" := F
  generalize hH : s.heap = H
  generalize hlo : ([] : List Loc) = locs
  have w : (H = s.heap ∧ locs = []) := ⟨hH.symm, hlo.symm⟩
  have hl : lv_has ls 4 [(0, .ref (ad 0)), (1, .int x1)] := hl
  have hcs : (0 : Nat) ≤ 1 ∧ (0 : Nat) ≤ 6 := ⟨Nat.zero_le _, Nat.zero_le _⟩
  refine lv_iload_n (pc := 0) F.1 F.2.1 d_Pm_run_0 rfl (lv_at hl 1 rfl) ?_
  refine cutW (α := Int32) (fun x H locs ls => x = f_Pm_run_r1 x1 ∧ (H = s.heap ∧ locs = []) ∧ lv_has ls 4 [(0, .ref (ad 0)), (1, .int x1)]) (fun x ls => F0 m 16 ls [.int x]) ?_ (fun k1 => ?_)
  · rintro v1 H locs ls ⟨ex, w, hl⟩
    have e_v1 := ex
    have w : (H = s.heap ∧ locs = []) := w
    have hl : lv_has ls 4 [(0, .ref (ad 0)), (1, .int x1)] := hl
    show W _ _ _ _ _ _ _ _ _ _ _ _ _ _ _ (F0 m 16 ls [.int v1])
    exact needT F (t_Pm_need l htr A (x1 := v1) (by rw [e_v1]; exact hp)) k_Pm_need m_371 (Nat.le_of_ble_eq_true rfl) (Nat.le_of_ble_eq_true rfl) (Nat.le_of_ble_eq_true rfl) (Nat.le_of_ble_eq_true rfl) rfl rfl hl.1 hZ w hno hlk d_Pm_run_16
  · refine lv_if_lt (pc := 1) F.1 F.2.1 d_Pm_run_1 (tgt := 15) (by decide) (fun h1 => ?_) (fun h1 => ?_)
    · refine lv_iconst (pc := 15) (v := 0) F.1 F.2.1 d_Pm_run_15 (by decide) ?_
      exact k1 0 _ _ _ ⟨(by exact Eq.symm (Eq.trans (if_pos h1) (rfl))), w, lv_sub hl [0, 1] rfl⟩
    · refine lv_iload_n (pc := 4) F.1 F.2.1 d_Pm_run_4 rfl (lv_at hl 1 rfl) ?_
      refine lv_sipush (pc := 5) (v := 1000) F.1 F.2.1 d_Pm_run_5 (by decide) ?_
      refine lv_icmp_gt (pc := 8) F.1 F.2.1 d_Pm_run_8 (tgt := 15) (by decide) (fun h8 => ?_) (fun h8 => ?_)
      · refine lv_iconst (pc := 15) (v := 0) F.1 F.2.1 d_Pm_run_15 (by decide) ?_
        exact k1 0 _ _ _ ⟨(by exact Eq.symm (Eq.trans (if_neg h1) (Eq.trans (if_pos h8) (rfl)))), w, lv_sub hl [0, 1] rfl⟩
      · refine lv_iconst (pc := 11) (v := 1) F.1 F.2.1 d_Pm_run_11 (by decide) ?_
        refine lv_goto (pc := 12) F.1 F.2.1 d_Pm_run_12 (tgt := 16) (by decide) ?_
        exact k1 1 _ _ _ ⟨(by exact Eq.symm (Eq.trans (if_neg h1) (Eq.trans (if_neg h8) (rfl)))), w, lv_sub hl [0, 1] rfl⟩
def f_Pc_dotAt (σ : Sg) (x1 : Int32) (x2 : Int32) : Int32 := let r1 := f_Pc_firstDotOf x1; (σ 14 (r1 + x2).toNatClampNeg)
set_option maxHeartbeats 1000000 in
set_option maxRecDepth 100000 in
theorem c_Pc_dotAt (l : Launch) (D : va_G) (cI : ClassId) (ad : Nat → Nat) (σ : Sg) (x1 : Int32) (x2 : Int32) (hq : bt2 1 x1 12 ∧ bt2 0 x2 31) : Met l y_Pc_dotAt (Cond.code y_Pc_dotAt b_Pc_dotAt 3 (some .int) :: al) { frames := 1, cells := 0, slots := 0, locals := 20 } (Px D cI (wC cI ad) (AC ad) σ [.ref (ad 7), .int x1, .int x2]) (va_Qi (fun r u => r = f_Pc_dotAt σ x1 x2 ∧ u = σ) (Bx D cI (wC cI ad) (AC ad)) (AC ad)) 0 0 (AC ad) := by
  refine Mx l (by decide) (Nat.le_of_ble_eq_true rfl) ?_
  intro p e s m below meth c ls F w hr hlk hl
  have F : CallFix p m c b_Pc_dotAt 3 s _ al "PictureMachine$Picture" := F
  have hl : lv_has ls 3 [(0, .ref (ad 7)), (1, .int x1), (2, .int x2)] := hl
  have hcs : (0 : Nat) ≤ 0 ∧ (0 : Nat) ≤ 0 := ⟨Nat.le_refl _, Nat.le_refl _⟩
  refine lv_aload_n (pc := 0) F.1 F.2.1 d_Pc_dotAt_0 rfl (lv_at hl 0 rfl) ?_
  refine gC7_2 (pc := 1) F w (F.2.2.2.2 _ m_209) d_Pc_dotAt_1 ?_
  refine lv_iload_n (pc := 4) F.1 F.2.1 d_Pc_dotAt_4 rfl (lv_at hl 1 rfl) ?_
  refine Usi (pc := 5) (As := [.int x1]) (rest := [.ref (ad 14)]) F (c_Pc_firstDotOf l x1) k_Pc_firstDotOf m_711 (Nat.le_of_ble_eq_true rfl) (Nat.le_of_ble_eq_true rfl) ⟨rfl, rfl⟩ rfl hl.1 rfl (Nat.le_of_ble_eq_true rfl) d_Pc_dotAt_5 hcs (fun r1 e_r1 => ?_)
  refine lv_iload_n (pc := 8) F.1 F.2.1 d_Pc_dotAt_8 rfl (lv_at hl 2 rfl) ?_
  refine lv_iadd (pc := 9) F.1 F.2.1 d_Pc_dotAt_9 ?_
  refine lC14 (pc := 10) F w (by rw [e_r1]; exact dt_in hq.1 hq.2) d_Pc_dotAt_10 ?_
  exact Ki (pc := 11) F hr hlk w (by rw [e_r1]; exact Eq.symm (rfl)) d_Pc_dotAt_11
def f_Pm_dot (σ : Sg) (x1 : Int32) (x2 : Int32) : Int32 × Sg := let r1 := f_Pm_isShownLine x1; let r2 := f_Pc_dotAt σ x1 x2; (r2, σ)
set_option maxHeartbeats 1000000 in
set_option maxRecDepth 100000 in
theorem c_Pm_dot (l : Launch) (D : va_G) (cI : ClassId) (ad : Nat → Nat) (σ : Sg) (x1 : Int32) (x2 : Int32) (hp : ¬ f_Pm_isShownLine x1 = 0 ∧ ¬ x2 < 0 ∧ x2 < 32) : Met l y_Pm_dot (Cond.code y_Pm_dot b_Pm_dot 3 (some .int) :: al) { frames := 2, cells := 0, slots := 0, locals := 42 } (Px D cI (wC cI ad) (AC ad) σ [.ref (ad 0), .int x1, .int x2]) (va_Qi (fun r u => (r, u) = f_Pm_dot σ x1 x2) (Bx D cI (wC cI ad) (AC ad)) (AC ad)) 0 0 (AC ad) := by
  refine Mx l (by decide) (Nat.le_of_ble_eq_true rfl) ?_
  intro p e s m below meth c ls F w hr hlk hl
  have F : CallFix p m c b_Pm_dot 3 s _ al "PictureMachine" := F
  have hl : lv_has ls 3 [(0, .ref (ad 0)), (1, .int x1), (2, .int x2)] := hl
  have hcs : (0 : Nat) ≤ 0 ∧ (0 : Nat) ≤ 0 := ⟨Nat.le_refl _, Nat.le_refl _⟩
  refine lv_iload_n (pc := 0) F.1 F.2.1 d_Pm_dot_0 rfl (lv_at hl 1 rfl) ?_
  refine Usi (pc := 1) (As := [.int x1]) (rest := []) F (c_Pm_isShownLine l x1) k_Pm_isShownLine m_706 (Nat.le_of_ble_eq_true rfl) (Nat.le_of_ble_eq_true rfl) ⟨rfl, rfl⟩ rfl hl.1 rfl (Nat.le_of_ble_eq_true rfl) d_Pm_dot_1 hcs (fun r1 e_r1 => ?_)
  refine lv_if_eq (pc := 4) F.1 F.2.1 d_Pm_dot_4 (tgt := 17) (by decide) (fun q => absurd q (by rw [e_r1]; exact hp.1)) (fun _ => ?_)
  refine lv_iload_n (pc := 7) F.1 F.2.1 d_Pm_dot_7 rfl (lv_at hl 2 rfl) ?_
  refine lv_if_lt (pc := 8) F.1 F.2.1 d_Pm_dot_8 (tgt := 17) (by decide) (fun q => absurd q hp.2.1) (fun _ => ?_)
  refine lv_iload_n (pc := 11) F.1 F.2.1 d_Pm_dot_11 rfl (lv_at hl 2 rfl) ?_
  refine lv_bipush (pc := 12) (v := 32) F.1 F.2.1 d_Pm_dot_12 (by decide) ?_
  refine lv_icmp_lt (pc := 14) F.1 F.2.1 d_Pm_dot_14 (tgt := 25) (by decide) (fun _ => ?_) (fun q => absurd hp.2.2 q)
  refine lv_aload_n (pc := 25) F.1 F.2.1 d_Pm_dot_25 rfl (lv_at hl 0 rfl) ?_
  refine gC0_0 (pc := 26) F w (F.2.2.2.2 _ m_319) d_Pm_dot_26 ?_
  refine gNC1_6 (pc := 29) F w m_242 d_Pm_dot_29 ?_
  refine lv_iload_n (pc := 32) F.1 F.2.1 d_Pm_dot_32 rfl (lv_at hl 1 rfl) ?_
  refine lv_iload_n (pc := 33) F.1 F.2.1 d_Pm_dot_33 rfl (lv_at hl 2 rfl) ?_
  refine Kvi (pc := 34) (As := [.int x1, .int x2]) (rest := []) F w (c_Pc_dotAt l D cI ad σ x1 x2 (⟨isl_ok hp.1, dot_ok hp.2⟩)) 7 rfl rfl k_Pc_dotAt m_765 (Nat.le_of_ble_eq_true rfl) (Nat.le_of_ble_eq_true rfl) ⟨rfl, rfl⟩ rfl hl.1 rfl (Nat.le_of_ble_eq_true rfl) d_Pm_dot_34 hcs (fun r2 H locs e_r2 w => ?_)
  exact Ri (pc := 37) F hr hlk w (by rw [e_r2]; exact Eq.symm (rfl)) d_Pm_dot_37
set_option maxHeartbeats 1000000 in
set_option maxRecDepth 100000 in
theorem t_Pm_dot (l : Launch) (htr : l.stackTraces = false) (A : Nat → Prop) (ad : Nat → Nat)  (x1 : Int32) (x2 : Int32) (hp : f_Pm_isShownLine x1 = 0 ∨ x2 < 0 ∨ ¬ x2 < 32) : MetT l y_Pm_dot (Cond.code y_Pm_dot b_Pm_dot 3 (some .int) :: al) { frames := 7, cells := 1, slots := 6, locals := 128 } (PZ A [.ref (ad 0), .int x1, .int x2]) (QX "java/lang/IndexOutOfBoundsException") 1 6 (fun _ => False) := by
  refine MuT l (by decide) (Nat.le_of_ble_eq_true rfl) ?_
  intro p e s m below meth c ls F hno hlk hl hZ
  have F : CallFix p m c b_Pm_dot 3 s _ al "PictureMachine" := F
  generalize hH : s.heap = H
  generalize hlo : ([] : List Loc) = locs
  have w : (H = s.heap ∧ locs = []) := ⟨hH.symm, hlo.symm⟩
  have hl : lv_has ls 3 [(0, .ref (ad 0)), (1, .int x1), (2, .int x2)] := hl
  have hcs : (0 : Nat) ≤ 1 ∧ (0 : Nat) ≤ 6 := ⟨Nat.zero_le _, Nat.zero_le _⟩
  refine lv_iload_n (pc := 0) F.1 F.2.1 d_Pm_dot_0 rfl (lv_at hl 1 rfl) ?_
  refine Usi (pc := 1) (As := [.int x1]) (rest := []) F (c_Pm_isShownLine l x1) k_Pm_isShownLine m_706 (Nat.le_of_ble_eq_true rfl) (Nat.le_of_ble_eq_true rfl) ⟨rfl, rfl⟩ rfl hl.1 rfl (Nat.le_of_ble_eq_true rfl) d_Pm_dot_1 hcs (fun r1 e_r1 => ?_)
  refine lv_if_eq (pc := 4) F.1 F.2.1 d_Pm_dot_4 (tgt := 17) (by decide) (fun h4 => ?_) (fun h4 => ?_)
  · exact thrNew (pc := 17) F htr (by decide +kernel) (atomsT F.2.2.2.2 hZ key_IndexOutOfBoundsException) (F.2.2.2.2 _ m_750) (F.2.2.2.2 _ m_17) w hl.1 hno d_Pm_dot_17 d_Pm_dot_20 d_Pm_dot_21 d_Pm_dot_24 (Nat.le_of_ble_eq_true rfl) (Nat.le_of_ble_eq_true rfl) (Nat.le_of_ble_eq_true rfl) (Nat.le_of_ble_eq_true rfl) hlk (fun x t q1 q2 q3 _ => ⟨q1, q2, q3⟩)
  · refine lv_iload_n (pc := 7) F.1 F.2.1 d_Pm_dot_7 rfl (lv_at hl 2 rfl) ?_
    refine lv_if_lt (pc := 8) F.1 F.2.1 d_Pm_dot_8 (tgt := 17) (by decide) (fun h8 => ?_) (fun h8 => ?_)
    · exact thrNew (pc := 17) F htr (by decide +kernel) (atomsT F.2.2.2.2 hZ key_IndexOutOfBoundsException) (F.2.2.2.2 _ m_750) (F.2.2.2.2 _ m_17) w hl.1 hno d_Pm_dot_17 d_Pm_dot_20 d_Pm_dot_21 d_Pm_dot_24 (Nat.le_of_ble_eq_true rfl) (Nat.le_of_ble_eq_true rfl) (Nat.le_of_ble_eq_true rfl) (Nat.le_of_ble_eq_true rfl) hlk (fun x t q1 q2 q3 _ => ⟨q1, q2, q3⟩)
    · refine lv_iload_n (pc := 11) F.1 F.2.1 d_Pm_dot_11 rfl (lv_at hl 2 rfl) ?_
      refine lv_bipush (pc := 12) (v := 32) F.1 F.2.1 d_Pm_dot_12 (by decide) ?_
      refine lv_icmp_lt (pc := 14) F.1 F.2.1 d_Pm_dot_14 (tgt := 25) (by decide) (fun h14 => ?_) (fun h14 => ?_)
      · exact absurd hp (fun q => q.elim (fun q => h4 (e_r1.trans q)) (fun q => q.elim (fun q => h8 q) (fun q => q h14)))
      · exact thrNew (pc := 17) F htr (by decide +kernel) (atomsT F.2.2.2.2 hZ key_IndexOutOfBoundsException) (F.2.2.2.2 _ m_750) (F.2.2.2.2 _ m_17) w hl.1 hno d_Pm_dot_17 d_Pm_dot_20 d_Pm_dot_21 d_Pm_dot_24 (Nat.le_of_ble_eq_true rfl) (Nat.le_of_ble_eq_true rfl) (Nat.le_of_ble_eq_true rfl) (Nat.le_of_ble_eq_true rfl) hlk (fun x t q1 q2 q3 _ => ⟨q1, q2, q3⟩)
def f_Pm_processor_r1 (σ : Sg) (x1 : Int32) : Int32 := if x1 = 0 then ((σ 9 1)) else if x1 = 1 then ((σ 9 2)) else if x1 = 2 then ((σ 9 3)) else if x1 = 3 then ((σ 9 4)) else if x1 = 4 then ((σ 9 5)) else if x1 = 5 then (let r1 := f_Pr_flags σ; r1) else if x1 = 6 then (let r2 := f_Pm_bit (σ 9 9); r2) else if x1 = 7 then (let r3 := f_Pm_bit (σ 3 0); r3) else if x1 = 8 then (let r4 := f_Pm_bit (σ 3 1); r4) else if x1 = 9 then ((σ 9 12)) else ((-1))
def f_Pm_processor (σ : Sg) (x1 : Int32) : Int32 := let v5 := (f_Pm_processor_r1 σ x1); v5
set_option maxHeartbeats 1000000 in
set_option maxRecDepth 100000 in
theorem c_Pm_processor (l : Launch) (D : va_G) (cI : ClassId) (ad : Nat → Nat) (σ : Sg) (x1 : Int32) : Met l y_Pm_processor (Cond.code y_Pm_processor b_Pm_processor 2 (some .int) :: al) { frames := 1, cells := 0, slots := 0, locals := 20 } (Px D cI (wC cI ad) (AC ad) σ [.ref (ad 0), .int x1]) (va_Qi (fun r u => r = f_Pm_processor σ x1 ∧ u = σ) (Bx D cI (wC cI ad) (AC ad)) (AC ad)) 0 0 (AC ad) := by
  refine Mx l (by decide) (Nat.le_of_ble_eq_true rfl) ?_
  intro p e s m below meth c ls F w hr hlk hl
  have F : CallFix p m c b_Pm_processor 2 s _ al "PictureMachine" := F
  have hl : lv_has ls 2 [(0, .ref (ad 0)), (1, .int x1)] := hl
  have hcs : (0 : Nat) ≤ 0 ∧ (0 : Nat) ≤ 0 := ⟨Nat.le_refl _, Nat.le_refl _⟩
  refine lv_iload_n (pc := 0) F.1 F.2.1 d_Pm_processor_0 rfl (lv_at hl 1 rfl) ?_
  refine cutW (α := Int32) (fun x H locs ls => x = f_Pm_processor_r1 σ x1 ∧ Wx D cI (wC cI ad) (AC ad) (AC ad) s s.heap H locs σ ∧ lv_has ls 2 [(0, .ref (ad 0)), (1, .int x1)]) (fun x ls => F0 m 172 ls [.int x]) ?_ (fun k1 => ?_)
  · rintro v5 H locs ls ⟨ex, w, hl⟩
    have e_v5 := ex
    have w : Wx D cI (wC cI ad) (AC ad) (AC ad) s s.heap H locs σ := w
    have hl : lv_has ls 2 [(0, .ref (ad 0)), (1, .int x1)] := hl
    show W _ _ _ _ _ _ _ _ _ _ _ _ _ _ _ (F0 m 172 ls [.int v5])
    exact Ki (pc := 172) F hr hlk w (by rw [e_v5]; exact Eq.symm (rfl)) d_Pm_processor_172
  · by_cases h1_0 : x1 = 0
    · refine lv_tableIn (pc := 1) F.1 F.2.1 d_Pm_processor_1 (tgt := 56) (by rw [h1_0]; decide) (by rw [h1_0]; decide) (by rw [h1_0]; rfl) (by decide) ?_
      refine lv_aload_n (pc := 56) F.1 F.2.1 d_Pm_processor_56 rfl (lv_at hl 0 rfl) ?_
      refine gC0_1 (pc := 57) F w (F.2.2.2.2 _ m_320) d_Pm_processor_57 ?_
      refine gNC9_1 (pc := 60) F w m_274 d_Pm_processor_60 ?_
      refine lv_goto (pc := 63) F.1 F.2.1 d_Pm_processor_63 (tgt := 172) (by decide) ?_
      exact k1 (σ 9 1) _ _ _ ⟨(by exact Eq.symm (Eq.trans (if_pos h1_0) (rfl))), w, lv_sub hl [0, 1] rfl⟩
    by_cases h1_1 : x1 = 1
    · refine lv_tableIn (pc := 1) F.1 F.2.1 d_Pm_processor_1 (tgt := 66) (by rw [h1_1]; decide) (by rw [h1_1]; decide) (by rw [h1_1]; rfl) (by decide) ?_
      refine lv_aload_n (pc := 66) F.1 F.2.1 d_Pm_processor_66 rfl (lv_at hl 0 rfl) ?_
      refine gC0_1 (pc := 67) F w (F.2.2.2.2 _ m_320) d_Pm_processor_67 ?_
      refine gNC9_2 (pc := 70) F w m_276 d_Pm_processor_70 ?_
      refine lv_goto (pc := 73) F.1 F.2.1 d_Pm_processor_73 (tgt := 172) (by decide) ?_
      exact k1 (σ 9 2) _ _ _ ⟨(by exact Eq.symm (Eq.trans (if_neg h1_0) (Eq.trans (if_pos h1_1) (rfl)))), w, lv_sub hl [0, 1] rfl⟩
    by_cases h1_2 : x1 = 2
    · refine lv_tableIn (pc := 1) F.1 F.2.1 d_Pm_processor_1 (tgt := 76) (by rw [h1_2]; decide) (by rw [h1_2]; decide) (by rw [h1_2]; rfl) (by decide) ?_
      refine lv_aload_n (pc := 76) F.1 F.2.1 d_Pm_processor_76 rfl (lv_at hl 0 rfl) ?_
      refine gC0_1 (pc := 77) F w (F.2.2.2.2 _ m_320) d_Pm_processor_77 ?_
      refine gNC9_3 (pc := 80) F w m_278 d_Pm_processor_80 ?_
      refine lv_goto (pc := 83) F.1 F.2.1 d_Pm_processor_83 (tgt := 172) (by decide) ?_
      exact k1 (σ 9 3) _ _ _ ⟨(by exact Eq.symm (Eq.trans (if_neg h1_0) (Eq.trans (if_neg h1_1) (Eq.trans (if_pos h1_2) (rfl))))), w, lv_sub hl [0, 1] rfl⟩
    by_cases h1_3 : x1 = 3
    · refine lv_tableIn (pc := 1) F.1 F.2.1 d_Pm_processor_1 (tgt := 86) (by rw [h1_3]; decide) (by rw [h1_3]; decide) (by rw [h1_3]; rfl) (by decide) ?_
      refine lv_aload_n (pc := 86) F.1 F.2.1 d_Pm_processor_86 rfl (lv_at hl 0 rfl) ?_
      refine gC0_1 (pc := 87) F w (F.2.2.2.2 _ m_320) d_Pm_processor_87 ?_
      refine gNC9_4 (pc := 90) F w m_280 d_Pm_processor_90 ?_
      refine lv_goto (pc := 93) F.1 F.2.1 d_Pm_processor_93 (tgt := 172) (by decide) ?_
      exact k1 (σ 9 4) _ _ _ ⟨(by exact Eq.symm (Eq.trans (if_neg h1_0) (Eq.trans (if_neg h1_1) (Eq.trans (if_neg h1_2) (Eq.trans (if_pos h1_3) (rfl)))))), w, lv_sub hl [0, 1] rfl⟩
    by_cases h1_4 : x1 = 4
    · refine lv_tableIn (pc := 1) F.1 F.2.1 d_Pm_processor_1 (tgt := 96) (by rw [h1_4]; decide) (by rw [h1_4]; decide) (by rw [h1_4]; rfl) (by decide) ?_
      refine lv_aload_n (pc := 96) F.1 F.2.1 d_Pm_processor_96 rfl (lv_at hl 0 rfl) ?_
      refine gC0_1 (pc := 97) F w (F.2.2.2.2 _ m_320) d_Pm_processor_97 ?_
      refine gNC9_5 (pc := 100) F w m_282 d_Pm_processor_100 ?_
      refine lv_goto (pc := 103) F.1 F.2.1 d_Pm_processor_103 (tgt := 172) (by decide) ?_
      exact k1 (σ 9 5) _ _ _ ⟨(by exact Eq.symm (Eq.trans (if_neg h1_0) (Eq.trans (if_neg h1_1) (Eq.trans (if_neg h1_2) (Eq.trans (if_neg h1_3) (Eq.trans (if_pos h1_4) (rfl))))))), w, lv_sub hl [0, 1] rfl⟩
    by_cases h1_5 : x1 = 5
    · refine lv_tableIn (pc := 1) F.1 F.2.1 d_Pm_processor_1 (tgt := 106) (by rw [h1_5]; decide) (by rw [h1_5]; decide) (by rw [h1_5]; rfl) (by decide) ?_
      refine lv_aload_n (pc := 106) F.1 F.2.1 d_Pm_processor_106 rfl (lv_at hl 0 rfl) ?_
      refine gC0_1 (pc := 107) F w (F.2.2.2.2 _ m_320) d_Pm_processor_107 ?_
      refine Kvi (pc := 110) (As := []) (rest := []) F w (c_Pr_flags l D cI ad σ) 9 rfl rfl k_Pr_flags m_330 (Nat.le_of_ble_eq_true rfl) (Nat.le_of_ble_eq_true rfl) ⟨rfl, rfl⟩ rfl hl.1 rfl (Nat.le_of_ble_eq_true rfl) d_Pm_processor_110 hcs (fun r1 H locs e_r1 w => ?_)
      refine lv_goto (pc := 113) F.1 F.2.1 d_Pm_processor_113 (tgt := 172) (by decide) ?_
      exact k1 r1 _ _ _ ⟨(by rw [e_r1]; exact Eq.symm (Eq.trans (if_neg h1_0) (Eq.trans (if_neg h1_1) (Eq.trans (if_neg h1_2) (Eq.trans (if_neg h1_3) (Eq.trans (if_neg h1_4) (Eq.trans (if_pos h1_5) (rfl)))))))), w, lv_sub hl [0, 1] rfl⟩
    by_cases h1_6 : x1 = 6
    · refine lv_tableIn (pc := 1) F.1 F.2.1 d_Pm_processor_1 (tgt := 116) (by rw [h1_6]; decide) (by rw [h1_6]; decide) (by rw [h1_6]; rfl) (by decide) ?_
      refine lv_aload_n (pc := 116) F.1 F.2.1 d_Pm_processor_116 rfl (lv_at hl 0 rfl) ?_
      refine gC0_1 (pc := 117) F w (F.2.2.2.2 _ m_320) d_Pm_processor_117 ?_
      refine gNC9_9 (pc := 120) F w m_287 d_Pm_processor_120 ?_
      refine Usi (pc := 123) (As := [.int (σ 9 9)]) (rest := []) F (c_Pm_bit l (σ 9 9)) k_Pm_bit m_334 (Nat.le_of_ble_eq_true rfl) (Nat.le_of_ble_eq_true rfl) ⟨rfl, rfl⟩ rfl hl.1 rfl (Nat.le_of_ble_eq_true rfl) d_Pm_processor_123 hcs (fun r2 e_r2 => ?_)
      refine lv_goto (pc := 126) F.1 F.2.1 d_Pm_processor_126 (tgt := 172) (by decide) ?_
      exact k1 r2 _ _ _ ⟨(by rw [e_r2]; exact Eq.symm (Eq.trans (if_neg h1_0) (Eq.trans (if_neg h1_1) (Eq.trans (if_neg h1_2) (Eq.trans (if_neg h1_3) (Eq.trans (if_neg h1_4) (Eq.trans (if_neg h1_5) (Eq.trans (if_pos h1_6) (rfl))))))))), w, lv_sub hl [0, 1] rfl⟩
    by_cases h1_7 : x1 = 7
    · refine lv_tableIn (pc := 1) F.1 F.2.1 d_Pm_processor_1 (tgt := 129) (by rw [h1_7]; decide) (by rw [h1_7]; decide) (by rw [h1_7]; rfl) (by decide) ?_
      refine lv_aload_n (pc := 129) F.1 F.2.1 d_Pm_processor_129 rfl (lv_at hl 0 rfl) ?_
      refine gC0_0 (pc := 130) F w (F.2.2.2.2 _ m_319) d_Pm_processor_130 ?_
      refine gNC1_1 (pc := 133) F w m_231 d_Pm_processor_133 ?_
      refine gNC3_0 (pc := 136) F w m_61 d_Pm_processor_136 ?_
      refine Usi (pc := 139) (As := [.int (σ 3 0)]) (rest := []) F (c_Pm_bit l (σ 3 0)) k_Pm_bit m_334 (Nat.le_of_ble_eq_true rfl) (Nat.le_of_ble_eq_true rfl) ⟨rfl, rfl⟩ rfl hl.1 rfl (Nat.le_of_ble_eq_true rfl) d_Pm_processor_139 hcs (fun r3 e_r3 => ?_)
      refine lv_goto (pc := 142) F.1 F.2.1 d_Pm_processor_142 (tgt := 172) (by decide) ?_
      exact k1 r3 _ _ _ ⟨(by rw [e_r3]; exact Eq.symm (Eq.trans (if_neg h1_0) (Eq.trans (if_neg h1_1) (Eq.trans (if_neg h1_2) (Eq.trans (if_neg h1_3) (Eq.trans (if_neg h1_4) (Eq.trans (if_neg h1_5) (Eq.trans (if_neg h1_6) (Eq.trans (if_pos h1_7) (rfl)))))))))), w, lv_sub hl [0, 1] rfl⟩
    by_cases h1_8 : x1 = 8
    · refine lv_tableIn (pc := 1) F.1 F.2.1 d_Pm_processor_1 (tgt := 145) (by rw [h1_8]; decide) (by rw [h1_8]; decide) (by rw [h1_8]; rfl) (by decide) ?_
      refine lv_aload_n (pc := 145) F.1 F.2.1 d_Pm_processor_145 rfl (lv_at hl 0 rfl) ?_
      refine gC0_0 (pc := 146) F w (F.2.2.2.2 _ m_319) d_Pm_processor_146 ?_
      refine gNC1_1 (pc := 149) F w m_231 d_Pm_processor_149 ?_
      refine gNC3_1 (pc := 152) F w m_63 d_Pm_processor_152 ?_
      refine Usi (pc := 155) (As := [.int (σ 3 1)]) (rest := []) F (c_Pm_bit l (σ 3 1)) k_Pm_bit m_334 (Nat.le_of_ble_eq_true rfl) (Nat.le_of_ble_eq_true rfl) ⟨rfl, rfl⟩ rfl hl.1 rfl (Nat.le_of_ble_eq_true rfl) d_Pm_processor_155 hcs (fun r4 e_r4 => ?_)
      refine lv_goto (pc := 158) F.1 F.2.1 d_Pm_processor_158 (tgt := 172) (by decide) ?_
      exact k1 r4 _ _ _ ⟨(by rw [e_r4]; exact Eq.symm (Eq.trans (if_neg h1_0) (Eq.trans (if_neg h1_1) (Eq.trans (if_neg h1_2) (Eq.trans (if_neg h1_3) (Eq.trans (if_neg h1_4) (Eq.trans (if_neg h1_5) (Eq.trans (if_neg h1_6) (Eq.trans (if_neg h1_7) (Eq.trans (if_pos h1_8) (rfl))))))))))), w, lv_sub hl [0, 1] rfl⟩
    by_cases h1_9 : x1 = 9
    · refine lv_tableIn (pc := 1) F.1 F.2.1 d_Pm_processor_1 (tgt := 161) (by rw [h1_9]; decide) (by rw [h1_9]; decide) (by rw [h1_9]; rfl) (by decide) ?_
      refine lv_aload_n (pc := 161) F.1 F.2.1 d_Pm_processor_161 rfl (lv_at hl 0 rfl) ?_
      refine gC0_1 (pc := 162) F w (F.2.2.2.2 _ m_320) d_Pm_processor_162 ?_
      refine gNC9_12 (pc := 165) F w m_291 d_Pm_processor_165 ?_
      refine lv_goto (pc := 168) F.1 F.2.1 d_Pm_processor_168 (tgt := 172) (by decide) ?_
      exact k1 (σ 9 12) _ _ _ ⟨(by exact Eq.symm (Eq.trans (if_neg h1_0) (Eq.trans (if_neg h1_1) (Eq.trans (if_neg h1_2) (Eq.trans (if_neg h1_3) (Eq.trans (if_neg h1_4) (Eq.trans (if_neg h1_5) (Eq.trans (if_neg h1_6) (Eq.trans (if_neg h1_7) (Eq.trans (if_neg h1_8) (Eq.trans (if_pos h1_9) (rfl)))))))))))), w, lv_sub hl [0, 1] rfl⟩
    refine lv_tableOut (pc := 1) F.1 F.2.1 d_Pm_processor_1 (tgt := 171) (by have q_h1_0 := lv_neT h1_0 (a := 0) rfl; have q_h1_1 := lv_neT h1_1 (a := 1) rfl; have q_h1_2 := lv_neT h1_2 (a := 2) rfl; have q_h1_3 := lv_neT h1_3 (a := 3) rfl; have q_h1_4 := lv_neT h1_4 (a := 4) rfl; have q_h1_5 := lv_neT h1_5 (a := 5) rfl; have q_h1_6 := lv_neT h1_6 (a := 6) rfl; have q_h1_7 := lv_neT h1_7 (a := 7) rfl; have q_h1_8 := lv_neT h1_8 (a := 8) rfl; have q_h1_9 := lv_neT h1_9 (a := 9) rfl; omega) (by decide) ?_
    refine lv_iconst (pc := 171) (v := (-1)) F.1 F.2.1 d_Pm_processor_171 (by decide) ?_
    exact k1 (-1) _ _ _ ⟨(by exact Eq.symm (Eq.trans (if_neg h1_0) (Eq.trans (if_neg h1_1) (Eq.trans (if_neg h1_2) (Eq.trans (if_neg h1_3) (Eq.trans (if_neg h1_4) (Eq.trans (if_neg h1_5) (Eq.trans (if_neg h1_6) (Eq.trans (if_neg h1_7) (Eq.trans (if_neg h1_8) (Eq.trans (if_neg h1_9) (rfl)))))))))))), w, lv_sub hl [0, 1] rfl⟩
def f_Ds_presentMode_r4 (σ : Sg) (r1 : Int32) : Int32 := if r1 = 0 then ((-1)) else (let r2 := f_Ds_mode σ; r2)
def f_Ds_presentMode (σ : Sg) : Int32 := let r1 := f_Ds_hasRow σ; let v3 := (f_Ds_presentMode_r4 σ r1); v3
set_option maxHeartbeats 1000000 in
set_option maxRecDepth 100000 in
theorem c_Ds_presentMode (l : Launch) (D : va_G) (cI : ClassId) (ad : Nat → Nat) (σ : Sg) : Met l y_Ds_presentMode (Cond.code y_Ds_presentMode b_Ds_presentMode 1 (some .int) :: al) { frames := 1, cells := 0, slots := 0, locals := 20 } (Px D cI (wC cI ad) (AC ad) σ [.ref (ad 6)]) (va_Qi (fun r u => r = f_Ds_presentMode σ  ∧ u = σ) (Bx D cI (wC cI ad) (AC ad)) (AC ad)) 0 0 (AC ad) := by
  refine Mx l (by decide) (Nat.le_of_ble_eq_true rfl) ?_
  intro p e s m below meth c ls F w hr hlk hl
  have F : CallFix p m c b_Ds_presentMode 1 s _ al "PictureMachine$Display" := F
  have hl : lv_has ls 1 [(0, .ref (ad 6))] := hl
  have hcs : (0 : Nat) ≤ 0 ∧ (0 : Nat) ≤ 0 := ⟨Nat.le_refl _, Nat.le_refl _⟩
  refine lv_aload_n (pc := 0) F.1 F.2.1 d_Ds_presentMode_0 rfl (lv_at hl 0 rfl) ?_
  refine Kvi (pc := 1) (As := []) (rest := []) F w (c_Ds_hasRow l D cI ad σ) 6 rfl rfl k_Ds_hasRow m_345 (Nat.le_of_ble_eq_true rfl) (Nat.le_of_ble_eq_true rfl) ⟨rfl, rfl⟩ rfl hl.1 rfl (Nat.le_of_ble_eq_true rfl) d_Ds_presentMode_1 hcs (fun r1 H locs e_r1 w => ?_)
  refine cutW (α := Int32) (fun x H locs ls => x = f_Ds_presentMode_r4 σ r1 ∧ Wx D cI (wC cI ad) (AC ad) (AC ad) s s.heap H locs σ ∧ lv_has ls 1 [(0, .ref (ad 6))]) (fun x ls => F0 m 15 ls [.int x]) ?_ (fun k4 => ?_)
  · rintro v3 H locs ls ⟨ex, w, hl⟩
    have e_v3 := ex
    have w : Wx D cI (wC cI ad) (AC ad) (AC ad) s s.heap H locs σ := w
    have hl : lv_has ls 1 [(0, .ref (ad 6))] := hl
    show W _ _ _ _ _ _ _ _ _ _ _ _ _ _ _ (F0 m 15 ls [.int v3])
    exact Ki (pc := 15) F hr hlk w (by rw [e_v3, e_r1]; exact Eq.symm (rfl)) d_Ds_presentMode_15
  · refine lv_if_eq (pc := 4) F.1 F.2.1 d_Ds_presentMode_4 (tgt := 14) (by decide) (fun h4 => ?_) (fun h4 => ?_)
    · refine lv_iconst (pc := 14) (v := (-1)) F.1 F.2.1 d_Ds_presentMode_14 (by decide) ?_
      exact k4 (-1) _ _ _ ⟨(by exact Eq.symm (Eq.trans (if_pos h4) (rfl))), w, lv_sub hl [0] rfl⟩
    · refine lv_aload_n (pc := 7) F.1 F.2.1 d_Ds_presentMode_7 rfl (lv_at hl 0 rfl) ?_
      refine Kvi (pc := 8) (As := []) (rest := []) F w (c_Ds_mode l D cI ad σ) 6 rfl rfl k_Ds_mode m_349 (Nat.le_of_ble_eq_true rfl) (Nat.le_of_ble_eq_true rfl) ⟨rfl, rfl⟩ rfl hl.1 rfl (Nat.le_of_ble_eq_true rfl) d_Ds_presentMode_8 hcs (fun r2 H locs e_r2 w => ?_)
      refine lv_goto (pc := 11) F.1 F.2.1 d_Ds_presentMode_11 (tgt := 15) (by decide) ?_
      exact k4 r2 _ _ _ ⟨(by rw [e_r2]; exact Eq.symm (Eq.trans (if_neg h4) (rfl))), w, lv_sub hl [0] rfl⟩
def f_Ds_rowsDoneOfPresent_r4 (σ : Sg) (r1 : Int32) : Int32 := if r1 = 0 then (0) else ((σ 6 10))
def f_Ds_rowsDoneOfPresent (σ : Sg) : Int32 := let r1 := f_Ds_hasRow σ; let v2 := (f_Ds_rowsDoneOfPresent_r4 σ r1); v2
set_option maxHeartbeats 1000000 in
set_option maxRecDepth 100000 in
theorem c_Ds_rowsDoneOfPresent (l : Launch) (D : va_G) (cI : ClassId) (ad : Nat → Nat) (σ : Sg) : Met l y_Ds_rowsDoneOfPresent (Cond.code y_Ds_rowsDoneOfPresent b_Ds_rowsDoneOfPresent 1 (some .int) :: al) { frames := 1, cells := 0, slots := 0, locals := 20 } (Px D cI (wC cI ad) (AC ad) σ [.ref (ad 6)]) (va_Qi (fun r u => r = f_Ds_rowsDoneOfPresent σ  ∧ u = σ) (Bx D cI (wC cI ad) (AC ad)) (AC ad)) 0 0 (AC ad) := by
  refine Mx l (by decide) (Nat.le_of_ble_eq_true rfl) ?_
  intro p e s m below meth c ls F w hr hlk hl
  have F : CallFix p m c b_Ds_rowsDoneOfPresent 1 s _ al "PictureMachine$Display" := F
  have hl : lv_has ls 1 [(0, .ref (ad 6))] := hl
  have hcs : (0 : Nat) ≤ 0 ∧ (0 : Nat) ≤ 0 := ⟨Nat.le_refl _, Nat.le_refl _⟩
  refine lv_aload_n (pc := 0) F.1 F.2.1 d_Ds_rowsDoneOfPresent_0 rfl (lv_at hl 0 rfl) ?_
  refine Kvi (pc := 1) (As := []) (rest := []) F w (c_Ds_hasRow l D cI ad σ) 6 rfl rfl k_Ds_hasRow m_345 (Nat.le_of_ble_eq_true rfl) (Nat.le_of_ble_eq_true rfl) ⟨rfl, rfl⟩ rfl hl.1 rfl (Nat.le_of_ble_eq_true rfl) d_Ds_rowsDoneOfPresent_1 hcs (fun r1 H locs e_r1 w => ?_)
  refine cutW (α := Int32) (fun x H locs ls => x = f_Ds_rowsDoneOfPresent_r4 σ r1 ∧ Wx D cI (wC cI ad) (AC ad) (AC ad) s s.heap H locs σ ∧ lv_has ls 1 [(0, .ref (ad 6))]) (fun x ls => F0 m 15 ls [.int x]) ?_ (fun k4 => ?_)
  · rintro v2 H locs ls ⟨ex, w, hl⟩
    have e_v2 := ex
    have w : Wx D cI (wC cI ad) (AC ad) (AC ad) s s.heap H locs σ := w
    have hl : lv_has ls 1 [(0, .ref (ad 6))] := hl
    show W _ _ _ _ _ _ _ _ _ _ _ _ _ _ _ (F0 m 15 ls [.int v2])
    exact Ki (pc := 15) F hr hlk w (by rw [e_v2, e_r1]; exact Eq.symm (rfl)) d_Ds_rowsDoneOfPresent_15
  · refine lv_if_eq (pc := 4) F.1 F.2.1 d_Ds_rowsDoneOfPresent_4 (tgt := 14) (by decide) (fun h4 => ?_) (fun h4 => ?_)
    · refine lv_iconst (pc := 14) (v := 0) F.1 F.2.1 d_Ds_rowsDoneOfPresent_14 (by decide) ?_
      exact k4 0 _ _ _ ⟨(by exact Eq.symm (Eq.trans (if_pos h4) (rfl))), w, lv_sub hl [0] rfl⟩
    · refine lv_aload_n (pc := 7) F.1 F.2.1 d_Ds_rowsDoneOfPresent_7 rfl (lv_at hl 0 rfl) ?_
      refine gC6_10 (pc := 8) F w (F.2.2.2.2 _ m_167) d_Ds_rowsDoneOfPresent_8 ?_
      refine lv_goto (pc := 11) F.1 F.2.1 d_Ds_rowsDoneOfPresent_11 (tgt := 15) (by decide) ?_
      exact k4 (σ 6 10) _ _ _ ⟨(by exact Eq.symm (Eq.trans (if_neg h4) (rfl))), w, lv_sub hl [0] rfl⟩
