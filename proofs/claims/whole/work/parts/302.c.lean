def f_Ds_fetchAddress_r45 (r1 : Int32) (s2 : Sg) (r3 : Int32) : Sg := if r3 = 1 then (let s5 := sf s2 6 6 (((256 * r1) + (s2 6 13)) &&& 1023); s5) else (let s4 := sf s2 6 7 (((256 * r1) + (s2 6 13)) &&& 1023); s4)
def f_Ds_fetchAddress (σ : Sg) (x1 : Int32) : Int32 × Sg := if (σ 6 12) = 0 then ((0, σ)) else (let r1 := (f_Ds_nextOfList σ).1; let s2 := (f_Ds_nextOfList σ).2; if x1 = 0 then (let s7 := sf s2 6 13 r1; (1, s7)) else (let r3 := f_Ds_mode s2; let s6 := (f_Ds_fetchAddress_r45 r1 s2 r3); (1, s6)))
theorem z_Ds_fetchAddress (σ : Sg) (x1 : Int32) : (f_Ds_fetchAddress σ x1).1 = 0 ∨ (f_Ds_fetchAddress σ x1).1 = 1 := by unfold f_Ds_fetchAddress; (try dsimp only); (repeat' split) <;> first | exact Or.inl rfl | exact Or.inr rfl
set_option maxHeartbeats 1000000 in
set_option maxRecDepth 100000 in
theorem c_Ds_fetchAddress (l : Launch) (D : va_G) (cI : ClassId) (ad : Nat → Nat) (σ : Sg) (x1 : Int32) : Met l y_Ds_fetchAddress (Cond.code y_Ds_fetchAddress b_Ds_fetchAddress 4 (some .boolean) :: al) { frames := 2, cells := 0, slots := 0, locals := 43 } (Px D cI (wC cI ad) (AC ad) σ [.ref (ad 6), .int x1]) (va_Qi (fun r u => (r, u) = f_Ds_fetchAddress σ x1) (Bx D cI (wC cI ad) (AC ad)) (AC ad)) 0 0 (AC ad) := by
  refine Mx l (by decide) (Nat.le_of_ble_eq_true rfl) ?_
  intro p e s m below meth c ls F w hr hlk hl
  have F : CallFix p m c b_Ds_fetchAddress 4 s _ al "PictureMachine$Display" := F
  have hl : lv_has ls 4 [(0, .ref (ad 6)), (1, .int x1)] := hl
  have hcs : (0 : Nat) ≤ 0 ∧ (0 : Nat) ≤ 0 := ⟨Nat.le_refl _, Nat.le_refl _⟩
  refine lv_aload_n (pc := 0) F.1 F.2.1 d_Ds_fetchAddress_0 rfl (lv_at hl 0 rfl) ?_
  refine gC6_12 (pc := 1) F w (F.2.2.2.2 _ m_170) d_Ds_fetchAddress_1 ?_
  refine lv_if_ne (pc := 4) F.1 F.2.1 d_Ds_fetchAddress_4 (tgt := 9) (by decide) (fun h4 => ?_) (fun h4 => ?_)
  · refine lv_aload_n (pc := 9) F.1 F.2.1 d_Ds_fetchAddress_9 rfl (lv_at hl 0 rfl) ?_
    refine Cvi (pc := 10) (As := []) (rest := []) F w (c_Ds_nextOfList l D cI ad σ) 6 rfl rfl k_Ds_nextOfList m_579 (Nat.le_of_ble_eq_true rfl) (Nat.le_of_ble_eq_true rfl) ⟨rfl, rfl⟩ rfl hl.1 rfl (Nat.le_of_ble_eq_true rfl) d_Ds_fetchAddress_10 hcs (fun r1 s2 H locs e_r1 e_s2 w => ?_)
    refine lv_istore_n (pc := 13) F.1 F.2.1 d_Ds_fetchAddress_13 rfl hl (by decide) rfl (fun ls hl => ?_)
    have hl : lv_has ls 4 [(2, .int r1), (0, .ref (ad 6)), (1, .int x1)] := hl
    refine lv_iload_n (pc := 14) F.1 F.2.1 d_Ds_fetchAddress_14 rfl (lv_at hl 2 rfl) ?_
    refine lv_if_ne (pc := 15) F.1 F.2.1 d_Ds_fetchAddress_15 (tgt := 25) (by decide) (fun h15 => ?_) (fun h15 => ?_)
    · refine lv_sipush (pc := 25) (v := 256) F.1 F.2.1 d_Ds_fetchAddress_25 (by decide) ?_
      refine lv_iload_n (pc := 28) F.1 F.2.1 d_Ds_fetchAddress_28 rfl (lv_at hl 0 rfl) ?_
      refine lv_imul (pc := 29) F.1 F.2.1 d_Ds_fetchAddress_29 ?_
      refine lv_aload_n (pc := 30) F.1 F.2.1 d_Ds_fetchAddress_30 rfl (lv_at hl 1 rfl) ?_
      refine gC6_13 (pc := 31) F w (F.2.2.2.2 _ m_171) d_Ds_fetchAddress_31 ?_
      refine lv_iadd (pc := 34) F.1 F.2.1 d_Ds_fetchAddress_34 ?_
      refine lv_sipush (pc := 35) (v := 1023) F.1 F.2.1 d_Ds_fetchAddress_35 (by decide) ?_
      refine lv_iand (pc := 38) F.1 F.2.1 d_Ds_fetchAddress_38 ?_
      refine lv_istore_n (pc := 39) F.1 F.2.1 d_Ds_fetchAddress_39 rfl hl (by decide) rfl (fun ls hl => ?_)
      have hl : lv_has ls 4 [(3, .int (((256 * r1) + (s2 6 13)) &&& 1023)), (2, .int r1), (0, .ref (ad 6)), (1, .int x1)] := hl
      refine lv_aload_n (pc := 40) F.1 F.2.1 d_Ds_fetchAddress_40 rfl (lv_at hl 2 rfl) ?_
      refine Kvi (pc := 41) (As := []) (rest := []) F w (c_Ds_mode l D cI ad s2) 6 rfl rfl k_Ds_mode m_349 (Nat.le_of_ble_eq_true rfl) (Nat.le_of_ble_eq_true rfl) ⟨rfl, rfl⟩ rfl hl.1 rfl (Nat.le_of_ble_eq_true rfl) d_Ds_fetchAddress_41 hcs (fun r3 H locs e_r3 w => ?_)
      refine lv_iconst (pc := 44) (v := 1) F.1 F.2.1 d_Ds_fetchAddress_44 (by decide) ?_
      refine cutW (α := Sg) (fun x H locs ls => x = f_Ds_fetchAddress_r45 r1 s2 r3 ∧ Wx D cI (wC cI ad) (AC ad) (AC ad) s s.heap H locs x ∧ lv_has ls 4 [(0, .ref (ad 6)), (1, .int x1), (2, .int r1), (3, .int (((256 * r1) + (s2 6 13)) &&& 1023))]) (fun x ls => F0 m 61 ls []) ?_ (fun k45 => ?_)
      · rintro s6 H locs ls ⟨ex, w, hl⟩
        have e_s6 := ex
        have w : Wx D cI (wC cI ad) (AC ad) (AC ad) s s.heap H locs s6 := w
        have hl : lv_has ls 4 [(0, .ref (ad 6)), (1, .int x1), (2, .int r1), (3, .int (((256 * r1) + (s2 6 13)) &&& 1023))] := hl
        show W _ _ _ _ _ _ _ _ _ _ _ _ _ _ _ (F0 m 61 ls [])
        refine lv_iconst (pc := 61) (v := 1) F.1 F.2.1 d_Ds_fetchAddress_61 (by decide) ?_
        exact Rz (pc := 62) F hr hlk w (Or.inr rfl) (by rw [e_s6, e_r3, e_s2, e_r1]; exact Eq.symm (Eq.trans (if_neg h4) (Eq.trans (if_neg h15) (rfl)))) d_Ds_fetchAddress_62
      · refine lv_icmp_ne (pc := 45) F.1 F.2.1 d_Ds_fetchAddress_45 (tgt := 56) (by decide) (fun h45 => ?_) (fun h45 => ?_)
        · refine lv_aload_n (pc := 56) F.1 F.2.1 d_Ds_fetchAddress_56 rfl (lv_at hl 2 rfl) ?_
          refine lv_iload_n (pc := 57) F.1 F.2.1 d_Ds_fetchAddress_57 rfl (lv_at hl 0 rfl) ?_
          refine pC6_7 (pc := 58) F w (F.2.2.2.2 _ m_164) d_Ds_fetchAddress_58 (fun H locs s4 e_s4 w => ?_)
          exact k45 s4 _ _ _ ⟨(by rw [e_s4]; exact Eq.symm (Eq.trans (if_neg h45) (rfl))), w, lv_sub hl [2, 3, 1, 0] rfl⟩
        · refine lv_aload_n (pc := 48) F.1 F.2.1 d_Ds_fetchAddress_48 rfl (lv_at hl 2 rfl) ?_
          refine lv_iload_n (pc := 49) F.1 F.2.1 d_Ds_fetchAddress_49 rfl (lv_at hl 0 rfl) ?_
          refine pC6_6 (pc := 50) F w (F.2.2.2.2 _ m_161) d_Ds_fetchAddress_50 (fun H locs s5 e_s5 w => ?_)
          refine lv_goto (pc := 53) F.1 F.2.1 d_Ds_fetchAddress_53 (tgt := 61) (by decide) ?_
          exact k45 s5 _ _ _ ⟨(by rw [e_s5]; exact Eq.symm (Eq.trans (if_pos h45) (rfl))), w, lv_sub hl [2, 3, 1, 0] rfl⟩
    · refine lv_aload_n (pc := 18) F.1 F.2.1 d_Ds_fetchAddress_18 rfl (lv_at hl 1 rfl) ?_
      refine lv_iload_n (pc := 19) F.1 F.2.1 d_Ds_fetchAddress_19 rfl (lv_at hl 0 rfl) ?_
      refine pC6_13 (pc := 20) F w (F.2.2.2.2 _ m_171) d_Ds_fetchAddress_20 (fun H locs s7 e_s7 w => ?_)
      refine lv_iconst (pc := 23) (v := 1) F.1 F.2.1 d_Ds_fetchAddress_23 (by decide) ?_
      exact Rz (pc := 24) F hr hlk w (Or.inr rfl) (by rw [e_s7, e_s2, e_r1]; exact Eq.symm (Eq.trans (if_neg h4) (Eq.trans (if_pos h15) (rfl)))) d_Ds_fetchAddress_24
  · refine lv_iconst (pc := 7) (v := 0) F.1 F.2.1 d_Ds_fetchAddress_7 (by decide) ?_
    exact Rz (pc := 8) F hr hlk w (Or.inl rfl) (by exact Eq.symm (Eq.trans (if_pos h4) (rfl))) d_Ds_fetchAddress_8
def f_Ds_fetchData (σ : Sg) (x1 : Int32) : Int32 × Sg := if (σ 6 10) = 0 then (let r1 := f_Me_at σ (σ 6 7); let s2 := sf σ 12 x1.toNatClampNeg r1; let r3 := f_Ds_movedOn (s2 6 7); let s4 := sf s2 6 7 r3; (1, s4)) else ((0, σ))
theorem z_Ds_fetchData (σ : Sg) (x1 : Int32) : (f_Ds_fetchData σ x1).1 = 0 ∨ (f_Ds_fetchData σ x1).1 = 1 := by unfold f_Ds_fetchData; (try dsimp only); (repeat' split) <;> first | exact Or.inl rfl | exact Or.inr rfl
set_option maxHeartbeats 1000000 in
set_option maxRecDepth 100000 in
theorem c_Ds_fetchData (l : Launch) (D : va_G) (cI : ClassId) (ad : Nat → Nat) (σ : Sg) (x1 : Int32) (hq : vp_in x1 8) : Met l y_Ds_fetchData (Cond.code y_Ds_fetchData b_Ds_fetchData 2 (some .boolean) :: al) { frames := 1, cells := 0, slots := 0, locals := 22 } (Px D cI (wC cI ad) (AC ad) σ [.ref (ad 6), .int x1]) (va_Qi (fun r u => (r, u) = f_Ds_fetchData σ x1) (Bx D cI (wC cI ad) (AC ad)) (AC ad)) 0 0 (AC ad) := by
  refine Mx l (by decide) (Nat.le_of_ble_eq_true rfl) ?_
  intro p e s m below meth c ls F w hr hlk hl
  have F : CallFix p m c b_Ds_fetchData 2 s _ al "PictureMachine$Display" := F
  have hl : lv_has ls 2 [(0, .ref (ad 6)), (1, .int x1)] := hl
  have hcs : (0 : Nat) ≤ 0 ∧ (0 : Nat) ≤ 0 := ⟨Nat.le_refl _, Nat.le_refl _⟩
  refine lv_aload_n (pc := 0) F.1 F.2.1 d_Ds_fetchData_0 rfl (lv_at hl 0 rfl) ?_
  refine gC6_10 (pc := 1) F w (F.2.2.2.2 _ m_167) d_Ds_fetchData_1 ?_
  refine lv_if_eq (pc := 4) F.1 F.2.1 d_Ds_fetchData_4 (tgt := 9) (by decide) (fun h4 => ?_) (fun h4 => ?_)
  · refine lv_aload_n (pc := 9) F.1 F.2.1 d_Ds_fetchData_9 rfl (lv_at hl 0 rfl) ?_
    refine gC6_3 (pc := 10) F w (F.2.2.2.2 _ m_156) d_Ds_fetchData_10 ?_
    refine lv_iload_n (pc := 13) F.1 F.2.1 d_Ds_fetchData_13 rfl (lv_at hl 1 rfl) ?_
    refine lv_aload_n (pc := 14) F.1 F.2.1 d_Ds_fetchData_14 rfl (lv_at hl 0 rfl) ?_
    refine gC6_0 (pc := 15) F w (F.2.2.2.2 _ m_153) d_Ds_fetchData_15 ?_
    refine lv_aload_n (pc := 18) F.1 F.2.1 d_Ds_fetchData_18 rfl (lv_at hl 0 rfl) ?_
    refine gC6_7 (pc := 19) F w (F.2.2.2.2 _ m_164) d_Ds_fetchData_19 ?_
    refine Kvi (pc := 22) (As := [.int (σ 6 7)]) (rest := [.int x1, .ref (ad 12)]) F w (c_Me_at l D cI ad σ (σ 6 7)) 4 rfl rfl k_Me_at m_551 (Nat.le_of_ble_eq_true rfl) (Nat.le_of_ble_eq_true rfl) ⟨rfl, rfl⟩ rfl hl.1 rfl (Nat.le_of_ble_eq_true rfl) d_Ds_fetchData_22 hcs (fun r1 H locs e_r1 w => ?_)
    refine aC12 (pc := 25) F w (hq) d_Ds_fetchData_25 (fun H locs s2 e_s2 w => ?_)
    refine lv_aload_n (pc := 26) F.1 F.2.1 d_Ds_fetchData_26 rfl (lv_at hl 0 rfl) ?_
    refine lv_aload_n (pc := 27) F.1 F.2.1 d_Ds_fetchData_27 rfl (lv_at hl 0 rfl) ?_
    refine gC6_7 (pc := 28) F w (F.2.2.2.2 _ m_164) d_Ds_fetchData_28 ?_
    refine Usi (pc := 31) (As := [.int (s2 6 7)]) (rest := [.ref (ad 6)]) F (c_Ds_movedOn l (s2 6 7)) k_Ds_movedOn m_583 (Nat.le_of_ble_eq_true rfl) (Nat.le_of_ble_eq_true rfl) ⟨rfl, rfl⟩ rfl hl.1 rfl (Nat.le_of_ble_eq_true rfl) d_Ds_fetchData_31 hcs (fun r3 e_r3 => ?_)
    refine pC6_7 (pc := 34) F w (F.2.2.2.2 _ m_164) d_Ds_fetchData_34 (fun H locs s4 e_s4 w => ?_)
    refine lv_iconst (pc := 37) (v := 1) F.1 F.2.1 d_Ds_fetchData_37 (by decide) ?_
    exact Rz (pc := 38) F hr hlk w (Or.inr rfl) (by rw [e_s4, e_r3, e_s2, e_r1]; exact Eq.symm (Eq.trans (if_pos h4) (rfl))) d_Ds_fetchData_38
  · refine lv_iconst (pc := 7) (v := 0) F.1 F.2.1 d_Ds_fetchData_7 (by decide) ?_
    exact Rz (pc := 8) F hr hlk w (Or.inl rfl) (by exact Eq.symm (Eq.trans (if_neg h4) (rfl))) d_Ds_fetchData_8
def f_Ds_fetchLetterRow (σ : Sg) (x1 : Int32) : Int32 × Sg := let r1 := f_Ds_mode σ; if r1 = 2 then (let r2 := f_Me_at σ (((256 * (σ 11 (1 : Int32).toNatClampNeg)) + (4 * ((σ 12 x1.toNatClampNeg) &&& 63))) + (σ 6 10)); let s3 := sf σ 13 x1.toNatClampNeg r2; (1, s3)) else ((0, σ))
theorem z_Ds_fetchLetterRow (σ : Sg) (x1 : Int32) : (f_Ds_fetchLetterRow σ x1).1 = 0 ∨ (f_Ds_fetchLetterRow σ x1).1 = 1 := by unfold f_Ds_fetchLetterRow; (try dsimp only); (repeat' split) <;> first | exact Or.inl rfl | exact Or.inr rfl
set_option maxHeartbeats 1000000 in
set_option maxRecDepth 100000 in
theorem c_Ds_fetchLetterRow (l : Launch) (D : va_G) (cI : ClassId) (ad : Nat → Nat) (σ : Sg) (x1 : Int32) (hq : vp_in x1 8) : Met l y_Ds_fetchLetterRow (Cond.code y_Ds_fetchLetterRow b_Ds_fetchLetterRow 2 (some .boolean) :: al) { frames := 1, cells := 0, slots := 0, locals := 22 } (Px D cI (wC cI ad) (AC ad) σ [.ref (ad 6), .int x1]) (va_Qi (fun r u => (r, u) = f_Ds_fetchLetterRow σ x1) (Bx D cI (wC cI ad) (AC ad)) (AC ad)) 0 0 (AC ad) := by
  refine Mx l (by decide) (Nat.le_of_ble_eq_true rfl) ?_
  intro p e s m below meth c ls F w hr hlk hl
  have F : CallFix p m c b_Ds_fetchLetterRow 2 s _ al "PictureMachine$Display" := F
  have hl : lv_has ls 2 [(0, .ref (ad 6)), (1, .int x1)] := hl
  have hcs : (0 : Nat) ≤ 0 ∧ (0 : Nat) ≤ 0 := ⟨Nat.le_refl _, Nat.le_refl _⟩
  refine lv_aload_n (pc := 0) F.1 F.2.1 d_Ds_fetchLetterRow_0 rfl (lv_at hl 0 rfl) ?_
  refine Kvi (pc := 1) (As := []) (rest := []) F w (c_Ds_mode l D cI ad σ) 6 rfl rfl k_Ds_mode m_349 (Nat.le_of_ble_eq_true rfl) (Nat.le_of_ble_eq_true rfl) ⟨rfl, rfl⟩ rfl hl.1 rfl (Nat.le_of_ble_eq_true rfl) d_Ds_fetchLetterRow_1 hcs (fun r1 H locs e_r1 w => ?_)
  refine lv_iconst (pc := 4) (v := 2) F.1 F.2.1 d_Ds_fetchLetterRow_4 (by decide) ?_
  refine lv_icmp_eq (pc := 5) F.1 F.2.1 d_Ds_fetchLetterRow_5 (tgt := 10) (by decide) (fun h5 => ?_) (fun h5 => ?_)
  · refine lv_aload_n (pc := 10) F.1 F.2.1 d_Ds_fetchLetterRow_10 rfl (lv_at hl 0 rfl) ?_
    refine gC6_4 (pc := 11) F w (F.2.2.2.2 _ m_157) d_Ds_fetchLetterRow_11 ?_
    refine lv_iload_n (pc := 14) F.1 F.2.1 d_Ds_fetchLetterRow_14 rfl (lv_at hl 1 rfl) ?_
    refine lv_aload_n (pc := 15) F.1 F.2.1 d_Ds_fetchLetterRow_15 rfl (lv_at hl 0 rfl) ?_
    refine gC6_0 (pc := 16) F w (F.2.2.2.2 _ m_153) d_Ds_fetchLetterRow_16 ?_
    refine lv_sipush (pc := 19) (v := 256) F.1 F.2.1 d_Ds_fetchLetterRow_19 (by decide) ?_
    refine lv_aload_n (pc := 22) F.1 F.2.1 d_Ds_fetchLetterRow_22 rfl (lv_at hl 0 rfl) ?_
    refine gC6_1 (pc := 23) F w (F.2.2.2.2 _ m_154) d_Ds_fetchLetterRow_23 ?_
    refine lv_iconst (pc := 26) (v := 1) F.1 F.2.1 d_Ds_fetchLetterRow_26 (by decide) ?_
    refine lC11 (pc := 27) F w (by unfold vp_in; decide) d_Ds_fetchLetterRow_27 ?_
    refine lv_imul (pc := 28) F.1 F.2.1 d_Ds_fetchLetterRow_28 ?_
    refine lv_iconst (pc := 29) (v := 4) F.1 F.2.1 d_Ds_fetchLetterRow_29 (by decide) ?_
    refine lv_aload_n (pc := 30) F.1 F.2.1 d_Ds_fetchLetterRow_30 rfl (lv_at hl 0 rfl) ?_
    refine gC6_3 (pc := 31) F w (F.2.2.2.2 _ m_156) d_Ds_fetchLetterRow_31 ?_
    refine lv_iload_n (pc := 34) F.1 F.2.1 d_Ds_fetchLetterRow_34 rfl (lv_at hl 1 rfl) ?_
    refine lC12 (pc := 35) F w (hq) d_Ds_fetchLetterRow_35 ?_
    refine lv_bipush (pc := 36) (v := 63) F.1 F.2.1 d_Ds_fetchLetterRow_36 (by decide) ?_
    refine lv_iand (pc := 38) F.1 F.2.1 d_Ds_fetchLetterRow_38 ?_
    refine lv_imul (pc := 39) F.1 F.2.1 d_Ds_fetchLetterRow_39 ?_
    refine lv_iadd (pc := 40) F.1 F.2.1 d_Ds_fetchLetterRow_40 ?_
    refine lv_aload_n (pc := 41) F.1 F.2.1 d_Ds_fetchLetterRow_41 rfl (lv_at hl 0 rfl) ?_
    refine gC6_10 (pc := 42) F w (F.2.2.2.2 _ m_167) d_Ds_fetchLetterRow_42 ?_
    refine lv_iadd (pc := 45) F.1 F.2.1 d_Ds_fetchLetterRow_45 ?_
    refine Kvi (pc := 46) (As := [.int (((256 * (σ 11 (1 : Int32).toNatClampNeg)) + (4 * ((σ 12 x1.toNatClampNeg) &&& 63))) + (σ 6 10))]) (rest := [.int x1, .ref (ad 13)]) F w (c_Me_at l D cI ad σ (((256 * (σ 11 (1 : Int32).toNatClampNeg)) + (4 * ((σ 12 x1.toNatClampNeg) &&& 63))) + (σ 6 10))) 4 rfl rfl k_Me_at m_551 (Nat.le_of_ble_eq_true rfl) (Nat.le_of_ble_eq_true rfl) ⟨rfl, rfl⟩ rfl hl.1 rfl (Nat.le_of_ble_eq_true rfl) d_Ds_fetchLetterRow_46 hcs (fun r2 H locs e_r2 w => ?_)
    refine aC13 (pc := 49) F w (hq) d_Ds_fetchLetterRow_49 (fun H locs s3 e_s3 w => ?_)
    refine lv_iconst (pc := 50) (v := 1) F.1 F.2.1 d_Ds_fetchLetterRow_50 (by decide) ?_
    exact Rz (pc := 51) F hr hlk w (Or.inr rfl) (by rw [e_r1] at h5; rw [e_s3, e_r2]; exact Eq.symm (Eq.trans (if_pos h5) (rfl))) d_Ds_fetchLetterRow_51
  · refine lv_iconst (pc := 8) (v := 0) F.1 F.2.1 d_Ds_fetchLetterRow_8 (by decide) ?_
    exact Rz (pc := 9) F hr hlk w (Or.inl rfl) (by rw [e_r1] at h5; exact Eq.symm (Eq.trans (if_neg h5) (rfl))) d_Ds_fetchLetterRow_9
def f_Ds_fetchForLine_r55 (σ : Sg) (x1 : Int32) : Int32 × Sg := if (x1 - x1 / 2 * 2) = 0 then (let r5 := (f_Ds_fetchData σ ((x1 - 4) / 2)).1; let s6 := (f_Ds_fetchData σ ((x1 - 4) / 2)).2; (r5, s6)) else (let r3 := (f_Ds_fetchLetterRow σ ((x1 - 4) / 2)).1; let s4 := (f_Ds_fetchLetterRow σ ((x1 - 4) / 2)).2; (r3, s4))
def f_Ds_fetchForLine_r18 (x1 : Int32) : Int32 := if x1 = 3 then (1) else (0)
def f_Ds_fetchForLine (σ : Sg) (x1 : Int32) : Int32 × Sg := if x1 = 1 then (let r12 := (f_Ds_beginModeLine σ).1; let s13 := (f_Ds_beginModeLine σ).2; (r12, s13)) else (if 3 < x1 then (let r1 := f_Ds_hasRow σ; if r1 = 0 then ((0, σ)) else (let r2 := f_Ds_modeHasData σ; if r2 = 0 then ((0, σ)) else (let v7 := (f_Ds_fetchForLine_r55 σ x1).1; let s8 := (f_Ds_fetchForLine_r55 σ x1).2; (v7, s8)))) else (let v9 := (f_Ds_fetchForLine_r18 x1); let r10 := (f_Ds_fetchAddress σ v9).1; let s11 := (f_Ds_fetchAddress σ v9).2; (r10, s11)))
theorem z_f_Ds_fetchForLine_r55_0 (σ : Sg) (x1 : Int32) : (f_Ds_fetchForLine_r55 σ x1).1 = 0 ∨ (f_Ds_fetchForLine_r55 σ x1).1 = 1 := by unfold f_Ds_fetchForLine_r55; (try dsimp only); (repeat' split) <;> first | exact Or.inl rfl | exact Or.inr rfl | apply z_Ds_beginModeLine | apply z_Ds_fetchAddress | apply z_Ds_fetchData | apply z_Ds_fetchLetterRow | apply z_Ds_hasRow | apply z_Ds_modeHasData
theorem z_f_Ds_fetchForLine_r18_0 (x1 : Int32) : (f_Ds_fetchForLine_r18 x1) = 0 ∨ (f_Ds_fetchForLine_r18 x1) = 1 := by unfold f_Ds_fetchForLine_r18; (try dsimp only); (repeat' split) <;> first | exact Or.inl rfl | exact Or.inr rfl | apply z_f_Ds_fetchForLine_r55_0 | apply z_Ds_beginModeLine | apply z_Ds_fetchAddress | apply z_Ds_fetchData | apply z_Ds_fetchLetterRow | apply z_Ds_hasRow | apply z_Ds_modeHasData
theorem z_Ds_fetchForLine (σ : Sg) (x1 : Int32) : (f_Ds_fetchForLine σ x1).1 = 0 ∨ (f_Ds_fetchForLine σ x1).1 = 1 := by unfold f_Ds_fetchForLine; (try dsimp only); (repeat' split) <;> first | exact Or.inl rfl | exact Or.inr rfl | apply z_f_Ds_fetchForLine_r18_0 | apply z_f_Ds_fetchForLine_r55_0 | apply z_Ds_beginModeLine | apply z_Ds_fetchAddress | apply z_Ds_fetchData | apply z_Ds_fetchLetterRow | apply z_Ds_hasRow | apply z_Ds_modeHasData
set_option maxHeartbeats 1000000 in
set_option maxRecDepth 100000 in
theorem c_Ds_fetchForLine (l : Launch) (D : va_G) (cI : ClassId) (ad : Nat → Nat) (σ : Sg) (x1 : Int32) (hq : x1 ≤ 19) : Met l y_Ds_fetchForLine (Cond.code y_Ds_fetchForLine b_Ds_fetchForLine 3 (some .boolean) :: al) { frames := 3, cells := 0, slots := 0, locals := 66 } (Px D cI (wC cI ad) (AC ad) σ [.ref (ad 6), .int x1]) (va_Qi (fun r u => (r, u) = f_Ds_fetchForLine σ x1) (Bx D cI (wC cI ad) (AC ad)) (AC ad)) 0 0 (AC ad) := by
  refine Mx l (by decide) (Nat.le_of_ble_eq_true rfl) ?_
  intro p e s m below meth c ls F w hr hlk hl
  have F : CallFix p m c b_Ds_fetchForLine 3 s _ al "PictureMachine$Display" := F
  have hl : lv_has ls 3 [(0, .ref (ad 6)), (1, .int x1)] := hl
  have hcs : (0 : Nat) ≤ 0 ∧ (0 : Nat) ≤ 0 := ⟨Nat.le_refl _, Nat.le_refl _⟩
  refine lv_iload_n (pc := 0) F.1 F.2.1 d_Ds_fetchForLine_0 rfl (lv_at hl 1 rfl) ?_
  refine lv_iconst (pc := 1) (v := 1) F.1 F.2.1 d_Ds_fetchForLine_1 (by decide) ?_
  refine lv_icmp_ne (pc := 2) F.1 F.2.1 d_Ds_fetchForLine_2 (tgt := 10) (by decide) (fun h2 => ?_) (fun h2 => ?_)
  · refine lv_iload_n (pc := 10) F.1 F.2.1 d_Ds_fetchForLine_10 rfl (lv_at hl 1 rfl) ?_
    refine lv_iconst (pc := 11) (v := 3) F.1 F.2.1 d_Ds_fetchForLine_11 (by decide) ?_
    refine lv_icmp_gt (pc := 12) F.1 F.2.1 d_Ds_fetchForLine_12 (tgt := 30) (by decide) (fun h12 => ?_) (fun h12 => ?_)
    · refine lv_aload_n (pc := 30) F.1 F.2.1 d_Ds_fetchForLine_30 rfl (lv_at hl 0 rfl) ?_
      refine Kvi (pc := 31) (As := []) (rest := []) F w (c_Ds_hasRow l D cI ad σ) 6 rfl rfl k_Ds_hasRow m_345 (Nat.le_of_ble_eq_true rfl) (Nat.le_of_ble_eq_true rfl) ⟨rfl, rfl⟩ rfl hl.1 rfl (Nat.le_of_ble_eq_true rfl) d_Ds_fetchForLine_31 hcs (fun r1 H locs e_r1 w => ?_)
      refine lv_if_eq (pc := 34) F.1 F.2.1 d_Ds_fetchForLine_34 (tgt := 44) (by decide) (fun h34 => ?_) (fun h34 => ?_)
      · refine lv_iconst (pc := 44) (v := 0) F.1 F.2.1 d_Ds_fetchForLine_44 (by decide) ?_
        exact Rz (pc := 45) F hr hlk w (Or.inl rfl) (by rw [e_r1] at h34; exact Eq.symm (Eq.trans (if_neg h2) (Eq.trans (if_pos h12) (Eq.trans (if_pos h34) (rfl))))) d_Ds_fetchForLine_45
      · refine lv_aload_n (pc := 37) F.1 F.2.1 d_Ds_fetchForLine_37 rfl (lv_at hl 0 rfl) ?_
        refine Kvi (pc := 38) (As := []) (rest := []) F w (c_Ds_modeHasData l D cI ad σ) 6 rfl rfl k_Ds_modeHasData m_590 (Nat.le_of_ble_eq_true rfl) (Nat.le_of_ble_eq_true rfl) ⟨rfl, rfl⟩ rfl hl.1 rfl (Nat.le_of_ble_eq_true rfl) d_Ds_fetchForLine_38 hcs (fun r2 H locs e_r2 w => ?_)
        refine lv_if_ne (pc := 41) F.1 F.2.1 d_Ds_fetchForLine_41 (tgt := 46) (by decide) (fun h41 => ?_) (fun h41 => ?_)
        · refine lv_iload_n (pc := 46) F.1 F.2.1 d_Ds_fetchForLine_46 rfl (lv_at hl 1 rfl) ?_
          refine lv_iconst (pc := 47) (v := 4) F.1 F.2.1 d_Ds_fetchForLine_47 (by decide) ?_
          refine lv_isub (pc := 48) F.1 F.2.1 d_Ds_fetchForLine_48 ?_
          refine lv_iconst (pc := 49) (v := 2) F.1 F.2.1 d_Ds_fetchForLine_49 (by decide) ?_
          refine lv_idiv (pc := 50) F.1 F.2.1 d_Ds_fetchForLine_50 (by decide) ?_
          refine lv_istore_n (pc := 51) F.1 F.2.1 d_Ds_fetchForLine_51 rfl hl (by decide) rfl (fun ls hl => ?_)
          have hl : lv_has ls 3 [(2, .int ((x1 - 4) / 2)), (0, .ref (ad 6)), (1, .int x1)] := hl
          refine lv_iload_n (pc := 52) F.1 F.2.1 d_Ds_fetchForLine_52 rfl (lv_at hl 2 rfl) ?_
          refine lv_iconst (pc := 53) (v := 2) F.1 F.2.1 d_Ds_fetchForLine_53 (by decide) ?_
          refine lv_irem (pc := 54) F.1 F.2.1 d_Ds_fetchForLine_54 (by decide) ?_
          refine cutW (α := Int32 × Sg) (fun x H locs ls => x = f_Ds_fetchForLine_r55 σ x1 ∧ Wx D cI (wC cI ad) (AC ad) (AC ad) s s.heap H locs x.2 ∧ lv_has ls 3 [(0, .ref (ad 6)), (1, .int x1), (2, .int ((x1 - 4) / 2))]) (fun x ls => F0 m 71 ls [.int (x.1)]) ?_ (fun k55 => ?_)
          · rintro ⟨v7, s8⟩ H locs ls ⟨ex, w, hl⟩
            have e_v7 : v7 = (f_Ds_fetchForLine_r55 σ x1).1 := congrArg (fun z => z.1) ex
            have e_s8 : s8 = (f_Ds_fetchForLine_r55 σ x1).2 := congrArg (fun z => z.2) ex
            clear ex
            have w : Wx D cI (wC cI ad) (AC ad) (AC ad) s s.heap H locs s8 := w
            have hl : lv_has ls 3 [(0, .ref (ad 6)), (1, .int x1), (2, .int ((x1 - 4) / 2))] := hl
            show W _ _ _ _ _ _ _ _ _ _ _ _ _ _ _ (F0 m 71 ls [.int v7])
            exact Rz (pc := 71) F hr hlk w (e_v7 ▸ z_f_Ds_fetchForLine_r55_0 σ x1) (by rw [e_r1] at h34; rw [e_r2] at h41; rw [e_s8, e_v7]; exact Eq.symm (Eq.trans (if_neg h2) (Eq.trans (if_pos h12) (Eq.trans (if_neg h34) (Eq.trans (if_neg h41) (rfl)))))) d_Ds_fetchForLine_71
          · refine lv_if_ne (pc := 55) F.1 F.2.1 d_Ds_fetchForLine_55 (tgt := 66) (by decide) (fun h55 => ?_) (fun h55 => ?_)
            · refine lv_aload_n (pc := 66) F.1 F.2.1 d_Ds_fetchForLine_66 rfl (lv_at hl 1 rfl) ?_
              refine lv_iload_n (pc := 67) F.1 F.2.1 d_Ds_fetchForLine_67 rfl (lv_at hl 0 rfl) ?_
              refine Cvi (pc := 68) (As := [.int ((x1 - 4) / 2)]) (rest := []) F w (c_Ds_fetchLetterRow l D cI ad σ ((x1 - 4) / 2) (cy_in (by assumption) hq)) 6 rfl rfl k_Ds_fetchLetterRow m_602 (Nat.le_of_ble_eq_true rfl) (Nat.le_of_ble_eq_true rfl) ⟨rfl, rfl⟩ rfl hl.1 rfl (Nat.le_of_ble_eq_true rfl) d_Ds_fetchForLine_68 hcs (fun r3 s4 H locs e_r3 e_s4 w => ?_)
              exact k55 (r3, s4) _ _ _ ⟨(by rw [e_s4, e_r3]; exact Eq.symm (Eq.trans (if_neg h55) (rfl))), w, lv_sub hl [1, 2, 0] rfl⟩
            · refine lv_aload_n (pc := 58) F.1 F.2.1 d_Ds_fetchForLine_58 rfl (lv_at hl 1 rfl) ?_
              refine lv_iload_n (pc := 59) F.1 F.2.1 d_Ds_fetchForLine_59 rfl (lv_at hl 0 rfl) ?_
              refine Cvi (pc := 60) (As := [.int ((x1 - 4) / 2)]) (rest := []) F w (c_Ds_fetchData l D cI ad σ ((x1 - 4) / 2) (cy_in (by assumption) hq)) 6 rfl rfl k_Ds_fetchData m_598 (Nat.le_of_ble_eq_true rfl) (Nat.le_of_ble_eq_true rfl) ⟨rfl, rfl⟩ rfl hl.1 rfl (Nat.le_of_ble_eq_true rfl) d_Ds_fetchForLine_60 hcs (fun r5 s6 H locs e_r5 e_s6 w => ?_)
              refine lv_goto (pc := 63) F.1 F.2.1 d_Ds_fetchForLine_63 (tgt := 71) (by decide) ?_
              exact k55 (r5, s6) _ _ _ ⟨(by rw [e_s6, e_r5]; exact Eq.symm (Eq.trans (if_pos h55) (rfl))), w, lv_sub hl [1, 2, 0] rfl⟩
        · refine lv_iconst (pc := 44) (v := 0) F.1 F.2.1 d_Ds_fetchForLine_44 (by decide) ?_
          exact Rz (pc := 45) F hr hlk w (Or.inl rfl) (by rw [e_r1] at h34; rw [e_r2] at h41; exact Eq.symm (Eq.trans (if_neg h2) (Eq.trans (if_pos h12) (Eq.trans (if_neg h34) (Eq.trans (if_pos h41) (rfl)))))) d_Ds_fetchForLine_45
    · refine lv_aload_n (pc := 15) F.1 F.2.1 d_Ds_fetchForLine_15 rfl (lv_at hl 0 rfl) ?_
      refine lv_iload_n (pc := 16) F.1 F.2.1 d_Ds_fetchForLine_16 rfl (lv_at hl 1 rfl) ?_
      refine lv_iconst (pc := 17) (v := 3) F.1 F.2.1 d_Ds_fetchForLine_17 (by decide) ?_
      refine cutW (α := Int32) (fun x H locs ls => x = f_Ds_fetchForLine_r18 x1 ∧ Wx D cI (wC cI ad) (AC ad) (AC ad) s s.heap H locs σ ∧ lv_has ls 3 [(0, .ref (ad 6)), (1, .int x1)]) (fun x ls => F0 m 26 ls [.int x, .ref (ad 6)]) ?_ (fun k18 => ?_)
      · rintro v9 H locs ls ⟨ex, w, hl⟩
        have e_v9 := ex
        have w : Wx D cI (wC cI ad) (AC ad) (AC ad) s s.heap H locs σ := w
        have hl : lv_has ls 3 [(0, .ref (ad 6)), (1, .int x1)] := hl
        show W _ _ _ _ _ _ _ _ _ _ _ _ _ _ _ (F0 m 26 ls [.int v9, .ref (ad 6)])
        refine Cvi (pc := 26) (As := [.int v9]) (rest := []) F w (c_Ds_fetchAddress l D cI ad σ v9) 6 rfl rfl k_Ds_fetchAddress m_594 (Nat.le_of_ble_eq_true rfl) (Nat.le_of_ble_eq_true rfl) ⟨rfl, rfl⟩ rfl hl.1 rfl (Nat.le_of_ble_eq_true rfl) d_Ds_fetchForLine_26 hcs (fun r10 s11 H locs e_r10 e_s11 w => ?_)
        exact Rz (pc := 29) F hr hlk w (e_r10 ▸ z_Ds_fetchAddress σ v9) (by rw [e_s11, e_r10, e_v9]; exact Eq.symm (Eq.trans (if_neg h2) (Eq.trans (if_neg h12) (rfl)))) d_Ds_fetchForLine_29
      · refine lv_icmp_ne (pc := 18) F.1 F.2.1 d_Ds_fetchForLine_18 (tgt := 25) (by decide) (fun h18 => ?_) (fun h18 => ?_)
        · refine lv_iconst (pc := 25) (v := 0) F.1 F.2.1 d_Ds_fetchForLine_25 (by decide) ?_
          exact k18 0 _ _ _ ⟨(by exact Eq.symm (Eq.trans (if_neg h18) (rfl))), w, lv_sub hl [0, 1] rfl⟩
        · refine lv_iconst (pc := 21) (v := 1) F.1 F.2.1 d_Ds_fetchForLine_21 (by decide) ?_
          refine lv_goto (pc := 22) F.1 F.2.1 d_Ds_fetchForLine_22 (tgt := 26) (by decide) ?_
          exact k18 1 _ _ _ ⟨(by exact Eq.symm (Eq.trans (if_pos h18) (rfl))), w, lv_sub hl [0, 1] rfl⟩
  · refine lv_aload_n (pc := 5) F.1 F.2.1 d_Ds_fetchForLine_5 rfl (lv_at hl 0 rfl) ?_
    refine Cvi (pc := 6) (As := []) (rest := []) F w (c_Ds_beginModeLine l D cI ad σ) 6 rfl rfl k_Ds_beginModeLine m_575 (Nat.le_of_ble_eq_true rfl) (Nat.le_of_ble_eq_true rfl) ⟨rfl, rfl⟩ rfl hl.1 rfl (Nat.le_of_ble_eq_true rfl) d_Ds_fetchForLine_6 hcs (fun r12 s13 H locs e_r12 e_s13 w => ?_)
    exact Rz (pc := 9) F hr hlk w (e_r12 ▸ z_Ds_beginModeLine σ) (by rw [e_s13, e_r12]; exact Eq.symm (Eq.trans (if_pos h2) (rfl))) d_Ds_fetchForLine_9
def f_Ds_passCycle_r108 (x2 : Int32) (s4 : Sg) (r5 : Int32) : Int32 × Sg := if r5 = 0 then ((0, s4)) else (let r6 := f_Ds_isOn s4; if r6 = 0 then ((0, s4)) else (let r7 := (f_Ds_fetchForLine s4 x2).1; let s8 := (f_Ds_fetchForLine s4 x2).2; if r7 = 0 then ((0, s8)) else ((1, s8))))
def f_Ds_passCycle_r108_2 (σ : Sg) (x2 : Int32) (r14 : Int32) : Int32 × Sg := if r14 = 0 then ((0, σ)) else (let r15 := f_Ds_isOn σ; if r15 = 0 then ((0, σ)) else (let r16 := (f_Ds_fetchForLine σ x2).1; let s17 := (f_Ds_fetchForLine σ x2).2; if r16 = 0 then ((0, s17)) else ((1, s17))))
def f_Ds_passCycle (σ : Sg) (x1 : Int32) (x2 : Int32) : Int32 × Sg := if x2 = 0 then (let s1 := f_Ds_beginLine σ x1; let r2 := (f_Ds_fetchShape s1 19 x1).1; let s3 := (f_Ds_fetchShape s1 19 x1).2; (r2, s3)) else if x2 = 8 then (let s4 := f_Ds_requestNmis σ x1; let r5 := f_Pm_isShownLine x1; let v9 := (f_Ds_passCycle_r108 x2 s4 r5).1; let s10 := (f_Ds_passCycle_r108 x2 s4 r5).2; (v9, s10)) else if x2 = 20 then ((1, σ)) else if x2 = 21 then ((1, σ)) else if x2 = 22 then (let s11 := sf σ 3 0 0; (0, s11)) else if x2 = 23 then (let r12 := (f_Ds_fetchShape σ 20 (16 + x1)).1; let s13 := (f_Ds_fetchShape σ 20 (16 + x1)).2; (r12, s13)) else (let r14 := f_Pm_isShownLine x1; let v18 := (f_Ds_passCycle_r108_2 σ x2 r14).1; let s19 := (f_Ds_passCycle_r108_2 σ x2 r14).2; (v18, s19))
theorem z_f_Ds_passCycle_r108_0 (x2 : Int32) (s4 : Sg) (r5 : Int32) : (f_Ds_passCycle_r108 x2 s4 r5).1 = 0 ∨ (f_Ds_passCycle_r108 x2 s4 r5).1 = 1 := by unfold f_Ds_passCycle_r108; (try dsimp only); (repeat' split) <;> first | exact Or.inl rfl | exact Or.inr rfl | apply z_Ds_fetchForLine | apply z_Ds_fetchShape | apply z_Ds_isOn | apply z_Pm_isShownLine
theorem z_f_Ds_passCycle_r108_2_0 (σ : Sg) (x2 : Int32) (r14 : Int32) : (f_Ds_passCycle_r108_2 σ x2 r14).1 = 0 ∨ (f_Ds_passCycle_r108_2 σ x2 r14).1 = 1 := by unfold f_Ds_passCycle_r108_2; (try dsimp only); (repeat' split) <;> first | exact Or.inl rfl | exact Or.inr rfl | apply z_f_Ds_passCycle_r108_0 | apply z_Ds_fetchForLine | apply z_Ds_fetchShape | apply z_Ds_isOn | apply z_Pm_isShownLine
theorem z_Ds_passCycle (σ : Sg) (x1 : Int32) (x2 : Int32) : (f_Ds_passCycle σ x1 x2).1 = 0 ∨ (f_Ds_passCycle σ x1 x2).1 = 1 := by unfold f_Ds_passCycle; (try dsimp only); (repeat' split) <;> first | exact Or.inl rfl | exact Or.inr rfl | apply z_f_Ds_passCycle_r108_2_0 | apply z_f_Ds_passCycle_r108_0 | apply z_Ds_fetchForLine | apply z_Ds_fetchShape | apply z_Ds_isOn | apply z_Pm_isShownLine
set_option maxHeartbeats 1000000 in
set_option maxRecDepth 100000 in
theorem c_Ds_passCycle (l : Launch) (D : va_G) (cI : ClassId) (ad : Nat → Nat) (σ : Sg) (x1 : Int32) (x2 : Int32) (hq : bt2 0 x2 23) : Met l y_Ds_passCycle (Cond.code y_Ds_passCycle b_Ds_passCycle 3 (some .boolean) :: al) { frames := 4, cells := 0, slots := 0, locals := 88 } (Px D cI (wC cI ad) (AC ad) σ [.ref (ad 6), .int x1, .int x2]) (va_Qi (fun r u => (r, u) = f_Ds_passCycle σ x1 x2) (Bx D cI (wC cI ad) (AC ad)) (AC ad)) 0 0 (AC ad) := by
  refine Mx l (by decide) (Nat.le_of_ble_eq_true rfl) ?_
  intro p e s m below meth c ls F w hr hlk hl
  have F : CallFix p m c b_Ds_passCycle 3 s _ al "PictureMachine$Display" := F
  have hl : lv_has ls 3 [(0, .ref (ad 6)), (1, .int x1), (2, .int x2)] := hl
  have hcs : (0 : Nat) ≤ 0 ∧ (0 : Nat) ≤ 0 := ⟨Nat.le_refl _, Nat.le_refl _⟩
  refine lv_iload_n (pc := 0) F.1 F.2.1 d_Ds_passCycle_0 rfl (lv_at hl 2 rfl) ?_
  by_cases h1_0 : x2 = 0
  · refine lv_lookup (pc := 1) F.1 F.2.1 d_Ds_passCycle_1 (by decide) (off := 59) (tgt := 60) (by rw [h1_0]; decide) (by decide) ?_
    refine lv_aload_n (pc := 60) F.1 F.2.1 d_Ds_passCycle_60 rfl (lv_at hl 0 rfl) ?_
    refine lv_iload_n (pc := 61) F.1 F.2.1 d_Ds_passCycle_61 rfl (lv_at hl 1 rfl) ?_
    refine Cvv (pc := 62) (As := [.int x1]) (rest := []) F w (c_Ds_beginLine l D cI ad σ x1) 6 rfl rfl k_Ds_beginLine m_543 (Nat.le_of_ble_eq_true rfl) (Nat.le_of_ble_eq_true rfl) ⟨rfl, rfl⟩ rfl hl.1 rfl (Nat.le_of_ble_eq_true rfl) d_Ds_passCycle_62 hcs (fun s1 H locs e_s1 w => ?_)
    refine lv_aload_n (pc := 65) F.1 F.2.1 d_Ds_passCycle_65 rfl (lv_at hl 0 rfl) ?_
    refine lv_bipush (pc := 66) (v := 19) F.1 F.2.1 d_Ds_passCycle_66 (by decide) ?_
    refine lv_iload_n (pc := 68) F.1 F.2.1 d_Ds_passCycle_68 rfl (lv_at hl 1 rfl) ?_
    refine Cvi (pc := 69) (As := [.int 19, .int x1]) (rest := []) F w (c_Ds_fetchShape l D cI ad s1 19 x1 (by unfold vp_in; decide)) 6 rfl rfl k_Ds_fetchShape m_547 (Nat.le_of_ble_eq_true rfl) (Nat.le_of_ble_eq_true rfl) ⟨rfl, rfl⟩ rfl hl.1 rfl (Nat.le_of_ble_eq_true rfl) d_Ds_passCycle_69 hcs (fun r2 s3 H locs e_r2 e_s3 w => ?_)
    exact Rz (pc := 72) F hr hlk w (e_r2 ▸ z_Ds_fetchShape s1 19 x1) (by rw [e_s3, e_r2, e_s1]; exact Eq.symm (Eq.trans (if_pos h1_0) (rfl))) d_Ds_passCycle_72
  by_cases h1_8 : x2 = 8
  · refine lv_lookup (pc := 1) F.1 F.2.1 d_Ds_passCycle_1 (by decide) (off := 72) (tgt := 73) (by rw [h1_8]; decide) (by decide) ?_
    refine lv_aload_n (pc := 73) F.1 F.2.1 d_Ds_passCycle_73 rfl (lv_at hl 0 rfl) ?_
    refine lv_iload_n (pc := 74) F.1 F.2.1 d_Ds_passCycle_74 rfl (lv_at hl 1 rfl) ?_
    refine Cvv (pc := 75) (As := [.int x1]) (rest := []) F w (c_Ds_requestNmis l D cI ad σ x1) 6 rfl rfl k_Ds_requestNmis m_552 (Nat.le_of_ble_eq_true rfl) (Nat.le_of_ble_eq_true rfl) ⟨rfl, rfl⟩ rfl hl.1 rfl (Nat.le_of_ble_eq_true rfl) d_Ds_passCycle_75 hcs (fun s4 H locs e_s4 w => ?_)
    refine lv_goto (pc := 78) F.1 F.2.1 d_Ds_passCycle_78 (tgt := 104) (by decide) ?_
    refine lv_iload_n (pc := 104) F.1 F.2.1 d_Ds_passCycle_104 rfl (lv_at hl 1 rfl) ?_
    refine UsNi (pc := 105) (As := [.int x1]) (rest := []) F w.2.2.2.2.1 (c_Pm_isShownLine l x1) k_Pm_isShownLine m_560 (Nat.le_of_ble_eq_true rfl) (Nat.le_of_ble_eq_true rfl) ⟨rfl, rfl⟩ rfl hl.1 rfl (Nat.le_of_ble_eq_true rfl) d_Ds_passCycle_105 hcs (fun r5 e_r5 => ?_)
    refine cutW (α := Int32 × Sg) (fun x H locs ls => x = f_Ds_passCycle_r108 x2 s4 r5 ∧ Wx D cI (wC cI ad) (AC ad) (AC ad) s s.heap H locs x.2 ∧ lv_has ls 3 [(0, .ref (ad 6)), (1, .int x1), (2, .int x2)]) (fun x ls => F0 m 131 ls [.int (x.1)]) ?_ (fun k108 => ?_)
    · rintro ⟨v9, s10⟩ H locs ls ⟨ex, w, hl⟩
      have e_v9 : v9 = (f_Ds_passCycle_r108 x2 s4 r5).1 := congrArg (fun z => z.1) ex
      have e_s10 : s10 = (f_Ds_passCycle_r108 x2 s4 r5).2 := congrArg (fun z => z.2) ex
      clear ex
      have w : Wx D cI (wC cI ad) (AC ad) (AC ad) s s.heap H locs s10 := w
      have hl : lv_has ls 3 [(0, .ref (ad 6)), (1, .int x1), (2, .int x2)] := hl
      show W _ _ _ _ _ _ _ _ _ _ _ _ _ _ _ (F0 m 131 ls [.int v9])
      exact Rz (pc := 131) F hr hlk w (e_v9 ▸ z_f_Ds_passCycle_r108_0 x2 s4 r5) (by rw [e_s10, e_v9, e_r5, e_s4]; exact Eq.symm (Eq.trans (if_neg h1_0) (Eq.trans (if_pos h1_8) (rfl)))) d_Ds_passCycle_131
    · refine lv_if_eq (pc := 108) F.1 F.2.1 d_Ds_passCycle_108 (tgt := 130) (by decide) (fun h108 => ?_) (fun h108 => ?_)
      · refine lv_iconst (pc := 130) (v := 0) F.1 F.2.1 d_Ds_passCycle_130 (by decide) ?_
        exact k108 (0, s4) _ _ _ ⟨(by exact Eq.symm (Eq.trans (if_pos h108) (rfl))), w, lv_sub hl [0, 1, 2] rfl⟩
      · refine lv_aload_n (pc := 111) F.1 F.2.1 d_Ds_passCycle_111 rfl (lv_at hl 0 rfl) ?_
        refine Kvi (pc := 112) (As := []) (rest := []) F w (c_Ds_isOn l D cI ad s4) 6 rfl rfl k_Ds_isOn m_563 (Nat.le_of_ble_eq_true rfl) (Nat.le_of_ble_eq_true rfl) ⟨rfl, rfl⟩ rfl hl.1 rfl (Nat.le_of_ble_eq_true rfl) d_Ds_passCycle_112 hcs (fun r6 H locs e_r6 w => ?_)
        refine lv_if_eq (pc := 115) F.1 F.2.1 d_Ds_passCycle_115 (tgt := 130) (by decide) (fun h115 => ?_) (fun h115 => ?_)
        · refine lv_iconst (pc := 130) (v := 0) F.1 F.2.1 d_Ds_passCycle_130 (by decide) ?_
          exact k108 (0, s4) _ _ _ ⟨(by rw [e_r6] at h115; exact Eq.symm (Eq.trans (if_neg h108) (Eq.trans (if_pos h115) (rfl)))), w, lv_sub hl [0, 1, 2] rfl⟩
        · refine lv_aload_n (pc := 118) F.1 F.2.1 d_Ds_passCycle_118 rfl (lv_at hl 0 rfl) ?_
          refine lv_iload_n (pc := 119) F.1 F.2.1 d_Ds_passCycle_119 rfl (lv_at hl 2 rfl) ?_
          refine Cvi (pc := 120) (As := [.int x2]) (rest := []) F w (c_Ds_fetchForLine l D cI ad s4 x2 (by first | exact cy_19 hq (by assumption) (by assumption) (by assumption) (by assumption) | exact cy_8 (by assumption))) 6 rfl rfl k_Ds_fetchForLine m_571 (Nat.le_of_ble_eq_true rfl) (Nat.le_of_ble_eq_true rfl) ⟨rfl, rfl⟩ rfl hl.1 rfl (Nat.le_of_ble_eq_true rfl) d_Ds_passCycle_120 hcs (fun r7 s8 H locs e_r7 e_s8 w => ?_)
          refine lv_if_eq (pc := 123) F.1 F.2.1 d_Ds_passCycle_123 (tgt := 130) (by decide) (fun h123 => ?_) (fun h123 => ?_)
          · refine lv_iconst (pc := 130) (v := 0) F.1 F.2.1 d_Ds_passCycle_130 (by decide) ?_
            exact k108 (0, s8) _ _ _ ⟨(by rw [e_r6] at h115; rw [e_r7] at h123; rw [e_s8]; exact Eq.symm (Eq.trans (if_neg h108) (Eq.trans (if_neg h115) (Eq.trans (if_pos h123) (rfl))))), w, lv_sub hl [0, 1, 2] rfl⟩
          · refine lv_iconst (pc := 126) (v := 1) F.1 F.2.1 d_Ds_passCycle_126 (by decide) ?_
            refine lv_goto (pc := 127) F.1 F.2.1 d_Ds_passCycle_127 (tgt := 131) (by decide) ?_
            exact k108 (1, s8) _ _ _ ⟨(by rw [e_r6] at h115; rw [e_r7] at h123; rw [e_s8]; exact Eq.symm (Eq.trans (if_neg h108) (Eq.trans (if_neg h115) (Eq.trans (if_neg h123) (rfl))))), w, lv_sub hl [0, 1, 2] rfl⟩
  by_cases h1_20 : x2 = 20
  · refine lv_lookup (pc := 1) F.1 F.2.1 d_Ds_passCycle_1 (by decide) (off := 80) (tgt := 81) (by rw [h1_20]; decide) (by decide) ?_
    refine lv_iconst (pc := 81) (v := 1) F.1 F.2.1 d_Ds_passCycle_81 (by decide) ?_
    exact Rz (pc := 82) F hr hlk w (Or.inr rfl) (by exact Eq.symm (Eq.trans (if_neg h1_0) (Eq.trans (if_neg h1_8) (Eq.trans (if_pos h1_20) (rfl))))) d_Ds_passCycle_82
  by_cases h1_21 : x2 = 21
  · refine lv_lookup (pc := 1) F.1 F.2.1 d_Ds_passCycle_1 (by decide) (off := 80) (tgt := 81) (by rw [h1_21]; decide) (by decide) ?_
    refine lv_iconst (pc := 81) (v := 1) F.1 F.2.1 d_Ds_passCycle_81 (by decide) ?_
    exact Rz (pc := 82) F hr hlk w (Or.inr rfl) (by exact Eq.symm (Eq.trans (if_neg h1_0) (Eq.trans (if_neg h1_8) (Eq.trans (if_neg h1_20) (Eq.trans (if_pos h1_21) (rfl)))))) d_Ds_passCycle_82
  by_cases h1_22 : x2 = 22
  · refine lv_lookup (pc := 1) F.1 F.2.1 d_Ds_passCycle_1 (by decide) (off := 82) (tgt := 83) (by rw [h1_22]; decide) (by decide) ?_
    refine lv_aload_n (pc := 83) F.1 F.2.1 d_Ds_passCycle_83 rfl (lv_at hl 0 rfl) ?_
    refine gC6_2 (pc := 84) F w (F.2.2.2.2 _ m_155) d_Ds_passCycle_84 ?_
    refine lv_iconst (pc := 87) (v := 0) F.1 F.2.1 d_Ds_passCycle_87 (by decide) ?_
    refine pNC3_0 (pc := 88) F w (Or.inl rfl) m_58 d_Ds_passCycle_88 (fun H locs s11 e_s11 w => ?_)
    refine lv_iconst (pc := 91) (v := 0) F.1 F.2.1 d_Ds_passCycle_91 (by decide) ?_
    exact Rz (pc := 92) F hr hlk w (Or.inl rfl) (by rw [e_s11]; exact Eq.symm (Eq.trans (if_neg h1_0) (Eq.trans (if_neg h1_8) (Eq.trans (if_neg h1_20) (Eq.trans (if_neg h1_21) (Eq.trans (if_pos h1_22) (rfl))))))) d_Ds_passCycle_92
  by_cases h1_23 : x2 = 23
  · refine lv_lookup (pc := 1) F.1 F.2.1 d_Ds_passCycle_1 (by decide) (off := 92) (tgt := 93) (by rw [h1_23]; decide) (by decide) ?_
    refine lv_aload_n (pc := 93) F.1 F.2.1 d_Ds_passCycle_93 rfl (lv_at hl 0 rfl) ?_
    refine lv_bipush (pc := 94) (v := 20) F.1 F.2.1 d_Ds_passCycle_94 (by decide) ?_
    refine lv_bipush (pc := 96) (v := 16) F.1 F.2.1 d_Ds_passCycle_96 (by decide) ?_
    refine lv_iload_n (pc := 98) F.1 F.2.1 d_Ds_passCycle_98 rfl (lv_at hl 1 rfl) ?_
    refine lv_iadd (pc := 99) F.1 F.2.1 d_Ds_passCycle_99 ?_
    refine Cvi (pc := 100) (As := [.int 20, .int (16 + x1)]) (rest := []) F w (c_Ds_fetchShape l D cI ad σ 20 (16 + x1) (by unfold vp_in; decide)) 6 rfl rfl k_Ds_fetchShape m_547 (Nat.le_of_ble_eq_true rfl) (Nat.le_of_ble_eq_true rfl) ⟨rfl, rfl⟩ rfl hl.1 rfl (Nat.le_of_ble_eq_true rfl) d_Ds_passCycle_100 hcs (fun r12 s13 H locs e_r12 e_s13 w => ?_)
    exact Rz (pc := 103) F hr hlk w (e_r12 ▸ z_Ds_fetchShape σ 20 (16 + x1)) (by rw [e_s13, e_r12]; exact Eq.symm (Eq.trans (if_neg h1_0) (Eq.trans (if_neg h1_8) (Eq.trans (if_neg h1_20) (Eq.trans (if_neg h1_21) (Eq.trans (if_neg h1_22) (Eq.trans (if_pos h1_23) (rfl)))))))) d_Ds_passCycle_103
  refine lv_lookup (pc := 1) F.1 F.2.1 d_Ds_passCycle_1 (by decide) (off := 103) (tgt := 104) ((lv_osw h1_0 rfl).trans ((lv_osw h1_8 rfl).trans ((lv_osw h1_20 rfl).trans ((lv_osw h1_21 rfl).trans ((lv_osw h1_22 rfl).trans ((lv_osw h1_23 rfl).trans (rfl))))))) (by decide) ?_
  refine lv_iload_n (pc := 104) F.1 F.2.1 d_Ds_passCycle_104 rfl (lv_at hl 1 rfl) ?_
  refine UsNi (pc := 105) (As := [.int x1]) (rest := []) F w.2.2.2.2.1 (c_Pm_isShownLine l x1) k_Pm_isShownLine m_560 (Nat.le_of_ble_eq_true rfl) (Nat.le_of_ble_eq_true rfl) ⟨rfl, rfl⟩ rfl hl.1 rfl (Nat.le_of_ble_eq_true rfl) d_Ds_passCycle_105 hcs (fun r14 e_r14 => ?_)
  refine cutW (α := Int32 × Sg) (fun x H locs ls => x = f_Ds_passCycle_r108_2 σ x2 r14 ∧ Wx D cI (wC cI ad) (AC ad) (AC ad) s s.heap H locs x.2 ∧ lv_has ls 3 [(0, .ref (ad 6)), (1, .int x1), (2, .int x2)]) (fun x ls => F0 m 131 ls [.int (x.1)]) ?_ (fun k108 => ?_)
  · rintro ⟨v18, s19⟩ H locs ls ⟨ex, w, hl⟩
    have e_v18 : v18 = (f_Ds_passCycle_r108_2 σ x2 r14).1 := congrArg (fun z => z.1) ex
    have e_s19 : s19 = (f_Ds_passCycle_r108_2 σ x2 r14).2 := congrArg (fun z => z.2) ex
    clear ex
    have w : Wx D cI (wC cI ad) (AC ad) (AC ad) s s.heap H locs s19 := w
    have hl : lv_has ls 3 [(0, .ref (ad 6)), (1, .int x1), (2, .int x2)] := hl
    show W _ _ _ _ _ _ _ _ _ _ _ _ _ _ _ (F0 m 131 ls [.int v18])
    exact Rz (pc := 131) F hr hlk w (e_v18 ▸ z_f_Ds_passCycle_r108_2_0 σ x2 r14) (by rw [e_s19, e_v18, e_r14]; exact Eq.symm (Eq.trans (if_neg h1_0) (Eq.trans (if_neg h1_8) (Eq.trans (if_neg h1_20) (Eq.trans (if_neg h1_21) (Eq.trans (if_neg h1_22) (Eq.trans (if_neg h1_23) (rfl)))))))) d_Ds_passCycle_131
  · refine lv_if_eq (pc := 108) F.1 F.2.1 d_Ds_passCycle_108 (tgt := 130) (by decide) (fun h108 => ?_) (fun h108 => ?_)
    · refine lv_iconst (pc := 130) (v := 0) F.1 F.2.1 d_Ds_passCycle_130 (by decide) ?_
      exact k108 (0, σ) _ _ _ ⟨(by exact Eq.symm (Eq.trans (if_pos h108) (rfl))), w, lv_sub hl [0, 1, 2] rfl⟩
    · refine lv_aload_n (pc := 111) F.1 F.2.1 d_Ds_passCycle_111 rfl (lv_at hl 0 rfl) ?_
      refine Kvi (pc := 112) (As := []) (rest := []) F w (c_Ds_isOn l D cI ad σ) 6 rfl rfl k_Ds_isOn m_563 (Nat.le_of_ble_eq_true rfl) (Nat.le_of_ble_eq_true rfl) ⟨rfl, rfl⟩ rfl hl.1 rfl (Nat.le_of_ble_eq_true rfl) d_Ds_passCycle_112 hcs (fun r15 H locs e_r15 w => ?_)
      refine lv_if_eq (pc := 115) F.1 F.2.1 d_Ds_passCycle_115 (tgt := 130) (by decide) (fun h115 => ?_) (fun h115 => ?_)
      · refine lv_iconst (pc := 130) (v := 0) F.1 F.2.1 d_Ds_passCycle_130 (by decide) ?_
        exact k108 (0, σ) _ _ _ ⟨(by rw [e_r15] at h115; exact Eq.symm (Eq.trans (if_neg h108) (Eq.trans (if_pos h115) (rfl)))), w, lv_sub hl [0, 1, 2] rfl⟩
      · refine lv_aload_n (pc := 118) F.1 F.2.1 d_Ds_passCycle_118 rfl (lv_at hl 0 rfl) ?_
        refine lv_iload_n (pc := 119) F.1 F.2.1 d_Ds_passCycle_119 rfl (lv_at hl 2 rfl) ?_
        refine Cvi (pc := 120) (As := [.int x2]) (rest := []) F w (c_Ds_fetchForLine l D cI ad σ x2 (by first | exact cy_19 hq (by assumption) (by assumption) (by assumption) (by assumption) | exact cy_8 (by assumption))) 6 rfl rfl k_Ds_fetchForLine m_571 (Nat.le_of_ble_eq_true rfl) (Nat.le_of_ble_eq_true rfl) ⟨rfl, rfl⟩ rfl hl.1 rfl (Nat.le_of_ble_eq_true rfl) d_Ds_passCycle_120 hcs (fun r16 s17 H locs e_r16 e_s17 w => ?_)
        refine lv_if_eq (pc := 123) F.1 F.2.1 d_Ds_passCycle_123 (tgt := 130) (by decide) (fun h123 => ?_) (fun h123 => ?_)
        · refine lv_iconst (pc := 130) (v := 0) F.1 F.2.1 d_Ds_passCycle_130 (by decide) ?_
          exact k108 (0, s17) _ _ _ ⟨(by rw [e_r15] at h115; rw [e_r16] at h123; rw [e_s17]; exact Eq.symm (Eq.trans (if_neg h108) (Eq.trans (if_neg h115) (Eq.trans (if_pos h123) (rfl))))), w, lv_sub hl [0, 1, 2] rfl⟩
        · refine lv_iconst (pc := 126) (v := 1) F.1 F.2.1 d_Ds_passCycle_126 (by decide) ?_
          refine lv_goto (pc := 127) F.1 F.2.1 d_Ds_passCycle_127 (tgt := 131) (by decide) ?_
          exact k108 (1, s17) _ _ _ ⟨(by rw [e_r15] at h115; rw [e_r16] at h123; rw [e_s17]; exact Eq.symm (Eq.trans (if_neg h108) (Eq.trans (if_neg h115) (Eq.trans (if_neg h123) (rfl))))), w, lv_sub hl [0, 1, 2] rfl⟩
def f_Pm_bit_r1 (x1 : Int32) : Int32 := if x1 = 0 then (0) else (1)
def f_Pm_bit  (x1 : Int32) : Int32 := let v1 := (f_Pm_bit_r1 x1); v1
theorem z_f_Pm_bit_r1_0 (x1 : Int32) : (f_Pm_bit_r1 x1) = 0 ∨ (f_Pm_bit_r1 x1) = 1 := by unfold f_Pm_bit_r1; (try dsimp only); (repeat' split) <;> first | exact Or.inl rfl | exact Or.inr rfl
set_option maxHeartbeats 1000000 in
set_option maxRecDepth 100000 in
theorem c_Pm_bit (l : Launch)  (x1 : Int32) : Met l y_Pm_bit (Cond.code y_Pm_bit b_Pm_bit 1 (some .int) :: al) { frames := 0, cells := 0, slots := 0, locals := 0 } (PU [.int x1]) (QU (f_Pm_bit x1)) 0 0 (fun _ => False) := by
  refine Mu l (by decide) (Nat.le_of_ble_eq_true rfl) ?_
  intro p e s m below meth c ls F hr hlk hl
  have F : CallFix p m c b_Pm_bit 1 s _ al "PictureMachine" := F
  generalize hH : s.heap = H
  generalize hlo : ([] : List Loc) = locs
  have w : (H = s.heap ∧ locs = []) := ⟨hH.symm, hlo.symm⟩
  have hl : lv_has ls 1 [(0, .int x1)] := hl
  refine lv_iload_n (pc := 0) F.1 F.2.1 d_Pm_bit_0 rfl (lv_at hl 0 rfl) ?_
  refine cutW (α := Int32) (fun x H locs ls => x = f_Pm_bit_r1 x1 ∧ (H = s.heap ∧ locs = []) ∧ lv_has ls 1 [(0, .int x1)]) (fun x ls => F0 m 9 ls [.int x]) ?_ (fun k1 => ?_)
  · rintro v1 H locs ls ⟨ex, w, hl⟩
    have e_v1 := ex
    have w : (H = s.heap ∧ locs = []) := w
    have hl : lv_has ls 1 [(0, .int x1)] := hl
    show W _ _ _ _ _ _ _ _ _ _ _ _ _ _ _ (F0 m 9 ls [.int v1])
    exact Ui (pc := 9) F w hr hlk (by rw [e_v1]; exact Eq.symm (rfl)) d_Pm_bit_9
  · refine lv_if_eq (pc := 1) F.1 F.2.1 d_Pm_bit_1 (tgt := 8) (by decide) (fun h1 => ?_) (fun h1 => ?_)
    · refine lv_iconst (pc := 8) (v := 0) F.1 F.2.1 d_Pm_bit_8 (by decide) ?_
      exact k1 0 _ _ _ ⟨(by exact Eq.symm (Eq.trans (if_pos h1) (rfl))), w, lv_sub hl [0] rfl⟩
    · refine lv_iconst (pc := 4) (v := 1) F.1 F.2.1 d_Pm_bit_4 (by decide) ?_
      refine lv_goto (pc := 5) F.1 F.2.1 d_Pm_bit_5 (tgt := 9) (by decide) ?_
      exact k1 1 _ _ _ ⟨(by exact Eq.symm (Eq.trans (if_neg h1) (rfl))), w, lv_sub hl [0] rfl⟩
def f_Ch_takeSign (σ : Sg) : Int32 × Sg := let s1 := sf σ 5 3 0; ((σ 5 3), s1)
set_option maxHeartbeats 1000000 in
set_option maxRecDepth 100000 in
theorem c_Ch_takeSign (l : Launch) (D : va_G) (cI : ClassId) (ad : Nat → Nat) (σ : Sg) : Met l y_Ch_takeSign (Cond.code y_Ch_takeSign b_Ch_takeSign 2 (some .int) :: al) { frames := 0, cells := 0, slots := 0, locals := 0 } (Px D cI (wC cI ad) (AC ad) σ [.ref (ad 5)]) (va_Qi (fun r u => (r, u) = f_Ch_takeSign σ ) (Bx D cI (wC cI ad) (AC ad)) (AC ad)) 0 0 (AC ad) := by
  refine Mx l (by decide) (Nat.le_of_ble_eq_true rfl) ?_
  intro p e s m below meth c ls F w hr hlk hl
  have F : CallFix p m c b_Ch_takeSign 2 s _ al "PictureMachine$Chance" := F
  have hl : lv_has ls 2 [(0, .ref (ad 5))] := hl
  refine lv_aload_n (pc := 0) F.1 F.2.1 d_Ch_takeSign_0 rfl (lv_at hl 0 rfl) ?_
  refine gC5_3 (pc := 1) F w (F.2.2.2.2 _ m_136) d_Ch_takeSign_1 ?_
  refine lv_istore_n (pc := 4) F.1 F.2.1 d_Ch_takeSign_4 rfl hl (by decide) rfl (fun ls hl => ?_)
  have hl : lv_has ls 2 [(1, .int (σ 5 3)), (0, .ref (ad 5))] := hl
  refine lv_aload_n (pc := 5) F.1 F.2.1 d_Ch_takeSign_5 rfl (lv_at hl 1 rfl) ?_
  refine lv_iconst (pc := 6) (v := 0) F.1 F.2.1 d_Ch_takeSign_6 (by decide) ?_
  refine pC5_3 (pc := 7) F w (F.2.2.2.2 _ m_136) d_Ch_takeSign_7 (fun H locs s1 e_s1 w => ?_)
  refine lv_iload_n (pc := 10) F.1 F.2.1 d_Ch_takeSign_10 rfl (lv_at hl 0 rfl) ?_
  exact Ri (pc := 11) F hr hlk w (by rw [e_s1]; exact Eq.symm (rfl)) d_Ch_takeSign_11
def f_Dr_takeByte_r4 (σ : Sg) : Int32 := if (σ 8 8) = 0 then (0) else ((σ 8 9))
def f_Dr_takeByte (σ : Sg) : Int32 × Sg := let v1 := (f_Dr_takeByte_r4 σ); let s2 := sf σ 8 8 0; (v1, s2)
set_option maxHeartbeats 1000000 in
set_option maxRecDepth 100000 in
theorem c_Dr_takeByte (l : Launch) (D : va_G) (cI : ClassId) (ad : Nat → Nat) (σ : Sg) : Met l y_Dr_takeByte (Cond.code y_Dr_takeByte b_Dr_takeByte 2 (some .int) :: al) { frames := 0, cells := 0, slots := 0, locals := 0 } (Px D cI (wC cI ad) (AC ad) σ [.ref (ad 8)]) (va_Qi (fun r u => (r, u) = f_Dr_takeByte σ ) (Bx D cI (wC cI ad) (AC ad)) (AC ad)) 0 0 (AC ad) := by
  refine Mx l (by decide) (Nat.le_of_ble_eq_true rfl) ?_
  intro p e s m below meth c ls F w hr hlk hl
  have F : CallFix p m c b_Dr_takeByte 2 s _ al "PictureMachine$Drive" := F
  have hl : lv_has ls 2 [(0, .ref (ad 8))] := hl
  refine lv_aload_n (pc := 0) F.1 F.2.1 d_Dr_takeByte_0 rfl (lv_at hl 0 rfl) ?_
  refine gC8_8 (pc := 1) F w (F.2.2.2.2 _ m_100) d_Dr_takeByte_1 ?_
  refine cutW (α := Int32) (fun x H locs ls => x = f_Dr_takeByte_r4 σ ∧ Wx D cI (wC cI ad) (AC ad) (AC ad) s s.heap H locs σ ∧ lv_has ls 2 [(0, .ref (ad 8))]) (fun x ls => F0 m 15 ls [.int x]) ?_ (fun k4 => ?_)
  · rintro v1 H locs ls ⟨ex, w, hl⟩
    have e_v1 := ex
    have w : Wx D cI (wC cI ad) (AC ad) (AC ad) s s.heap H locs σ := w
    have hl : lv_has ls 2 [(0, .ref (ad 8))] := hl
    show W _ _ _ _ _ _ _ _ _ _ _ _ _ _ _ (F0 m 15 ls [.int v1])
    refine lv_istore_n (pc := 15) F.1 F.2.1 d_Dr_takeByte_15 rfl hl (by decide) rfl (fun ls hl => ?_)
    have hl : lv_has ls 2 [(1, .int v1), (0, .ref (ad 8))] := hl
    refine lv_aload_n (pc := 16) F.1 F.2.1 d_Dr_takeByte_16 rfl (lv_at hl 1 rfl) ?_
    refine lv_iconst (pc := 17) (v := 0) F.1 F.2.1 d_Dr_takeByte_17 (by decide) ?_
    refine pC8_8 (pc := 18) F w (Or.inl rfl) (F.2.2.2.2 _ m_100) d_Dr_takeByte_18 (fun H locs s2 e_s2 w => ?_)
    refine lv_iload_n (pc := 21) F.1 F.2.1 d_Dr_takeByte_21 rfl (lv_at hl 0 rfl) ?_
    exact Ri (pc := 22) F hr hlk w (by rw [e_s2, e_v1]; exact Eq.symm (rfl)) d_Dr_takeByte_22
  · refine lv_if_eq (pc := 4) F.1 F.2.1 d_Dr_takeByte_4 (tgt := 14) (by decide) (fun h4 => ?_) (fun h4 => ?_)
    · refine lv_iconst (pc := 14) (v := 0) F.1 F.2.1 d_Dr_takeByte_14 (by decide) ?_
      exact k4 0 _ _ _ ⟨(by exact Eq.symm (Eq.trans (if_pos h4) (rfl))), w, lv_sub hl [0] rfl⟩
    · refine lv_aload_n (pc := 7) F.1 F.2.1 d_Dr_takeByte_7 rfl (lv_at hl 0 rfl) ?_
      refine gC8_9 (pc := 8) F w (F.2.2.2.2 _ m_102) d_Dr_takeByte_8 ?_
      refine lv_goto (pc := 11) F.1 F.2.1 d_Dr_takeByte_11 (tgt := 15) (by decide) ?_
      exact k4 (σ 8 9) _ _ _ ⟨(by exact Eq.symm (Eq.trans (if_neg h4) (rfl))), w, lv_sub hl [0] rfl⟩
def f_Bd_load_r28 (σ : Sg) (x1 : Int32) : Int32 × Sg := if ((x1 &&& 1023) - 768) = 0 then (((σ 2 1), σ)) else if ((x1 &&& 1023) - 768) = 1 then (((σ 6 5), σ)) else if ((x1 &&& 1023) - 768) = 2 then (((σ 15 (0 : Int32).toNatClampNeg), σ)) else if ((x1 &&& 1023) - 768) = 3 then (((σ 15 (1 : Int32).toNatClampNeg), σ)) else if ((x1 &&& 1023) - 768) = 4 then (let r1 := f_Pm_bit (σ 7 4); (r1, σ)) else if ((x1 &&& 1023) - 768) = 5 then ((((σ 5 1) &&& 255), σ)) else if ((x1 &&& 1023) - 768) = 6 then (let r2 := (f_Ch_takeSign σ).1; let s3 := (f_Ch_takeSign σ).2; (r2, s3)) else if ((x1 &&& 1023) - 768) = 7 then (let r4 := (f_Dr_takeByte σ).1; let s5 := (f_Dr_takeByte σ).2; (r4, s5)) else if ((x1 &&& 1023) - 768) = 8 then (let r6 := f_Pm_bit (σ 8 8); (r6, σ)) else if ((x1 &&& 1023) - 768) = 9 then (((σ 1 8), σ)) else ((255, σ))
def f_Bd_load (σ : Sg) (x1 : Int32) : Int32 × Sg := if 768 ≤ (x1 &&& 1023) then (let v7 := (f_Bd_load_r28 σ x1).1; let s8 := (f_Bd_load_r28 σ x1).2; (v7, s8)) else (((σ 10 (x1 &&& 1023).toNatClampNeg), σ))
set_option maxHeartbeats 1000000 in
set_option maxRecDepth 100000 in
theorem c_Bd_load (l : Launch) (D : va_G) (cI : ClassId) (ad : Nat → Nat) (σ : Sg) (x1 : Int32) : Met l y_Bd_load (Cond.code y_Bd_load b_Bd_load 3 (some .int) :: al) { frames := 1, cells := 0, slots := 0, locals := 21 } (Px D cI (wC cI ad) (AC ad) σ [.ref (ad 1), .int x1]) (va_Qi (fun r u => (r, u) = f_Bd_load σ x1) (Bx D cI (wC cI ad) (AC ad)) (AC ad)) 0 0 (AC ad) := by
  refine Mx l (by decide) (Nat.le_of_ble_eq_true rfl) ?_
  intro p e s m below meth c ls F w hr hlk hl
  have F : CallFix p m c b_Bd_load 3 s _ al "PictureMachine$Board" := F
  have hl : lv_has ls 3 [(0, .ref (ad 1)), (1, .int x1)] := hl
  have hcs : (0 : Nat) ≤ 0 ∧ (0 : Nat) ≤ 0 := ⟨Nat.le_refl _, Nat.le_refl _⟩
  refine lv_iload_n (pc := 0) F.1 F.2.1 d_Bd_load_0 rfl (lv_at hl 1 rfl) ?_
  refine lv_sipush (pc := 1) (v := 1023) F.1 F.2.1 d_Bd_load_1 (by decide) ?_
  refine lv_iand (pc := 4) F.1 F.2.1 d_Bd_load_4 ?_
  refine lv_istore_n (pc := 5) F.1 F.2.1 d_Bd_load_5 rfl hl (by decide) rfl (fun ls hl => ?_)
  have hl : lv_has ls 3 [(2, .int (x1 &&& 1023)), (0, .ref (ad 1)), (1, .int x1)] := hl
  refine lv_iload_n (pc := 6) F.1 F.2.1 d_Bd_load_6 rfl (lv_at hl 0 rfl) ?_
  refine lv_sipush (pc := 7) (v := 768) F.1 F.2.1 d_Bd_load_7 (by decide) ?_
  refine lv_icmp_ge (pc := 10) F.1 F.2.1 d_Bd_load_10 (tgt := 23) (by decide) (fun h10 => ?_) (fun h10 => ?_)
  · refine lv_iload_n (pc := 23) F.1 F.2.1 d_Bd_load_23 rfl (lv_at hl 0 rfl) ?_
    refine lv_sipush (pc := 24) (v := 768) F.1 F.2.1 d_Bd_load_24 (by decide) ?_
    refine lv_isub (pc := 27) F.1 F.2.1 d_Bd_load_27 ?_
    refine cutW (α := Int32 × Sg) (fun x H locs ls => x = f_Bd_load_r28 σ x1 ∧ Wx D cI (wC cI ad) (AC ad) (AC ad) s s.heap H locs x.2 ∧ lv_has ls 3 [(0, .ref (ad 1)), (1, .int x1), (2, .int (x1 &&& 1023))]) (fun x ls => F0 m 198 ls [.int (x.1)]) ?_ (fun k28 => ?_)
    · rintro ⟨v7, s8⟩ H locs ls ⟨ex, w, hl⟩
      have e_v7 : v7 = (f_Bd_load_r28 σ x1).1 := congrArg (fun z => z.1) ex
      have e_s8 : s8 = (f_Bd_load_r28 σ x1).2 := congrArg (fun z => z.2) ex
      clear ex
      have w : Wx D cI (wC cI ad) (AC ad) (AC ad) s s.heap H locs s8 := w
      have hl : lv_has ls 3 [(0, .ref (ad 1)), (1, .int x1), (2, .int (x1 &&& 1023))] := hl
      show W _ _ _ _ _ _ _ _ _ _ _ _ _ _ _ (F0 m 198 ls [.int v7])
      exact Ri (pc := 198) F hr hlk w (by rw [e_s8, e_v7]; exact Eq.symm (Eq.trans (if_pos h10) (rfl))) d_Bd_load_198
    · by_cases h28_0 : ((x1 &&& 1023) - 768) = 0
      · refine lv_tableIn (pc := 28) F.1 F.2.1 d_Bd_load_28 (tgt := 84) (by rw [h28_0]; decide) (by rw [h28_0]; decide) (by rw [h28_0]; rfl) (by decide) ?_
        refine lv_aload_n (pc := 84) F.1 F.2.1 d_Bd_load_84 rfl (lv_at hl 1 rfl) ?_
        refine gC1_0 (pc := 85) F w (F.2.2.2.2 _ m_227) d_Bd_load_85 ?_
        refine gNC2_1 (pc := 88) F w m_41 d_Bd_load_88 ?_
        refine lv_goto (pc := 91) F.1 F.2.1 d_Bd_load_91 (tgt := 198) (by decide) ?_
        exact k28 ((σ 2 1), σ) _ _ _ ⟨(by exact Eq.symm (Eq.trans (if_pos h28_0) (rfl))), w, lv_sub hl [1, 2, 0] rfl⟩
      by_cases h28_1 : ((x1 &&& 1023) - 768) = 1
      · refine lv_tableIn (pc := 28) F.1 F.2.1 d_Bd_load_28 (tgt := 94) (by rw [h28_1]; decide) (by rw [h28_1]; decide) (by rw [h28_1]; rfl) (by decide) ?_
        refine lv_aload_n (pc := 94) F.1 F.2.1 d_Bd_load_94 rfl (lv_at hl 1 rfl) ?_
        refine gC1_5 (pc := 95) F w (F.2.2.2.2 _ m_239) d_Bd_load_95 ?_
        refine gNC6_5 (pc := 98) F w m_158 d_Bd_load_98 ?_
        refine lv_goto (pc := 101) F.1 F.2.1 d_Bd_load_101 (tgt := 198) (by decide) ?_
        exact k28 ((σ 6 5), σ) _ _ _ ⟨(by exact Eq.symm (Eq.trans (if_neg h28_0) (Eq.trans (if_pos h28_1) (rfl)))), w, lv_sub hl [1, 2, 0] rfl⟩
      by_cases h28_2 : ((x1 &&& 1023) - 768) = 2
      · refine lv_tableIn (pc := 28) F.1 F.2.1 d_Bd_load_28 (tgt := 104) (by rw [h28_2]; decide) (by rw [h28_2]; decide) (by rw [h28_2]; rfl) (by decide) ?_
        refine lv_aload_n (pc := 104) F.1 F.2.1 d_Bd_load_104 rfl (lv_at hl 1 rfl) ?_
        refine gC1_6 (pc := 105) F w (F.2.2.2.2 _ m_241) d_Bd_load_105 ?_
        refine gNC7_3 (pc := 108) F w m_211 d_Bd_load_108 ?_
        refine lv_iconst (pc := 111) (v := 0) F.1 F.2.1 d_Bd_load_111 (by decide) ?_
        refine lC15 (pc := 112) F w (by unfold vp_in; decide) d_Bd_load_112 ?_
        refine lv_goto (pc := 113) F.1 F.2.1 d_Bd_load_113 (tgt := 198) (by decide) ?_
        exact k28 ((σ 15 (0 : Int32).toNatClampNeg), σ) _ _ _ ⟨(by exact Eq.symm (Eq.trans (if_neg h28_0) (Eq.trans (if_neg h28_1) (Eq.trans (if_pos h28_2) (rfl))))), w, lv_sub hl [1, 2, 0] rfl⟩
      by_cases h28_3 : ((x1 &&& 1023) - 768) = 3
      · refine lv_tableIn (pc := 28) F.1 F.2.1 d_Bd_load_28 (tgt := 116) (by rw [h28_3]; decide) (by rw [h28_3]; decide) (by rw [h28_3]; rfl) (by decide) ?_
        refine lv_aload_n (pc := 116) F.1 F.2.1 d_Bd_load_116 rfl (lv_at hl 1 rfl) ?_
        refine gC1_6 (pc := 117) F w (F.2.2.2.2 _ m_241) d_Bd_load_117 ?_
        refine gNC7_3 (pc := 120) F w m_211 d_Bd_load_120 ?_
        refine lv_iconst (pc := 123) (v := 1) F.1 F.2.1 d_Bd_load_123 (by decide) ?_
        refine lC15 (pc := 124) F w (by unfold vp_in; decide) d_Bd_load_124 ?_
        refine lv_goto (pc := 125) F.1 F.2.1 d_Bd_load_125 (tgt := 198) (by decide) ?_
        exact k28 ((σ 15 (1 : Int32).toNatClampNeg), σ) _ _ _ ⟨(by exact Eq.symm (Eq.trans (if_neg h28_0) (Eq.trans (if_neg h28_1) (Eq.trans (if_neg h28_2) (Eq.trans (if_pos h28_3) (rfl)))))), w, lv_sub hl [1, 2, 0] rfl⟩
      by_cases h28_4 : ((x1 &&& 1023) - 768) = 4
      · refine lv_tableIn (pc := 28) F.1 F.2.1 d_Bd_load_28 (tgt := 128) (by rw [h28_4]; decide) (by rw [h28_4]; decide) (by rw [h28_4]; rfl) (by decide) ?_
        refine lv_aload_n (pc := 128) F.1 F.2.1 d_Bd_load_128 rfl (lv_at hl 1 rfl) ?_
        refine gC1_6 (pc := 129) F w (F.2.2.2.2 _ m_241) d_Bd_load_129 ?_
        refine gNC7_4 (pc := 132) F w m_213 d_Bd_load_132 ?_
        refine UsNi (pc := 135) (As := [.int (σ 7 4)]) (rest := []) F w.2.2.2.2.1 (c_Pm_bit l (σ 7 4)) k_Pm_bit m_618 (Nat.le_of_ble_eq_true rfl) (Nat.le_of_ble_eq_true rfl) ⟨rfl, rfl⟩ rfl hl.1 rfl (Nat.le_of_ble_eq_true rfl) d_Bd_load_135 hcs (fun r1 e_r1 => ?_)
        refine lv_goto (pc := 138) F.1 F.2.1 d_Bd_load_138 (tgt := 198) (by decide) ?_
        exact k28 (r1, σ) _ _ _ ⟨(by rw [e_r1]; exact Eq.symm (Eq.trans (if_neg h28_0) (Eq.trans (if_neg h28_1) (Eq.trans (if_neg h28_2) (Eq.trans (if_neg h28_3) (Eq.trans (if_pos h28_4) (rfl))))))), w, lv_sub hl [1, 2, 0] rfl⟩
      by_cases h28_5 : ((x1 &&& 1023) - 768) = 5
      · refine lv_tableIn (pc := 28) F.1 F.2.1 d_Bd_load_28 (tgt := 141) (by rw [h28_5]; decide) (by rw [h28_5]; decide) (by rw [h28_5]; rfl) (by decide) ?_
        refine lv_aload_n (pc := 141) F.1 F.2.1 d_Bd_load_141 rfl (lv_at hl 1 rfl) ?_
        refine gC1_4 (pc := 142) F w (F.2.2.2.2 _ m_237) d_Bd_load_142 ?_
        refine gNC5_1 (pc := 145) F w m_132 d_Bd_load_145 ?_
        refine lv_sipush (pc := 148) (v := 255) F.1 F.2.1 d_Bd_load_148 (by decide) ?_
        refine lv_iand (pc := 151) F.1 F.2.1 d_Bd_load_151 ?_
        refine lv_goto (pc := 152) F.1 F.2.1 d_Bd_load_152 (tgt := 198) (by decide) ?_
        exact k28 (((σ 5 1) &&& 255), σ) _ _ _ ⟨(by exact Eq.symm (Eq.trans (if_neg h28_0) (Eq.trans (if_neg h28_1) (Eq.trans (if_neg h28_2) (Eq.trans (if_neg h28_3) (Eq.trans (if_neg h28_4) (Eq.trans (if_pos h28_5) (rfl)))))))), w, lv_sub hl [1, 2, 0] rfl⟩
      by_cases h28_6 : ((x1 &&& 1023) - 768) = 6
      · refine lv_tableIn (pc := 28) F.1 F.2.1 d_Bd_load_28 (tgt := 155) (by rw [h28_6]; decide) (by rw [h28_6]; decide) (by rw [h28_6]; rfl) (by decide) ?_
        refine lv_aload_n (pc := 155) F.1 F.2.1 d_Bd_load_155 rfl (lv_at hl 1 rfl) ?_
        refine gC1_4 (pc := 156) F w (F.2.2.2.2 _ m_237) d_Bd_load_156 ?_
        refine Cvi (pc := 159) (As := []) (rest := []) F w (c_Ch_takeSign l D cI ad σ) 5 rfl rfl k_Ch_takeSign m_619 (Nat.le_of_ble_eq_true rfl) (Nat.le_of_ble_eq_true rfl) ⟨rfl, rfl⟩ rfl hl.1 rfl (Nat.le_of_ble_eq_true rfl) d_Bd_load_159 hcs (fun r2 s3 H locs e_r2 e_s3 w => ?_)
        refine lv_goto (pc := 162) F.1 F.2.1 d_Bd_load_162 (tgt := 198) (by decide) ?_
        exact k28 (r2, s3) _ _ _ ⟨(by rw [e_s3, e_r2]; exact Eq.symm (Eq.trans (if_neg h28_0) (Eq.trans (if_neg h28_1) (Eq.trans (if_neg h28_2) (Eq.trans (if_neg h28_3) (Eq.trans (if_neg h28_4) (Eq.trans (if_neg h28_5) (Eq.trans (if_pos h28_6) (rfl))))))))), w, lv_sub hl [1, 2, 0] rfl⟩
      by_cases h28_7 : ((x1 &&& 1023) - 768) = 7
      · refine lv_tableIn (pc := 28) F.1 F.2.1 d_Bd_load_28 (tgt := 165) (by rw [h28_7]; decide) (by rw [h28_7]; decide) (by rw [h28_7]; rfl) (by decide) ?_
        refine lv_aload_n (pc := 165) F.1 F.2.1 d_Bd_load_165 rfl (lv_at hl 1 rfl) ?_
        refine gC1_7 (pc := 166) F w (F.2.2.2.2 _ m_243) d_Bd_load_166 ?_
        refine Cvi (pc := 169) (As := []) (rest := []) F w (c_Dr_takeByte l D cI ad σ) 8 rfl rfl k_Dr_takeByte m_623 (Nat.le_of_ble_eq_true rfl) (Nat.le_of_ble_eq_true rfl) ⟨rfl, rfl⟩ rfl hl.1 rfl (Nat.le_of_ble_eq_true rfl) d_Bd_load_169 hcs (fun r4 s5 H locs e_r4 e_s5 w => ?_)
        refine lv_goto (pc := 172) F.1 F.2.1 d_Bd_load_172 (tgt := 198) (by decide) ?_
        exact k28 (r4, s5) _ _ _ ⟨(by rw [e_s5, e_r4]; exact Eq.symm (Eq.trans (if_neg h28_0) (Eq.trans (if_neg h28_1) (Eq.trans (if_neg h28_2) (Eq.trans (if_neg h28_3) (Eq.trans (if_neg h28_4) (Eq.trans (if_neg h28_5) (Eq.trans (if_neg h28_6) (Eq.trans (if_pos h28_7) (rfl)))))))))), w, lv_sub hl [1, 2, 0] rfl⟩
      by_cases h28_8 : ((x1 &&& 1023) - 768) = 8
      · refine lv_tableIn (pc := 28) F.1 F.2.1 d_Bd_load_28 (tgt := 175) (by rw [h28_8]; decide) (by rw [h28_8]; decide) (by rw [h28_8]; rfl) (by decide) ?_
        refine lv_aload_n (pc := 175) F.1 F.2.1 d_Bd_load_175 rfl (lv_at hl 1 rfl) ?_
        refine gC1_7 (pc := 176) F w (F.2.2.2.2 _ m_243) d_Bd_load_176 ?_
        refine gNC8_8 (pc := 179) F w m_99 d_Bd_load_179 ?_
        refine UsNi (pc := 182) (As := [.int (σ 8 8)]) (rest := []) F w.2.2.2.2.1 (c_Pm_bit l (σ 8 8)) k_Pm_bit m_618 (Nat.le_of_ble_eq_true rfl) (Nat.le_of_ble_eq_true rfl) ⟨rfl, rfl⟩ rfl hl.1 rfl (Nat.le_of_ble_eq_true rfl) d_Bd_load_182 hcs (fun r6 e_r6 => ?_)
        refine lv_goto (pc := 185) F.1 F.2.1 d_Bd_load_185 (tgt := 198) (by decide) ?_
        exact k28 (r6, σ) _ _ _ ⟨(by rw [e_r6]; exact Eq.symm (Eq.trans (if_neg h28_0) (Eq.trans (if_neg h28_1) (Eq.trans (if_neg h28_2) (Eq.trans (if_neg h28_3) (Eq.trans (if_neg h28_4) (Eq.trans (if_neg h28_5) (Eq.trans (if_neg h28_6) (Eq.trans (if_neg h28_7) (Eq.trans (if_pos h28_8) (rfl))))))))))), w, lv_sub hl [1, 2, 0] rfl⟩
      by_cases h28_9 : ((x1 &&& 1023) - 768) = 9
      · refine lv_tableIn (pc := 28) F.1 F.2.1 d_Bd_load_28 (tgt := 188) (by rw [h28_9]; decide) (by rw [h28_9]; decide) (by rw [h28_9]; rfl) (by decide) ?_
        refine lv_aload_n (pc := 188) F.1 F.2.1 d_Bd_load_188 rfl (lv_at hl 1 rfl) ?_
        refine gC1_8 (pc := 189) F w (F.2.2.2.2 _ m_245) d_Bd_load_189 ?_
        refine lv_goto (pc := 192) F.1 F.2.1 d_Bd_load_192 (tgt := 198) (by decide) ?_
        exact k28 ((σ 1 8), σ) _ _ _ ⟨(by exact Eq.symm (Eq.trans (if_neg h28_0) (Eq.trans (if_neg h28_1) (Eq.trans (if_neg h28_2) (Eq.trans (if_neg h28_3) (Eq.trans (if_neg h28_4) (Eq.trans (if_neg h28_5) (Eq.trans (if_neg h28_6) (Eq.trans (if_neg h28_7) (Eq.trans (if_neg h28_8) (Eq.trans (if_pos h28_9) (rfl)))))))))))), w, lv_sub hl [1, 2, 0] rfl⟩
      refine lv_tableOut (pc := 28) F.1 F.2.1 d_Bd_load_28 (tgt := 195) (by have q_h28_0 := lv_neT h28_0 (a := 0) rfl; have q_h28_1 := lv_neT h28_1 (a := 1) rfl; have q_h28_2 := lv_neT h28_2 (a := 2) rfl; have q_h28_3 := lv_neT h28_3 (a := 3) rfl; have q_h28_4 := lv_neT h28_4 (a := 4) rfl; have q_h28_5 := lv_neT h28_5 (a := 5) rfl; have q_h28_6 := lv_neT h28_6 (a := 6) rfl; have q_h28_7 := lv_neT h28_7 (a := 7) rfl; have q_h28_8 := lv_neT h28_8 (a := 8) rfl; have q_h28_9 := lv_neT h28_9 (a := 9) rfl; omega) (by decide) ?_
      refine lv_sipush (pc := 195) (v := 255) F.1 F.2.1 d_Bd_load_195 (by decide) ?_
      exact k28 (255, σ) _ _ _ ⟨(by exact Eq.symm (Eq.trans (if_neg h28_0) (Eq.trans (if_neg h28_1) (Eq.trans (if_neg h28_2) (Eq.trans (if_neg h28_3) (Eq.trans (if_neg h28_4) (Eq.trans (if_neg h28_5) (Eq.trans (if_neg h28_6) (Eq.trans (if_neg h28_7) (Eq.trans (if_neg h28_8) (Eq.trans (if_neg h28_9) (rfl)))))))))))), w, lv_sub hl [1, 2, 0] rfl⟩
  · refine lv_aload_n (pc := 13) F.1 F.2.1 d_Bd_load_13 rfl (lv_at hl 1 rfl) ?_
    refine gC1_2 (pc := 14) F w (F.2.2.2.2 _ m_232) d_Bd_load_14 ?_
    refine gNC4_0 (pc := 17) F w m_77 d_Bd_load_17 ?_
    refine lv_iload_n (pc := 20) F.1 F.2.1 d_Bd_load_20 rfl (lv_at hl 0 rfl) ?_
    refine lC10 (pc := 21) F w (by first | exact in768 (by assumption) | exact in768' (by assumption)) d_Bd_load_21 ?_
    exact Ri (pc := 22) F hr hlk w (by exact Eq.symm (Eq.trans (if_neg h10) (rfl))) d_Bd_load_22
theorem IC.same {σ u : Sg} (h : IC σ) (h1 : u 8 3 = σ 8 3) (h2 : u 8 5 = σ 8 5) (h3 : u 8 6 = σ 8 6) (h4 : u 8 7 = σ 8 7) (h5 : u 3 1 = σ 3 1) (h6 : u 2 2 = σ 2 2) : IC u := by
  unfold IC
  rw [h1, h2, h3, h4, h5, h6]
  exact h
theorem iIC_Bd_load {σ : Sg} (h : IC σ) (x : Int32) : IC (f_Bd_load σ x).2 := by
  unfold f_Bd_load
  split
  · show IC (f_Bd_load_r28 σ x).2
    unfold f_Bd_load_r28
    repeat' split
    all_goals exact h.same rfl rfl rfl rfl rfl rfl
  · exact h
def f_Pr_cyclesOf_r1 (x1 : Int32) : Int32 := if x1 = 32 then (6) else if x1 = 64 then (6) else if x1 = 72 then (3) else if x1 = 76 then (3) else if x1 = 96 then (6) else if x1 = 101 then (3) else if x1 = 104 then (4) else if x1 = 133 then (3) else if x1 = 141 then (4) else if x1 = 142 then (4) else if x1 = 157 then (5) else if x1 = 165 then (3) else if x1 = 166 then (3) else if x1 = 173 then (4) else if x1 = 189 then (4) else if x1 = 197 then (3) else if x1 = 198 then (5) else if x1 = 230 then (5) else (2)
def f_Pr_cyclesOf  (x1 : Int32) : Int32 := let v1 := (f_Pr_cyclesOf_r1 x1); v1
set_option maxHeartbeats 1000000 in
set_option maxRecDepth 100000 in
theorem c_Pr_cyclesOf (l : Launch)  (x1 : Int32) : Met l y_Pr_cyclesOf (Cond.code y_Pr_cyclesOf b_Pr_cyclesOf 1 (some .int) :: al) { frames := 0, cells := 0, slots := 0, locals := 0 } (PU [.int x1]) (QU (f_Pr_cyclesOf x1)) 0 0 (fun _ => False) := by
  refine Mu l (by decide) (Nat.le_of_ble_eq_true rfl) ?_
  intro p e s m below meth c ls F hr hlk hl
  have F : CallFix p m c b_Pr_cyclesOf 1 s _ al "PictureMachine$Processor" := F
  generalize hH : s.heap = H
  generalize hlo : ([] : List Loc) = locs
  have w : (H = s.heap ∧ locs = []) := ⟨hH.symm, hlo.symm⟩
  have hl : lv_has ls 1 [(0, .int x1)] := hl
  refine lv_iload_n (pc := 0) F.1 F.2.1 d_Pr_cyclesOf_0 rfl (lv_at hl 0 rfl) ?_
  refine cutW (α := Int32) (fun x H locs ls => x = f_Pr_cyclesOf_r1 x1 ∧ (H = s.heap ∧ locs = []) ∧ lv_has ls 1 [(0, .int x1)]) (fun x ls => F0 m 174 ls [.int x]) ?_ (fun k1 => ?_)
  · rintro v1 H locs ls ⟨ex, w, hl⟩
    have e_v1 := ex
    have w : (H = s.heap ∧ locs = []) := w
    have hl : lv_has ls 1 [(0, .int x1)] := hl
    show W _ _ _ _ _ _ _ _ _ _ _ _ _ _ _ (F0 m 174 ls [.int v1])
    exact Ui (pc := 174) F w hr hlk (by rw [e_v1]; exact Eq.symm (rfl)) d_Pr_cyclesOf_174
  · by_cases h1_32 : x1 = 32
    · refine lv_lookup (pc := 1) F.1 F.2.1 d_Pr_cyclesOf_1 (by decide) (off := 167) (tgt := 168) (by rw [h1_32]; decide) (by decide) ?_
      refine lv_bipush (pc := 168) (v := 6) F.1 F.2.1 d_Pr_cyclesOf_168 (by decide) ?_
      refine lv_goto (pc := 170) F.1 F.2.1 d_Pr_cyclesOf_170 (tgt := 174) (by decide) ?_
      exact k1 6 _ _ _ ⟨(by exact Eq.symm (Eq.trans (if_pos h1_32) (rfl))), w, lv_sub hl [0] rfl⟩
    by_cases h1_64 : x1 = 64
    · refine lv_lookup (pc := 1) F.1 F.2.1 d_Pr_cyclesOf_1 (by decide) (off := 167) (tgt := 168) (by rw [h1_64]; decide) (by decide) ?_
      refine lv_bipush (pc := 168) (v := 6) F.1 F.2.1 d_Pr_cyclesOf_168 (by decide) ?_
      refine lv_goto (pc := 170) F.1 F.2.1 d_Pr_cyclesOf_170 (tgt := 174) (by decide) ?_
      exact k1 6 _ _ _ ⟨(by exact Eq.symm (Eq.trans (if_neg h1_32) (Eq.trans (if_pos h1_64) (rfl)))), w, lv_sub hl [0] rfl⟩
    by_cases h1_72 : x1 = 72
    · refine lv_lookup (pc := 1) F.1 F.2.1 d_Pr_cyclesOf_1 (by decide) (off := 155) (tgt := 156) (by rw [h1_72]; decide) (by decide) ?_
      refine lv_iconst (pc := 156) (v := 3) F.1 F.2.1 d_Pr_cyclesOf_156 (by decide) ?_
      refine lv_goto (pc := 157) F.1 F.2.1 d_Pr_cyclesOf_157 (tgt := 174) (by decide) ?_
      exact k1 3 _ _ _ ⟨(by exact Eq.symm (Eq.trans (if_neg h1_32) (Eq.trans (if_neg h1_64) (Eq.trans (if_pos h1_72) (rfl))))), w, lv_sub hl [0] rfl⟩
    by_cases h1_76 : x1 = 76
    · refine lv_lookup (pc := 1) F.1 F.2.1 d_Pr_cyclesOf_1 (by decide) (off := 155) (tgt := 156) (by rw [h1_76]; decide) (by decide) ?_
      refine lv_iconst (pc := 156) (v := 3) F.1 F.2.1 d_Pr_cyclesOf_156 (by decide) ?_
      refine lv_goto (pc := 157) F.1 F.2.1 d_Pr_cyclesOf_157 (tgt := 174) (by decide) ?_
      exact k1 3 _ _ _ ⟨(by exact Eq.symm (Eq.trans (if_neg h1_32) (Eq.trans (if_neg h1_64) (Eq.trans (if_neg h1_72) (Eq.trans (if_pos h1_76) (rfl)))))), w, lv_sub hl [0] rfl⟩
    by_cases h1_96 : x1 = 96
    · refine lv_lookup (pc := 1) F.1 F.2.1 d_Pr_cyclesOf_1 (by decide) (off := 167) (tgt := 168) (by rw [h1_96]; decide) (by decide) ?_
      refine lv_bipush (pc := 168) (v := 6) F.1 F.2.1 d_Pr_cyclesOf_168 (by decide) ?_
      refine lv_goto (pc := 170) F.1 F.2.1 d_Pr_cyclesOf_170 (tgt := 174) (by decide) ?_
      exact k1 6 _ _ _ ⟨(by exact Eq.symm (Eq.trans (if_neg h1_32) (Eq.trans (if_neg h1_64) (Eq.trans (if_neg h1_72) (Eq.trans (if_neg h1_76) (Eq.trans (if_pos h1_96) (rfl))))))), w, lv_sub hl [0] rfl⟩
    by_cases h1_101 : x1 = 101
    · refine lv_lookup (pc := 1) F.1 F.2.1 d_Pr_cyclesOf_1 (by decide) (off := 155) (tgt := 156) (by rw [h1_101]; decide) (by decide) ?_
      refine lv_iconst (pc := 156) (v := 3) F.1 F.2.1 d_Pr_cyclesOf_156 (by decide) ?_
      refine lv_goto (pc := 157) F.1 F.2.1 d_Pr_cyclesOf_157 (tgt := 174) (by decide) ?_
      exact k1 3 _ _ _ ⟨(by exact Eq.symm (Eq.trans (if_neg h1_32) (Eq.trans (if_neg h1_64) (Eq.trans (if_neg h1_72) (Eq.trans (if_neg h1_76) (Eq.trans (if_neg h1_96) (Eq.trans (if_pos h1_101) (rfl)))))))), w, lv_sub hl [0] rfl⟩
    by_cases h1_104 : x1 = 104
    · refine lv_lookup (pc := 1) F.1 F.2.1 d_Pr_cyclesOf_1 (by decide) (off := 159) (tgt := 160) (by rw [h1_104]; decide) (by decide) ?_
      refine lv_iconst (pc := 160) (v := 4) F.1 F.2.1 d_Pr_cyclesOf_160 (by decide) ?_
      refine lv_goto (pc := 161) F.1 F.2.1 d_Pr_cyclesOf_161 (tgt := 174) (by decide) ?_
      exact k1 4 _ _ _ ⟨(by exact Eq.symm (Eq.trans (if_neg h1_32) (Eq.trans (if_neg h1_64) (Eq.trans (if_neg h1_72) (Eq.trans (if_neg h1_76) (Eq.trans (if_neg h1_96) (Eq.trans (if_neg h1_101) (Eq.trans (if_pos h1_104) (rfl))))))))), w, lv_sub hl [0] rfl⟩
    by_cases h1_133 : x1 = 133
    · refine lv_lookup (pc := 1) F.1 F.2.1 d_Pr_cyclesOf_1 (by decide) (off := 155) (tgt := 156) (by rw [h1_133]; decide) (by decide) ?_
      refine lv_iconst (pc := 156) (v := 3) F.1 F.2.1 d_Pr_cyclesOf_156 (by decide) ?_
      refine lv_goto (pc := 157) F.1 F.2.1 d_Pr_cyclesOf_157 (tgt := 174) (by decide) ?_
      exact k1 3 _ _ _ ⟨(by exact Eq.symm (Eq.trans (if_neg h1_32) (Eq.trans (if_neg h1_64) (Eq.trans (if_neg h1_72) (Eq.trans (if_neg h1_76) (Eq.trans (if_neg h1_96) (Eq.trans (if_neg h1_101) (Eq.trans (if_neg h1_104) (Eq.trans (if_pos h1_133) (rfl)))))))))), w, lv_sub hl [0] rfl⟩
    by_cases h1_141 : x1 = 141
    · refine lv_lookup (pc := 1) F.1 F.2.1 d_Pr_cyclesOf_1 (by decide) (off := 159) (tgt := 160) (by rw [h1_141]; decide) (by decide) ?_
      refine lv_iconst (pc := 160) (v := 4) F.1 F.2.1 d_Pr_cyclesOf_160 (by decide) ?_
      refine lv_goto (pc := 161) F.1 F.2.1 d_Pr_cyclesOf_161 (tgt := 174) (by decide) ?_
      exact k1 4 _ _ _ ⟨(by exact Eq.symm (Eq.trans (if_neg h1_32) (Eq.trans (if_neg h1_64) (Eq.trans (if_neg h1_72) (Eq.trans (if_neg h1_76) (Eq.trans (if_neg h1_96) (Eq.trans (if_neg h1_101) (Eq.trans (if_neg h1_104) (Eq.trans (if_neg h1_133) (Eq.trans (if_pos h1_141) (rfl))))))))))), w, lv_sub hl [0] rfl⟩
    by_cases h1_142 : x1 = 142
    · refine lv_lookup (pc := 1) F.1 F.2.1 d_Pr_cyclesOf_1 (by decide) (off := 159) (tgt := 160) (by rw [h1_142]; decide) (by decide) ?_
      refine lv_iconst (pc := 160) (v := 4) F.1 F.2.1 d_Pr_cyclesOf_160 (by decide) ?_
      refine lv_goto (pc := 161) F.1 F.2.1 d_Pr_cyclesOf_161 (tgt := 174) (by decide) ?_
      exact k1 4 _ _ _ ⟨(by exact Eq.symm (Eq.trans (if_neg h1_32) (Eq.trans (if_neg h1_64) (Eq.trans (if_neg h1_72) (Eq.trans (if_neg h1_76) (Eq.trans (if_neg h1_96) (Eq.trans (if_neg h1_101) (Eq.trans (if_neg h1_104) (Eq.trans (if_neg h1_133) (Eq.trans (if_neg h1_141) (Eq.trans (if_pos h1_142) (rfl)))))))))))), w, lv_sub hl [0] rfl⟩
    by_cases h1_157 : x1 = 157
    · refine lv_lookup (pc := 1) F.1 F.2.1 d_Pr_cyclesOf_1 (by decide) (off := 163) (tgt := 164) (by rw [h1_157]; decide) (by decide) ?_
      refine lv_iconst (pc := 164) (v := 5) F.1 F.2.1 d_Pr_cyclesOf_164 (by decide) ?_
      refine lv_goto (pc := 165) F.1 F.2.1 d_Pr_cyclesOf_165 (tgt := 174) (by decide) ?_
      exact k1 5 _ _ _ ⟨(by exact Eq.symm (Eq.trans (if_neg h1_32) (Eq.trans (if_neg h1_64) (Eq.trans (if_neg h1_72) (Eq.trans (if_neg h1_76) (Eq.trans (if_neg h1_96) (Eq.trans (if_neg h1_101) (Eq.trans (if_neg h1_104) (Eq.trans (if_neg h1_133) (Eq.trans (if_neg h1_141) (Eq.trans (if_neg h1_142) (Eq.trans (if_pos h1_157) (rfl))))))))))))), w, lv_sub hl [0] rfl⟩
    by_cases h1_165 : x1 = 165
    · refine lv_lookup (pc := 1) F.1 F.2.1 d_Pr_cyclesOf_1 (by decide) (off := 155) (tgt := 156) (by rw [h1_165]; decide) (by decide) ?_
      refine lv_iconst (pc := 156) (v := 3) F.1 F.2.1 d_Pr_cyclesOf_156 (by decide) ?_
      refine lv_goto (pc := 157) F.1 F.2.1 d_Pr_cyclesOf_157 (tgt := 174) (by decide) ?_
      exact k1 3 _ _ _ ⟨(by exact Eq.symm (Eq.trans (if_neg h1_32) (Eq.trans (if_neg h1_64) (Eq.trans (if_neg h1_72) (Eq.trans (if_neg h1_76) (Eq.trans (if_neg h1_96) (Eq.trans (if_neg h1_101) (Eq.trans (if_neg h1_104) (Eq.trans (if_neg h1_133) (Eq.trans (if_neg h1_141) (Eq.trans (if_neg h1_142) (Eq.trans (if_neg h1_157) (Eq.trans (if_pos h1_165) (rfl)))))))))))))), w, lv_sub hl [0] rfl⟩
    by_cases h1_166 : x1 = 166
    · refine lv_lookup (pc := 1) F.1 F.2.1 d_Pr_cyclesOf_1 (by decide) (off := 155) (tgt := 156) (by rw [h1_166]; decide) (by decide) ?_
      refine lv_iconst (pc := 156) (v := 3) F.1 F.2.1 d_Pr_cyclesOf_156 (by decide) ?_
      refine lv_goto (pc := 157) F.1 F.2.1 d_Pr_cyclesOf_157 (tgt := 174) (by decide) ?_
      exact k1 3 _ _ _ ⟨(by exact Eq.symm (Eq.trans (if_neg h1_32) (Eq.trans (if_neg h1_64) (Eq.trans (if_neg h1_72) (Eq.trans (if_neg h1_76) (Eq.trans (if_neg h1_96) (Eq.trans (if_neg h1_101) (Eq.trans (if_neg h1_104) (Eq.trans (if_neg h1_133) (Eq.trans (if_neg h1_141) (Eq.trans (if_neg h1_142) (Eq.trans (if_neg h1_157) (Eq.trans (if_neg h1_165) (Eq.trans (if_pos h1_166) (rfl))))))))))))))), w, lv_sub hl [0] rfl⟩
    by_cases h1_173 : x1 = 173
    · refine lv_lookup (pc := 1) F.1 F.2.1 d_Pr_cyclesOf_1 (by decide) (off := 159) (tgt := 160) (by rw [h1_173]; decide) (by decide) ?_
      refine lv_iconst (pc := 160) (v := 4) F.1 F.2.1 d_Pr_cyclesOf_160 (by decide) ?_
      refine lv_goto (pc := 161) F.1 F.2.1 d_Pr_cyclesOf_161 (tgt := 174) (by decide) ?_
      exact k1 4 _ _ _ ⟨(by exact Eq.symm (Eq.trans (if_neg h1_32) (Eq.trans (if_neg h1_64) (Eq.trans (if_neg h1_72) (Eq.trans (if_neg h1_76) (Eq.trans (if_neg h1_96) (Eq.trans (if_neg h1_101) (Eq.trans (if_neg h1_104) (Eq.trans (if_neg h1_133) (Eq.trans (if_neg h1_141) (Eq.trans (if_neg h1_142) (Eq.trans (if_neg h1_157) (Eq.trans (if_neg h1_165) (Eq.trans (if_neg h1_166) (Eq.trans (if_pos h1_173) (rfl)))))))))))))))), w, lv_sub hl [0] rfl⟩
    by_cases h1_189 : x1 = 189
    · refine lv_lookup (pc := 1) F.1 F.2.1 d_Pr_cyclesOf_1 (by decide) (off := 159) (tgt := 160) (by rw [h1_189]; decide) (by decide) ?_
      refine lv_iconst (pc := 160) (v := 4) F.1 F.2.1 d_Pr_cyclesOf_160 (by decide) ?_
      refine lv_goto (pc := 161) F.1 F.2.1 d_Pr_cyclesOf_161 (tgt := 174) (by decide) ?_
      exact k1 4 _ _ _ ⟨(by exact Eq.symm (Eq.trans (if_neg h1_32) (Eq.trans (if_neg h1_64) (Eq.trans (if_neg h1_72) (Eq.trans (if_neg h1_76) (Eq.trans (if_neg h1_96) (Eq.trans (if_neg h1_101) (Eq.trans (if_neg h1_104) (Eq.trans (if_neg h1_133) (Eq.trans (if_neg h1_141) (Eq.trans (if_neg h1_142) (Eq.trans (if_neg h1_157) (Eq.trans (if_neg h1_165) (Eq.trans (if_neg h1_166) (Eq.trans (if_neg h1_173) (Eq.trans (if_pos h1_189) (rfl))))))))))))))))), w, lv_sub hl [0] rfl⟩
    by_cases h1_197 : x1 = 197
    · refine lv_lookup (pc := 1) F.1 F.2.1 d_Pr_cyclesOf_1 (by decide) (off := 155) (tgt := 156) (by rw [h1_197]; decide) (by decide) ?_
      refine lv_iconst (pc := 156) (v := 3) F.1 F.2.1 d_Pr_cyclesOf_156 (by decide) ?_
      refine lv_goto (pc := 157) F.1 F.2.1 d_Pr_cyclesOf_157 (tgt := 174) (by decide) ?_
      exact k1 3 _ _ _ ⟨(by exact Eq.symm (Eq.trans (if_neg h1_32) (Eq.trans (if_neg h1_64) (Eq.trans (if_neg h1_72) (Eq.trans (if_neg h1_76) (Eq.trans (if_neg h1_96) (Eq.trans (if_neg h1_101) (Eq.trans (if_neg h1_104) (Eq.trans (if_neg h1_133) (Eq.trans (if_neg h1_141) (Eq.trans (if_neg h1_142) (Eq.trans (if_neg h1_157) (Eq.trans (if_neg h1_165) (Eq.trans (if_neg h1_166) (Eq.trans (if_neg h1_173) (Eq.trans (if_neg h1_189) (Eq.trans (if_pos h1_197) (rfl)))))))))))))))))), w, lv_sub hl [0] rfl⟩
    by_cases h1_198 : x1 = 198
    · refine lv_lookup (pc := 1) F.1 F.2.1 d_Pr_cyclesOf_1 (by decide) (off := 163) (tgt := 164) (by rw [h1_198]; decide) (by decide) ?_
      refine lv_iconst (pc := 164) (v := 5) F.1 F.2.1 d_Pr_cyclesOf_164 (by decide) ?_
      refine lv_goto (pc := 165) F.1 F.2.1 d_Pr_cyclesOf_165 (tgt := 174) (by decide) ?_
      exact k1 5 _ _ _ ⟨(by exact Eq.symm (Eq.trans (if_neg h1_32) (Eq.trans (if_neg h1_64) (Eq.trans (if_neg h1_72) (Eq.trans (if_neg h1_76) (Eq.trans (if_neg h1_96) (Eq.trans (if_neg h1_101) (Eq.trans (if_neg h1_104) (Eq.trans (if_neg h1_133) (Eq.trans (if_neg h1_141) (Eq.trans (if_neg h1_142) (Eq.trans (if_neg h1_157) (Eq.trans (if_neg h1_165) (Eq.trans (if_neg h1_166) (Eq.trans (if_neg h1_173) (Eq.trans (if_neg h1_189) (Eq.trans (if_neg h1_197) (Eq.trans (if_pos h1_198) (rfl))))))))))))))))))), w, lv_sub hl [0] rfl⟩
    by_cases h1_230 : x1 = 230
    · refine lv_lookup (pc := 1) F.1 F.2.1 d_Pr_cyclesOf_1 (by decide) (off := 163) (tgt := 164) (by rw [h1_230]; decide) (by decide) ?_
      refine lv_iconst (pc := 164) (v := 5) F.1 F.2.1 d_Pr_cyclesOf_164 (by decide) ?_
      refine lv_goto (pc := 165) F.1 F.2.1 d_Pr_cyclesOf_165 (tgt := 174) (by decide) ?_
      exact k1 5 _ _ _ ⟨(by exact Eq.symm (Eq.trans (if_neg h1_32) (Eq.trans (if_neg h1_64) (Eq.trans (if_neg h1_72) (Eq.trans (if_neg h1_76) (Eq.trans (if_neg h1_96) (Eq.trans (if_neg h1_101) (Eq.trans (if_neg h1_104) (Eq.trans (if_neg h1_133) (Eq.trans (if_neg h1_141) (Eq.trans (if_neg h1_142) (Eq.trans (if_neg h1_157) (Eq.trans (if_neg h1_165) (Eq.trans (if_neg h1_166) (Eq.trans (if_neg h1_173) (Eq.trans (if_neg h1_189) (Eq.trans (if_neg h1_197) (Eq.trans (if_neg h1_198) (Eq.trans (if_pos h1_230) (rfl)))))))))))))))))))), w, lv_sub hl [0] rfl⟩
    refine lv_lookup (pc := 1) F.1 F.2.1 d_Pr_cyclesOf_1 (by decide) (off := 172) (tgt := 173) ((lv_osw h1_32 rfl).trans ((lv_osw h1_64 rfl).trans ((lv_osw h1_72 rfl).trans ((lv_osw h1_76 rfl).trans ((lv_osw h1_96 rfl).trans ((lv_osw h1_101 rfl).trans ((lv_osw h1_104 rfl).trans ((lv_osw h1_133 rfl).trans ((lv_osw h1_141 rfl).trans ((lv_osw h1_142 rfl).trans ((lv_osw h1_157 rfl).trans ((lv_osw h1_165 rfl).trans ((lv_osw h1_166 rfl).trans ((lv_osw h1_173 rfl).trans ((lv_osw h1_189 rfl).trans ((lv_osw h1_197 rfl).trans ((lv_osw h1_198 rfl).trans ((lv_osw h1_230 rfl).trans (rfl))))))))))))))))))) (by decide) ?_
    refine lv_iconst (pc := 173) (v := 2) F.1 F.2.1 d_Pr_cyclesOf_173 (by decide) ?_
    exact k1 2 _ _ _ ⟨(by exact Eq.symm (Eq.trans (if_neg h1_32) (Eq.trans (if_neg h1_64) (Eq.trans (if_neg h1_72) (Eq.trans (if_neg h1_76) (Eq.trans (if_neg h1_96) (Eq.trans (if_neg h1_101) (Eq.trans (if_neg h1_104) (Eq.trans (if_neg h1_133) (Eq.trans (if_neg h1_141) (Eq.trans (if_neg h1_142) (Eq.trans (if_neg h1_157) (Eq.trans (if_neg h1_165) (Eq.trans (if_neg h1_166) (Eq.trans (if_neg h1_173) (Eq.trans (if_neg h1_189) (Eq.trans (if_neg h1_197) (Eq.trans (if_neg h1_198) (Eq.trans (if_neg h1_230) (rfl)))))))))))))))))))), w, lv_sub hl [0] rfl⟩
def f_Pr_begin_r18 (s1 : Sg) : Sg := if (s1 9 10) = 0 then (let r2 := (f_Bd_load s1 (s1 9 1)).1; let s3 := (f_Bd_load s1 (s1 9 1)).2; let s4 := sf s3 9 11 r2; let r5 := f_Pr_cyclesOf (s4 9 11); let s6 := sf s4 9 12 r5; s6) else (let s7 := sf s1 9 12 7; s7)
def f_Pr_begin (σ : Sg) : Sg := let s1 := sf σ 9 10 (σ 3 1); let s8 := (f_Pr_begin_r18 s1); s8
set_option maxHeartbeats 1000000 in
set_option maxRecDepth 100000 in
theorem c_Pr_begin (l : Launch) (D : va_G) (cI : ClassId) (ad : Nat → Nat) (σ : Sg) (hI : IC σ) : Met l y_Pr_begin (Cond.code y_Pr_begin b_Pr_begin 1 none :: al) { frames := 2, cells := 0, slots := 0, locals := 43 } (Px D cI (wC cI ad) (AC ad) σ [.ref (ad 9)]) (va_Qv (fun u => u = f_Pr_begin σ ) (Bx D cI (wC cI ad) (AC ad)) (AC ad)) 0 0 (AC ad) := by
  refine Mx l (by decide) (Nat.le_of_ble_eq_true rfl) ?_
  intro p e s m below meth c ls F w hr hlk hl
  have F : CallFix p m c b_Pr_begin 1 s _ al "PictureMachine$Processor" := F
  have hl : lv_has ls 1 [(0, .ref (ad 9))] := hl
  have hcs : (0 : Nat) ≤ 0 ∧ (0 : Nat) ≤ 0 := ⟨Nat.le_refl _, Nat.le_refl _⟩
  refine lv_aload_n (pc := 0) F.1 F.2.1 d_Pr_begin_0 rfl (lv_at hl 0 rfl) ?_
  refine lv_aload_n (pc := 1) F.1 F.2.1 d_Pr_begin_1 rfl (lv_at hl 0 rfl) ?_
  refine gC9_0 (pc := 2) F w (F.2.2.2.2 _ m_272) d_Pr_begin_2 ?_
  refine gNC1_1 (pc := 5) F w m_230 d_Pr_begin_5 ?_
  refine gNC3_1 (pc := 8) F w m_62 d_Pr_begin_8 ?_
  refine pC9_10 (pc := 11) F w hI.2.2.2.2.1 (F.2.2.2.2 _ m_288) d_Pr_begin_11 (fun H locs s1 e_s1 w => ?_)
  have iIC_s1 : IC s1 := by rw [e_s1]; exact hI
  refine lv_aload_n (pc := 14) F.1 F.2.1 d_Pr_begin_14 rfl (lv_at hl 0 rfl) ?_
  refine gC9_10 (pc := 15) F w (F.2.2.2.2 _ m_288) d_Pr_begin_15 ?_
  refine cutW (α := Sg) (fun x H locs ls => x = f_Pr_begin_r18 s1 ∧ Wx D cI (wC cI ad) (AC ad) (AC ad) s s.heap H locs x ∧ lv_has ls 1 [(0, .ref (ad 9))] ∧ IC x) (fun x ls => F0 m 56 ls []) ?_ (fun k18 => ?_)
  · rintro s8 H locs ls ⟨ex, w, hl, iIC_s8⟩
    have e_s8 := ex
    have w : Wx D cI (wC cI ad) (AC ad) (AC ad) s s.heap H locs s8 := w
    have iIC_s8 : IC s8 := iIC_s8
    have hl : lv_has ls 1 [(0, .ref (ad 9))] := hl
    show W _ _ _ _ _ _ _ _ _ _ _ _ _ _ _ (F0 m 56 ls [])
    exact Rv (pc := 56) F hr hlk w (by rw [e_s8, e_s1]; exact Eq.symm (rfl)) d_Pr_begin_56
  · refine lv_if_eq (pc := 18) F.1 F.2.1 d_Pr_begin_18 (tgt := 30) (by decide) (fun h18 => ?_) (fun h18 => ?_)
    · refine lv_aload_n (pc := 30) F.1 F.2.1 d_Pr_begin_30 rfl (lv_at hl 0 rfl) ?_
      refine lv_aload_n (pc := 31) F.1 F.2.1 d_Pr_begin_31 rfl (lv_at hl 0 rfl) ?_
      refine gC9_0 (pc := 32) F w (F.2.2.2.2 _ m_272) d_Pr_begin_32 ?_
      refine lv_aload_n (pc := 35) F.1 F.2.1 d_Pr_begin_35 rfl (lv_at hl 0 rfl) ?_
      refine gC9_1 (pc := 36) F w (F.2.2.2.2 _ m_273) d_Pr_begin_36 ?_
      refine Cvi (pc := 39) (As := [.int (s1 9 1)]) (rest := [.ref (ad 9)]) F w (c_Bd_load l D cI ad s1 (s1 9 1)) 1 rfl rfl k_Bd_load m_614 (Nat.le_of_ble_eq_true rfl) (Nat.le_of_ble_eq_true rfl) ⟨rfl, rfl⟩ rfl hl.1 rfl (Nat.le_of_ble_eq_true rfl) d_Pr_begin_39 hcs (fun r2 s3 H locs e_r2 e_s3 w => ?_)
      have iIC_s3 : IC s3 := by rw [e_s3]; exact iIC_Bd_load iIC_s1 (s1 9 1)
      refine pC9_11 (pc := 42) F w (F.2.2.2.2 _ m_289) d_Pr_begin_42 (fun H locs s4 e_s4 w => ?_)
      have iIC_s4 : IC s4 := by rw [e_s4]; exact iIC_s3
      refine lv_aload_n (pc := 45) F.1 F.2.1 d_Pr_begin_45 rfl (lv_at hl 0 rfl) ?_
      refine lv_aload_n (pc := 46) F.1 F.2.1 d_Pr_begin_46 rfl (lv_at hl 0 rfl) ?_
      refine gC9_11 (pc := 47) F w (F.2.2.2.2 _ m_289) d_Pr_begin_47 ?_
      refine Usi (pc := 50) (As := [.int (s4 9 11)]) (rest := [.ref (ad 9)]) F (c_Pr_cyclesOf l (s4 9 11)) k_Pr_cyclesOf m_627 (Nat.le_of_ble_eq_true rfl) (Nat.le_of_ble_eq_true rfl) ⟨rfl, rfl⟩ rfl hl.1 rfl (Nat.le_of_ble_eq_true rfl) d_Pr_begin_50 hcs (fun r5 e_r5 => ?_)
      refine pC9_12 (pc := 53) F w (F.2.2.2.2 _ m_290) d_Pr_begin_53 (fun H locs s6 e_s6 w => ?_)
      have iIC_s6 : IC s6 := by rw [e_s6]; exact iIC_s4
      exact k18 s6 _ _ _ ⟨(by rw [e_s6, e_r5, e_s4, e_s3, e_r2]; exact Eq.symm (Eq.trans (if_pos h18) (rfl))), w, lv_sub hl [0] rfl, iIC_s6⟩
    · refine lv_aload_n (pc := 21) F.1 F.2.1 d_Pr_begin_21 rfl (lv_at hl 0 rfl) ?_
      refine lv_bipush (pc := 22) (v := 7) F.1 F.2.1 d_Pr_begin_22 (by decide) ?_
      refine pC9_12 (pc := 24) F w (F.2.2.2.2 _ m_290) d_Pr_begin_24 (fun H locs s7 e_s7 w => ?_)
      have iIC_s7 : IC s7 := by rw [e_s7]; exact iIC_s1
      refine lv_goto (pc := 27) F.1 F.2.1 d_Pr_begin_27 (tgt := 56) (by decide) ?_
      exact k18 s7 _ _ _ ⟨(by rw [e_s7]; exact Eq.symm (Eq.trans (if_neg h18) (rfl))), w, lv_sub hl [0] rfl, iIC_s7⟩
theorem iIC_Pr_begin {σ : Sg} (h : IC σ) : IC (f_Pr_begin σ) := by
  have h1 : IC (sf σ 9 10 (σ 3 1)) := h.same rfl rfl rfl rfl rfl rfl
  show IC (f_Pr_begin_r18 (sf σ 9 10 (σ 3 1)))
  generalize sf σ 9 10 (σ 3 1) = s1 at h1 ⊢
  unfold f_Pr_begin_r18
  split
  · exact (iIC_Bd_load h1 (s1 9 1)).same rfl rfl rfl rfl rfl rfl
  · exact h1.same rfl rfl rfl rfl rfl rfl
def f_Pr_push (σ : Sg) (x1 : Int32) : Sg := let s1 := f_Me_put σ (256 + (σ 9 5)) x1; let s2 := sf s1 9 5 (((s1 9 5) - 1) &&& 255); s2
set_option maxHeartbeats 1000000 in
set_option maxRecDepth 100000 in
theorem c_Pr_push (l : Launch) (D : va_G) (cI : ClassId) (ad : Nat → Nat) (σ : Sg) (x1 : Int32) : Met l y_Pr_push (Cond.code y_Pr_push b_Pr_push 2 none :: al) { frames := 1, cells := 0, slots := 0, locals := 23 } (Px D cI (wC cI ad) (AC ad) σ [.ref (ad 9), .int x1]) (va_Qv (fun u => u = f_Pr_push σ x1) (Bx D cI (wC cI ad) (AC ad)) (AC ad)) 0 0 (AC ad) := by
  refine Mx l (by decide) (Nat.le_of_ble_eq_true rfl) ?_
  intro p e s m below meth c ls F w hr hlk hl
  have F : CallFix p m c b_Pr_push 2 s _ al "PictureMachine$Processor" := F
  have hl : lv_has ls 2 [(0, .ref (ad 9)), (1, .int x1)] := hl
  have hcs : (0 : Nat) ≤ 0 ∧ (0 : Nat) ≤ 0 := ⟨Nat.le_refl _, Nat.le_refl _⟩
  refine lv_aload_n (pc := 0) F.1 F.2.1 d_Pr_push_0 rfl (lv_at hl 0 rfl) ?_
  refine gC9_0 (pc := 1) F w (F.2.2.2.2 _ m_272) d_Pr_push_1 ?_
  refine gNC1_2 (pc := 4) F w m_234 d_Pr_push_4 ?_
  refine lv_sipush (pc := 7) (v := 256) F.1 F.2.1 d_Pr_push_7 (by decide) ?_
  refine lv_aload_n (pc := 10) F.1 F.2.1 d_Pr_push_10 rfl (lv_at hl 0 rfl) ?_
  refine gC9_5 (pc := 11) F w (F.2.2.2.2 _ m_281) d_Pr_push_11 ?_
  refine lv_iadd (pc := 14) F.1 F.2.1 d_Pr_push_14 ?_
  refine lv_iload_n (pc := 15) F.1 F.2.1 d_Pr_push_15 rfl (lv_at hl 1 rfl) ?_
  refine Cvv (pc := 16) (As := [.int (256 + (σ 9 5)), .int x1]) (rest := []) F w (c_Me_put l D cI ad σ (256 + (σ 9 5)) x1) 4 rfl rfl k_Me_put m_642 (Nat.le_of_ble_eq_true rfl) (Nat.le_of_ble_eq_true rfl) ⟨rfl, rfl⟩ rfl hl.1 rfl (Nat.le_of_ble_eq_true rfl) d_Pr_push_16 hcs (fun s1 H locs e_s1 w => ?_)
  refine lv_aload_n (pc := 19) F.1 F.2.1 d_Pr_push_19 rfl (lv_at hl 0 rfl) ?_
  refine lv_aload_n (pc := 20) F.1 F.2.1 d_Pr_push_20 rfl (lv_at hl 0 rfl) ?_
  refine gC9_5 (pc := 21) F w (F.2.2.2.2 _ m_281) d_Pr_push_21 ?_
  refine lv_iconst (pc := 24) (v := 1) F.1 F.2.1 d_Pr_push_24 (by decide) ?_
  refine lv_isub (pc := 25) F.1 F.2.1 d_Pr_push_25 ?_
  refine lv_sipush (pc := 26) (v := 255) F.1 F.2.1 d_Pr_push_26 (by decide) ?_
  refine lv_iand (pc := 29) F.1 F.2.1 d_Pr_push_29 ?_
  refine pC9_5 (pc := 30) F w (F.2.2.2.2 _ m_281) d_Pr_push_30 (fun H locs s2 e_s2 w => ?_)
  exact Rv (pc := 33) F hr hlk w (by rw [e_s2, e_s1]; exact Eq.symm (rfl)) d_Pr_push_33
def f_Pr_pushPlace (σ : Sg) (x1 : Int32) : Sg := let s1 := f_Pr_push σ (x1 >>> ((8 : Int32) &&& 31)); let s2 := f_Pr_push s1 (x1 &&& 255); s2
set_option maxHeartbeats 1000000 in
set_option maxRecDepth 100000 in
theorem c_Pr_pushPlace (l : Launch) (D : va_G) (cI : ClassId) (ad : Nat → Nat) (σ : Sg) (x1 : Int32) : Met l y_Pr_pushPlace (Cond.code y_Pr_pushPlace b_Pr_pushPlace 2 none :: al) { frames := 2, cells := 0, slots := 0, locals := 44 } (Px D cI (wC cI ad) (AC ad) σ [.ref (ad 9), .int x1]) (va_Qv (fun u => u = f_Pr_pushPlace σ x1) (Bx D cI (wC cI ad) (AC ad)) (AC ad)) 0 0 (AC ad) := by
  refine Mx l (by decide) (Nat.le_of_ble_eq_true rfl) ?_
  intro p e s m below meth c ls F w hr hlk hl
  have F : CallFix p m c b_Pr_pushPlace 2 s _ al "PictureMachine$Processor" := F
  have hl : lv_has ls 2 [(0, .ref (ad 9)), (1, .int x1)] := hl
  have hcs : (0 : Nat) ≤ 0 ∧ (0 : Nat) ≤ 0 := ⟨Nat.le_refl _, Nat.le_refl _⟩
  refine lv_aload_n (pc := 0) F.1 F.2.1 d_Pr_pushPlace_0 rfl (lv_at hl 0 rfl) ?_
  refine lv_iload_n (pc := 1) F.1 F.2.1 d_Pr_pushPlace_1 rfl (lv_at hl 1 rfl) ?_
  refine lv_bipush (pc := 2) (v := 8) F.1 F.2.1 d_Pr_pushPlace_2 (by decide) ?_
  refine lv_ishr (pc := 4) F.1 F.2.1 d_Pr_pushPlace_4 ?_
  refine Cvv (pc := 5) (As := [.int (x1 >>> ((8 : Int32) &&& 31))]) (rest := []) F w (c_Pr_push l D cI ad σ (x1 >>> ((8 : Int32) &&& 31))) 9 rfl rfl k_Pr_push m_638 (Nat.le_of_ble_eq_true rfl) (Nat.le_of_ble_eq_true rfl) ⟨rfl, rfl⟩ rfl hl.1 rfl (Nat.le_of_ble_eq_true rfl) d_Pr_pushPlace_5 hcs (fun s1 H locs e_s1 w => ?_)
  refine lv_aload_n (pc := 8) F.1 F.2.1 d_Pr_pushPlace_8 rfl (lv_at hl 0 rfl) ?_
  refine lv_iload_n (pc := 9) F.1 F.2.1 d_Pr_pushPlace_9 rfl (lv_at hl 1 rfl) ?_
  refine lv_sipush (pc := 10) (v := 255) F.1 F.2.1 d_Pr_pushPlace_10 (by decide) ?_
  refine lv_iand (pc := 13) F.1 F.2.1 d_Pr_pushPlace_13 ?_
  refine Cvv (pc := 14) (As := [.int (x1 &&& 255)]) (rest := []) F w (c_Pr_push l D cI ad s1 (x1 &&& 255)) 9 rfl rfl k_Pr_push m_638 (Nat.le_of_ble_eq_true rfl) (Nat.le_of_ble_eq_true rfl) ⟨rfl, rfl⟩ rfl hl.1 rfl (Nat.le_of_ble_eq_true rfl) d_Pr_pushPlace_14 hcs (fun s2 H locs e_s2 w => ?_)
  exact Rv (pc := 17) F hr hlk w (by rw [e_s2, e_s1]; exact Eq.symm (rfl)) d_Pr_pushPlace_17
def f_Pr_flags_r4 (σ : Sg) : Int32 := if (σ 9 6) = 0 then (0) else (128)
def f_Pr_flags_r18 (σ : Sg) : Int32 := if (σ 9 7) = 0 then (0) else (2)
def f_Pr_flags_r31 (σ : Sg) : Int32 := if (σ 9 8) = 0 then (0) else (1)
def f_Pr_flags (σ : Sg) : Int32 := let v1 := (f_Pr_flags_r4 σ); let v2 := (f_Pr_flags_r18 σ); let v3 := (f_Pr_flags_r31 σ); ((v1 ||| v2) ||| v3)
theorem z_f_Pr_flags_r31_0 (σ : Sg) : (f_Pr_flags_r31 σ) = 0 ∨ (f_Pr_flags_r31 σ) = 1 := by unfold f_Pr_flags_r31; (try dsimp only); (repeat' split) <;> first | exact Or.inl rfl | exact Or.inr rfl
set_option maxHeartbeats 1000000 in
set_option maxRecDepth 100000 in
theorem c_Pr_flags (l : Launch) (D : va_G) (cI : ClassId) (ad : Nat → Nat) (σ : Sg) : Met l y_Pr_flags (Cond.code y_Pr_flags b_Pr_flags 1 (some .int) :: al) { frames := 0, cells := 0, slots := 0, locals := 0 } (Px D cI (wC cI ad) (AC ad) σ [.ref (ad 9)]) (va_Qi (fun r u => r = f_Pr_flags σ  ∧ u = σ) (Bx D cI (wC cI ad) (AC ad)) (AC ad)) 0 0 (AC ad) := by
  refine Mx l (by decide) (Nat.le_of_ble_eq_true rfl) ?_
  intro p e s m below meth c ls F w hr hlk hl
  have F : CallFix p m c b_Pr_flags 1 s _ al "PictureMachine$Processor" := F
  have hl : lv_has ls 1 [(0, .ref (ad 9))] := hl
  refine lv_aload_n (pc := 0) F.1 F.2.1 d_Pr_flags_0 rfl (lv_at hl 0 rfl) ?_
  refine gC9_6 (pc := 1) F w (F.2.2.2.2 _ m_283) d_Pr_flags_1 ?_
  refine cutW (α := Int32) (fun x H locs ls => x = f_Pr_flags_r4 σ ∧ Wx D cI (wC cI ad) (AC ad) (AC ad) s s.heap H locs σ ∧ lv_has ls 1 [(0, .ref (ad 9))]) (fun x ls => F0 m 14 ls [.int x]) ?_ (fun k4 => ?_)
  · rintro v1 H locs ls ⟨ex, w, hl⟩
    have e_v1 := ex
    have w : Wx D cI (wC cI ad) (AC ad) (AC ad) s s.heap H locs σ := w
    have hl : lv_has ls 1 [(0, .ref (ad 9))] := hl
    show W _ _ _ _ _ _ _ _ _ _ _ _ _ _ _ (F0 m 14 ls [.int v1])
    refine lv_aload_n (pc := 14) F.1 F.2.1 d_Pr_flags_14 rfl (lv_at hl 0 rfl) ?_
    refine gC9_7 (pc := 15) F w (F.2.2.2.2 _ m_284) d_Pr_flags_15 ?_
    refine cutW (α := Int32) (fun x H locs ls => x = f_Pr_flags_r18 σ ∧ Wx D cI (wC cI ad) (AC ad) (AC ad) s s.heap H locs σ ∧ lv_has ls 1 [(0, .ref (ad 9))]) (fun x ls => F0 m 26 ls [.int x, .int v1]) ?_ (fun k18 => ?_)
    · rintro v2 H locs ls ⟨ex, w, hl⟩
      have e_v2 := ex
      have w : Wx D cI (wC cI ad) (AC ad) (AC ad) s s.heap H locs σ := w
      have hl : lv_has ls 1 [(0, .ref (ad 9))] := hl
      show W _ _ _ _ _ _ _ _ _ _ _ _ _ _ _ (F0 m 26 ls [.int v2, .int v1])
      refine lv_ior (pc := 26) F.1 F.2.1 d_Pr_flags_26 ?_
      refine lv_aload_n (pc := 27) F.1 F.2.1 d_Pr_flags_27 rfl (lv_at hl 0 rfl) ?_
      refine gC9_8 (pc := 28) F w (F.2.2.2.2 _ m_285) d_Pr_flags_28 ?_
      refine cutW (α := Int32) (fun x H locs ls => x = f_Pr_flags_r31 σ ∧ Wx D cI (wC cI ad) (AC ad) (AC ad) s s.heap H locs σ ∧ lv_has ls 1 [(0, .ref (ad 9))]) (fun x ls => F0 m 39 ls [.int x, .int (v1 ||| v2)]) ?_ (fun k31 => ?_)
      · rintro v3 H locs ls ⟨ex, w, hl⟩
        have e_v3 := ex
        have w : Wx D cI (wC cI ad) (AC ad) (AC ad) s s.heap H locs σ := w
        have hl : lv_has ls 1 [(0, .ref (ad 9))] := hl
        show W _ _ _ _ _ _ _ _ _ _ _ _ _ _ _ (F0 m 39 ls [.int v3, .int (v1 ||| v2)])
        refine lv_ior (pc := 39) F.1 F.2.1 d_Pr_flags_39 ?_
        exact Ki (pc := 40) F hr hlk w (by rw [e_v3, e_v2, e_v1]; exact Eq.symm (rfl)) d_Pr_flags_40
      · refine lv_if_eq (pc := 31) F.1 F.2.1 d_Pr_flags_31 (tgt := 38) (by decide) (fun h31 => ?_) (fun h31 => ?_)
        · refine lv_iconst (pc := 38) (v := 0) F.1 F.2.1 d_Pr_flags_38 (by decide) ?_
          exact k31 0 _ _ _ ⟨(by exact Eq.symm (Eq.trans (if_pos h31) (rfl))), w, lv_sub hl [0] rfl⟩
        · refine lv_iconst (pc := 34) (v := 1) F.1 F.2.1 d_Pr_flags_34 (by decide) ?_
          refine lv_goto (pc := 35) F.1 F.2.1 d_Pr_flags_35 (tgt := 39) (by decide) ?_
          exact k31 1 _ _ _ ⟨(by exact Eq.symm (Eq.trans (if_neg h31) (rfl))), w, lv_sub hl [0] rfl⟩
    · refine lv_if_eq (pc := 18) F.1 F.2.1 d_Pr_flags_18 (tgt := 25) (by decide) (fun h18 => ?_) (fun h18 => ?_)
      · refine lv_iconst (pc := 25) (v := 0) F.1 F.2.1 d_Pr_flags_25 (by decide) ?_
        exact k18 0 _ _ _ ⟨(by exact Eq.symm (Eq.trans (if_pos h18) (rfl))), w, lv_sub hl [0] rfl⟩
      · refine lv_iconst (pc := 21) (v := 2) F.1 F.2.1 d_Pr_flags_21 (by decide) ?_
        refine lv_goto (pc := 22) F.1 F.2.1 d_Pr_flags_22 (tgt := 26) (by decide) ?_
        exact k18 2 _ _ _ ⟨(by exact Eq.symm (Eq.trans (if_neg h18) (rfl))), w, lv_sub hl [0] rfl⟩
  · refine lv_if_eq (pc := 4) F.1 F.2.1 d_Pr_flags_4 (tgt := 13) (by decide) (fun h4 => ?_) (fun h4 => ?_)
    · refine lv_iconst (pc := 13) (v := 0) F.1 F.2.1 d_Pr_flags_13 (by decide) ?_
      exact k4 0 _ _ _ ⟨(by exact Eq.symm (Eq.trans (if_pos h4) (rfl))), w, lv_sub hl [0] rfl⟩
    · refine lv_sipush (pc := 7) (v := 128) F.1 F.2.1 d_Pr_flags_7 (by decide) ?_
      refine lv_goto (pc := 10) F.1 F.2.1 d_Pr_flags_10 (tgt := 14) (by decide) ?_
      exact k4 128 _ _ _ ⟨(by exact Eq.symm (Eq.trans (if_neg h4) (rfl))), w, lv_sub hl [0] rfl⟩
def f_Pr_enterNmi (σ : Sg) : Sg := let s1 := f_Pr_pushPlace σ (σ 9 1); let r2 := f_Pr_flags s1; let s3 := f_Pr_push s1 r2; let r4 := f_Me_at s3 761; let r5 := f_Me_at s3 760; let s6 := sf s3 9 1 (((256 * r4) + r5) &&& 1023); let s7 := sf s6 3 1 0; s7
set_option maxHeartbeats 1000000 in
set_option maxRecDepth 100000 in
theorem c_Pr_enterNmi (l : Launch) (D : va_G) (cI : ClassId) (ad : Nat → Nat) (σ : Sg) : Met l y_Pr_enterNmi (Cond.code y_Pr_enterNmi b_Pr_enterNmi 1 none :: al) { frames := 3, cells := 0, slots := 0, locals := 65 } (Px D cI (wC cI ad) (AC ad) σ [.ref (ad 9)]) (va_Qv (fun u => u = f_Pr_enterNmi σ ) (Bx D cI (wC cI ad) (AC ad)) (AC ad)) 0 0 (AC ad) := by
  refine Mx l (by decide) (Nat.le_of_ble_eq_true rfl) ?_
  intro p e s m below meth c ls F w hr hlk hl
  have F : CallFix p m c b_Pr_enterNmi 1 s _ al "PictureMachine$Processor" := F
  have hl : lv_has ls 1 [(0, .ref (ad 9))] := hl
  have hcs : (0 : Nat) ≤ 0 ∧ (0 : Nat) ≤ 0 := ⟨Nat.le_refl _, Nat.le_refl _⟩
  refine lv_aload_n (pc := 0) F.1 F.2.1 d_Pr_enterNmi_0 rfl (lv_at hl 0 rfl) ?_
  refine lv_aload_n (pc := 1) F.1 F.2.1 d_Pr_enterNmi_1 rfl (lv_at hl 0 rfl) ?_
  refine gC9_1 (pc := 2) F w (F.2.2.2.2 _ m_273) d_Pr_enterNmi_2 ?_
  refine Cvv (pc := 5) (As := [.int (σ 9 1)]) (rest := []) F w (c_Pr_pushPlace l D cI ad σ (σ 9 1)) 9 rfl rfl k_Pr_pushPlace m_634 (Nat.le_of_ble_eq_true rfl) (Nat.le_of_ble_eq_true rfl) ⟨rfl, rfl⟩ rfl hl.1 rfl (Nat.le_of_ble_eq_true rfl) d_Pr_enterNmi_5 hcs (fun s1 H locs e_s1 w => ?_)
  refine lv_aload_n (pc := 8) F.1 F.2.1 d_Pr_enterNmi_8 rfl (lv_at hl 0 rfl) ?_
  refine lv_aload_n (pc := 9) F.1 F.2.1 d_Pr_enterNmi_9 rfl (lv_at hl 0 rfl) ?_
  refine Kvi (pc := 10) (As := []) (rest := [.ref (ad 9)]) F w (c_Pr_flags l D cI ad s1) 9 rfl rfl k_Pr_flags m_643 (Nat.le_of_ble_eq_true rfl) (Nat.le_of_ble_eq_true rfl) ⟨rfl, rfl⟩ rfl hl.1 rfl (Nat.le_of_ble_eq_true rfl) d_Pr_enterNmi_10 hcs (fun r2 H locs e_r2 w => ?_)
  refine Cvv (pc := 13) (As := [.int r2]) (rest := []) F w (c_Pr_push l D cI ad s1 r2) 9 rfl rfl k_Pr_push m_638 (Nat.le_of_ble_eq_true rfl) (Nat.le_of_ble_eq_true rfl) ⟨rfl, rfl⟩ rfl hl.1 rfl (Nat.le_of_ble_eq_true rfl) d_Pr_enterNmi_13 hcs (fun s3 H locs e_s3 w => ?_)
  refine lv_aload_n (pc := 16) F.1 F.2.1 d_Pr_enterNmi_16 rfl (lv_at hl 0 rfl) ?_
  refine lv_sipush (pc := 17) (v := 256) F.1 F.2.1 d_Pr_enterNmi_17 (by decide) ?_
  refine lv_aload_n (pc := 20) F.1 F.2.1 d_Pr_enterNmi_20 rfl (lv_at hl 0 rfl) ?_
  refine gC9_0 (pc := 21) F w (F.2.2.2.2 _ m_272) d_Pr_enterNmi_21 ?_
  refine gNC1_2 (pc := 24) F w m_234 d_Pr_enterNmi_24 ?_
  refine lv_sipush (pc := 27) (v := 761) F.1 F.2.1 d_Pr_enterNmi_27 (by decide) ?_
  refine Kvi (pc := 30) (As := [.int 761]) (rest := [.int 256, .ref (ad 9)]) F w (c_Me_at l D cI ad s3 761) 4 rfl rfl k_Me_at m_644 (Nat.le_of_ble_eq_true rfl) (Nat.le_of_ble_eq_true rfl) ⟨rfl, rfl⟩ rfl hl.1 rfl (Nat.le_of_ble_eq_true rfl) d_Pr_enterNmi_30 hcs (fun r4 H locs e_r4 w => ?_)
  refine lv_imul (pc := 33) F.1 F.2.1 d_Pr_enterNmi_33 ?_
  refine lv_aload_n (pc := 34) F.1 F.2.1 d_Pr_enterNmi_34 rfl (lv_at hl 0 rfl) ?_
  refine gC9_0 (pc := 35) F w (F.2.2.2.2 _ m_272) d_Pr_enterNmi_35 ?_
  refine gNC1_2 (pc := 38) F w m_234 d_Pr_enterNmi_38 ?_
  refine lv_sipush (pc := 41) (v := 760) F.1 F.2.1 d_Pr_enterNmi_41 (by decide) ?_
  refine Kvi (pc := 44) (As := [.int 760]) (rest := [.int (256 * r4), .ref (ad 9)]) F w (c_Me_at l D cI ad s3 760) 4 rfl rfl k_Me_at m_644 (Nat.le_of_ble_eq_true rfl) (Nat.le_of_ble_eq_true rfl) ⟨rfl, rfl⟩ rfl hl.1 rfl (Nat.le_of_ble_eq_true rfl) d_Pr_enterNmi_44 hcs (fun r5 H locs e_r5 w => ?_)
  refine lv_iadd (pc := 47) F.1 F.2.1 d_Pr_enterNmi_47 ?_
  refine lv_sipush (pc := 48) (v := 1023) F.1 F.2.1 d_Pr_enterNmi_48 (by decide) ?_
  refine lv_iand (pc := 51) F.1 F.2.1 d_Pr_enterNmi_51 ?_
  refine pC9_1 (pc := 52) F w (F.2.2.2.2 _ m_273) d_Pr_enterNmi_52 (fun H locs s6 e_s6 w => ?_)
  refine lv_aload_n (pc := 55) F.1 F.2.1 d_Pr_enterNmi_55 rfl (lv_at hl 0 rfl) ?_
  refine gC9_0 (pc := 56) F w (F.2.2.2.2 _ m_272) d_Pr_enterNmi_56 ?_
  refine gNC1_1 (pc := 59) F w m_230 d_Pr_enterNmi_59 ?_
  refine lv_iconst (pc := 62) (v := 0) F.1 F.2.1 d_Pr_enterNmi_62 (by decide) ?_
  refine pNC3_1 (pc := 63) F w (Or.inl rfl) m_62 d_Pr_enterNmi_63 (fun H locs s7 e_s7 w => ?_)
  exact Rv (pc := 66) F hr hlk w (by rw [e_s7, e_s6, e_r5, e_r4, e_s3, e_r2, e_s1]; exact Eq.symm (rfl)) d_Pr_enterNmi_66
def f_Pr_nextByte (σ : Sg) : Int32 × Sg := let r1 := (f_Bd_load σ (σ 9 1)).1; let s2 := (f_Bd_load σ (σ 9 1)).2; let s3 := sf s2 9 1 (((s2 9 1) + 1) &&& 1023); (r1, s3)
set_option maxHeartbeats 1000000 in
set_option maxRecDepth 100000 in
theorem c_Pr_nextByte (l : Launch) (D : va_G) (cI : ClassId) (ad : Nat → Nat) (σ : Sg) : Met l y_Pr_nextByte (Cond.code y_Pr_nextByte b_Pr_nextByte 2 (some .int) :: al) { frames := 2, cells := 0, slots := 0, locals := 43 } (Px D cI (wC cI ad) (AC ad) σ [.ref (ad 9)]) (va_Qi (fun r u => (r, u) = f_Pr_nextByte σ ) (Bx D cI (wC cI ad) (AC ad)) (AC ad)) 0 0 (AC ad) := by
  refine Mx l (by decide) (Nat.le_of_ble_eq_true rfl) ?_
  intro p e s m below meth c ls F w hr hlk hl
  have F : CallFix p m c b_Pr_nextByte 2 s _ al "PictureMachine$Processor" := F
  have hl : lv_has ls 2 [(0, .ref (ad 9))] := hl
  have hcs : (0 : Nat) ≤ 0 ∧ (0 : Nat) ≤ 0 := ⟨Nat.le_refl _, Nat.le_refl _⟩
  refine lv_aload_n (pc := 0) F.1 F.2.1 d_Pr_nextByte_0 rfl (lv_at hl 0 rfl) ?_
  refine gC9_0 (pc := 1) F w (F.2.2.2.2 _ m_272) d_Pr_nextByte_1 ?_
  refine lv_aload_n (pc := 4) F.1 F.2.1 d_Pr_nextByte_4 rfl (lv_at hl 0 rfl) ?_
  refine gC9_1 (pc := 5) F w (F.2.2.2.2 _ m_273) d_Pr_nextByte_5 ?_
  refine Cvi (pc := 8) (As := [.int (σ 9 1)]) (rest := []) F w (c_Bd_load l D cI ad σ (σ 9 1)) 1 rfl rfl k_Bd_load m_614 (Nat.le_of_ble_eq_true rfl) (Nat.le_of_ble_eq_true rfl) ⟨rfl, rfl⟩ rfl hl.1 rfl (Nat.le_of_ble_eq_true rfl) d_Pr_nextByte_8 hcs (fun r1 s2 H locs e_r1 e_s2 w => ?_)
  refine lv_istore_n (pc := 11) F.1 F.2.1 d_Pr_nextByte_11 rfl hl (by decide) rfl (fun ls hl => ?_)
  have hl : lv_has ls 2 [(1, .int r1), (0, .ref (ad 9))] := hl
  refine lv_aload_n (pc := 12) F.1 F.2.1 d_Pr_nextByte_12 rfl (lv_at hl 1 rfl) ?_
  refine lv_aload_n (pc := 13) F.1 F.2.1 d_Pr_nextByte_13 rfl (lv_at hl 1 rfl) ?_
  refine gC9_1 (pc := 14) F w (F.2.2.2.2 _ m_273) d_Pr_nextByte_14 ?_
  refine lv_iconst (pc := 17) (v := 1) F.1 F.2.1 d_Pr_nextByte_17 (by decide) ?_
  refine lv_iadd (pc := 18) F.1 F.2.1 d_Pr_nextByte_18 ?_
  refine lv_sipush (pc := 19) (v := 1023) F.1 F.2.1 d_Pr_nextByte_19 (by decide) ?_
  refine lv_iand (pc := 22) F.1 F.2.1 d_Pr_nextByte_22 ?_
  refine pC9_1 (pc := 23) F w (F.2.2.2.2 _ m_273) d_Pr_nextByte_23 (fun H locs s3 e_s3 w => ?_)
  refine lv_iload_n (pc := 26) F.1 F.2.1 d_Pr_nextByte_26 rfl (lv_at hl 0 rfl) ?_
  exact Ri (pc := 27) F hr hlk w (by rw [e_s3, e_s2, e_r1]; exact Eq.symm (rfl)) d_Pr_nextByte_27
theorem iIC_Pr_nextByte {σ : Sg} (h : IC σ) : IC (f_Pr_nextByte σ).2 := (iIC_Bd_load h (σ 9 1)).same rfl rfl rfl rfl rfl rfl
