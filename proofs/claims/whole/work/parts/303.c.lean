def f_Pr_result_r11 (x1 : Int32) : Int32 := if (x1 &&& 255) < 128 then (0) else (1)
def f_Pr_result_r24 (x1 : Int32) : Int32 := if (x1 &&& 255) = 0 then (1) else (0)
def f_Pr_result (σ : Sg) (x1 : Int32) : Int32 × Sg := let v1 := (f_Pr_result_r11 x1); let s2 := sf σ 9 6 v1; let v3 := (f_Pr_result_r24 x1); let s4 := sf s2 9 7 v3; ((x1 &&& 255), s4)
theorem z_f_Pr_result_r11_0 (x1 : Int32) : (f_Pr_result_r11 x1) = 0 ∨ (f_Pr_result_r11 x1) = 1 := by unfold f_Pr_result_r11; (try dsimp only); (repeat' split) <;> first | exact Or.inl rfl | exact Or.inr rfl
theorem z_f_Pr_result_r24_0 (x1 : Int32) : (f_Pr_result_r24 x1) = 0 ∨ (f_Pr_result_r24 x1) = 1 := by unfold f_Pr_result_r24; (try dsimp only); (repeat' split) <;> first | exact Or.inl rfl | exact Or.inr rfl | apply z_f_Pr_result_r11_0
set_option maxHeartbeats 1000000 in
set_option maxRecDepth 100000 in
theorem c_Pr_result (l : Launch) (D : va_G) (cI : ClassId) (ad : Nat → Nat) (σ : Sg) (x1 : Int32) : Met l y_Pr_result (Cond.code y_Pr_result b_Pr_result 3 (some .int) :: al) { frames := 0, cells := 0, slots := 0, locals := 0 } (Px D cI (wC cI ad) (AC ad) σ [.ref (ad 9), .int x1]) (va_Qi (fun r u => (r, u) = f_Pr_result σ x1) (Bx D cI (wC cI ad) (AC ad)) (AC ad)) 0 0 (AC ad) := by
  refine Mx l (by decide) (Nat.le_of_ble_eq_true rfl) ?_
  intro p e s m below meth c ls F w hr hlk hl
  have F : CallFix p m c b_Pr_result 3 s _ al "PictureMachine$Processor" := F
  have hl : lv_has ls 3 [(0, .ref (ad 9)), (1, .int x1)] := hl
  refine lv_iload_n (pc := 0) F.1 F.2.1 d_Pr_result_0 rfl (lv_at hl 1 rfl) ?_
  refine lv_sipush (pc := 1) (v := 255) F.1 F.2.1 d_Pr_result_1 (by decide) ?_
  refine lv_iand (pc := 4) F.1 F.2.1 d_Pr_result_4 ?_
  refine lv_istore_n (pc := 5) F.1 F.2.1 d_Pr_result_5 rfl hl (by decide) rfl (fun ls hl => ?_)
  have hl : lv_has ls 3 [(2, .int (x1 &&& 255)), (0, .ref (ad 9)), (1, .int x1)] := hl
  refine lv_aload_n (pc := 6) F.1 F.2.1 d_Pr_result_6 rfl (lv_at hl 1 rfl) ?_
  refine lv_iload_n (pc := 7) F.1 F.2.1 d_Pr_result_7 rfl (lv_at hl 0 rfl) ?_
  refine lv_sipush (pc := 8) (v := 128) F.1 F.2.1 d_Pr_result_8 (by decide) ?_
  refine cutW (α := Int32) (fun x H locs ls => x = f_Pr_result_r11 x1 ∧ Wx D cI (wC cI ad) (AC ad) (AC ad) s s.heap H locs σ ∧ lv_has ls 3 [(0, .ref (ad 9)), (1, .int x1), (2, .int (x1 &&& 255))]) (fun x ls => F0 m 19 ls [.int x, .ref (ad 9)]) ?_ (fun k11 => ?_)
  · rintro v1 H locs ls ⟨ex, w, hl⟩
    have e_v1 := ex
    have w : Wx D cI (wC cI ad) (AC ad) (AC ad) s s.heap H locs σ := w
    have hl : lv_has ls 3 [(0, .ref (ad 9)), (1, .int x1), (2, .int (x1 &&& 255))] := hl
    show W _ _ _ _ _ _ _ _ _ _ _ _ _ _ _ (F0 m 19 ls [.int v1, .ref (ad 9)])
    refine pC9_6 (pc := 19) F w (e_v1 ▸ z_f_Pr_result_r11_0 x1) (F.2.2.2.2 _ m_283) d_Pr_result_19 (fun H locs s2 e_s2 w => ?_)
    refine lv_aload_n (pc := 22) F.1 F.2.1 d_Pr_result_22 rfl (lv_at hl 0 rfl) ?_
    refine lv_iload_n (pc := 23) F.1 F.2.1 d_Pr_result_23 rfl (lv_at hl 2 rfl) ?_
    refine cutW (α := Int32) (fun x H locs ls => x = f_Pr_result_r24 x1 ∧ Wx D cI (wC cI ad) (AC ad) (AC ad) s s.heap H locs s2 ∧ lv_has ls 3 [(0, .ref (ad 9)), (1, .int x1), (2, .int (x1 &&& 255))]) (fun x ls => F0 m 32 ls [.int x, .ref (ad 9)]) ?_ (fun k24 => ?_)
    · rintro v3 H locs ls ⟨ex, w, hl⟩
      have e_v3 := ex
      have w : Wx D cI (wC cI ad) (AC ad) (AC ad) s s.heap H locs s2 := w
      have hl : lv_has ls 3 [(0, .ref (ad 9)), (1, .int x1), (2, .int (x1 &&& 255))] := hl
      show W _ _ _ _ _ _ _ _ _ _ _ _ _ _ _ (F0 m 32 ls [.int v3, .ref (ad 9)])
      refine pC9_7 (pc := 32) F w (e_v3 ▸ z_f_Pr_result_r24_0 x1) (F.2.2.2.2 _ m_284) d_Pr_result_32 (fun H locs s4 e_s4 w => ?_)
      refine lv_iload_n (pc := 35) F.1 F.2.1 d_Pr_result_35 rfl (lv_at hl 2 rfl) ?_
      exact Ri (pc := 36) F hr hlk w (by rw [e_s4, e_v3, e_s2, e_v1]; exact Eq.symm (rfl)) d_Pr_result_36
    · refine lv_if_ne (pc := 24) F.1 F.2.1 d_Pr_result_24 (tgt := 31) (by decide) (fun h24 => ?_) (fun h24 => ?_)
      · refine lv_iconst (pc := 31) (v := 0) F.1 F.2.1 d_Pr_result_31 (by decide) ?_
        exact k24 0 _ _ _ ⟨(by exact Eq.symm (Eq.trans (if_neg h24) (rfl))), w, lv_sub hl [0, 1, 2] rfl⟩
      · refine lv_iconst (pc := 27) (v := 1) F.1 F.2.1 d_Pr_result_27 (by decide) ?_
        refine lv_goto (pc := 28) F.1 F.2.1 d_Pr_result_28 (tgt := 32) (by decide) ?_
        exact k24 1 _ _ _ ⟨(by exact Eq.symm (Eq.trans (if_pos h24) (rfl))), w, lv_sub hl [0, 1, 2] rfl⟩
  · refine lv_icmp_lt (pc := 11) F.1 F.2.1 d_Pr_result_11 (tgt := 18) (by decide) (fun h11 => ?_) (fun h11 => ?_)
    · refine lv_iconst (pc := 18) (v := 0) F.1 F.2.1 d_Pr_result_18 (by decide) ?_
      exact k11 0 _ _ _ ⟨(by exact Eq.symm (Eq.trans (if_pos h11) (rfl))), w, lv_sub hl [1, 2, 0] rfl⟩
    · refine lv_iconst (pc := 14) (v := 1) F.1 F.2.1 d_Pr_result_14 (by decide) ?_
      refine lv_goto (pc := 15) F.1 F.2.1 d_Pr_result_15 (tgt := 19) (by decide) ?_
      exact k11 1 _ _ _ ⟨(by exact Eq.symm (Eq.trans (if_neg h11) (rfl))), w, lv_sub hl [1, 2, 0] rfl⟩
def f_Pr_nextAddress (σ : Sg) : Int32 × Sg := let r1 := (f_Pr_nextByte σ).1; let s2 := (f_Pr_nextByte σ).2; let r3 := (f_Pr_nextByte s2).1; let s4 := (f_Pr_nextByte s2).2; ((r1 + (256 * r3)), s4)
set_option maxHeartbeats 1000000 in
set_option maxRecDepth 100000 in
theorem c_Pr_nextAddress (l : Launch) (D : va_G) (cI : ClassId) (ad : Nat → Nat) (σ : Sg) : Met l y_Pr_nextAddress (Cond.code y_Pr_nextAddress b_Pr_nextAddress 2 (some .int) :: al) { frames := 3, cells := 0, slots := 0, locals := 64 } (Px D cI (wC cI ad) (AC ad) σ [.ref (ad 9)]) (va_Qi (fun r u => (r, u) = f_Pr_nextAddress σ ) (Bx D cI (wC cI ad) (AC ad)) (AC ad)) 0 0 (AC ad) := by
  refine Mx l (by decide) (Nat.le_of_ble_eq_true rfl) ?_
  intro p e s m below meth c ls F w hr hlk hl
  have F : CallFix p m c b_Pr_nextAddress 2 s _ al "PictureMachine$Processor" := F
  have hl : lv_has ls 2 [(0, .ref (ad 9))] := hl
  have hcs : (0 : Nat) ≤ 0 ∧ (0 : Nat) ≤ 0 := ⟨Nat.le_refl _, Nat.le_refl _⟩
  refine lv_aload_n (pc := 0) F.1 F.2.1 d_Pr_nextAddress_0 rfl (lv_at hl 0 rfl) ?_
  refine Cvi (pc := 1) (As := []) (rest := []) F w (c_Pr_nextByte l D cI ad σ) 9 rfl rfl k_Pr_nextByte m_649 (Nat.le_of_ble_eq_true rfl) (Nat.le_of_ble_eq_true rfl) ⟨rfl, rfl⟩ rfl hl.1 rfl (Nat.le_of_ble_eq_true rfl) d_Pr_nextAddress_1 hcs (fun r1 s2 H locs e_r1 e_s2 w => ?_)
  refine lv_istore_n (pc := 4) F.1 F.2.1 d_Pr_nextAddress_4 rfl hl (by decide) rfl (fun ls hl => ?_)
  have hl : lv_has ls 2 [(1, .int r1), (0, .ref (ad 9))] := hl
  refine lv_iload_n (pc := 5) F.1 F.2.1 d_Pr_nextAddress_5 rfl (lv_at hl 0 rfl) ?_
  refine lv_sipush (pc := 6) (v := 256) F.1 F.2.1 d_Pr_nextAddress_6 (by decide) ?_
  refine lv_aload_n (pc := 9) F.1 F.2.1 d_Pr_nextAddress_9 rfl (lv_at hl 1 rfl) ?_
  refine Cvi (pc := 10) (As := []) (rest := [.int 256, .int r1]) F w (c_Pr_nextByte l D cI ad s2) 9 rfl rfl k_Pr_nextByte m_649 (Nat.le_of_ble_eq_true rfl) (Nat.le_of_ble_eq_true rfl) ⟨rfl, rfl⟩ rfl hl.1 rfl (Nat.le_of_ble_eq_true rfl) d_Pr_nextAddress_10 hcs (fun r3 s4 H locs e_r3 e_s4 w => ?_)
  refine lv_imul (pc := 13) F.1 F.2.1 d_Pr_nextAddress_13 ?_
  refine lv_iadd (pc := 14) F.1 F.2.1 d_Pr_nextAddress_14 ?_
  exact Ri (pc := 15) F hr hlk w (by rw [e_s4, e_r3, e_s2, e_r1]; exact Eq.symm (rfl)) d_Pr_nextAddress_15
theorem iIC_Pr_nextAddress {σ : Sg} (h : IC σ) : IC (f_Pr_nextAddress σ).2 := iIC_Pr_nextByte (iIC_Pr_nextByte h)
def f_Pr_add_r10 (σ : Sg) : Int32 := if (σ 9 8) = 0 then (0) else (1)
def f_Pr_add_r25 (σ : Sg) (x1 : Int32) (v1 : Int32) : Int32 := if (((σ 9 2) + x1) + v1) ≤ 255 then (0) else (1)
def f_Pr_add (σ : Sg) (x1 : Int32) : Sg := let v1 := (f_Pr_add_r10 σ); let v2 := (f_Pr_add_r25 σ x1 v1); let s3 := sf σ 9 8 v2; let r4 := (f_Pr_result s3 (((σ 9 2) + x1) + v1)).1; let s5 := (f_Pr_result s3 (((σ 9 2) + x1) + v1)).2; let s6 := sf s5 9 2 r4; s6
theorem z_f_Pr_add_r10_0 (σ : Sg) : (f_Pr_add_r10 σ) = 0 ∨ (f_Pr_add_r10 σ) = 1 := by unfold f_Pr_add_r10; (try dsimp only); (repeat' split) <;> first | exact Or.inl rfl | exact Or.inr rfl
theorem z_f_Pr_add_r25_0 (σ : Sg) (x1 : Int32) (v1 : Int32) : (f_Pr_add_r25 σ x1 v1) = 0 ∨ (f_Pr_add_r25 σ x1 v1) = 1 := by unfold f_Pr_add_r25; (try dsimp only); (repeat' split) <;> first | exact Or.inl rfl | exact Or.inr rfl | apply z_f_Pr_add_r10_0
set_option maxHeartbeats 1000000 in
set_option maxRecDepth 100000 in
theorem c_Pr_add (l : Launch) (D : va_G) (cI : ClassId) (ad : Nat → Nat) (σ : Sg) (x1 : Int32) : Met l y_Pr_add (Cond.code y_Pr_add b_Pr_add 3 none :: al) { frames := 1, cells := 0, slots := 0, locals := 22 } (Px D cI (wC cI ad) (AC ad) σ [.ref (ad 9), .int x1]) (va_Qv (fun u => u = f_Pr_add σ x1) (Bx D cI (wC cI ad) (AC ad)) (AC ad)) 0 0 (AC ad) := by
  refine Mx l (by decide) (Nat.le_of_ble_eq_true rfl) ?_
  intro p e s m below meth c ls F w hr hlk hl
  have F : CallFix p m c b_Pr_add 3 s _ al "PictureMachine$Processor" := F
  have hl : lv_has ls 3 [(0, .ref (ad 9)), (1, .int x1)] := hl
  have hcs : (0 : Nat) ≤ 0 ∧ (0 : Nat) ≤ 0 := ⟨Nat.le_refl _, Nat.le_refl _⟩
  refine lv_aload_n (pc := 0) F.1 F.2.1 d_Pr_add_0 rfl (lv_at hl 0 rfl) ?_
  refine gC9_2 (pc := 1) F w (F.2.2.2.2 _ m_275) d_Pr_add_1 ?_
  refine lv_iload_n (pc := 4) F.1 F.2.1 d_Pr_add_4 rfl (lv_at hl 1 rfl) ?_
  refine lv_iadd (pc := 5) F.1 F.2.1 d_Pr_add_5 ?_
  refine lv_aload_n (pc := 6) F.1 F.2.1 d_Pr_add_6 rfl (lv_at hl 0 rfl) ?_
  refine gC9_8 (pc := 7) F w (F.2.2.2.2 _ m_285) d_Pr_add_7 ?_
  refine cutW (α := Int32) (fun x H locs ls => x = f_Pr_add_r10 σ ∧ Wx D cI (wC cI ad) (AC ad) (AC ad) s s.heap H locs σ ∧ lv_has ls 3 [(0, .ref (ad 9)), (1, .int x1)]) (fun x ls => F0 m 18 ls [.int x, .int ((σ 9 2) + x1)]) ?_ (fun k10 => ?_)
  · rintro v1 H locs ls ⟨ex, w, hl⟩
    have e_v1 := ex
    have w : Wx D cI (wC cI ad) (AC ad) (AC ad) s s.heap H locs σ := w
    have hl : lv_has ls 3 [(0, .ref (ad 9)), (1, .int x1)] := hl
    show W _ _ _ _ _ _ _ _ _ _ _ _ _ _ _ (F0 m 18 ls [.int v1, .int ((σ 9 2) + x1)])
    refine lv_iadd (pc := 18) F.1 F.2.1 d_Pr_add_18 ?_
    refine lv_istore_n (pc := 19) F.1 F.2.1 d_Pr_add_19 rfl hl (by decide) rfl (fun ls hl => ?_)
    have hl : lv_has ls 3 [(2, .int (((σ 9 2) + x1) + v1)), (0, .ref (ad 9)), (1, .int x1)] := hl
    refine lv_aload_n (pc := 20) F.1 F.2.1 d_Pr_add_20 rfl (lv_at hl 1 rfl) ?_
    refine lv_iload_n (pc := 21) F.1 F.2.1 d_Pr_add_21 rfl (lv_at hl 0 rfl) ?_
    refine lv_sipush (pc := 22) (v := 255) F.1 F.2.1 d_Pr_add_22 (by decide) ?_
    refine cutW (α := Int32) (fun x H locs ls => x = f_Pr_add_r25 σ x1 v1 ∧ Wx D cI (wC cI ad) (AC ad) (AC ad) s s.heap H locs σ ∧ lv_has ls 3 [(0, .ref (ad 9)), (1, .int x1), (2, .int (((σ 9 2) + x1) + v1))]) (fun x ls => F0 m 33 ls [.int x, .ref (ad 9)]) ?_ (fun k25 => ?_)
    · rintro v2 H locs ls ⟨ex, w, hl⟩
      have e_v2 := ex
      have w : Wx D cI (wC cI ad) (AC ad) (AC ad) s s.heap H locs σ := w
      have hl : lv_has ls 3 [(0, .ref (ad 9)), (1, .int x1), (2, .int (((σ 9 2) + x1) + v1))] := hl
      show W _ _ _ _ _ _ _ _ _ _ _ _ _ _ _ (F0 m 33 ls [.int v2, .ref (ad 9)])
      refine pC9_8 (pc := 33) F w (e_v2 ▸ z_f_Pr_add_r25_0 σ x1 v1) (F.2.2.2.2 _ m_285) d_Pr_add_33 (fun H locs s3 e_s3 w => ?_)
      refine lv_aload_n (pc := 36) F.1 F.2.1 d_Pr_add_36 rfl (lv_at hl 0 rfl) ?_
      refine lv_aload_n (pc := 37) F.1 F.2.1 d_Pr_add_37 rfl (lv_at hl 0 rfl) ?_
      refine lv_iload_n (pc := 38) F.1 F.2.1 d_Pr_add_38 rfl (lv_at hl 2 rfl) ?_
      refine Cvi (pc := 39) (As := [.int (((σ 9 2) + x1) + v1)]) (rest := [.ref (ad 9)]) F w (c_Pr_result l D cI ad s3 (((σ 9 2) + x1) + v1)) 9 rfl rfl k_Pr_result m_653 (Nat.le_of_ble_eq_true rfl) (Nat.le_of_ble_eq_true rfl) ⟨rfl, rfl⟩ rfl hl.1 rfl (Nat.le_of_ble_eq_true rfl) d_Pr_add_39 hcs (fun r4 s5 H locs e_r4 e_s5 w => ?_)
      refine pC9_2 (pc := 42) F w (F.2.2.2.2 _ m_275) d_Pr_add_42 (fun H locs s6 e_s6 w => ?_)
      exact Rv (pc := 45) F hr hlk w (by rw [e_s6, e_s5, e_r4, e_s3, e_v2, e_v1]; exact Eq.symm (rfl)) d_Pr_add_45
    · refine lv_icmp_le (pc := 25) F.1 F.2.1 d_Pr_add_25 (tgt := 32) (by decide) (fun h25 => ?_) (fun h25 => ?_)
      · refine lv_iconst (pc := 32) (v := 0) F.1 F.2.1 d_Pr_add_32 (by decide) ?_
        exact k25 0 _ _ _ ⟨(by exact Eq.symm (Eq.trans (if_pos h25) (rfl))), w, lv_sub hl [1, 2, 0] rfl⟩
      · refine lv_iconst (pc := 28) (v := 1) F.1 F.2.1 d_Pr_add_28 (by decide) ?_
        refine lv_goto (pc := 29) F.1 F.2.1 d_Pr_add_29 (tgt := 33) (by decide) ?_
        exact k25 1 _ _ _ ⟨(by exact Eq.symm (Eq.trans (if_neg h25) (rfl))), w, lv_sub hl [1, 2, 0] rfl⟩
  · refine lv_if_eq (pc := 10) F.1 F.2.1 d_Pr_add_10 (tgt := 17) (by decide) (fun h10 => ?_) (fun h10 => ?_)
    · refine lv_iconst (pc := 17) (v := 0) F.1 F.2.1 d_Pr_add_17 (by decide) ?_
      exact k10 0 _ _ _ ⟨(by exact Eq.symm (Eq.trans (if_pos h10) (rfl))), w, lv_sub hl [0, 1] rfl⟩
    · refine lv_iconst (pc := 13) (v := 1) F.1 F.2.1 d_Pr_add_13 (by decide) ?_
      refine lv_goto (pc := 14) F.1 F.2.1 d_Pr_add_14 (tgt := 18) (by decide) ?_
      exact k10 1 _ _ _ ⟨(by exact Eq.symm (Eq.trans (if_neg h10) (rfl))), w, lv_sub hl [0, 1] rfl⟩
def f_Pr_compare_r11 (x1 : Int32) (x2 : Int32) : Int32 := if x1 < x2 then (0) else (1)
def f_Pr_compare (σ : Sg) (x1 : Int32) (x2 : Int32) : Sg := let r1 := (f_Pr_result σ (x1 - x2)).1; let s2 := (f_Pr_result σ (x1 - x2)).2; let v3 := (f_Pr_compare_r11 x1 x2); let s4 := sf s2 9 8 v3; s4
theorem z_f_Pr_compare_r11_0 (x1 : Int32) (x2 : Int32) : (f_Pr_compare_r11 x1 x2) = 0 ∨ (f_Pr_compare_r11 x1 x2) = 1 := by unfold f_Pr_compare_r11; (try dsimp only); (repeat' split) <;> first | exact Or.inl rfl | exact Or.inr rfl
set_option maxHeartbeats 1000000 in
set_option maxRecDepth 100000 in
theorem c_Pr_compare (l : Launch) (D : va_G) (cI : ClassId) (ad : Nat → Nat) (σ : Sg) (x1 : Int32) (x2 : Int32) : Met l y_Pr_compare (Cond.code y_Pr_compare b_Pr_compare 3 none :: al) { frames := 1, cells := 0, slots := 0, locals := 22 } (Px D cI (wC cI ad) (AC ad) σ [.ref (ad 9), .int x1, .int x2]) (va_Qv (fun u => u = f_Pr_compare σ x1 x2) (Bx D cI (wC cI ad) (AC ad)) (AC ad)) 0 0 (AC ad) := by
  refine Mx l (by decide) (Nat.le_of_ble_eq_true rfl) ?_
  intro p e s m below meth c ls F w hr hlk hl
  have F : CallFix p m c b_Pr_compare 3 s _ al "PictureMachine$Processor" := F
  have hl : lv_has ls 3 [(0, .ref (ad 9)), (1, .int x1), (2, .int x2)] := hl
  have hcs : (0 : Nat) ≤ 0 ∧ (0 : Nat) ≤ 0 := ⟨Nat.le_refl _, Nat.le_refl _⟩
  refine lv_aload_n (pc := 0) F.1 F.2.1 d_Pr_compare_0 rfl (lv_at hl 0 rfl) ?_
  refine lv_iload_n (pc := 1) F.1 F.2.1 d_Pr_compare_1 rfl (lv_at hl 1 rfl) ?_
  refine lv_iload_n (pc := 2) F.1 F.2.1 d_Pr_compare_2 rfl (lv_at hl 2 rfl) ?_
  refine lv_isub (pc := 3) F.1 F.2.1 d_Pr_compare_3 ?_
  refine Cvi (pc := 4) (As := [.int (x1 - x2)]) (rest := []) F w (c_Pr_result l D cI ad σ (x1 - x2)) 9 rfl rfl k_Pr_result m_653 (Nat.le_of_ble_eq_true rfl) (Nat.le_of_ble_eq_true rfl) ⟨rfl, rfl⟩ rfl hl.1 rfl (Nat.le_of_ble_eq_true rfl) d_Pr_compare_4 hcs (fun r1 s2 H locs e_r1 e_s2 w => ?_)
  refine lv_pop (pc := 7) F.1 F.2.1 d_Pr_compare_7 rfl ?_
  refine lv_aload_n (pc := 8) F.1 F.2.1 d_Pr_compare_8 rfl (lv_at hl 0 rfl) ?_
  refine lv_iload_n (pc := 9) F.1 F.2.1 d_Pr_compare_9 rfl (lv_at hl 2 rfl) ?_
  refine lv_iload_n (pc := 10) F.1 F.2.1 d_Pr_compare_10 rfl (lv_at hl 1 rfl) ?_
  refine cutW (α := Int32) (fun x H locs ls => x = f_Pr_compare_r11 x1 x2 ∧ Wx D cI (wC cI ad) (AC ad) (AC ad) s s.heap H locs s2 ∧ lv_has ls 3 [(0, .ref (ad 9)), (1, .int x1), (2, .int x2)]) (fun x ls => F0 m 19 ls [.int x, .ref (ad 9)]) ?_ (fun k11 => ?_)
  · rintro v3 H locs ls ⟨ex, w, hl⟩
    have e_v3 := ex
    have w : Wx D cI (wC cI ad) (AC ad) (AC ad) s s.heap H locs s2 := w
    have hl : lv_has ls 3 [(0, .ref (ad 9)), (1, .int x1), (2, .int x2)] := hl
    show W _ _ _ _ _ _ _ _ _ _ _ _ _ _ _ (F0 m 19 ls [.int v3, .ref (ad 9)])
    refine pC9_8 (pc := 19) F w (e_v3 ▸ z_f_Pr_compare_r11_0 x1 x2) (F.2.2.2.2 _ m_285) d_Pr_compare_19 (fun H locs s4 e_s4 w => ?_)
    exact Rv (pc := 22) F hr hlk w (by rw [e_s4, e_v3, e_s2]; exact Eq.symm (rfl)) d_Pr_compare_22
  · refine lv_icmp_gt (pc := 11) F.1 F.2.1 d_Pr_compare_11 (tgt := 18) (by decide) (fun h11 => ?_) (fun h11 => ?_)
    · refine lv_iconst (pc := 18) (v := 0) F.1 F.2.1 d_Pr_compare_18 (by decide) ?_
      exact k11 0 _ _ _ ⟨(by exact Eq.symm (Eq.trans (if_pos h11) (rfl))), w, lv_sub hl [0, 1, 2] rfl⟩
    · refine lv_iconst (pc := 14) (v := 1) F.1 F.2.1 d_Pr_compare_14 (by decide) ?_
      refine lv_goto (pc := 15) F.1 F.2.1 d_Pr_compare_15 (tgt := 19) (by decide) ?_
      exact k11 1 _ _ _ ⟨(by exact Eq.symm (Eq.trans (if_neg h11) (rfl))), w, lv_sub hl [0, 1, 2] rfl⟩
def f_Pr_change (σ : Sg) (x1 : Int32) (x2 : Int32) : Sg := let r1 := f_Me_at σ x1; let r2 := (f_Pr_result σ (r1 + x2)).1; let s3 := (f_Pr_result σ (r1 + x2)).2; let s4 := f_Me_put s3 x1 r2; s4
set_option maxHeartbeats 1000000 in
set_option maxRecDepth 100000 in
theorem c_Pr_change (l : Launch) (D : va_G) (cI : ClassId) (ad : Nat → Nat) (σ : Sg) (x1 : Int32) (x2 : Int32) : Met l y_Pr_change (Cond.code y_Pr_change b_Pr_change 3 none :: al) { frames := 1, cells := 0, slots := 0, locals := 23 } (Px D cI (wC cI ad) (AC ad) σ [.ref (ad 9), .int x1, .int x2]) (va_Qv (fun u => u = f_Pr_change σ x1 x2) (Bx D cI (wC cI ad) (AC ad)) (AC ad)) 0 0 (AC ad) := by
  refine Mx l (by decide) (Nat.le_of_ble_eq_true rfl) ?_
  intro p e s m below meth c ls F w hr hlk hl
  have F : CallFix p m c b_Pr_change 3 s _ al "PictureMachine$Processor" := F
  have hl : lv_has ls 3 [(0, .ref (ad 9)), (1, .int x1), (2, .int x2)] := hl
  have hcs : (0 : Nat) ≤ 0 ∧ (0 : Nat) ≤ 0 := ⟨Nat.le_refl _, Nat.le_refl _⟩
  refine lv_aload_n (pc := 0) F.1 F.2.1 d_Pr_change_0 rfl (lv_at hl 0 rfl) ?_
  refine gC9_0 (pc := 1) F w (F.2.2.2.2 _ m_272) d_Pr_change_1 ?_
  refine gNC1_2 (pc := 4) F w m_234 d_Pr_change_4 ?_
  refine lv_iload_n (pc := 7) F.1 F.2.1 d_Pr_change_7 rfl (lv_at hl 1 rfl) ?_
  refine lv_aload_n (pc := 8) F.1 F.2.1 d_Pr_change_8 rfl (lv_at hl 0 rfl) ?_
  refine lv_aload_n (pc := 9) F.1 F.2.1 d_Pr_change_9 rfl (lv_at hl 0 rfl) ?_
  refine gC9_0 (pc := 10) F w (F.2.2.2.2 _ m_272) d_Pr_change_10 ?_
  refine gNC1_2 (pc := 13) F w m_234 d_Pr_change_13 ?_
  refine lv_iload_n (pc := 16) F.1 F.2.1 d_Pr_change_16 rfl (lv_at hl 1 rfl) ?_
  refine Kvi (pc := 17) (As := [.int x1]) (rest := [.ref (ad 9), .int x1, .ref (ad 4)]) F w (c_Me_at l D cI ad σ x1) 4 rfl rfl k_Me_at m_644 (Nat.le_of_ble_eq_true rfl) (Nat.le_of_ble_eq_true rfl) ⟨rfl, rfl⟩ rfl hl.1 rfl (Nat.le_of_ble_eq_true rfl) d_Pr_change_17 hcs (fun r1 H locs e_r1 w => ?_)
  refine lv_iload_n (pc := 20) F.1 F.2.1 d_Pr_change_20 rfl (lv_at hl 2 rfl) ?_
  refine lv_iadd (pc := 21) F.1 F.2.1 d_Pr_change_21 ?_
  refine Cvi (pc := 22) (As := [.int (r1 + x2)]) (rest := [.int x1, .ref (ad 4)]) F w (c_Pr_result l D cI ad σ (r1 + x2)) 9 rfl rfl k_Pr_result m_653 (Nat.le_of_ble_eq_true rfl) (Nat.le_of_ble_eq_true rfl) ⟨rfl, rfl⟩ rfl hl.1 rfl (Nat.le_of_ble_eq_true rfl) d_Pr_change_22 hcs (fun r2 s3 H locs e_r2 e_s3 w => ?_)
  refine Cvv (pc := 25) (As := [.int x1, .int r2]) (rest := []) F w (c_Me_put l D cI ad s3 x1 r2) 4 rfl rfl k_Me_put m_642 (Nat.le_of_ble_eq_true rfl) (Nat.le_of_ble_eq_true rfl) ⟨rfl, rfl⟩ rfl hl.1 rfl (Nat.le_of_ble_eq_true rfl) d_Pr_change_25 hcs (fun s4 H locs e_s4 w => ?_)
  exact Rv (pc := 28) F hr hlk w (by rw [e_s4, e_s3, e_r2, e_r1]; exact Eq.symm (rfl)) d_Pr_change_28
def f_Pr_pull (σ : Sg) : Int32 × Sg := let s1 := sf σ 9 5 (((σ 9 5) + 1) &&& 255); let r2 := f_Me_at s1 (256 + (s1 9 5)); (r2, s1)
set_option maxHeartbeats 1000000 in
set_option maxRecDepth 100000 in
theorem c_Pr_pull (l : Launch) (D : va_G) (cI : ClassId) (ad : Nat → Nat) (σ : Sg) : Met l y_Pr_pull (Cond.code y_Pr_pull b_Pr_pull 1 (some .int) :: al) { frames := 1, cells := 0, slots := 0, locals := 22 } (Px D cI (wC cI ad) (AC ad) σ [.ref (ad 9)]) (va_Qi (fun r u => (r, u) = f_Pr_pull σ ) (Bx D cI (wC cI ad) (AC ad)) (AC ad)) 0 0 (AC ad) := by
  refine Mx l (by decide) (Nat.le_of_ble_eq_true rfl) ?_
  intro p e s m below meth c ls F w hr hlk hl
  have F : CallFix p m c b_Pr_pull 1 s _ al "PictureMachine$Processor" := F
  have hl : lv_has ls 1 [(0, .ref (ad 9))] := hl
  have hcs : (0 : Nat) ≤ 0 ∧ (0 : Nat) ≤ 0 := ⟨Nat.le_refl _, Nat.le_refl _⟩
  refine lv_aload_n (pc := 0) F.1 F.2.1 d_Pr_pull_0 rfl (lv_at hl 0 rfl) ?_
  refine lv_aload_n (pc := 1) F.1 F.2.1 d_Pr_pull_1 rfl (lv_at hl 0 rfl) ?_
  refine gC9_5 (pc := 2) F w (F.2.2.2.2 _ m_281) d_Pr_pull_2 ?_
  refine lv_iconst (pc := 5) (v := 1) F.1 F.2.1 d_Pr_pull_5 (by decide) ?_
  refine lv_iadd (pc := 6) F.1 F.2.1 d_Pr_pull_6 ?_
  refine lv_sipush (pc := 7) (v := 255) F.1 F.2.1 d_Pr_pull_7 (by decide) ?_
  refine lv_iand (pc := 10) F.1 F.2.1 d_Pr_pull_10 ?_
  refine pC9_5 (pc := 11) F w (F.2.2.2.2 _ m_281) d_Pr_pull_11 (fun H locs s1 e_s1 w => ?_)
  refine lv_aload_n (pc := 14) F.1 F.2.1 d_Pr_pull_14 rfl (lv_at hl 0 rfl) ?_
  refine gC9_0 (pc := 15) F w (F.2.2.2.2 _ m_272) d_Pr_pull_15 ?_
  refine gNC1_2 (pc := 18) F w m_234 d_Pr_pull_18 ?_
  refine lv_sipush (pc := 21) (v := 256) F.1 F.2.1 d_Pr_pull_21 (by decide) ?_
  refine lv_aload_n (pc := 24) F.1 F.2.1 d_Pr_pull_24 rfl (lv_at hl 0 rfl) ?_
  refine gC9_5 (pc := 25) F w (F.2.2.2.2 _ m_281) d_Pr_pull_25 ?_
  refine lv_iadd (pc := 28) F.1 F.2.1 d_Pr_pull_28 ?_
  refine Kvi (pc := 29) (As := [.int (256 + (s1 9 5))]) (rest := []) F w (c_Me_at l D cI ad s1 (256 + (s1 9 5))) 4 rfl rfl k_Me_at m_644 (Nat.le_of_ble_eq_true rfl) (Nat.le_of_ble_eq_true rfl) ⟨rfl, rfl⟩ rfl hl.1 rfl (Nat.le_of_ble_eq_true rfl) d_Pr_pull_29 hcs (fun r2 H locs e_r2 w => ?_)
  exact Ri (pc := 32) F hr hlk w (by rw [e_r2, e_s1]; exact Eq.symm (rfl)) d_Pr_pull_32
def f_Pr_branchIf_r13 (r1 : Int32) : Int32 := if 128 ≤ r1 then ((r1 - 256)) else (r1)
def f_Pr_branchIf_r6 (x1 : Int32) (r1 : Int32) (s2 : Sg) : Sg := if x1 = 0 then (s2) else (let v3 := (f_Pr_branchIf_r13 r1); let s4 := sf s2 9 1 (((s2 9 1) + v3) &&& 1023); s4)
def f_Pr_branchIf (σ : Sg) (x1 : Int32) : Sg := let r1 := (f_Pr_nextByte σ).1; let s2 := (f_Pr_nextByte σ).2; let s5 := (f_Pr_branchIf_r6 x1 r1 s2); s5
set_option maxHeartbeats 1000000 in
set_option maxRecDepth 100000 in
theorem c_Pr_branchIf (l : Launch) (D : va_G) (cI : ClassId) (ad : Nat → Nat) (σ : Sg) (x1 : Int32) : Met l y_Pr_branchIf (Cond.code y_Pr_branchIf b_Pr_branchIf 4 none :: al) { frames := 3, cells := 0, slots := 0, locals := 64 } (Px D cI (wC cI ad) (AC ad) σ [.ref (ad 9), .int x1]) (va_Qv (fun u => u = f_Pr_branchIf σ x1) (Bx D cI (wC cI ad) (AC ad)) (AC ad)) 0 0 (AC ad) := by
  refine Mx l (by decide) (Nat.le_of_ble_eq_true rfl) ?_
  intro p e s m below meth c ls F w hr hlk hl
  have F : CallFix p m c b_Pr_branchIf 4 s _ al "PictureMachine$Processor" := F
  have hl : lv_has ls 4 [(0, .ref (ad 9)), (1, .int x1)] := hl
  have hcs : (0 : Nat) ≤ 0 ∧ (0 : Nat) ≤ 0 := ⟨Nat.le_refl _, Nat.le_refl _⟩
  refine lv_aload_n (pc := 0) F.1 F.2.1 d_Pr_branchIf_0 rfl (lv_at hl 0 rfl) ?_
  refine Cvi (pc := 1) (As := []) (rest := []) F w (c_Pr_nextByte l D cI ad σ) 9 rfl rfl k_Pr_nextByte m_649 (Nat.le_of_ble_eq_true rfl) (Nat.le_of_ble_eq_true rfl) ⟨rfl, rfl⟩ rfl hl.1 rfl (Nat.le_of_ble_eq_true rfl) d_Pr_branchIf_1 hcs (fun r1 s2 H locs e_r1 e_s2 w => ?_)
  refine lv_istore_n (pc := 4) F.1 F.2.1 d_Pr_branchIf_4 rfl hl (by decide) rfl (fun ls hl => ?_)
  have hl : lv_has ls 4 [(2, .int r1), (0, .ref (ad 9)), (1, .int x1)] := hl
  refine lv_iload_n (pc := 5) F.1 F.2.1 d_Pr_branchIf_5 rfl (lv_at hl 2 rfl) ?_
  refine cutW (α := Sg) (fun x H locs ls => x = f_Pr_branchIf_r6 x1 r1 s2 ∧ Wx D cI (wC cI ad) (AC ad) (AC ad) s s.heap H locs x ∧ lv_has ls 4 [(0, .ref (ad 9)), (1, .int x1), (2, .int r1)]) (fun x ls => F0 m 40 ls []) ?_ (fun k6 => ?_)
  · rintro s5 H locs ls ⟨ex, w, hl⟩
    have e_s5 := ex
    have w : Wx D cI (wC cI ad) (AC ad) (AC ad) s s.heap H locs s5 := w
    have hl : lv_has ls 4 [(0, .ref (ad 9)), (1, .int x1), (2, .int r1)] := hl
    show W _ _ _ _ _ _ _ _ _ _ _ _ _ _ _ (F0 m 40 ls [])
    exact Rv (pc := 40) F hr hlk w (by rw [e_s5, e_s2, e_r1]; exact Eq.symm (rfl)) d_Pr_branchIf_40
  · refine lv_if_eq (pc := 6) F.1 F.2.1 d_Pr_branchIf_6 (tgt := 40) (by decide) (fun h6 => ?_) (fun h6 => ?_)
    · exact k6 s2 _ _ _ ⟨(by exact Eq.symm (Eq.trans (if_pos h6) (rfl))), w, lv_sub hl [1, 2, 0] rfl⟩
    · refine lv_iload_n (pc := 9) F.1 F.2.1 d_Pr_branchIf_9 rfl (lv_at hl 0 rfl) ?_
      refine lv_sipush (pc := 10) (v := 128) F.1 F.2.1 d_Pr_branchIf_10 (by decide) ?_
      refine cutW (α := Int32) (fun x H locs ls => x = f_Pr_branchIf_r13 r1 ∧ Wx D cI (wC cI ad) (AC ad) (AC ad) s s.heap H locs s2 ∧ lv_has ls 4 [(0, .ref (ad 9)), (1, .int x1), (2, .int r1)]) (fun x ls => F0 m 25 ls [.int x]) ?_ (fun k13 => ?_)
      · rintro v3 H locs ls ⟨ex, w, hl⟩
        have e_v3 := ex
        have w : Wx D cI (wC cI ad) (AC ad) (AC ad) s s.heap H locs s2 := w
        have hl : lv_has ls 4 [(0, .ref (ad 9)), (1, .int x1), (2, .int r1)] := hl
        show W _ _ _ _ _ _ _ _ _ _ _ _ _ _ _ (F0 m 25 ls [.int v3])
        refine lv_istore_n (pc := 25) F.1 F.2.1 d_Pr_branchIf_25 rfl hl (by decide) rfl (fun ls hl => ?_)
        have hl : lv_has ls 4 [(3, .int v3), (0, .ref (ad 9)), (1, .int x1), (2, .int r1)] := hl
        refine lv_aload_n (pc := 26) F.1 F.2.1 d_Pr_branchIf_26 rfl (lv_at hl 1 rfl) ?_
        refine lv_aload_n (pc := 27) F.1 F.2.1 d_Pr_branchIf_27 rfl (lv_at hl 1 rfl) ?_
        refine gC9_1 (pc := 28) F w (F.2.2.2.2 _ m_273) d_Pr_branchIf_28 ?_
        refine lv_iload_n (pc := 31) F.1 F.2.1 d_Pr_branchIf_31 rfl (lv_at hl 0 rfl) ?_
        refine lv_iadd (pc := 32) F.1 F.2.1 d_Pr_branchIf_32 ?_
        refine lv_sipush (pc := 33) (v := 1023) F.1 F.2.1 d_Pr_branchIf_33 (by decide) ?_
        refine lv_iand (pc := 36) F.1 F.2.1 d_Pr_branchIf_36 ?_
        refine pC9_1 (pc := 37) F w (F.2.2.2.2 _ m_273) d_Pr_branchIf_37 (fun H locs s4 e_s4 w => ?_)
        exact k6 s4 _ _ _ ⟨(by rw [e_s4, e_v3]; exact Eq.symm (Eq.trans (if_neg h6) (rfl))), w, lv_sub hl [1, 2, 3] rfl⟩
      · refine lv_icmp_ge (pc := 13) F.1 F.2.1 d_Pr_branchIf_13 (tgt := 20) (by decide) (fun h13 => ?_) (fun h13 => ?_)
        · refine lv_iload_n (pc := 20) F.1 F.2.1 d_Pr_branchIf_20 rfl (lv_at hl 0 rfl) ?_
          refine lv_sipush (pc := 21) (v := 256) F.1 F.2.1 d_Pr_branchIf_21 (by decide) ?_
          refine lv_isub (pc := 24) F.1 F.2.1 d_Pr_branchIf_24 ?_
          exact k13 (r1 - 256) _ _ _ ⟨(by exact Eq.symm (Eq.trans (if_pos h13) (rfl))), w, lv_sub hl [1, 2, 0] rfl⟩
        · refine lv_iload_n (pc := 16) F.1 F.2.1 d_Pr_branchIf_16 rfl (lv_at hl 0 rfl) ?_
          refine lv_goto (pc := 17) F.1 F.2.1 d_Pr_branchIf_17 (tgt := 25) (by decide) ?_
          exact k13 r1 _ _ _ ⟨(by exact Eq.symm (Eq.trans (if_neg h13) (rfl))), w, lv_sub hl [1, 2, 0] rfl⟩
def f_Pr_callPart (σ : Sg) (x1 : Int32) : Sg := let s1 := f_Pr_pushPlace σ (((σ 9 1) - 1) &&& 1023); let s2 := sf s1 9 1 (x1 &&& 1023); s2
set_option maxHeartbeats 1000000 in
set_option maxRecDepth 100000 in
theorem c_Pr_callPart (l : Launch) (D : va_G) (cI : ClassId) (ad : Nat → Nat) (σ : Sg) (x1 : Int32) : Met l y_Pr_callPart (Cond.code y_Pr_callPart b_Pr_callPart 2 none :: al) { frames := 3, cells := 0, slots := 0, locals := 65 } (Px D cI (wC cI ad) (AC ad) σ [.ref (ad 9), .int x1]) (va_Qv (fun u => u = f_Pr_callPart σ x1) (Bx D cI (wC cI ad) (AC ad)) (AC ad)) 0 0 (AC ad) := by
  refine Mx l (by decide) (Nat.le_of_ble_eq_true rfl) ?_
  intro p e s m below meth c ls F w hr hlk hl
  have F : CallFix p m c b_Pr_callPart 2 s _ al "PictureMachine$Processor" := F
  have hl : lv_has ls 2 [(0, .ref (ad 9)), (1, .int x1)] := hl
  have hcs : (0 : Nat) ≤ 0 ∧ (0 : Nat) ≤ 0 := ⟨Nat.le_refl _, Nat.le_refl _⟩
  refine lv_aload_n (pc := 0) F.1 F.2.1 d_Pr_callPart_0 rfl (lv_at hl 0 rfl) ?_
  refine lv_aload_n (pc := 1) F.1 F.2.1 d_Pr_callPart_1 rfl (lv_at hl 0 rfl) ?_
  refine gC9_1 (pc := 2) F w (F.2.2.2.2 _ m_273) d_Pr_callPart_2 ?_
  refine lv_iconst (pc := 5) (v := 1) F.1 F.2.1 d_Pr_callPart_5 (by decide) ?_
  refine lv_isub (pc := 6) F.1 F.2.1 d_Pr_callPart_6 ?_
  refine lv_sipush (pc := 7) (v := 1023) F.1 F.2.1 d_Pr_callPart_7 (by decide) ?_
  refine lv_iand (pc := 10) F.1 F.2.1 d_Pr_callPart_10 ?_
  refine Cvv (pc := 11) (As := [.int (((σ 9 1) - 1) &&& 1023)]) (rest := []) F w (c_Pr_pushPlace l D cI ad σ (((σ 9 1) - 1) &&& 1023)) 9 rfl rfl k_Pr_pushPlace m_634 (Nat.le_of_ble_eq_true rfl) (Nat.le_of_ble_eq_true rfl) ⟨rfl, rfl⟩ rfl hl.1 rfl (Nat.le_of_ble_eq_true rfl) d_Pr_callPart_11 hcs (fun s1 H locs e_s1 w => ?_)
  refine lv_aload_n (pc := 14) F.1 F.2.1 d_Pr_callPart_14 rfl (lv_at hl 0 rfl) ?_
  refine lv_iload_n (pc := 15) F.1 F.2.1 d_Pr_callPart_15 rfl (lv_at hl 1 rfl) ?_
  refine lv_sipush (pc := 16) (v := 1023) F.1 F.2.1 d_Pr_callPart_16 (by decide) ?_
  refine lv_iand (pc := 19) F.1 F.2.1 d_Pr_callPart_19 ?_
  refine pC9_1 (pc := 20) F w (F.2.2.2.2 _ m_273) d_Pr_callPart_20 (fun H locs s2 e_s2 w => ?_)
  exact Rv (pc := 23) F hr hlk w (by rw [e_s2, e_s1]; exact Eq.symm (rfl)) d_Pr_callPart_23
def f_Pr_pullPlace (σ : Sg) : Int32 × Sg := let r1 := (f_Pr_pull σ).1; let s2 := (f_Pr_pull σ).2; let r3 := (f_Pr_pull s2).1; let s4 := (f_Pr_pull s2).2; ((r1 + (256 * r3)), s4)
set_option maxHeartbeats 1000000 in
set_option maxRecDepth 100000 in
theorem c_Pr_pullPlace (l : Launch) (D : va_G) (cI : ClassId) (ad : Nat → Nat) (σ : Sg) : Met l y_Pr_pullPlace (Cond.code y_Pr_pullPlace b_Pr_pullPlace 2 (some .int) :: al) { frames := 2, cells := 0, slots := 0, locals := 42 } (Px D cI (wC cI ad) (AC ad) σ [.ref (ad 9)]) (va_Qi (fun r u => (r, u) = f_Pr_pullPlace σ ) (Bx D cI (wC cI ad) (AC ad)) (AC ad)) 0 0 (AC ad) := by
  refine Mx l (by decide) (Nat.le_of_ble_eq_true rfl) ?_
  intro p e s m below meth c ls F w hr hlk hl
  have F : CallFix p m c b_Pr_pullPlace 2 s _ al "PictureMachine$Processor" := F
  have hl : lv_has ls 2 [(0, .ref (ad 9))] := hl
  have hcs : (0 : Nat) ≤ 0 ∧ (0 : Nat) ≤ 0 := ⟨Nat.le_refl _, Nat.le_refl _⟩
  refine lv_aload_n (pc := 0) F.1 F.2.1 d_Pr_pullPlace_0 rfl (lv_at hl 0 rfl) ?_
  refine Cvi (pc := 1) (As := []) (rest := []) F w (c_Pr_pull l D cI ad σ) 9 rfl rfl k_Pr_pull m_674 (Nat.le_of_ble_eq_true rfl) (Nat.le_of_ble_eq_true rfl) ⟨rfl, rfl⟩ rfl hl.1 rfl (Nat.le_of_ble_eq_true rfl) d_Pr_pullPlace_1 hcs (fun r1 s2 H locs e_r1 e_s2 w => ?_)
  refine lv_istore_n (pc := 4) F.1 F.2.1 d_Pr_pullPlace_4 rfl hl (by decide) rfl (fun ls hl => ?_)
  have hl : lv_has ls 2 [(1, .int r1), (0, .ref (ad 9))] := hl
  refine lv_iload_n (pc := 5) F.1 F.2.1 d_Pr_pullPlace_5 rfl (lv_at hl 0 rfl) ?_
  refine lv_sipush (pc := 6) (v := 256) F.1 F.2.1 d_Pr_pullPlace_6 (by decide) ?_
  refine lv_aload_n (pc := 9) F.1 F.2.1 d_Pr_pullPlace_9 rfl (lv_at hl 1 rfl) ?_
  refine Cvi (pc := 10) (As := []) (rest := [.int 256, .int r1]) F w (c_Pr_pull l D cI ad s2) 9 rfl rfl k_Pr_pull m_674 (Nat.le_of_ble_eq_true rfl) (Nat.le_of_ble_eq_true rfl) ⟨rfl, rfl⟩ rfl hl.1 rfl (Nat.le_of_ble_eq_true rfl) d_Pr_pullPlace_10 hcs (fun r3 s4 H locs e_r3 e_s4 w => ?_)
  refine lv_imul (pc := 13) F.1 F.2.1 d_Pr_pullPlace_13 ?_
  refine lv_iadd (pc := 14) F.1 F.2.1 d_Pr_pullPlace_14 ?_
  exact Ri (pc := 15) F hr hlk w (by rw [e_s4, e_r3, e_s2, e_r1]; exact Eq.symm (rfl)) d_Pr_pullPlace_15
def f_Pr_returnFromNmi_r11 (r1 : Int32) : Int32 := if (r1 &&& 128) = 0 then (0) else (1)
def f_Pr_returnFromNmi_r26 (r1 : Int32) : Int32 := if (r1 &&& 2) = 0 then (0) else (1)
def f_Pr_returnFromNmi_r41 (r1 : Int32) : Int32 := if (r1 &&& 1) = 0 then (0) else (1)
def f_Pr_returnFromNmi (σ : Sg) : Sg := let r1 := (f_Pr_pull σ).1; let s2 := (f_Pr_pull σ).2; let v3 := (f_Pr_returnFromNmi_r11 r1); let s4 := sf s2 9 6 v3; let v5 := (f_Pr_returnFromNmi_r26 r1); let s6 := sf s4 9 7 v5; let v7 := (f_Pr_returnFromNmi_r41 r1); let s8 := sf s6 9 8 v7; let r9 := (f_Pr_pullPlace s8).1; let s10 := (f_Pr_pullPlace s8).2; let s11 := sf s10 9 1 (r9 &&& 1023); s11
theorem z_f_Pr_returnFromNmi_r11_0 (r1 : Int32) : (f_Pr_returnFromNmi_r11 r1) = 0 ∨ (f_Pr_returnFromNmi_r11 r1) = 1 := by unfold f_Pr_returnFromNmi_r11; (try dsimp only); (repeat' split) <;> first | exact Or.inl rfl | exact Or.inr rfl
theorem z_f_Pr_returnFromNmi_r26_0 (r1 : Int32) : (f_Pr_returnFromNmi_r26 r1) = 0 ∨ (f_Pr_returnFromNmi_r26 r1) = 1 := by unfold f_Pr_returnFromNmi_r26; (try dsimp only); (repeat' split) <;> first | exact Or.inl rfl | exact Or.inr rfl | apply z_f_Pr_returnFromNmi_r11_0
theorem z_f_Pr_returnFromNmi_r41_0 (r1 : Int32) : (f_Pr_returnFromNmi_r41 r1) = 0 ∨ (f_Pr_returnFromNmi_r41 r1) = 1 := by unfold f_Pr_returnFromNmi_r41; (try dsimp only); (repeat' split) <;> first | exact Or.inl rfl | exact Or.inr rfl | apply z_f_Pr_returnFromNmi_r26_0 | apply z_f_Pr_returnFromNmi_r11_0
set_option maxHeartbeats 1000000 in
set_option maxRecDepth 100000 in
theorem c_Pr_returnFromNmi (l : Launch) (D : va_G) (cI : ClassId) (ad : Nat → Nat) (σ : Sg) : Met l y_Pr_returnFromNmi (Cond.code y_Pr_returnFromNmi b_Pr_returnFromNmi 2 none :: al) { frames := 3, cells := 0, slots := 0, locals := 63 } (Px D cI (wC cI ad) (AC ad) σ [.ref (ad 9)]) (va_Qv (fun u => u = f_Pr_returnFromNmi σ ) (Bx D cI (wC cI ad) (AC ad)) (AC ad)) 0 0 (AC ad) := by
  refine Mx l (by decide) (Nat.le_of_ble_eq_true rfl) ?_
  intro p e s m below meth c ls F w hr hlk hl
  have F : CallFix p m c b_Pr_returnFromNmi 2 s _ al "PictureMachine$Processor" := F
  have hl : lv_has ls 2 [(0, .ref (ad 9))] := hl
  have hcs : (0 : Nat) ≤ 0 ∧ (0 : Nat) ≤ 0 := ⟨Nat.le_refl _, Nat.le_refl _⟩
  refine lv_aload_n (pc := 0) F.1 F.2.1 d_Pr_returnFromNmi_0 rfl (lv_at hl 0 rfl) ?_
  refine Cvi (pc := 1) (As := []) (rest := []) F w (c_Pr_pull l D cI ad σ) 9 rfl rfl k_Pr_pull m_674 (Nat.le_of_ble_eq_true rfl) (Nat.le_of_ble_eq_true rfl) ⟨rfl, rfl⟩ rfl hl.1 rfl (Nat.le_of_ble_eq_true rfl) d_Pr_returnFromNmi_1 hcs (fun r1 s2 H locs e_r1 e_s2 w => ?_)
  refine lv_istore_n (pc := 4) F.1 F.2.1 d_Pr_returnFromNmi_4 rfl hl (by decide) rfl (fun ls hl => ?_)
  have hl : lv_has ls 2 [(1, .int r1), (0, .ref (ad 9))] := hl
  refine lv_aload_n (pc := 5) F.1 F.2.1 d_Pr_returnFromNmi_5 rfl (lv_at hl 1 rfl) ?_
  refine lv_iload_n (pc := 6) F.1 F.2.1 d_Pr_returnFromNmi_6 rfl (lv_at hl 0 rfl) ?_
  refine lv_sipush (pc := 7) (v := 128) F.1 F.2.1 d_Pr_returnFromNmi_7 (by decide) ?_
  refine lv_iand (pc := 10) F.1 F.2.1 d_Pr_returnFromNmi_10 ?_
  refine cutW (α := Int32) (fun x H locs ls => x = f_Pr_returnFromNmi_r11 r1 ∧ Wx D cI (wC cI ad) (AC ad) (AC ad) s s.heap H locs s2 ∧ lv_has ls 2 [(0, .ref (ad 9)), (1, .int r1)]) (fun x ls => F0 m 19 ls [.int x, .ref (ad 9)]) ?_ (fun k11 => ?_)
  · rintro v3 H locs ls ⟨ex, w, hl⟩
    have e_v3 := ex
    have w : Wx D cI (wC cI ad) (AC ad) (AC ad) s s.heap H locs s2 := w
    have hl : lv_has ls 2 [(0, .ref (ad 9)), (1, .int r1)] := hl
    show W _ _ _ _ _ _ _ _ _ _ _ _ _ _ _ (F0 m 19 ls [.int v3, .ref (ad 9)])
    refine pC9_6 (pc := 19) F w (e_v3 ▸ z_f_Pr_returnFromNmi_r11_0 r1) (F.2.2.2.2 _ m_283) d_Pr_returnFromNmi_19 (fun H locs s4 e_s4 w => ?_)
    refine lv_aload_n (pc := 22) F.1 F.2.1 d_Pr_returnFromNmi_22 rfl (lv_at hl 0 rfl) ?_
    refine lv_iload_n (pc := 23) F.1 F.2.1 d_Pr_returnFromNmi_23 rfl (lv_at hl 1 rfl) ?_
    refine lv_iconst (pc := 24) (v := 2) F.1 F.2.1 d_Pr_returnFromNmi_24 (by decide) ?_
    refine lv_iand (pc := 25) F.1 F.2.1 d_Pr_returnFromNmi_25 ?_
    refine cutW (α := Int32) (fun x H locs ls => x = f_Pr_returnFromNmi_r26 r1 ∧ Wx D cI (wC cI ad) (AC ad) (AC ad) s s.heap H locs s4 ∧ lv_has ls 2 [(0, .ref (ad 9)), (1, .int r1)]) (fun x ls => F0 m 34 ls [.int x, .ref (ad 9)]) ?_ (fun k26 => ?_)
    · rintro v5 H locs ls ⟨ex, w, hl⟩
      have e_v5 := ex
      have w : Wx D cI (wC cI ad) (AC ad) (AC ad) s s.heap H locs s4 := w
      have hl : lv_has ls 2 [(0, .ref (ad 9)), (1, .int r1)] := hl
      show W _ _ _ _ _ _ _ _ _ _ _ _ _ _ _ (F0 m 34 ls [.int v5, .ref (ad 9)])
      refine pC9_7 (pc := 34) F w (e_v5 ▸ z_f_Pr_returnFromNmi_r26_0 r1) (F.2.2.2.2 _ m_284) d_Pr_returnFromNmi_34 (fun H locs s6 e_s6 w => ?_)
      refine lv_aload_n (pc := 37) F.1 F.2.1 d_Pr_returnFromNmi_37 rfl (lv_at hl 0 rfl) ?_
      refine lv_iload_n (pc := 38) F.1 F.2.1 d_Pr_returnFromNmi_38 rfl (lv_at hl 1 rfl) ?_
      refine lv_iconst (pc := 39) (v := 1) F.1 F.2.1 d_Pr_returnFromNmi_39 (by decide) ?_
      refine lv_iand (pc := 40) F.1 F.2.1 d_Pr_returnFromNmi_40 ?_
      refine cutW (α := Int32) (fun x H locs ls => x = f_Pr_returnFromNmi_r41 r1 ∧ Wx D cI (wC cI ad) (AC ad) (AC ad) s s.heap H locs s6 ∧ lv_has ls 2 [(0, .ref (ad 9)), (1, .int r1)]) (fun x ls => F0 m 49 ls [.int x, .ref (ad 9)]) ?_ (fun k41 => ?_)
      · rintro v7 H locs ls ⟨ex, w, hl⟩
        have e_v7 := ex
        have w : Wx D cI (wC cI ad) (AC ad) (AC ad) s s.heap H locs s6 := w
        have hl : lv_has ls 2 [(0, .ref (ad 9)), (1, .int r1)] := hl
        show W _ _ _ _ _ _ _ _ _ _ _ _ _ _ _ (F0 m 49 ls [.int v7, .ref (ad 9)])
        refine pC9_8 (pc := 49) F w (e_v7 ▸ z_f_Pr_returnFromNmi_r41_0 r1) (F.2.2.2.2 _ m_285) d_Pr_returnFromNmi_49 (fun H locs s8 e_s8 w => ?_)
        refine lv_aload_n (pc := 52) F.1 F.2.1 d_Pr_returnFromNmi_52 rfl (lv_at hl 0 rfl) ?_
        refine lv_aload_n (pc := 53) F.1 F.2.1 d_Pr_returnFromNmi_53 rfl (lv_at hl 0 rfl) ?_
        refine Cvi (pc := 54) (As := []) (rest := [.ref (ad 9)]) F w (c_Pr_pullPlace l D cI ad s8) 9 rfl rfl k_Pr_pullPlace m_686 (Nat.le_of_ble_eq_true rfl) (Nat.le_of_ble_eq_true rfl) ⟨rfl, rfl⟩ rfl hl.1 rfl (Nat.le_of_ble_eq_true rfl) d_Pr_returnFromNmi_54 hcs (fun r9 s10 H locs e_r9 e_s10 w => ?_)
        refine lv_sipush (pc := 57) (v := 1023) F.1 F.2.1 d_Pr_returnFromNmi_57 (by decide) ?_
        refine lv_iand (pc := 60) F.1 F.2.1 d_Pr_returnFromNmi_60 ?_
        refine pC9_1 (pc := 61) F w (F.2.2.2.2 _ m_273) d_Pr_returnFromNmi_61 (fun H locs s11 e_s11 w => ?_)
        exact Rv (pc := 64) F hr hlk w (by rw [e_s11, e_s10, e_r9, e_s8, e_v7, e_s6, e_v5, e_s4, e_v3, e_s2, e_r1]; exact Eq.symm (rfl)) d_Pr_returnFromNmi_64
      · refine lv_if_eq (pc := 41) F.1 F.2.1 d_Pr_returnFromNmi_41 (tgt := 48) (by decide) (fun h41 => ?_) (fun h41 => ?_)
        · refine lv_iconst (pc := 48) (v := 0) F.1 F.2.1 d_Pr_returnFromNmi_48 (by decide) ?_
          exact k41 0 _ _ _ ⟨(by exact Eq.symm (Eq.trans (if_pos h41) (rfl))), w, lv_sub hl [0, 1] rfl⟩
        · refine lv_iconst (pc := 44) (v := 1) F.1 F.2.1 d_Pr_returnFromNmi_44 (by decide) ?_
          refine lv_goto (pc := 45) F.1 F.2.1 d_Pr_returnFromNmi_45 (tgt := 49) (by decide) ?_
          exact k41 1 _ _ _ ⟨(by exact Eq.symm (Eq.trans (if_neg h41) (rfl))), w, lv_sub hl [0, 1] rfl⟩
    · refine lv_if_eq (pc := 26) F.1 F.2.1 d_Pr_returnFromNmi_26 (tgt := 33) (by decide) (fun h26 => ?_) (fun h26 => ?_)
      · refine lv_iconst (pc := 33) (v := 0) F.1 F.2.1 d_Pr_returnFromNmi_33 (by decide) ?_
        exact k26 0 _ _ _ ⟨(by exact Eq.symm (Eq.trans (if_pos h26) (rfl))), w, lv_sub hl [0, 1] rfl⟩
      · refine lv_iconst (pc := 29) (v := 1) F.1 F.2.1 d_Pr_returnFromNmi_29 (by decide) ?_
        refine lv_goto (pc := 30) F.1 F.2.1 d_Pr_returnFromNmi_30 (tgt := 34) (by decide) ?_
        exact k26 1 _ _ _ ⟨(by exact Eq.symm (Eq.trans (if_neg h26) (rfl))), w, lv_sub hl [0, 1] rfl⟩
  · refine lv_if_eq (pc := 11) F.1 F.2.1 d_Pr_returnFromNmi_11 (tgt := 18) (by decide) (fun h11 => ?_) (fun h11 => ?_)
    · refine lv_iconst (pc := 18) (v := 0) F.1 F.2.1 d_Pr_returnFromNmi_18 (by decide) ?_
      exact k11 0 _ _ _ ⟨(by exact Eq.symm (Eq.trans (if_pos h11) (rfl))), w, lv_sub hl [1, 0] rfl⟩
    · refine lv_iconst (pc := 14) (v := 1) F.1 F.2.1 d_Pr_returnFromNmi_14 (by decide) ?_
      refine lv_goto (pc := 15) F.1 F.2.1 d_Pr_returnFromNmi_15 (tgt := 19) (by decide) ?_
      exact k11 1 _ _ _ ⟨(by exact Eq.symm (Eq.trans (if_neg h11) (rfl))), w, lv_sub hl [1, 0] rfl⟩
def f_Pr_jam (σ : Sg) : Sg := let s1 := sf σ 9 9 1; let s2 := sf s1 9 1 (((s1 9 1) - 1) &&& 1023); s2
set_option maxHeartbeats 1000000 in
set_option maxRecDepth 100000 in
theorem c_Pr_jam (l : Launch) (D : va_G) (cI : ClassId) (ad : Nat → Nat) (σ : Sg) : Met l y_Pr_jam (Cond.code y_Pr_jam b_Pr_jam 1 none :: al) { frames := 0, cells := 0, slots := 0, locals := 0 } (Px D cI (wC cI ad) (AC ad) σ [.ref (ad 9)]) (va_Qv (fun u => u = f_Pr_jam σ ) (Bx D cI (wC cI ad) (AC ad)) (AC ad)) 0 0 (AC ad) := by
  refine Mx l (by decide) (Nat.le_of_ble_eq_true rfl) ?_
  intro p e s m below meth c ls F w hr hlk hl
  have F : CallFix p m c b_Pr_jam 1 s _ al "PictureMachine$Processor" := F
  have hl : lv_has ls 1 [(0, .ref (ad 9))] := hl
  refine lv_aload_n (pc := 0) F.1 F.2.1 d_Pr_jam_0 rfl (lv_at hl 0 rfl) ?_
  refine lv_iconst (pc := 1) (v := 1) F.1 F.2.1 d_Pr_jam_1 (by decide) ?_
  refine pC9_9 (pc := 2) F w (Or.inr rfl) (F.2.2.2.2 _ m_286) d_Pr_jam_2 (fun H locs s1 e_s1 w => ?_)
  refine lv_aload_n (pc := 5) F.1 F.2.1 d_Pr_jam_5 rfl (lv_at hl 0 rfl) ?_
  refine lv_aload_n (pc := 6) F.1 F.2.1 d_Pr_jam_6 rfl (lv_at hl 0 rfl) ?_
  refine gC9_1 (pc := 7) F w (F.2.2.2.2 _ m_273) d_Pr_jam_7 ?_
  refine lv_iconst (pc := 10) (v := 1) F.1 F.2.1 d_Pr_jam_10 (by decide) ?_
  refine lv_isub (pc := 11) F.1 F.2.1 d_Pr_jam_11 ?_
  refine lv_sipush (pc := 12) (v := 1023) F.1 F.2.1 d_Pr_jam_12 (by decide) ?_
  refine lv_iand (pc := 15) F.1 F.2.1 d_Pr_jam_15 ?_
  refine pC9_1 (pc := 16) F w (F.2.2.2.2 _ m_273) d_Pr_jam_16 (fun H locs s2 e_s2 w => ?_)
  exact Rv (pc := 19) F hr hlk w (by rw [e_s2, e_s1]; exact Eq.symm (rfl)) d_Pr_jam_19
