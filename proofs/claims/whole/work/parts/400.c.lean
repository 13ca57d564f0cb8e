def f_Mo_thrown (σ : Sg) : Int32 := (σ 0 0)
set_option maxHeartbeats 1000000 in
set_option maxRecDepth 100000 in
theorem c_Mo_thrown (l : Launch) (D : va_G) (cI : ClassId) (am : Nat → Nat) (σ : Sg) : Met l y_Mo_thrown (Cond.code y_Mo_thrown b_Mo_thrown 1 (some .int) :: al) { frames := 0, cells := 0, slots := 0, locals := 0 } (Px D cI (wM cI am) (AM am) σ [.ref (am 0)]) (va_Qi (fun r u => r = f_Mo_thrown σ  ∧ u = σ) (Bx D cI (wM cI am) (AM am)) (AM am)) 0 0 (AM am) := by
  refine Mx l (by decide) (Nat.le_of_ble_eq_true rfl) ?_
  intro p e s m below meth c ls F w hr hlk hl
  have F : CallFix p m c b_Mo_thrown 1 s _ al "PictureMachineModel" := F
  have hl : lv_has ls 1 [(0, .ref (am 0))] := hl
  refine lv_aload_n (pc := 0) F.1 F.2.1 d_Mo_thrown_0 rfl (lv_at hl 0 rfl) ?_
  refine gM0_0 (pc := 1) F w (F.2.2.2.2 _ m_775) d_Mo_thrown_1 ?_
  exact Ki (pc := 4) F hr hlk w (by exact Eq.symm (rfl)) d_Mo_thrown_4
def f_Mo_in_r2 (x1 : Int32) (x2 : Int32) (x3 : Int32) : Int32 := if x1 < x2 then (0) else (if x3 < x1 then (0) else (1))
def f_Mo_in  (x1 : Int32) (x2 : Int32) (x3 : Int32) : Int32 := let v1 := (f_Mo_in_r2 x1 x2 x3); v1
theorem z_f_Mo_in_r2_0 (x1 : Int32) (x2 : Int32) (x3 : Int32) : (f_Mo_in_r2 x1 x2 x3) = 0 ∨ (f_Mo_in_r2 x1 x2 x3) = 1 := by unfold f_Mo_in_r2; (try dsimp only); (repeat' split) <;> first | exact Or.inl rfl | exact Or.inr rfl
theorem z_Mo_in  (x1 : Int32) (x2 : Int32) (x3 : Int32) : (f_Mo_in x1 x2 x3) = 0 ∨ (f_Mo_in x1 x2 x3) = 1 := by unfold f_Mo_in; (try dsimp only); (repeat' split) <;> first | exact Or.inl rfl | exact Or.inr rfl | apply z_f_Mo_in_r2_0
set_option maxHeartbeats 1000000 in
set_option maxRecDepth 100000 in
theorem c_Mo_in (l : Launch)  (x1 : Int32) (x2 : Int32) (x3 : Int32) : Met l y_Mo_in (Cond.code y_Mo_in b_Mo_in 3 (some .boolean) :: al) { frames := 0, cells := 0, slots := 0, locals := 0 } (PU [.int x1, .int x2, .int x3]) (QU (f_Mo_in x1 x2 x3)) 0 0 (fun _ => False) := by
  refine Mu l (by decide) (Nat.le_of_ble_eq_true rfl) ?_
  intro p e s m below meth c ls F hr hlk hl
  have F : CallFix p m c b_Mo_in 3 s _ al "PictureMachineModel" := F
  generalize hH : s.heap = H
  generalize hlo : ([] : List Loc) = locs
  have w : (H = s.heap ∧ locs = []) := ⟨hH.symm, hlo.symm⟩
  have hl : lv_has ls 3 [(0, .int x1), (1, .int x2), (2, .int x3)] := hl
  refine lv_iload_n (pc := 0) F.1 F.2.1 d_Mo_in_0 rfl (lv_at hl 0 rfl) ?_
  refine lv_iload_n (pc := 1) F.1 F.2.1 d_Mo_in_1 rfl (lv_at hl 1 rfl) ?_
  refine cutW (α := Int32) (fun x H locs ls => x = f_Mo_in_r2 x1 x2 x3 ∧ (H = s.heap ∧ locs = []) ∧ lv_has ls 3 [(0, .int x1), (1, .int x2), (2, .int x3)]) (fun x ls => F0 m 15 ls [.int x]) ?_ (fun k2 => ?_)
  · rintro v1 H locs ls ⟨ex, w, hl⟩
    have e_v1 := ex
    have w : (H = s.heap ∧ locs = []) := w
    have hl : lv_has ls 3 [(0, .int x1), (1, .int x2), (2, .int x3)] := hl
    show W _ _ _ _ _ _ _ _ _ _ _ _ _ _ _ (F0 m 15 ls [.int v1])
    exact Uz (pc := 15) F w hr hlk (e_v1 ▸ z_f_Mo_in_r2_0 x1 x2 x3) (by rw [e_v1]; exact Eq.symm (rfl)) d_Mo_in_15
  · refine lv_icmp_lt (pc := 2) F.1 F.2.1 d_Mo_in_2 (tgt := 14) (by decide) (fun h2 => ?_) (fun h2 => ?_)
    · refine lv_iconst (pc := 14) (v := 0) F.1 F.2.1 d_Mo_in_14 (by decide) ?_
      exact k2 0 _ _ _ ⟨(by exact Eq.symm (Eq.trans (if_pos h2) (rfl))), w, lv_sub hl [0, 1, 2] rfl⟩
    · refine lv_iload_n (pc := 5) F.1 F.2.1 d_Mo_in_5 rfl (lv_at hl 0 rfl) ?_
      refine lv_iload_n (pc := 6) F.1 F.2.1 d_Mo_in_6 rfl (lv_at hl 2 rfl) ?_
      refine lv_icmp_gt (pc := 7) F.1 F.2.1 d_Mo_in_7 (tgt := 14) (by decide) (fun h7 => ?_) (fun h7 => ?_)
      · refine lv_iconst (pc := 14) (v := 0) F.1 F.2.1 d_Mo_in_14 (by decide) ?_
        exact k2 0 _ _ _ ⟨(by exact Eq.symm (Eq.trans (if_neg h2) (Eq.trans (if_pos h7) (rfl)))), w, lv_sub hl [0, 1, 2] rfl⟩
      · refine lv_iconst (pc := 10) (v := 1) F.1 F.2.1 d_Mo_in_10 (by decide) ?_
        refine lv_goto (pc := 11) F.1 F.2.1 d_Mo_in_11 (tgt := 15) (by decide) ?_
        exact k2 1 _ _ _ ⟨(by exact Eq.symm (Eq.trans (if_neg h2) (Eq.trans (if_neg h7) (rfl)))), w, lv_sub hl [0, 1, 2] rfl⟩
theorem in_ok {x a b : Int32} (h : ¬ f_Mo_in x a b = 0) : a.toInt ≤ x.toInt ∧ x.toInt ≤ b.toInt := by
  by_cases h1 : x < a
  · exact absurd (show f_Mo_in x a b = 0 from if_pos h1) h
  by_cases h2 : b < x
  · exact absurd (show f_Mo_in x a b = 0 from (if_neg h1).trans (if_pos h2)) h
  rw [ti_lt] at h1 h2
  exact ⟨by omega, by omega⟩
theorem in_767 {x : Int32} (h : ¬ f_Mo_in x 0 767 = 0) : vp_in x 768 := bt_in (a := 0) (b := 767) (in_ok h) (by decide) (by decide)
theorem in_31 {x : Int32} (h : ¬ f_Mo_in x 0 31 = 0) : vp_in x 32 := bt_in (a := 0) (b := 31) (in_ok h) (by decide) (by decide)
def f_Mo_isByte  (x1 : Int32) : Int32 := let r1 := f_Mo_in x1 0 255; r1
theorem z_Mo_isByte  (x1 : Int32) : (f_Mo_isByte x1) = 0 ∨ (f_Mo_isByte x1) = 1 := by unfold f_Mo_isByte; (try dsimp only); (repeat' split) <;> first | exact Or.inl rfl | exact Or.inr rfl | apply z_Mo_in
set_option maxHeartbeats 1000000 in
set_option maxRecDepth 100000 in
theorem c_Mo_isByte (l : Launch)  (x1 : Int32) : Met l y_Mo_isByte (Cond.code y_Mo_isByte b_Mo_isByte 1 (some .boolean) :: al) { frames := 1, cells := 0, slots := 0, locals := 22 } (PU [.int x1]) (QU (f_Mo_isByte x1)) 0 0 (fun _ => False) := by
  refine Mu l (by decide) (Nat.le_of_ble_eq_true rfl) ?_
  intro p e s m below meth c ls F hr hlk hl
  have F : CallFix p m c b_Mo_isByte 1 s _ al "PictureMachineModel" := F
  generalize hH : s.heap = H
  generalize hlo : ([] : List Loc) = locs
  have w : (H = s.heap ∧ locs = []) := ⟨hH.symm, hlo.symm⟩
  have hl : lv_has ls 1 [(0, .int x1)] := hl
  have hcs : (0 : Nat) ≤ 0 ∧ (0 : Nat) ≤ 0 := ⟨Nat.le_refl _, Nat.le_refl _⟩
  refine lv_iload_n (pc := 0) F.1 F.2.1 d_Mo_isByte_0 rfl (lv_at hl 0 rfl) ?_
  refine lv_iconst (pc := 1) (v := 0) F.1 F.2.1 d_Mo_isByte_1 (by decide) ?_
  refine lv_sipush (pc := 2) (v := 255) F.1 F.2.1 d_Mo_isByte_2 (by decide) ?_
  refine Usi (pc := 5) (As := [.int x1, .int 0, .int 255]) (rest := []) F (c_Mo_in l x1 0 255) k_Mo_in m_931 (Nat.le_of_ble_eq_true rfl) (Nat.le_of_ble_eq_true rfl) ⟨rfl, rfl⟩ rfl hl.1 rfl (Nat.le_of_ble_eq_true rfl) d_Mo_isByte_5 hcs (fun r1 e_r1 => ?_)
  exact Uz (pc := 8) F w hr hlk (e_r1 ▸ z_Mo_in x1 0 255) (by rw [e_r1]; exact Eq.symm (rfl)) d_Mo_isByte_8
def f_Mo_fails (σ : Sg) : Int32 × Sg := let s1 := sf σ 0 0 1; (0, s1)
set_option maxHeartbeats 1000000 in
set_option maxRecDepth 100000 in
theorem c_Mo_fails (l : Launch) (D : va_G) (cI : ClassId) (am : Nat → Nat) (σ : Sg) : Met l y_Mo_fails (Cond.code y_Mo_fails b_Mo_fails 1 (some .int) :: al) { frames := 0, cells := 0, slots := 0, locals := 0 } (Px D cI (wM cI am) (AM am) σ [.ref (am 0)]) (va_Qi (fun r u => (r, u) = f_Mo_fails σ ) (Bx D cI (wM cI am) (AM am)) (AM am)) 0 0 (AM am) := by
  refine Mx l (by decide) (Nat.le_of_ble_eq_true rfl) ?_
  intro p e s m below meth c ls F w hr hlk hl
  have F : CallFix p m c b_Mo_fails 1 s _ al "PictureMachineModel" := F
  have hl : lv_has ls 1 [(0, .ref (am 0))] := hl
  refine lv_aload_n (pc := 0) F.1 F.2.1 d_Mo_fails_0 rfl (lv_at hl 0 rfl) ?_
  refine lv_iconst (pc := 1) (v := 1) F.1 F.2.1 d_Mo_fails_1 (by decide) ?_
  refine pM0_0 (pc := 2) F w (F.2.2.2.2 _ m_775) d_Mo_fails_2 (fun H locs s1 e_s1 w => ?_)
  refine lv_iconst (pc := 5) (v := 0) F.1 F.2.1 d_Mo_fails_5 (by decide) ?_
  exact Ri (pc := 6) F hr hlk w (by rw [e_s1]; exact Eq.symm (rfl)) d_Mo_fails_6
def f_Mo_control_r11 (σ : Sg) (x1 : Int32) : Int32 := if (((σ 2 (0 : Int32).toNatClampNeg) >>> (x1 &&& 31)) &&& 1) = 1 then (1) else (0)
def f_Mo_control (σ : Sg) (x1 : Int32) : Int32 := let v1 := (f_Mo_control_r11 σ x1); v1
theorem z_f_Mo_control_r11_0 (σ : Sg) (x1 : Int32) : (f_Mo_control_r11 σ x1) = 0 ∨ (f_Mo_control_r11 σ x1) = 1 := by unfold f_Mo_control_r11; (try dsimp only); (repeat' split) <;> first | exact Or.inl rfl | exact Or.inr rfl
theorem z_Mo_control (σ : Sg) (x1 : Int32) : (f_Mo_control σ x1) = 0 ∨ (f_Mo_control σ x1) = 1 := by unfold f_Mo_control; (try dsimp only); (repeat' split) <;> first | exact Or.inl rfl | exact Or.inr rfl | apply z_f_Mo_control_r11_0
set_option maxHeartbeats 1000000 in
set_option maxRecDepth 100000 in
theorem c_Mo_control (l : Launch) (D : va_G) (cI : ClassId) (am : Nat → Nat) (σ : Sg) (x1 : Int32) : Met l y_Mo_control (Cond.code y_Mo_control b_Mo_control 2 (some .boolean) :: al) { frames := 0, cells := 0, slots := 0, locals := 0 } (Px D cI (wM cI am) (AM am) σ [.ref (am 0), .int x1]) (va_Qi (fun r u => r = f_Mo_control σ x1 ∧ u = σ) (Bx D cI (wM cI am) (AM am)) (AM am)) 0 0 (AM am) := by
  refine Mx l (by decide) (Nat.le_of_ble_eq_true rfl) ?_
  intro p e s m below meth c ls F w hr hlk hl
  have F : CallFix p m c b_Mo_control 2 s _ al "PictureMachineModel" := F
  have hl : lv_has ls 2 [(0, .ref (am 0)), (1, .int x1)] := hl
  refine lv_aload_n (pc := 0) F.1 F.2.1 d_Mo_control_0 rfl (lv_at hl 0 rfl) ?_
  refine gM0_2 (pc := 1) F w (F.2.2.2.2 _ m_777) d_Mo_control_1 ?_
  refine lv_iconst (pc := 4) (v := 0) F.1 F.2.1 d_Mo_control_4 (by decide) ?_
  refine lM2 (pc := 5) F w (by unfold vp_in; decide) d_Mo_control_5 ?_
  refine lv_iload_n (pc := 6) F.1 F.2.1 d_Mo_control_6 rfl (lv_at hl 1 rfl) ?_
  refine lv_ishr (pc := 7) F.1 F.2.1 d_Mo_control_7 ?_
  refine lv_iconst (pc := 8) (v := 1) F.1 F.2.1 d_Mo_control_8 (by decide) ?_
  refine lv_iand (pc := 9) F.1 F.2.1 d_Mo_control_9 ?_
  refine lv_iconst (pc := 10) (v := 1) F.1 F.2.1 d_Mo_control_10 (by decide) ?_
  refine cutW (α := Int32) (fun x H locs ls => x = f_Mo_control_r11 σ x1 ∧ Wx D cI (wM cI am) (AM am) (AM am) s s.heap H locs σ ∧ lv_has ls 2 [(0, .ref (am 0)), (1, .int x1)]) (fun x ls => F0 m 19 ls [.int x]) ?_ (fun k11 => ?_)
  · rintro v1 H locs ls ⟨ex, w, hl⟩
    have e_v1 := ex
    have w : Wx D cI (wM cI am) (AM am) (AM am) s s.heap H locs σ := w
    have hl : lv_has ls 2 [(0, .ref (am 0)), (1, .int x1)] := hl
    show W _ _ _ _ _ _ _ _ _ _ _ _ _ _ _ (F0 m 19 ls [.int v1])
    exact Kz (pc := 19) F hr hlk w (e_v1 ▸ z_f_Mo_control_r11_0 σ x1) (by rw [e_v1]; exact Eq.symm (rfl)) d_Mo_control_19
  · refine lv_icmp_ne (pc := 11) F.1 F.2.1 d_Mo_control_11 (tgt := 18) (by decide) (fun h11 => ?_) (fun h11 => ?_)
    · refine lv_iconst (pc := 18) (v := 0) F.1 F.2.1 d_Mo_control_18 (by decide) ?_
      exact k11 0 _ _ _ ⟨(by exact Eq.symm (Eq.trans (if_neg h11) (rfl))), w, lv_sub hl [0, 1] rfl⟩
    · refine lv_iconst (pc := 14) (v := 1) F.1 F.2.1 d_Mo_control_14 (by decide) ?_
      refine lv_goto (pc := 15) F.1 F.2.1 d_Mo_control_15 (tgt := 19) (by decide) ?_
      exact k11 1 _ _ _ ⟨(by exact Eq.symm (Eq.trans (if_pos h11) (rfl))), w, lv_sub hl [0, 1] rfl⟩
def f_Mo_fetch_r8 (σ : Sg) (x1 : Int32) : Int32 := if 768 ≤ (x1 &&& 1023) then (255) else ((σ 1 (x1 &&& 1023).toNatClampNeg))
def f_Mo_fetch (σ : Sg) (x1 : Int32) : Int32 := let v1 := (f_Mo_fetch_r8 σ x1); v1
set_option maxHeartbeats 1000000 in
set_option maxRecDepth 100000 in
theorem c_Mo_fetch (l : Launch) (D : va_G) (cI : ClassId) (am : Nat → Nat) (σ : Sg) (x1 : Int32) : Met l y_Mo_fetch (Cond.code y_Mo_fetch b_Mo_fetch 2 (some .int) :: al) { frames := 0, cells := 0, slots := 0, locals := 0 } (Px D cI (wM cI am) (AM am) σ [.ref (am 0), .int x1]) (va_Qi (fun r u => r = f_Mo_fetch σ x1 ∧ u = σ) (Bx D cI (wM cI am) (AM am)) (AM am)) 0 0 (AM am) := by
  refine Mx l (by decide) (Nat.le_of_ble_eq_true rfl) ?_
  intro p e s m below meth c ls F w hr hlk hl
  have F : CallFix p m c b_Mo_fetch 2 s _ al "PictureMachineModel" := F
  have hl : lv_has ls 2 [(0, .ref (am 0)), (1, .int x1)] := hl
  refine lv_iload_n (pc := 0) F.1 F.2.1 d_Mo_fetch_0 rfl (lv_at hl 1 rfl) ?_
  refine lv_sipush (pc := 1) (v := 1023) F.1 F.2.1 d_Mo_fetch_1 (by decide) ?_
  refine lv_iand (pc := 4) F.1 F.2.1 d_Mo_fetch_4 ?_
  refine lv_sipush (pc := 5) (v := 768) F.1 F.2.1 d_Mo_fetch_5 (by decide) ?_
  refine cutW (α := Int32) (fun x H locs ls => x = f_Mo_fetch_r8 σ x1 ∧ Wx D cI (wM cI am) (AM am) (AM am) s s.heap H locs σ ∧ lv_has ls 2 [(0, .ref (am 0)), (1, .int x1)]) (fun x ls => F0 m 27 ls [.int x]) ?_ (fun k8 => ?_)
  · rintro v1 H locs ls ⟨ex, w, hl⟩
    have e_v1 := ex
    have w : Wx D cI (wM cI am) (AM am) (AM am) s s.heap H locs σ := w
    have hl : lv_has ls 2 [(0, .ref (am 0)), (1, .int x1)] := hl
    show W _ _ _ _ _ _ _ _ _ _ _ _ _ _ _ (F0 m 27 ls [.int v1])
    exact Ki (pc := 27) F hr hlk w (by rw [e_v1]; exact Eq.symm (rfl)) d_Mo_fetch_27
  · refine lv_icmp_ge (pc := 8) F.1 F.2.1 d_Mo_fetch_8 (tgt := 24) (by decide) (fun h8 => ?_) (fun h8 => ?_)
    · refine lv_sipush (pc := 24) (v := 255) F.1 F.2.1 d_Mo_fetch_24 (by decide) ?_
      exact k8 255 _ _ _ ⟨(by exact Eq.symm (Eq.trans (if_pos h8) (rfl))), w, lv_sub hl [0, 1] rfl⟩
    · refine lv_aload_n (pc := 11) F.1 F.2.1 d_Mo_fetch_11 rfl (lv_at hl 0 rfl) ?_
      refine gM0_1 (pc := 12) F w (F.2.2.2.2 _ m_776) d_Mo_fetch_12 ?_
      refine lv_iload_n (pc := 15) F.1 F.2.1 d_Mo_fetch_15 rfl (lv_at hl 1 rfl) ?_
      refine lv_sipush (pc := 16) (v := 1023) F.1 F.2.1 d_Mo_fetch_16 (by decide) ?_
      refine lv_iand (pc := 19) F.1 F.2.1 d_Mo_fetch_19 ?_
      refine lM1 (pc := 20) F w (by first | exact in768 (by assumption) | exact in768' (by assumption)) d_Mo_fetch_20 ?_
      refine lv_goto (pc := 21) F.1 F.2.1 d_Mo_fetch_21 (tgt := 27) (by decide) ?_
      exact k8 (σ 1 (x1 &&& 1023).toNatClampNeg) _ _ _ ⟨(by exact Eq.symm (Eq.trans (if_neg h8) (rfl))), w, lv_sub hl [0, 1] rfl⟩
def f_Mo_readRegister_r112 (σ : Sg) (x1 : Int32) : Int32 := if x1 = 8 then (if (σ 0 47) = 0 then (0) else (1)) else (if x1 = 9 then ((σ 0 40)) else (255))
def f_Mo_readRegister_r90 (σ : Sg) : Int32 := if (σ 0 47) = 0 then (0) else ((σ 0 48))
def f_Mo_readRegister (σ : Sg) (x1 : Int32) : Int32 × Sg := if x1 = 0 then (((σ 0 4), σ)) else (if x1 = 1 then (((σ 0 33), σ)) else (if x1 = 2 then (((σ 5 (x1 - 2).toNatClampNeg), σ)) else (if x1 = 3 then (((σ 5 (x1 - 2).toNatClampNeg), σ)) else (if x1 = 4 then (((σ 0 35), σ)) else (if x1 = 5 then ((((σ 0 37) &&& 255), σ)) else (if x1 = 6 then (let s4 := sf σ 0 39 0; ((σ 0 39), s4)) else (if x1 = 7 then (let v2 := (f_Mo_readRegister_r90 σ); let s3 := sf σ 0 47 0; (v2, s3)) else (let v1 := (f_Mo_readRegister_r112 σ x1); (v1, σ)))))))))
set_option maxHeartbeats 1000000 in
set_option maxRecDepth 100000 in
theorem c_Mo_readRegister (l : Launch) (D : va_G) (cI : ClassId) (am : Nat → Nat) (σ : Sg) (x1 : Int32) : Met l y_Mo_readRegister (Cond.code y_Mo_readRegister b_Mo_readRegister 3 (some .int) :: al) { frames := 0, cells := 0, slots := 0, locals := 0 } (Px D cI (wM cI am) (AM am) σ [.ref (am 0), .int x1]) (va_Qi (fun r u => (r, u) = f_Mo_readRegister σ x1) (Bx D cI (wM cI am) (AM am)) (AM am)) 0 0 (AM am) := by
  refine Mx l (by decide) (Nat.le_of_ble_eq_true rfl) ?_
  intro p e s m below meth c ls F w hr hlk hl
  have F : CallFix p m c b_Mo_readRegister 3 s _ al "PictureMachineModel" := F
  have hl : lv_has ls 3 [(0, .ref (am 0)), (1, .int x1)] := hl
  refine lv_iload_n (pc := 0) F.1 F.2.1 d_Mo_readRegister_0 rfl (lv_at hl 1 rfl) ?_
  refine lv_if_ne (pc := 1) F.1 F.2.1 d_Mo_readRegister_1 (tgt := 9) (by decide) (fun h1 => ?_) (fun h1 => ?_)
  · refine lv_iload_n (pc := 9) F.1 F.2.1 d_Mo_readRegister_9 rfl (lv_at hl 1 rfl) ?_
    refine lv_iconst (pc := 10) (v := 1) F.1 F.2.1 d_Mo_readRegister_10 (by decide) ?_
    refine lv_icmp_ne (pc := 11) F.1 F.2.1 d_Mo_readRegister_11 (tgt := 19) (by decide) (fun h11 => ?_) (fun h11 => ?_)
    · refine lv_iload_n (pc := 19) F.1 F.2.1 d_Mo_readRegister_19 rfl (lv_at hl 1 rfl) ?_
      refine lv_iconst (pc := 20) (v := 2) F.1 F.2.1 d_Mo_readRegister_20 (by decide) ?_
      refine lv_icmp_eq (pc := 21) F.1 F.2.1 d_Mo_readRegister_21 (tgt := 29) (by decide) (fun h21 => ?_) (fun h21 => ?_)
      · refine lv_aload_n (pc := 29) F.1 F.2.1 d_Mo_readRegister_29 rfl (lv_at hl 0 rfl) ?_
        refine gM0_34 (pc := 30) F w (F.2.2.2.2 _ m_809) d_Mo_readRegister_30 ?_
        refine lv_iload_n (pc := 33) F.1 F.2.1 d_Mo_readRegister_33 rfl (lv_at hl 1 rfl) ?_
        refine lv_iconst (pc := 34) (v := 2) F.1 F.2.1 d_Mo_readRegister_34 (by decide) ?_
        refine lv_isub (pc := 35) F.1 F.2.1 d_Mo_readRegister_35 ?_
        refine lM5 (pc := 36) F w (by first | (rw [show x1 = 2 by assumption]; unfold vp_in; decide) | (rw [show x1 = 3 by assumption]; unfold vp_in; decide)) d_Mo_readRegister_36 ?_
        exact Ri (pc := 37) F hr hlk w (by exact Eq.symm (Eq.trans (if_neg h1) (Eq.trans (if_neg h11) (Eq.trans (if_pos h21) (rfl))))) d_Mo_readRegister_37
      · refine lv_iload_n (pc := 24) F.1 F.2.1 d_Mo_readRegister_24 rfl (lv_at hl 1 rfl) ?_
        refine lv_iconst (pc := 25) (v := 3) F.1 F.2.1 d_Mo_readRegister_25 (by decide) ?_
        refine lv_icmp_ne (pc := 26) F.1 F.2.1 d_Mo_readRegister_26 (tgt := 38) (by decide) (fun h26 => ?_) (fun h26 => ?_)
        · refine lv_iload_n (pc := 38) F.1 F.2.1 d_Mo_readRegister_38 rfl (lv_at hl 1 rfl) ?_
          refine lv_iconst (pc := 39) (v := 4) F.1 F.2.1 d_Mo_readRegister_39 (by decide) ?_
          refine lv_icmp_ne (pc := 40) F.1 F.2.1 d_Mo_readRegister_40 (tgt := 48) (by decide) (fun h40 => ?_) (fun h40 => ?_)
          · refine lv_iload_n (pc := 48) F.1 F.2.1 d_Mo_readRegister_48 rfl (lv_at hl 1 rfl) ?_
            refine lv_iconst (pc := 49) (v := 5) F.1 F.2.1 d_Mo_readRegister_49 (by decide) ?_
            refine lv_icmp_ne (pc := 50) F.1 F.2.1 d_Mo_readRegister_50 (tgt := 62) (by decide) (fun h50 => ?_) (fun h50 => ?_)
            · refine lv_iload_n (pc := 62) F.1 F.2.1 d_Mo_readRegister_62 rfl (lv_at hl 1 rfl) ?_
              refine lv_bipush (pc := 63) (v := 6) F.1 F.2.1 d_Mo_readRegister_63 (by decide) ?_
              refine lv_icmp_ne (pc := 65) F.1 F.2.1 d_Mo_readRegister_65 (tgt := 80) (by decide) (fun h65 => ?_) (fun h65 => ?_)
              · refine lv_iload_n (pc := 80) F.1 F.2.1 d_Mo_readRegister_80 rfl (lv_at hl 1 rfl) ?_
                refine lv_bipush (pc := 81) (v := 7) F.1 F.2.1 d_Mo_readRegister_81 (by decide) ?_
                refine lv_icmp_ne (pc := 83) F.1 F.2.1 d_Mo_readRegister_83 (tgt := 109) (by decide) (fun h83 => ?_) (fun h83 => ?_)
                · refine lv_iload_n (pc := 109) F.1 F.2.1 d_Mo_readRegister_109 rfl (lv_at hl 1 rfl) ?_
                  refine lv_bipush (pc := 110) (v := 8) F.1 F.2.1 d_Mo_readRegister_110 (by decide) ?_
                  refine cutW (α := Int32) (fun x H locs ls => x = f_Mo_readRegister_r112 σ x1 ∧ Wx D cI (wM cI am) (AM am) (AM am) s s.heap H locs σ ∧ lv_has ls 3 [(0, .ref (am 0)), (1, .int x1)]) (fun x ls => F0 m 146 ls [.int x]) ?_ (fun k112 => ?_)
                  · rintro v1 H locs ls ⟨ex, w, hl⟩
                    have e_v1 := ex
                    have w : Wx D cI (wM cI am) (AM am) (AM am) s s.heap H locs σ := w
                    have hl : lv_has ls 3 [(0, .ref (am 0)), (1, .int x1)] := hl
                    show W _ _ _ _ _ _ _ _ _ _ _ _ _ _ _ (F0 m 146 ls [.int v1])
                    exact Ri (pc := 146) F hr hlk w (by rw [e_v1]; exact Eq.symm (Eq.trans (if_neg h1) (Eq.trans (if_neg h11) (Eq.trans (if_neg h21) (Eq.trans (if_neg h26) (Eq.trans (if_neg h40) (Eq.trans (if_neg h50) (Eq.trans (if_neg h65) (Eq.trans (if_neg h83) (rfl)))))))))) d_Mo_readRegister_146
                  · refine lv_icmp_ne (pc := 112) F.1 F.2.1 d_Mo_readRegister_112 (tgt := 130) (by decide) (fun h112 => ?_) (fun h112 => ?_)
                    · refine lv_iload_n (pc := 130) F.1 F.2.1 d_Mo_readRegister_130 rfl (lv_at hl 1 rfl) ?_
                      refine lv_bipush (pc := 131) (v := 9) F.1 F.2.1 d_Mo_readRegister_131 (by decide) ?_
                      refine lv_icmp_ne (pc := 133) F.1 F.2.1 d_Mo_readRegister_133 (tgt := 143) (by decide) (fun h133 => ?_) (fun h133 => ?_)
                      · refine lv_sipush (pc := 143) (v := 255) F.1 F.2.1 d_Mo_readRegister_143 (by decide) ?_
                        exact k112 255 _ _ _ ⟨(by exact Eq.symm (Eq.trans (if_neg h112) (Eq.trans (if_neg h133) (rfl)))), w, lv_sub hl [0, 1] rfl⟩
                      · refine lv_aload_n (pc := 136) F.1 F.2.1 d_Mo_readRegister_136 rfl (lv_at hl 0 rfl) ?_
                        refine gM0_40 (pc := 137) F w (F.2.2.2.2 _ m_815) d_Mo_readRegister_137 ?_
                        refine lv_goto (pc := 140) F.1 F.2.1 d_Mo_readRegister_140 (tgt := 146) (by decide) ?_
                        exact k112 (σ 0 40) _ _ _ ⟨(by exact Eq.symm (Eq.trans (if_neg h112) (Eq.trans (if_pos h133) (rfl)))), w, lv_sub hl [0, 1] rfl⟩
                    · refine lv_aload_n (pc := 115) F.1 F.2.1 d_Mo_readRegister_115 rfl (lv_at hl 0 rfl) ?_
                      refine gM0_47 (pc := 116) F w (F.2.2.2.2 _ m_822) d_Mo_readRegister_116 ?_
                      refine lv_if_eq (pc := 119) F.1 F.2.1 d_Mo_readRegister_119 (tgt := 126) (by decide) (fun h119 => ?_) (fun h119 => ?_)
                      · refine lv_iconst (pc := 126) (v := 0) F.1 F.2.1 d_Mo_readRegister_126 (by decide) ?_
                        refine lv_goto (pc := 127) F.1 F.2.1 d_Mo_readRegister_127 (tgt := 146) (by decide) ?_
                        exact k112 0 _ _ _ ⟨(by exact Eq.symm (Eq.trans (if_pos h112) (Eq.trans (if_pos h119) (rfl)))), w, lv_sub hl [0, 1] rfl⟩
                      · refine lv_iconst (pc := 122) (v := 1) F.1 F.2.1 d_Mo_readRegister_122 (by decide) ?_
                        refine lv_goto (pc := 123) F.1 F.2.1 d_Mo_readRegister_123 (tgt := 146) (by decide) ?_
                        exact k112 1 _ _ _ ⟨(by exact Eq.symm (Eq.trans (if_pos h112) (Eq.trans (if_neg h119) (rfl)))), w, lv_sub hl [0, 1] rfl⟩
                · refine lv_aload_n (pc := 86) F.1 F.2.1 d_Mo_readRegister_86 rfl (lv_at hl 0 rfl) ?_
                  refine gM0_47 (pc := 87) F w (F.2.2.2.2 _ m_822) d_Mo_readRegister_87 ?_
                  refine cutW (α := Int32) (fun x H locs ls => x = f_Mo_readRegister_r90 σ ∧ Wx D cI (wM cI am) (AM am) (AM am) s s.heap H locs σ ∧ lv_has ls 3 [(0, .ref (am 0)), (1, .int x1)]) (fun x ls => F0 m 101 ls [.int x]) ?_ (fun k90 => ?_)
                  · rintro v2 H locs ls ⟨ex, w, hl⟩
                    have e_v2 := ex
                    have w : Wx D cI (wM cI am) (AM am) (AM am) s s.heap H locs σ := w
                    have hl : lv_has ls 3 [(0, .ref (am 0)), (1, .int x1)] := hl
                    show W _ _ _ _ _ _ _ _ _ _ _ _ _ _ _ (F0 m 101 ls [.int v2])
                    refine lv_istore_n (pc := 101) F.1 F.2.1 d_Mo_readRegister_101 rfl hl (by decide) rfl (fun ls hl => ?_)
                    have hl : lv_has ls 3 [(2, .int v2), (0, .ref (am 0)), (1, .int x1)] := hl
                    refine lv_aload_n (pc := 102) F.1 F.2.1 d_Mo_readRegister_102 rfl (lv_at hl 1 rfl) ?_
                    refine lv_iconst (pc := 103) (v := 0) F.1 F.2.1 d_Mo_readRegister_103 (by decide) ?_
                    refine pM0_47 (pc := 104) F w (Or.inl rfl) (F.2.2.2.2 _ m_822) d_Mo_readRegister_104 (fun H locs s3 e_s3 w => ?_)
                    refine lv_iload_n (pc := 107) F.1 F.2.1 d_Mo_readRegister_107 rfl (lv_at hl 0 rfl) ?_
                    exact Ri (pc := 108) F hr hlk w (by rw [e_s3, e_v2]; exact Eq.symm (Eq.trans (if_neg h1) (Eq.trans (if_neg h11) (Eq.trans (if_neg h21) (Eq.trans (if_neg h26) (Eq.trans (if_neg h40) (Eq.trans (if_neg h50) (Eq.trans (if_neg h65) (Eq.trans (if_pos h83) (rfl)))))))))) d_Mo_readRegister_108
                  · refine lv_if_eq (pc := 90) F.1 F.2.1 d_Mo_readRegister_90 (tgt := 100) (by decide) (fun h90 => ?_) (fun h90 => ?_)
                    · refine lv_iconst (pc := 100) (v := 0) F.1 F.2.1 d_Mo_readRegister_100 (by decide) ?_
                      exact k90 0 _ _ _ ⟨(by exact Eq.symm (Eq.trans (if_pos h90) (rfl))), w, lv_sub hl [0, 1] rfl⟩
                    · refine lv_aload_n (pc := 93) F.1 F.2.1 d_Mo_readRegister_93 rfl (lv_at hl 0 rfl) ?_
                      refine gM0_48 (pc := 94) F w (F.2.2.2.2 _ m_823) d_Mo_readRegister_94 ?_
                      refine lv_goto (pc := 97) F.1 F.2.1 d_Mo_readRegister_97 (tgt := 101) (by decide) ?_
                      exact k90 (σ 0 48) _ _ _ ⟨(by exact Eq.symm (Eq.trans (if_neg h90) (rfl))), w, lv_sub hl [0, 1] rfl⟩
              · refine lv_aload_n (pc := 68) F.1 F.2.1 d_Mo_readRegister_68 rfl (lv_at hl 0 rfl) ?_
                refine gM0_39 (pc := 69) F w (F.2.2.2.2 _ m_814) d_Mo_readRegister_69 ?_
                refine lv_istore_n (pc := 72) F.1 F.2.1 d_Mo_readRegister_72 rfl hl (by decide) rfl (fun ls hl => ?_)
                have hl : lv_has ls 3 [(2, .int (σ 0 39)), (0, .ref (am 0)), (1, .int x1)] := hl
                refine lv_aload_n (pc := 73) F.1 F.2.1 d_Mo_readRegister_73 rfl (lv_at hl 1 rfl) ?_
                refine lv_iconst (pc := 74) (v := 0) F.1 F.2.1 d_Mo_readRegister_74 (by decide) ?_
                refine pM0_39 (pc := 75) F w (F.2.2.2.2 _ m_814) d_Mo_readRegister_75 (fun H locs s4 e_s4 w => ?_)
                refine lv_iload_n (pc := 78) F.1 F.2.1 d_Mo_readRegister_78 rfl (lv_at hl 0 rfl) ?_
                exact Ri (pc := 79) F hr hlk w (by rw [e_s4]; exact Eq.symm (Eq.trans (if_neg h1) (Eq.trans (if_neg h11) (Eq.trans (if_neg h21) (Eq.trans (if_neg h26) (Eq.trans (if_neg h40) (Eq.trans (if_neg h50) (Eq.trans (if_pos h65) (rfl))))))))) d_Mo_readRegister_79
            · refine lv_aload_n (pc := 53) F.1 F.2.1 d_Mo_readRegister_53 rfl (lv_at hl 0 rfl) ?_
              refine gM0_37 (pc := 54) F w (F.2.2.2.2 _ m_812) d_Mo_readRegister_54 ?_
              refine lv_sipush (pc := 57) (v := 255) F.1 F.2.1 d_Mo_readRegister_57 (by decide) ?_
              refine lv_iand (pc := 60) F.1 F.2.1 d_Mo_readRegister_60 ?_
              exact Ri (pc := 61) F hr hlk w (by exact Eq.symm (Eq.trans (if_neg h1) (Eq.trans (if_neg h11) (Eq.trans (if_neg h21) (Eq.trans (if_neg h26) (Eq.trans (if_neg h40) (Eq.trans (if_pos h50) (rfl)))))))) d_Mo_readRegister_61
          · refine lv_aload_n (pc := 43) F.1 F.2.1 d_Mo_readRegister_43 rfl (lv_at hl 0 rfl) ?_
            refine gM0_35 (pc := 44) F w (F.2.2.2.2 _ m_810) d_Mo_readRegister_44 ?_
            exact Ri (pc := 47) F hr hlk w (by exact Eq.symm (Eq.trans (if_neg h1) (Eq.trans (if_neg h11) (Eq.trans (if_neg h21) (Eq.trans (if_neg h26) (Eq.trans (if_pos h40) (rfl))))))) d_Mo_readRegister_47
        · refine lv_aload_n (pc := 29) F.1 F.2.1 d_Mo_readRegister_29 rfl (lv_at hl 0 rfl) ?_
          refine gM0_34 (pc := 30) F w (F.2.2.2.2 _ m_809) d_Mo_readRegister_30 ?_
          refine lv_iload_n (pc := 33) F.1 F.2.1 d_Mo_readRegister_33 rfl (lv_at hl 1 rfl) ?_
          refine lv_iconst (pc := 34) (v := 2) F.1 F.2.1 d_Mo_readRegister_34 (by decide) ?_
          refine lv_isub (pc := 35) F.1 F.2.1 d_Mo_readRegister_35 ?_
          refine lM5 (pc := 36) F w (by first | (rw [show x1 = 2 by assumption]; unfold vp_in; decide) | (rw [show x1 = 3 by assumption]; unfold vp_in; decide)) d_Mo_readRegister_36 ?_
          exact Ri (pc := 37) F hr hlk w (by exact Eq.symm (Eq.trans (if_neg h1) (Eq.trans (if_neg h11) (Eq.trans (if_neg h21) (Eq.trans (if_pos h26) (rfl)))))) d_Mo_readRegister_37
    · refine lv_aload_n (pc := 14) F.1 F.2.1 d_Mo_readRegister_14 rfl (lv_at hl 0 rfl) ?_
      refine gM0_33 (pc := 15) F w (F.2.2.2.2 _ m_808) d_Mo_readRegister_15 ?_
      exact Ri (pc := 18) F hr hlk w (by exact Eq.symm (Eq.trans (if_neg h1) (Eq.trans (if_pos h11) (rfl)))) d_Mo_readRegister_18
  · refine lv_aload_n (pc := 4) F.1 F.2.1 d_Mo_readRegister_4 rfl (lv_at hl 0 rfl) ?_
    refine gM0_4 (pc := 5) F w (F.2.2.2.2 _ m_779) d_Mo_readRegister_5 ?_
    exact Ri (pc := 8) F hr hlk w (by exact Eq.symm (Eq.trans (if_pos h1) (rfl))) d_Mo_readRegister_8
theorem iJM_Mo_readRegister {σ : Sg} (h : JM σ) (x : Int32) : JM (f_Mo_readRegister σ x).2 := by
  unfold f_Mo_readRegister
  repeat' split
  all_goals exact h.same rfl rfl rfl rfl rfl rfl rfl rfl rfl rfl
theorem iRB_Mo_readRegister {σ : Sg} (h : RB σ) (x : Int32) : RB (f_Mo_readRegister σ x).2 := by
  have h0 : bt2 0 0 255 := ⟨by decide, by decide⟩
  unfold f_Mo_readRegister
  repeat' split
  all_goals first
    | exact h
    | exact ⟨h.1, h.2.1, h.2.2.1, h.2.2.2.1, h.2.2.2.2.1, h0, h.2.2.2.2.2.2⟩
    | exact ⟨h.1, h.2.1, h.2.2.1, h.2.2.2.1, h.2.2.2.2.1, h.2.2.2.2.2⟩
theorem rr_val {σ : Sg} (h : RB σ) (x : Int32) : bt2 0 (f_Mo_readRegister σ x).1 255 := by
  have h0 : bt2 0 0 255 := ⟨by decide, by decide⟩
  have h1 : bt2 0 1 255 := ⟨by decide, by decide⟩
  have h255 : bt2 0 255 255 := ⟨by decide, by decide⟩
  have hr : ∀ u : Sg, RB u → bt2 0 (f_Mo_readRegister_r90 u) 255 := fun u hu => by
    unfold f_Mo_readRegister_r90
    split
    · exact h0
    · exact hu.2.2.2.2.2.2.1
  have hs : bt2 0 (f_Mo_readRegister_r112 σ x) 255 := by
    unfold f_Mo_readRegister_r112
    repeat' split
    all_goals first | exact h0 | exact h1 | exact h255 | exact h.2.2.2.2.2.2.2
  unfold f_Mo_readRegister
  split
  · exact h.2.1
  split
  · exact h.2.2.1
  split
  · exact h.2.2.2.1 _
  split
  · exact h.2.2.2.1 _
  split
  · exact h.2.2.2.2.1
  split
  · exact bt_8 _
  split
  · exact h.2.2.2.2.2.1
  split
  · exact hr σ h
  · exact hs
def f_Mo_read_r10 (σ : Sg) (x1 : Int32) : Int32 × Sg := if 768 ≤ (x1 &&& 1023) then (if 800 ≤ (x1 &&& 1023) then ((255, σ)) else (let r1 := (f_Mo_readRegister σ ((x1 &&& 1023) - 768)).1; let s2 := (f_Mo_readRegister σ ((x1 &&& 1023) - 768)).2; (r1, s2))) else (((σ 1 (x1 &&& 1023).toNatClampNeg), σ))
def f_Mo_read (σ : Sg) (x1 : Int32) : Int32 × Sg := let v3 := (f_Mo_read_r10 σ x1).1; let s4 := (f_Mo_read_r10 σ x1).2; (v3, s4)
set_option maxHeartbeats 1000000 in
set_option maxRecDepth 100000 in
theorem c_Mo_read (l : Launch) (D : va_G) (cI : ClassId) (am : Nat → Nat) (σ : Sg) (x1 : Int32) : Met l y_Mo_read (Cond.code y_Mo_read b_Mo_read 3 (some .int) :: al) { frames := 1, cells := 0, slots := 0, locals := 22 } (Px D cI (wM cI am) (AM am) σ [.ref (am 0), .int x1]) (va_Qi (fun r u => (r, u) = f_Mo_read σ x1) (Bx D cI (wM cI am) (AM am)) (AM am)) 0 0 (AM am) := by
  refine Mx l (by decide) (Nat.le_of_ble_eq_true rfl) ?_
  intro p e s m below meth c ls F w hr hlk hl
  have F : CallFix p m c b_Mo_read 3 s _ al "PictureMachineModel" := F
  have hl : lv_has ls 3 [(0, .ref (am 0)), (1, .int x1)] := hl
  have hcs : (0 : Nat) ≤ 0 ∧ (0 : Nat) ≤ 0 := ⟨Nat.le_refl _, Nat.le_refl _⟩
  refine lv_iload_n (pc := 0) F.1 F.2.1 d_Mo_read_0 rfl (lv_at hl 1 rfl) ?_
  refine lv_sipush (pc := 1) (v := 1023) F.1 F.2.1 d_Mo_read_1 (by decide) ?_
  refine lv_iand (pc := 4) F.1 F.2.1 d_Mo_read_4 ?_
  refine lv_istore_n (pc := 5) F.1 F.2.1 d_Mo_read_5 rfl hl (by decide) rfl (fun ls hl => ?_)
  have hl : lv_has ls 3 [(2, .int (x1 &&& 1023)), (0, .ref (am 0)), (1, .int x1)] := hl
  refine lv_iload_n (pc := 6) F.1 F.2.1 d_Mo_read_6 rfl (lv_at hl 0 rfl) ?_
  refine lv_sipush (pc := 7) (v := 768) F.1 F.2.1 d_Mo_read_7 (by decide) ?_
  refine cutW (α := Int32 × Sg) (fun x H locs ls => x = f_Mo_read_r10 σ x1 ∧ Wx D cI (wM cI am) (AM am) (AM am) s s.heap H locs x.2 ∧ lv_has ls 3 [(0, .ref (am 0)), (1, .int x1), (2, .int (x1 &&& 1023))]) (fun x ls => F0 m 44 ls [.int (x.1)]) ?_ (fun k10 => ?_)
  · rintro ⟨v3, s4⟩ H locs ls ⟨ex, w, hl⟩
    have e_v3 : v3 = (f_Mo_read_r10 σ x1).1 := congrArg (fun z => z.1) ex
    have e_s4 : s4 = (f_Mo_read_r10 σ x1).2 := congrArg (fun z => z.2) ex
    clear ex
    have w : Wx D cI (wM cI am) (AM am) (AM am) s s.heap H locs s4 := w
    have hl : lv_has ls 3 [(0, .ref (am 0)), (1, .int x1), (2, .int (x1 &&& 1023))] := hl
    show W _ _ _ _ _ _ _ _ _ _ _ _ _ _ _ (F0 m 44 ls [.int v3])
    exact Ri (pc := 44) F hr hlk w (by rw [e_s4, e_v3]; exact Eq.symm (rfl)) d_Mo_read_44
  · refine lv_icmp_ge (pc := 10) F.1 F.2.1 d_Mo_read_10 (tgt := 22) (by decide) (fun h10 => ?_) (fun h10 => ?_)
    · refine lv_iload_n (pc := 22) F.1 F.2.1 d_Mo_read_22 rfl (lv_at hl 0 rfl) ?_
      refine lv_sipush (pc := 23) (v := 800) F.1 F.2.1 d_Mo_read_23 (by decide) ?_
      refine lv_icmp_ge (pc := 26) F.1 F.2.1 d_Mo_read_26 (tgt := 41) (by decide) (fun h26 => ?_) (fun h26 => ?_)
      · refine lv_sipush (pc := 41) (v := 255) F.1 F.2.1 d_Mo_read_41 (by decide) ?_
        exact k10 (255, σ) _ _ _ ⟨(by exact Eq.symm (Eq.trans (if_pos h10) (Eq.trans (if_pos h26) (rfl)))), w, lv_sub hl [1, 2, 0] rfl⟩
      · refine lv_aload_n (pc := 29) F.1 F.2.1 d_Mo_read_29 rfl (lv_at hl 1 rfl) ?_
        refine lv_iload_n (pc := 30) F.1 F.2.1 d_Mo_read_30 rfl (lv_at hl 0 rfl) ?_
        refine lv_sipush (pc := 31) (v := 768) F.1 F.2.1 d_Mo_read_31 (by decide) ?_
        refine lv_isub (pc := 34) F.1 F.2.1 d_Mo_read_34 ?_
        refine Cvi (pc := 35) (As := [.int ((x1 &&& 1023) - 768)]) (rest := []) F w (c_Mo_readRegister l D cI am σ ((x1 &&& 1023) - 768)) 0 rfl rfl k_Mo_readRegister m_989 (Nat.le_of_ble_eq_true rfl) (Nat.le_of_ble_eq_true rfl) ⟨rfl, rfl⟩ rfl hl.1 rfl (Nat.le_of_ble_eq_true rfl) d_Mo_read_35 hcs (fun r1 s2 H locs e_r1 e_s2 w => ?_)
        refine lv_goto (pc := 38) F.1 F.2.1 d_Mo_read_38 (tgt := 44) (by decide) ?_
        exact k10 (r1, s2) _ _ _ ⟨(by rw [e_s2, e_r1]; exact Eq.symm (Eq.trans (if_pos h10) (Eq.trans (if_neg h26) (rfl)))), w, lv_sub hl [1, 2, 0] rfl⟩
    · refine lv_aload_n (pc := 13) F.1 F.2.1 d_Mo_read_13 rfl (lv_at hl 1 rfl) ?_
      refine gM0_1 (pc := 14) F w (F.2.2.2.2 _ m_776) d_Mo_read_14 ?_
      refine lv_iload_n (pc := 17) F.1 F.2.1 d_Mo_read_17 rfl (lv_at hl 0 rfl) ?_
      refine lM1 (pc := 18) F w (by first | exact in768 (by assumption) | exact in768' (by assumption)) d_Mo_read_18 ?_
      refine lv_goto (pc := 19) F.1 F.2.1 d_Mo_read_19 (tgt := 44) (by decide) ?_
      exact k10 ((σ 1 (x1 &&& 1023).toNatClampNeg), σ) _ _ _ ⟨(by exact Eq.symm (Eq.trans (if_neg h10) (rfl))), w, lv_sub hl [1, 2, 0] rfl⟩
theorem iJM_Mo_read {σ : Sg} (h : JM σ) (x : Int32) : JM (f_Mo_read σ x).2 := by
  show JM (f_Mo_read_r10 σ x).2
  unfold f_Mo_read_r10
  repeat' split
  all_goals first | exact h | exact iJM_Mo_readRegister h _
theorem iRB_Mo_read {σ : Sg} (h : RB σ) (x : Int32) : RB (f_Mo_read σ x).2 := by
  show RB (f_Mo_read_r10 σ x).2
  unfold f_Mo_read_r10
  repeat' split
  all_goals first | exact h | exact iRB_Mo_readRegister h _
theorem rb_val {σ : Sg} (h : RB σ) (x : Int32) : bt2 0 (f_Mo_read σ x).1 255 := by
  show bt2 0 (f_Mo_read_r10 σ x).1 255
  unfold f_Mo_read_r10
  split
  · split
    · exact (⟨by decide, by decide⟩ : bt2 0 255 255)
    · exact rr_val h _
  · exact h.1 _
def f_Mo_summed_r6 (x1 : Int32) (x2 : Int32) : Int32 := if (x1 + x2) ≤ 255 then ((x1 + x2)) else (((x1 + x2) - 255))
def f_Mo_summed  (x1 : Int32) (x2 : Int32) : Int32 := let v1 := (f_Mo_summed_r6 x1 x2); v1
set_option maxHeartbeats 1000000 in
set_option maxRecDepth 100000 in
theorem c_Mo_summed (l : Launch)  (x1 : Int32) (x2 : Int32) : Met l y_Mo_summed (Cond.code y_Mo_summed b_Mo_summed 2 (some .int) :: al) { frames := 0, cells := 0, slots := 0, locals := 0 } (PU [.int x1, .int x2]) (QU (f_Mo_summed x1 x2)) 0 0 (fun _ => False) := by
  refine Mu l (by decide) (Nat.le_of_ble_eq_true rfl) ?_
  intro p e s m below meth c ls F hr hlk hl
  have F : CallFix p m c b_Mo_summed 2 s _ al "PictureMachineModel" := F
  generalize hH : s.heap = H
  generalize hlo : ([] : List Loc) = locs
  have w : (H = s.heap ∧ locs = []) := ⟨hH.symm, hlo.symm⟩
  have hl : lv_has ls 2 [(0, .int x1), (1, .int x2)] := hl
  refine lv_iload_n (pc := 0) F.1 F.2.1 d_Mo_summed_0 rfl (lv_at hl 0 rfl) ?_
  refine lv_iload_n (pc := 1) F.1 F.2.1 d_Mo_summed_1 rfl (lv_at hl 1 rfl) ?_
  refine lv_iadd (pc := 2) F.1 F.2.1 d_Mo_summed_2 ?_
  refine lv_sipush (pc := 3) (v := 255) F.1 F.2.1 d_Mo_summed_3 (by decide) ?_
  refine cutW (α := Int32) (fun x H locs ls => x = f_Mo_summed_r6 x1 x2 ∧ (H = s.heap ∧ locs = []) ∧ lv_has ls 2 [(0, .int x1), (1, .int x2)]) (fun x ls => F0 m 22 ls [.int x]) ?_ (fun k6 => ?_)
  · rintro v1 H locs ls ⟨ex, w, hl⟩
    have e_v1 := ex
    have w : (H = s.heap ∧ locs = []) := w
    have hl : lv_has ls 2 [(0, .int x1), (1, .int x2)] := hl
    show W _ _ _ _ _ _ _ _ _ _ _ _ _ _ _ (F0 m 22 ls [.int v1])
    exact Ui (pc := 22) F w hr hlk (by rw [e_v1]; exact Eq.symm (rfl)) d_Mo_summed_22
  · refine lv_icmp_le (pc := 6) F.1 F.2.1 d_Mo_summed_6 (tgt := 19) (by decide) (fun h6 => ?_) (fun h6 => ?_)
    · refine lv_iload_n (pc := 19) F.1 F.2.1 d_Mo_summed_19 rfl (lv_at hl 0 rfl) ?_
      refine lv_iload_n (pc := 20) F.1 F.2.1 d_Mo_summed_20 rfl (lv_at hl 1 rfl) ?_
      refine lv_iadd (pc := 21) F.1 F.2.1 d_Mo_summed_21 ?_
      exact k6 (x1 + x2) _ _ _ ⟨(by exact Eq.symm (Eq.trans (if_pos h6) (rfl))), w, lv_sub hl [0, 1] rfl⟩
    · refine lv_iload_n (pc := 9) F.1 F.2.1 d_Mo_summed_9 rfl (lv_at hl 0 rfl) ?_
      refine lv_iload_n (pc := 10) F.1 F.2.1 d_Mo_summed_10 rfl (lv_at hl 1 rfl) ?_
      refine lv_iadd (pc := 11) F.1 F.2.1 d_Mo_summed_11 ?_
      refine lv_sipush (pc := 12) (v := 255) F.1 F.2.1 d_Mo_summed_12 (by decide) ?_
      refine lv_isub (pc := 15) F.1 F.2.1 d_Mo_summed_15 ?_
      refine lv_goto (pc := 16) F.1 F.2.1 d_Mo_summed_16 (tgt := 22) (by decide) ?_
      exact k6 ((x1 + x2) - 255) _ _ _ ⟨(by exact Eq.symm (Eq.trans (if_neg h6) (rfl))), w, lv_sub hl [0, 1] rfl⟩
def bd_Mo_sumOf_4 (σ : Sg) (v1 : Int32) (j4 : Nat) : Int32 := let r2 := f_Mo_summed v1 (σ 8 (0 + nI j4).toNatClampNeg); r2
def it_Mo_sumOf_4 (σ : Sg) : Nat → Int32 := itr (fun j4 x => bd_Mo_sumOf_4 σ x j4) 0
def f_Mo_sumOf (σ : Sg) (x1 : Int32) : Int32 := let v1 := (it_Mo_sumOf_4 σ (x1.toNatClampNeg)); v1
set_option maxHeartbeats 1000000 in
set_option maxRecDepth 100000 in
theorem c_Mo_sumOf (l : Launch) (D : va_G) (cI : ClassId) (am : Nat → Nat) (σ : Sg) (x1 : Int32) (hq : bt2 0 x1 9) : Met l y_Mo_sumOf (Cond.code y_Mo_sumOf b_Mo_sumOf 4 (some .int) :: al) { frames := 1, cells := 0, slots := 0, locals := 21 } (Px D cI (wM cI am) (AM am) σ [.ref (am 0), .int x1]) (va_Qi (fun r u => r = f_Mo_sumOf σ x1 ∧ u = σ) (Bx D cI (wM cI am) (AM am)) (AM am)) 0 0 (AM am) := by
  refine Mx l (by decide) (Nat.le_of_ble_eq_true rfl) ?_
  intro p e s m below meth c ls F w hr hlk hl
  have F : CallFix p m c b_Mo_sumOf 4 s _ al "PictureMachineModel" := F
  have hl : lv_has ls 4 [(0, .ref (am 0)), (1, .int x1)] := hl
  have hcs : (0 : Nat) ≤ 0 ∧ (0 : Nat) ≤ 0 := ⟨Nat.le_refl _, Nat.le_refl _⟩
  refine lv_iconst (pc := 0) (v := 0) F.1 F.2.1 d_Mo_sumOf_0 (by decide) ?_
  refine lv_istore_n (pc := 1) F.1 F.2.1 d_Mo_sumOf_1 rfl hl (by decide) rfl (fun ls hl => ?_)
  have hl : lv_has ls 4 [(2, .int 0), (0, .ref (am 0)), (1, .int x1)] := hl
  refine lv_iconst (pc := 2) (v := 0) F.1 F.2.1 d_Mo_sumOf_2 (by decide) ?_
  refine lv_istore_n (pc := 3) F.1 F.2.1 d_Mo_sumOf_3 rfl hl (by decide) rfl (fun ls hl => ?_)
  have hl : lv_has ls 4 [(3, .int 0), (2, .int 0), (0, .ref (am 0)), (1, .int x1)] := hl
  refine loopW (α := Int32) (x1.toNatClampNeg) (fun j4 x H locs ls => x = it_Mo_sumOf_4 σ j4 ∧ Wx D cI (wM cI am) (AM am) (AM am) s s.heap H locs σ ∧ lv_has ls 4 [(0, .ref (am 0)), (1, .int x1), (2, .int x), (3, .int (0 + nI j4))]) (fun _ ls => F0 m 4 ls []) ?_ ?_ 0 0 _ _ _ (Nat.zero_le _) ⟨rfl, w, by rw [ci_0]; exact lv_sub hl [2, 3, 1, 0] rfl⟩
  · rintro j4 v1 H locs ls hj4 ⟨ex, w, hl⟩ nx4
    have e_v1 := ex
    have w : Wx D cI (wM cI am) (AM am) (AM am) s s.heap H locs σ := w
    have hl : lv_has ls 4 [(0, .ref (am 0)), (1, .int x1), (2, .int v1), (3, .int (0 + nI j4))] := hl
    have hc4_0 : ¬ (x1 ≤ (0 + nI j4)) := lp_lt hj4 (nI_cl hq.1).symm (cl_lt x1)
    refine lv_iload_n (pc := 4) F.1 F.2.1 d_Mo_sumOf_4 rfl (lv_at hl 3 rfl) ?_
    refine lv_iload_n (pc := 5) F.1 F.2.1 d_Mo_sumOf_5 rfl (lv_at hl 1 rfl) ?_
    refine lv_icmp_ge (pc := 6) F.1 F.2.1 d_Mo_sumOf_6 (tgt := 26) (by decide) (fun q => absurd q hc4_0) (fun _ => ?_)
    refine lv_iload_n (pc := 9) F.1 F.2.1 d_Mo_sumOf_9 rfl (lv_at hl 2 rfl) ?_
    refine lv_aload_n (pc := 10) F.1 F.2.1 d_Mo_sumOf_10 rfl (lv_at hl 0 rfl) ?_
    refine gM0_42 (pc := 11) F w (F.2.2.2.2 _ m_817) d_Mo_sumOf_11 ?_
    refine lv_iload_n (pc := 14) F.1 F.2.1 d_Mo_sumOf_14 rfl (lv_at hl 3 rfl) ?_
    refine lM8 (pc := 15) F w (lp_inL hj4 (cl_le hq)) d_Mo_sumOf_15 ?_
    refine Usi (pc := 16) (As := [.int v1, .int (σ 8 (0 + nI j4).toNatClampNeg)]) (rest := []) F (c_Mo_summed l v1 (σ 8 (0 + nI j4).toNatClampNeg)) k_Mo_summed m_1054 (Nat.le_of_ble_eq_true rfl) (Nat.le_of_ble_eq_true rfl) ⟨rfl, rfl⟩ rfl hl.1 rfl (Nat.le_of_ble_eq_true rfl) d_Mo_sumOf_16 hcs (fun r2 e_r2 => ?_)
    refine lv_istore_n (pc := 19) F.1 F.2.1 d_Mo_sumOf_19 rfl hl (by decide) rfl (fun ls hl => ?_)
    have hl : lv_has ls 4 [(2, .int r2), (0, .ref (am 0)), (1, .int x1), (3, .int (0 + nI j4))] := hl
    refine lv_iinc (pc := 20) (k := 3) (v := ((0 + nI j4) + 1)) F.1 F.2.1 d_Mo_sumOf_20 hl rfl (by first | rfl | decide) (by decide) rfl (fun ls hl => ?_)
    have hl : lv_has ls 4 [(3, .int ((0 + nI j4) + 1)), (2, .int r2), (0, .ref (am 0)), (1, .int x1)] := hl
    refine lv_goto (pc := 23) F.1 F.2.1 d_Mo_sumOf_23 (tgt := 4) (by decide) ?_
    exact nx4 r2 _ _ _ ⟨(by rw [e_r2, e_v1]; exact Eq.symm (rfl)), w, by rw [← ci_s]; exact lv_sub hl [2, 3, 1, 0] rfl⟩
  · rintro v1 H locs ls ⟨ex, w, hl⟩
    have e_v1 := ex
    have w : Wx D cI (wM cI am) (AM am) (AM am) s s.heap H locs σ := w
    have hl : lv_has ls 4 [(0, .ref (am 0)), (1, .int x1), (2, .int v1), (3, .int (0 + nI (x1.toNatClampNeg)))] := hl
    have hx4_0 : x1 ≤ (0 + nI (x1.toNatClampNeg)) := lp_ge (nI_cl hq.1).symm
    refine lv_iload_n (pc := 4) F.1 F.2.1 d_Mo_sumOf_4 rfl (lv_at hl 3 rfl) ?_
    refine lv_iload_n (pc := 5) F.1 F.2.1 d_Mo_sumOf_5 rfl (lv_at hl 1 rfl) ?_
    refine lv_icmp_ge (pc := 6) F.1 F.2.1 d_Mo_sumOf_6 (tgt := 26) (by decide) (fun _ => ?_) (fun q => absurd hx4_0 q)
    refine lv_iload_n (pc := 26) F.1 F.2.1 d_Mo_sumOf_26 rfl (lv_at hl 2 rfl) ?_
    exact Ki (pc := 27) F hr hlk w (by rw [e_v1]; exact Eq.symm (rfl)) d_Mo_sumOf_27
def f_Mo_answer (σ : Sg) (x1 : Int32) : Sg := if (σ 0 46) = 40 then (σ) else (let s1 := sf σ 9 (σ 0 46).toNatClampNeg x1; let s2 := sf s1 0 46 ((s1 0 46) + 1); s2)
set_option maxHeartbeats 1000000 in
set_option maxRecDepth 100000 in
theorem c_Mo_answer (l : Launch) (D : va_G) (cI : ClassId) (am : Nat → Nat) (σ : Sg) (x1 : Int32) (hI : JM σ) : Met l y_Mo_answer (Cond.code y_Mo_answer b_Mo_answer 2 none :: al) { frames := 0, cells := 0, slots := 0, locals := 0 } (Px D cI (wM cI am) (AM am) σ [.ref (am 0), .int x1]) (va_Qv (fun u => u = f_Mo_answer σ x1) (Bx D cI (wM cI am) (AM am)) (AM am)) 0 0 (AM am) := by
  refine Mx l (by decide) (Nat.le_of_ble_eq_true rfl) ?_
  intro p e s m below meth c ls F w hr hlk hl
  have F : CallFix p m c b_Mo_answer 2 s _ al "PictureMachineModel" := F
  have hl : lv_has ls 2 [(0, .ref (am 0)), (1, .int x1)] := hl
  refine lv_aload_n (pc := 0) F.1 F.2.1 d_Mo_answer_0 rfl (lv_at hl 0 rfl) ?_
  refine gM0_46 (pc := 1) F w (F.2.2.2.2 _ m_821) d_Mo_answer_1 ?_
  refine lv_bipush (pc := 4) (v := 40) F.1 F.2.1 d_Mo_answer_4 (by decide) ?_
  refine lv_icmp_ne (pc := 6) F.1 F.2.1 d_Mo_answer_6 (tgt := 10) (by decide) (fun h6 => ?_) (fun h6 => ?_)
  · refine lv_aload_n (pc := 10) F.1 F.2.1 d_Mo_answer_10 rfl (lv_at hl 0 rfl) ?_
    refine gM0_45 (pc := 11) F w (F.2.2.2.2 _ m_820) d_Mo_answer_11 ?_
    refine lv_aload_n (pc := 14) F.1 F.2.1 d_Mo_answer_14 rfl (lv_at hl 0 rfl) ?_
    refine gM0_46 (pc := 15) F w (F.2.2.2.2 _ m_821) d_Mo_answer_15 ?_
    refine lv_iload_n (pc := 18) F.1 F.2.1 d_Mo_answer_18 rfl (lv_at hl 1 rfl) ?_
    refine aM9 (pc := 19) F w (wa_in hI.2.2.1 (by assumption)) d_Mo_answer_19 (fun H locs s1 e_s1 w => ?_)
    have iJM_s1 : JM s1 := by rw [e_s1]; exact hI
    refine lv_aload_n (pc := 20) F.1 F.2.1 d_Mo_answer_20 rfl (lv_at hl 0 rfl) ?_
    refine lv_dup (pc := 21) F.1 F.2.1 d_Mo_answer_21 rfl ?_
    refine gM0_46 (pc := 22) F w (F.2.2.2.2 _ m_821) d_Mo_answer_22 ?_
    refine lv_iconst (pc := 25) (v := 1) F.1 F.2.1 d_Mo_answer_25 (by decide) ?_
    refine lv_iadd (pc := 26) F.1 F.2.1 d_Mo_answer_26 ?_
    refine pM0_46 (pc := 27) F w (F.2.2.2.2 _ m_821) d_Mo_answer_27 (fun H locs s2 e_s2 w => ?_)
    exact Rv (pc := 30) F hr hlk w (by rw [e_s2, e_s1]; exact Eq.symm (Eq.trans (if_neg h6) (rfl))) d_Mo_answer_30
  · exact Rv (pc := 9) F hr hlk w (by exact Eq.symm (Eq.trans (if_pos h6) (rfl))) d_Mo_answer_9
theorem iJM_Mo_answer {σ : Sg} (h : JM σ) (x : Int32) : JM (f_Mo_answer σ x) := by
  unfold f_Mo_answer
  split
  · exact h
  · rename_i hn
    refine ⟨h.1, h.2.1, ?_, h.2.2.2⟩
    show bt2 0 (σ 0 46 + 1) 40
    obtain ⟨j, hj, e⟩ := bt_nI (n := 40) h.2.2.1
    rw [e] at hn ⊢
    have h0 : j ≠ 40 := fun e => hn (by rw [e]; decide)
    rw [nI_1]
    exact bt_n (n := 40) (by omega) (by omega)
theorem an_8 (σ : Sg) (x : Int32) : (f_Mo_answer σ x) 8 = σ 8 := by
  unfold f_Mo_answer
  split <;> rfl
def f_Mo_command_r34 (σ : Sg) : Int32 := if (σ 8 (1 : Int32).toNatClampNeg) = 82 then (1) else (0)
def bd_Mo_command_122 (s5 : Sg) (v6 : Int32) (s7 : Sg) (j122 : Nat) : Int32 × Sg := let s8 := f_Mo_answer s7 (s7 7 (((8 * (s5 8 (2 : Int32).toNatClampNeg)) - 8) + nI j122).toNatClampNeg); let r9 := f_Mo_summed v6 (s8 7 (((8 * (s5 8 (2 : Int32).toNatClampNeg)) - 8) + nI j122).toNatClampNeg); (r9, s8)
def it_Mo_command_122 (s5 : Sg) : Nat → Int32 × Sg := itr (fun j122 x => bd_Mo_command_122 s5 (x.1) (x.2) j122) (0, s5)
def f_Mo_command (σ : Sg) : Sg := let r1 := f_Mo_sumOf σ 3; if r1 = (σ 8 (3 : Int32).toNatClampNeg) then (if (σ 8 (0 : Int32).toNatClampNeg) = 49 then (let v2 := (f_Mo_command_r34 σ); if v2 = 0 then (if (σ 8 (1 : Int32).toNatClampNeg) = 87 then (let r13 := f_Mo_in (σ 8 (2 : Int32).toNatClampNeg) 1 8; if r13 = 0 then (let s16 := f_Mo_answer σ 78; s16) else (let s14 := f_Mo_answer σ 65; let s15 := sf s14 0 44 (s14 8 (2 : Int32).toNatClampNeg); s15)) else (let s12 := f_Mo_answer σ 78; s12)) else (let r3 := f_Mo_in (σ 8 (2 : Int32).toNatClampNeg) 1 8; if r3 = 0 then (let s11 := f_Mo_answer σ 78; s11) else (let s4 := f_Mo_answer σ 65; let s5 := f_Mo_answer s4 67; let v6 := (it_Mo_command_122 s5 8).1; let s7 := (it_Mo_command_122 s5 8).2; let s10 := f_Mo_answer s7 v6; s10))) else (σ)) else (σ)
theorem z_f_Mo_command_r34_0 (σ : Sg) : (f_Mo_command_r34 σ) = 0 ∨ (f_Mo_command_r34 σ) = 1 := by unfold f_Mo_command_r34; (try dsimp only); (repeat' split) <;> first | exact Or.inl rfl | exact Or.inr rfl | apply z_Mo_in
theorem cm_8 (s5 : Sg) (j : Nat) : (it_Mo_command_122 s5 j).2 8 = s5 8 := itr_inv (fun x : Int32 × Sg => x.2 8 = s5 8) rfl (fun _ y h => (an_8 y.2 _).trans h) j
set_option maxHeartbeats 1000000 in
set_option maxRecDepth 100000 in
theorem c_Mo_command (l : Launch) (D : va_G) (cI : ClassId) (am : Nat → Nat) (σ : Sg) (hI : JM σ) : Met l y_Mo_command (Cond.code y_Mo_command b_Mo_command 4 none :: al) { frames := 2, cells := 0, slots := 0, locals := 44 } (Px D cI (wM cI am) (AM am) σ [.ref (am 0)]) (va_Qv (fun u => u = f_Mo_command σ ) (Bx D cI (wM cI am) (AM am)) (AM am)) 0 0 (AM am) := by
  refine Mx l (by decide) (Nat.le_of_ble_eq_true rfl) ?_
  intro p e s m below meth c ls F w hr hlk hl
  have F : CallFix p m c b_Mo_command 4 s _ al "PictureMachineModel" := F
  have hl : lv_has ls 4 [(0, .ref (am 0))] := hl
  have hcs : (0 : Nat) ≤ 0 ∧ (0 : Nat) ≤ 0 := ⟨Nat.le_refl _, Nat.le_refl _⟩
  refine lv_aload_n (pc := 0) F.1 F.2.1 d_Mo_command_0 rfl (lv_at hl 0 rfl) ?_
  refine lv_iconst (pc := 1) (v := 3) F.1 F.2.1 d_Mo_command_1 (by decide) ?_
  refine Kvi (pc := 2) (As := [.int 3]) (rest := []) F w (c_Mo_sumOf l D cI am σ 3 (⟨by decide, by decide⟩)) 0 rfl rfl k_Mo_sumOf m_1050 (Nat.le_of_ble_eq_true rfl) (Nat.le_of_ble_eq_true rfl) ⟨rfl, rfl⟩ rfl hl.1 rfl (Nat.le_of_ble_eq_true rfl) d_Mo_command_2 hcs (fun r1 H locs e_r1 w => ?_)
  refine lv_aload_n (pc := 5) F.1 F.2.1 d_Mo_command_5 rfl (lv_at hl 0 rfl) ?_
  refine gM0_42 (pc := 6) F w (F.2.2.2.2 _ m_817) d_Mo_command_6 ?_
  refine lv_iconst (pc := 9) (v := 3) F.1 F.2.1 d_Mo_command_9 (by decide) ?_
  refine lM8 (pc := 10) F w (by unfold vp_in; decide) d_Mo_command_10 ?_
  refine lv_icmp_ne (pc := 11) F.1 F.2.1 d_Mo_command_11 (tgt := 25) (by decide) (fun h11 => ?_) (fun h11 => ?_)
  · exact Rv (pc := 25) F hr hlk w (by rw [e_r1] at h11; exact Eq.symm (Eq.trans (if_neg h11) (rfl))) d_Mo_command_25
  · refine lv_aload_n (pc := 14) F.1 F.2.1 d_Mo_command_14 rfl (lv_at hl 0 rfl) ?_
    refine gM0_42 (pc := 15) F w (F.2.2.2.2 _ m_817) d_Mo_command_15 ?_
    refine lv_iconst (pc := 18) (v := 0) F.1 F.2.1 d_Mo_command_18 (by decide) ?_
    refine lM8 (pc := 19) F w (by unfold vp_in; decide) d_Mo_command_19 ?_
    refine lv_bipush (pc := 20) (v := 49) F.1 F.2.1 d_Mo_command_20 (by decide) ?_
    refine lv_icmp_eq (pc := 22) F.1 F.2.1 d_Mo_command_22 (tgt := 26) (by decide) (fun h22 => ?_) (fun h22 => ?_)
    · refine lv_aload_n (pc := 26) F.1 F.2.1 d_Mo_command_26 rfl (lv_at hl 0 rfl) ?_
      refine gM0_42 (pc := 27) F w (F.2.2.2.2 _ m_817) d_Mo_command_27 ?_
      refine lv_iconst (pc := 30) (v := 1) F.1 F.2.1 d_Mo_command_30 (by decide) ?_
      refine lM8 (pc := 31) F w (by unfold vp_in; decide) d_Mo_command_31 ?_
      refine lv_bipush (pc := 32) (v := 82) F.1 F.2.1 d_Mo_command_32 (by decide) ?_
      refine cutW (α := Int32) (fun x H locs ls => x = f_Mo_command_r34 σ ∧ Wx D cI (wM cI am) (AM am) (AM am) s s.heap H locs σ ∧ lv_has ls 4 [(0, .ref (am 0))]) (fun x ls => F0 m 42 ls [.int x]) ?_ (fun k34 => ?_)
      · rintro v2 H locs ls ⟨ex, w, hl⟩
        have e_v2 := ex
        have w : Wx D cI (wM cI am) (AM am) (AM am) s s.heap H locs σ := w
        have hl : lv_has ls 4 [(0, .ref (am 0))] := hl
        show W _ _ _ _ _ _ _ _ _ _ _ _ _ _ _ (F0 m 42 ls [.int v2])
        refine lv_istore_n (pc := 42) F.1 F.2.1 d_Mo_command_42 rfl hl (by decide) rfl (fun ls hl => ?_)
        have hl : lv_has ls 4 [(1, .int v2), (0, .ref (am 0))] := hl
        refine lv_iload_n (pc := 43) F.1 F.2.1 d_Mo_command_43 rfl (lv_at hl 0 rfl) ?_
        refine lv_if_ne (pc := 44) F.1 F.2.1 d_Mo_command_44 (tgt := 58) (by decide) (fun h44 => ?_) (fun h44 => ?_)
        · refine lv_aload_n (pc := 58) F.1 F.2.1 d_Mo_command_58 rfl (lv_at hl 1 rfl) ?_
          refine gM0_42 (pc := 59) F w (F.2.2.2.2 _ m_817) d_Mo_command_59 ?_
          refine lv_iconst (pc := 62) (v := 2) F.1 F.2.1 d_Mo_command_62 (by decide) ?_
          refine lM8 (pc := 63) F w (by unfold vp_in; decide) d_Mo_command_63 ?_
          refine lv_iconst (pc := 64) (v := 1) F.1 F.2.1 d_Mo_command_64 (by decide) ?_
          refine lv_bipush (pc := 65) (v := 8) F.1 F.2.1 d_Mo_command_65 (by decide) ?_
          refine Usi (pc := 67) (As := [.int (σ 8 (2 : Int32).toNatClampNeg), .int 1, .int 8]) (rest := []) F (c_Mo_in l (σ 8 (2 : Int32).toNatClampNeg) 1 8) k_Mo_in m_931 (Nat.le_of_ble_eq_true rfl) (Nat.le_of_ble_eq_true rfl) ⟨rfl, rfl⟩ rfl hl.1 rfl (Nat.le_of_ble_eq_true rfl) d_Mo_command_67 hcs (fun r3 e_r3 => ?_)
          refine lv_if_ne (pc := 70) F.1 F.2.1 d_Mo_command_70 (tgt := 80) (by decide) (fun h70 => ?_) (fun h70 => ?_)
          · refine lv_aload_n (pc := 80) F.1 F.2.1 d_Mo_command_80 rfl (lv_at hl 1 rfl) ?_
            refine lv_bipush (pc := 81) (v := 65) F.1 F.2.1 d_Mo_command_81 (by decide) ?_
            refine Cvv (pc := 83) (As := [.int 65]) (rest := []) F w (c_Mo_answer l D cI am σ 65 hI) 0 rfl rfl k_Mo_answer m_1057 (Nat.le_of_ble_eq_true rfl) (Nat.le_of_ble_eq_true rfl) ⟨rfl, rfl⟩ rfl hl.1 rfl (Nat.le_of_ble_eq_true rfl) d_Mo_command_83 hcs (fun s4 H locs e_s4 w => ?_)
            have iJM_s4 : JM s4 := by rw [e_s4]; exact iJM_Mo_answer hI 65
            refine lv_iload_n (pc := 86) F.1 F.2.1 d_Mo_command_86 rfl (lv_at hl 0 rfl) ?_
            refine lv_if_ne (pc := 87) F.1 F.2.1 d_Mo_command_87 (tgt := 101) (by decide) (fun _ => ?_) (fun q => absurd q h44)
            refine lv_aload_n (pc := 101) F.1 F.2.1 d_Mo_command_101 rfl (lv_at hl 1 rfl) ?_
            refine lv_bipush (pc := 102) (v := 67) F.1 F.2.1 d_Mo_command_102 (by decide) ?_
            refine Cvv (pc := 104) (As := [.int 67]) (rest := []) F w (c_Mo_answer l D cI am s4 67 iJM_s4) 0 rfl rfl k_Mo_answer m_1057 (Nat.le_of_ble_eq_true rfl) (Nat.le_of_ble_eq_true rfl) ⟨rfl, rfl⟩ rfl hl.1 rfl (Nat.le_of_ble_eq_true rfl) d_Mo_command_104 hcs (fun s5 H locs e_s5 w => ?_)
            have iJM_s5 : JM s5 := by rw [e_s5]; exact iJM_Mo_answer iJM_s4 67
            refine lv_iconst (pc := 107) (v := 0) F.1 F.2.1 d_Mo_command_107 (by decide) ?_
            refine lv_istore_n (pc := 108) F.1 F.2.1 d_Mo_command_108 rfl hl (by decide) rfl (fun ls hl => ?_)
            have hl : lv_has ls 4 [(2, .int 0), (1, .int v2), (0, .ref (am 0))] := hl
            refine lv_bipush (pc := 109) (v := 8) F.1 F.2.1 d_Mo_command_109 (by decide) ?_
            refine lv_aload_n (pc := 111) F.1 F.2.1 d_Mo_command_111 rfl (lv_at hl 2 rfl) ?_
            refine gM0_42 (pc := 112) F w (F.2.2.2.2 _ m_817) d_Mo_command_112 ?_
            refine lv_iconst (pc := 115) (v := 2) F.1 F.2.1 d_Mo_command_115 (by decide) ?_
            refine lM8 (pc := 116) F w (by unfold vp_in; decide) d_Mo_command_116 ?_
            refine lv_imul (pc := 117) F.1 F.2.1 d_Mo_command_117 ?_
            refine lv_bipush (pc := 118) (v := 8) F.1 F.2.1 d_Mo_command_118 (by decide) ?_
            refine lv_isub (pc := 120) F.1 F.2.1 d_Mo_command_120 ?_
            refine lv_istore_n (pc := 121) F.1 F.2.1 d_Mo_command_121 rfl hl (by decide) rfl (fun ls hl => ?_)
            have hl : lv_has ls 4 [(3, .int ((8 * (s5 8 (2 : Int32).toNatClampNeg)) - 8)), (2, .int 0), (1, .int v2), (0, .ref (am 0))] := hl
            have hg : bt2 1 (s5 8 (2 : Int32).toNatClampNeg) 8 := by rw [e_s5, an_8, e_s4, an_8]; exact in_ok (by rw [← e_r3]; assumption)
            refine loopW (α := Int32 × Sg) 8 (fun j122 x H locs ls => x = it_Mo_command_122 s5 j122 ∧ Wx D cI (wM cI am) (AM am) (AM am) s s.heap H locs (x.2) ∧ lv_has ls 4 [(0, .ref (am 0)), (1, .int v2), (2, .int (x.1)), (3, .int (((8 * (s5 8 (2 : Int32).toNatClampNeg)) - 8) + nI j122))] ∧ JM (x.2)) (fun _ ls => F0 m 122 ls []) ?_ ?_ 0 (0, s5) _ _ _ (Nat.zero_le _) ⟨rfl, w, by rw [ci_0]; exact lv_sub hl [3, 2, 1, 0] rfl, iJM_s5⟩
            · rintro j122 ⟨v6, s7⟩ H locs ls hj122 ⟨ex, w, hl, iJM_s7⟩ nx122
              have e_v6 : v6 = (it_Mo_command_122 s5 j122).1 := congrArg (fun z => z.1) ex
              have e_s7 : s7 = (it_Mo_command_122 s5 j122).2 := congrArg (fun z => z.2) ex
              clear ex
              have w : Wx D cI (wM cI am) (AM am) (AM am) s s.heap H locs s7 := w
              have iJM_s7 : JM s7 := iJM_s7
              have hl : lv_has ls 4 [(0, .ref (am 0)), (1, .int v2), (2, .int v6), (3, .int (((8 * (s5 8 (2 : Int32).toNatClampNeg)) - 8) + nI j122))] := hl
              have hc122_0 : ¬ ((8 * (s7 8 (2 : Int32).toNatClampNeg)) ≤ (((8 * (s5 8 (2 : Int32).toNatClampNeg)) - 8) + nI j122)) := (by rw [show s7 8 (2 : Int32).toNatClampNeg = s5 8 (2 : Int32).toNatClampNeg by rw [e_s7]; exact congrFun (cm_8 s5 _) _]; exact cm_lt hg hj122)
              refine lv_iload_n (pc := 122) F.1 F.2.1 d_Mo_command_122 rfl (lv_at hl 3 rfl) ?_
              refine lv_bipush (pc := 123) (v := 8) F.1 F.2.1 d_Mo_command_123 (by decide) ?_
              refine lv_aload_n (pc := 125) F.1 F.2.1 d_Mo_command_125 rfl (lv_at hl 0 rfl) ?_
              refine gM0_42 (pc := 126) F w (F.2.2.2.2 _ m_817) d_Mo_command_126 ?_
              refine lv_iconst (pc := 129) (v := 2) F.1 F.2.1 d_Mo_command_129 (by decide) ?_
              refine lM8 (pc := 130) F w (by unfold vp_in; decide) d_Mo_command_130 ?_
              refine lv_imul (pc := 131) F.1 F.2.1 d_Mo_command_131 ?_
              refine lv_icmp_ge (pc := 132) F.1 F.2.1 d_Mo_command_132 (tgt := 162) (by decide) (fun q => absurd q hc122_0) (fun _ => ?_)
              refine lv_aload_n (pc := 135) F.1 F.2.1 d_Mo_command_135 rfl (lv_at hl 0 rfl) ?_
              refine lv_aload_n (pc := 136) F.1 F.2.1 d_Mo_command_136 rfl (lv_at hl 0 rfl) ?_
              refine gM0_41 (pc := 137) F w (F.2.2.2.2 _ m_816) d_Mo_command_137 ?_
              refine lv_iload_n (pc := 140) F.1 F.2.1 d_Mo_command_140 rfl (lv_at hl 3 rfl) ?_
              refine lM7 (pc := 141) F w (cm_in hg hj122) d_Mo_command_141 ?_
              refine Cvv (pc := 142) (As := [.int (s7 7 (((8 * (s5 8 (2 : Int32).toNatClampNeg)) - 8) + nI j122).toNatClampNeg)]) (rest := []) F w (c_Mo_answer l D cI am s7 (s7 7 (((8 * (s5 8 (2 : Int32).toNatClampNeg)) - 8) + nI j122).toNatClampNeg) iJM_s7) 0 rfl rfl k_Mo_answer m_1057 (Nat.le_of_ble_eq_true rfl) (Nat.le_of_ble_eq_true rfl) ⟨rfl, rfl⟩ rfl hl.1 rfl (Nat.le_of_ble_eq_true rfl) d_Mo_command_142 hcs (fun s8 H locs e_s8 w => ?_)
              have iJM_s8 : JM s8 := by rw [e_s8]; exact iJM_Mo_answer iJM_s7 (s7 7 (((8 * (s5 8 (2 : Int32).toNatClampNeg)) - 8) + nI j122).toNatClampNeg)
              refine lv_iload_n (pc := 145) F.1 F.2.1 d_Mo_command_145 rfl (lv_at hl 2 rfl) ?_
              refine lv_aload_n (pc := 146) F.1 F.2.1 d_Mo_command_146 rfl (lv_at hl 0 rfl) ?_
              refine gM0_41 (pc := 147) F w (F.2.2.2.2 _ m_816) d_Mo_command_147 ?_
              refine lv_iload_n (pc := 150) F.1 F.2.1 d_Mo_command_150 rfl (lv_at hl 3 rfl) ?_
              refine lM7 (pc := 151) F w (cm_in hg hj122) d_Mo_command_151 ?_
              refine Usi (pc := 152) (As := [.int v6, .int (s8 7 (((8 * (s5 8 (2 : Int32).toNatClampNeg)) - 8) + nI j122).toNatClampNeg)]) (rest := []) F (c_Mo_summed l v6 (s8 7 (((8 * (s5 8 (2 : Int32).toNatClampNeg)) - 8) + nI j122).toNatClampNeg)) k_Mo_summed m_1054 (Nat.le_of_ble_eq_true rfl) (Nat.le_of_ble_eq_true rfl) ⟨rfl, rfl⟩ rfl hl.1 rfl (Nat.le_of_ble_eq_true rfl) d_Mo_command_152 hcs (fun r9 e_r9 => ?_)
              refine lv_istore_n (pc := 155) F.1 F.2.1 d_Mo_command_155 rfl hl (by decide) rfl (fun ls hl => ?_)
              have hl : lv_has ls 4 [(2, .int r9), (0, .ref (am 0)), (1, .int v2), (3, .int (((8 * (s5 8 (2 : Int32).toNatClampNeg)) - 8) + nI j122))] := hl
              refine lv_iinc (pc := 156) (k := 3) (v := ((((8 * (s5 8 (2 : Int32).toNatClampNeg)) - 8) + nI j122) + 1)) F.1 F.2.1 d_Mo_command_156 hl rfl (by first | rfl | decide) (by decide) rfl (fun ls hl => ?_)
              have hl : lv_has ls 4 [(3, .int ((((8 * (s5 8 (2 : Int32).toNatClampNeg)) - 8) + nI j122) + 1)), (2, .int r9), (0, .ref (am 0)), (1, .int v2)] := hl
              refine lv_goto (pc := 159) F.1 F.2.1 d_Mo_command_159 (tgt := 122) (by decide) ?_
              exact nx122 (r9, s8) _ _ _ ⟨(by rw [e_r9, e_s8, e_s7, e_v6]; exact Eq.symm (rfl)), w, by rw [← ci_s]; exact lv_sub hl [2, 3, 1, 0] rfl, iJM_s8⟩
            · rintro ⟨v6, s7⟩ H locs ls ⟨ex, w, hl, iJM_s7⟩
              have e_v6 : v6 = (it_Mo_command_122 s5 8).1 := congrArg (fun z => z.1) ex
              have e_s7 : s7 = (it_Mo_command_122 s5 8).2 := congrArg (fun z => z.2) ex
              clear ex
              have w : Wx D cI (wM cI am) (AM am) (AM am) s s.heap H locs s7 := w
              have iJM_s7 : JM s7 := iJM_s7
              have hl : lv_has ls 4 [(0, .ref (am 0)), (1, .int v2), (2, .int v6), (3, .int (((8 * (s5 8 (2 : Int32).toNatClampNeg)) - 8) + nI 8))] := hl
              have hx122_0 : (8 * (s7 8 (2 : Int32).toNatClampNeg)) ≤ (((8 * (s5 8 (2 : Int32).toNatClampNeg)) - 8) + nI 8) := (by rw [show s7 8 (2 : Int32).toNatClampNeg = s5 8 (2 : Int32).toNatClampNeg by rw [e_s7]; exact congrFun (cm_8 s5 _) _]; exact cm_ge hg)
              refine lv_iload_n (pc := 122) F.1 F.2.1 d_Mo_command_122 rfl (lv_at hl 3 rfl) ?_
              refine lv_bipush (pc := 123) (v := 8) F.1 F.2.1 d_Mo_command_123 (by decide) ?_
              refine lv_aload_n (pc := 125) F.1 F.2.1 d_Mo_command_125 rfl (lv_at hl 0 rfl) ?_
              refine gM0_42 (pc := 126) F w (F.2.2.2.2 _ m_817) d_Mo_command_126 ?_
              refine lv_iconst (pc := 129) (v := 2) F.1 F.2.1 d_Mo_command_129 (by decide) ?_
              refine lM8 (pc := 130) F w (by unfold vp_in; decide) d_Mo_command_130 ?_
              refine lv_imul (pc := 131) F.1 F.2.1 d_Mo_command_131 ?_
              refine lv_icmp_ge (pc := 132) F.1 F.2.1 d_Mo_command_132 (tgt := 162) (by decide) (fun _ => ?_) (fun q => absurd hx122_0 q)
              refine lv_aload_n (pc := 162) F.1 F.2.1 d_Mo_command_162 rfl (lv_at hl 0 rfl) ?_
              refine lv_iload_n (pc := 163) F.1 F.2.1 d_Mo_command_163 rfl (lv_at hl 2 rfl) ?_
              refine Cvv (pc := 164) (As := [.int v6]) (rest := []) F w (c_Mo_answer l D cI am s7 v6 iJM_s7) 0 rfl rfl k_Mo_answer m_1057 (Nat.le_of_ble_eq_true rfl) (Nat.le_of_ble_eq_true rfl) ⟨rfl, rfl⟩ rfl hl.1 rfl (Nat.le_of_ble_eq_true rfl) d_Mo_command_164 hcs (fun s10 H locs e_s10 w => ?_)
              have iJM_s10 : JM s10 := by rw [e_s10]; exact iJM_Mo_answer iJM_s7 v6
              exact Rv (pc := 167) F hr hlk w (by rw [e_r1] at h11; rw [e_v2] at h44; rw [e_r3] at h70; rw [e_s10, e_s7, e_v6, e_s5, e_s4]; exact Eq.symm (Eq.trans (if_pos h11) (Eq.trans (if_pos h22) (Eq.trans (if_neg h44) (Eq.trans (if_neg h70) (rfl)))))) d_Mo_command_167
          · refine lv_aload_n (pc := 73) F.1 F.2.1 d_Mo_command_73 rfl (lv_at hl 1 rfl) ?_
            refine lv_bipush (pc := 74) (v := 78) F.1 F.2.1 d_Mo_command_74 (by decide) ?_
            refine Cvv (pc := 76) (As := [.int 78]) (rest := []) F w (c_Mo_answer l D cI am σ 78 hI) 0 rfl rfl k_Mo_answer m_1057 (Nat.le_of_ble_eq_true rfl) (Nat.le_of_ble_eq_true rfl) ⟨rfl, rfl⟩ rfl hl.1 rfl (Nat.le_of_ble_eq_true rfl) d_Mo_command_76 hcs (fun s11 H locs e_s11 w => ?_)
            have iJM_s11 : JM s11 := by rw [e_s11]; exact iJM_Mo_answer hI 78
            exact Rv (pc := 79) F hr hlk w (by rw [e_r1] at h11; rw [e_v2] at h44; rw [e_r3] at h70; rw [e_s11]; exact Eq.symm (Eq.trans (if_pos h11) (Eq.trans (if_pos h22) (Eq.trans (if_neg h44) (Eq.trans (if_pos h70) (rfl)))))) d_Mo_command_79
        · refine lv_aload_n (pc := 47) F.1 F.2.1 d_Mo_command_47 rfl (lv_at hl 1 rfl) ?_
          refine gM0_42 (pc := 48) F w (F.2.2.2.2 _ m_817) d_Mo_command_48 ?_
          refine lv_iconst (pc := 51) (v := 1) F.1 F.2.1 d_Mo_command_51 (by decide) ?_
          refine lM8 (pc := 52) F w (by unfold vp_in; decide) d_Mo_command_52 ?_
          refine lv_bipush (pc := 53) (v := 87) F.1 F.2.1 d_Mo_command_53 (by decide) ?_
          refine lv_icmp_ne (pc := 55) F.1 F.2.1 d_Mo_command_55 (tgt := 73) (by decide) (fun h55 => ?_) (fun h55 => ?_)
          · refine lv_aload_n (pc := 73) F.1 F.2.1 d_Mo_command_73 rfl (lv_at hl 1 rfl) ?_
            refine lv_bipush (pc := 74) (v := 78) F.1 F.2.1 d_Mo_command_74 (by decide) ?_
            refine Cvv (pc := 76) (As := [.int 78]) (rest := []) F w (c_Mo_answer l D cI am σ 78 hI) 0 rfl rfl k_Mo_answer m_1057 (Nat.le_of_ble_eq_true rfl) (Nat.le_of_ble_eq_true rfl) ⟨rfl, rfl⟩ rfl hl.1 rfl (Nat.le_of_ble_eq_true rfl) d_Mo_command_76 hcs (fun s12 H locs e_s12 w => ?_)
            have iJM_s12 : JM s12 := by rw [e_s12]; exact iJM_Mo_answer hI 78
            exact Rv (pc := 79) F hr hlk w (by rw [e_r1] at h11; rw [e_v2] at h44; rw [e_s12]; exact Eq.symm (Eq.trans (if_pos h11) (Eq.trans (if_pos h22) (Eq.trans (if_pos h44) (Eq.trans (if_neg h55) (rfl)))))) d_Mo_command_79
          · refine lv_aload_n (pc := 58) F.1 F.2.1 d_Mo_command_58 rfl (lv_at hl 1 rfl) ?_
            refine gM0_42 (pc := 59) F w (F.2.2.2.2 _ m_817) d_Mo_command_59 ?_
            refine lv_iconst (pc := 62) (v := 2) F.1 F.2.1 d_Mo_command_62 (by decide) ?_
            refine lM8 (pc := 63) F w (by unfold vp_in; decide) d_Mo_command_63 ?_
            refine lv_iconst (pc := 64) (v := 1) F.1 F.2.1 d_Mo_command_64 (by decide) ?_
            refine lv_bipush (pc := 65) (v := 8) F.1 F.2.1 d_Mo_command_65 (by decide) ?_
            refine Usi (pc := 67) (As := [.int (σ 8 (2 : Int32).toNatClampNeg), .int 1, .int 8]) (rest := []) F (c_Mo_in l (σ 8 (2 : Int32).toNatClampNeg) 1 8) k_Mo_in m_931 (Nat.le_of_ble_eq_true rfl) (Nat.le_of_ble_eq_true rfl) ⟨rfl, rfl⟩ rfl hl.1 rfl (Nat.le_of_ble_eq_true rfl) d_Mo_command_67 hcs (fun r13 e_r13 => ?_)
            refine lv_if_ne (pc := 70) F.1 F.2.1 d_Mo_command_70 (tgt := 80) (by decide) (fun h70 => ?_) (fun h70 => ?_)
            · refine lv_aload_n (pc := 80) F.1 F.2.1 d_Mo_command_80 rfl (lv_at hl 1 rfl) ?_
              refine lv_bipush (pc := 81) (v := 65) F.1 F.2.1 d_Mo_command_81 (by decide) ?_
              refine Cvv (pc := 83) (As := [.int 65]) (rest := []) F w (c_Mo_answer l D cI am σ 65 hI) 0 rfl rfl k_Mo_answer m_1057 (Nat.le_of_ble_eq_true rfl) (Nat.le_of_ble_eq_true rfl) ⟨rfl, rfl⟩ rfl hl.1 rfl (Nat.le_of_ble_eq_true rfl) d_Mo_command_83 hcs (fun s14 H locs e_s14 w => ?_)
              have iJM_s14 : JM s14 := by rw [e_s14]; exact iJM_Mo_answer hI 65
              refine lv_iload_n (pc := 86) F.1 F.2.1 d_Mo_command_86 rfl (lv_at hl 0 rfl) ?_
              refine lv_if_ne (pc := 87) F.1 F.2.1 d_Mo_command_87 (tgt := 101) (by decide) (fun q => absurd h44 q) (fun _ => ?_)
              refine lv_aload_n (pc := 90) F.1 F.2.1 d_Mo_command_90 rfl (lv_at hl 1 rfl) ?_
              refine lv_aload_n (pc := 91) F.1 F.2.1 d_Mo_command_91 rfl (lv_at hl 1 rfl) ?_
              refine gM0_42 (pc := 92) F w (F.2.2.2.2 _ m_817) d_Mo_command_92 ?_
              refine lv_iconst (pc := 95) (v := 2) F.1 F.2.1 d_Mo_command_95 (by decide) ?_
              refine lM8 (pc := 96) F w (by unfold vp_in; decide) d_Mo_command_96 ?_
              refine pM0_44 (pc := 97) F w (F.2.2.2.2 _ m_819) d_Mo_command_97 (fun H locs s15 e_s15 w => ?_)
              exact Rv (pc := 100) F hr hlk w (by rw [e_r1] at h11; rw [e_v2] at h44; rw [e_r13] at h70; rw [e_s15, e_s14]; exact Eq.symm (Eq.trans (if_pos h11) (Eq.trans (if_pos h22) (Eq.trans (if_pos h44) (Eq.trans (if_pos h55) (Eq.trans (if_neg h70) (rfl))))))) d_Mo_command_100
            · refine lv_aload_n (pc := 73) F.1 F.2.1 d_Mo_command_73 rfl (lv_at hl 1 rfl) ?_
              refine lv_bipush (pc := 74) (v := 78) F.1 F.2.1 d_Mo_command_74 (by decide) ?_
              refine Cvv (pc := 76) (As := [.int 78]) (rest := []) F w (c_Mo_answer l D cI am σ 78 hI) 0 rfl rfl k_Mo_answer m_1057 (Nat.le_of_ble_eq_true rfl) (Nat.le_of_ble_eq_true rfl) ⟨rfl, rfl⟩ rfl hl.1 rfl (Nat.le_of_ble_eq_true rfl) d_Mo_command_76 hcs (fun s16 H locs e_s16 w => ?_)
              have iJM_s16 : JM s16 := by rw [e_s16]; exact iJM_Mo_answer hI 78
              exact Rv (pc := 79) F hr hlk w (by rw [e_r1] at h11; rw [e_v2] at h44; rw [e_r13] at h70; rw [e_s16]; exact Eq.symm (Eq.trans (if_pos h11) (Eq.trans (if_pos h22) (Eq.trans (if_pos h44) (Eq.trans (if_pos h55) (Eq.trans (if_pos h70) (rfl))))))) d_Mo_command_79
      · refine lv_icmp_ne (pc := 34) F.1 F.2.1 d_Mo_command_34 (tgt := 41) (by decide) (fun h34 => ?_) (fun h34 => ?_)
        · refine lv_iconst (pc := 41) (v := 0) F.1 F.2.1 d_Mo_command_41 (by decide) ?_
          exact k34 0 _ _ _ ⟨(by exact Eq.symm (Eq.trans (if_neg h34) (rfl))), w, lv_sub hl [0] rfl⟩
        · refine lv_iconst (pc := 37) (v := 1) F.1 F.2.1 d_Mo_command_37 (by decide) ?_
          refine lv_goto (pc := 38) F.1 F.2.1 d_Mo_command_38 (tgt := 42) (by decide) ?_
          exact k34 1 _ _ _ ⟨(by exact Eq.symm (Eq.trans (if_pos h34) (rfl))), w, lv_sub hl [0] rfl⟩
    · exact Rv (pc := 25) F hr hlk w (by rw [e_r1] at h11; exact Eq.symm (Eq.trans (if_pos h11) (Eq.trans (if_neg h22) (rfl)))) d_Mo_command_25
