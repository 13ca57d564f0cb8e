def f_Pm_isMemory_r1 (x1 : Int32) : Int32 := if x1 < 0 then (0) else (if 768 ≤ x1 then (0) else (1))
def f_Pm_isMemory  (x1 : Int32) : Int32 := let v1 := (f_Pm_isMemory_r1 x1); v1
theorem z_f_Pm_isMemory_r1_0 (x1 : Int32) : (f_Pm_isMemory_r1 x1) = 0 ∨ (f_Pm_isMemory_r1 x1) = 1 := by unfold f_Pm_isMemory_r1; (try dsimp only); (repeat' split) <;> first | exact Or.inl rfl | exact Or.inr rfl
theorem z_Pm_isMemory  (x1 : Int32) : (f_Pm_isMemory x1) = 0 ∨ (f_Pm_isMemory x1) = 1 := by unfold f_Pm_isMemory; (try dsimp only); (repeat' split) <;> first | exact Or.inl rfl | exact Or.inr rfl | apply z_f_Pm_isMemory_r1_0
set_option maxHeartbeats 1000000 in
set_option maxRecDepth 100000 in
theorem c_Pm_isMemory (l : Launch)  (x1 : Int32) : Met l y_Pm_isMemory (Cond.code y_Pm_isMemory b_Pm_isMemory 1 (some .boolean) :: al) { frames := 0, cells := 0, slots := 0, locals := 0 } (PU [.int x1]) (QU (f_Pm_isMemory x1)) 0 0 (fun _ => False) := by
  refine Mu l (by decide) (Nat.le_of_ble_eq_true rfl) ?_
  intro p e s m below meth c ls F hr hlk hl
  have F : CallFix p m c b_Pm_isMemory 1 s _ al "PictureMachine" := F
  generalize hH : s.heap = H
  generalize hlo : ([] : List Loc) = locs
  have w : (H = s.heap ∧ locs = []) := ⟨hH.symm, hlo.symm⟩
  have hl : lv_has ls 1 [(0, .int x1)] := hl
  refine lv_iload_n (pc := 0) F.1 F.2.1 d_Pm_isMemory_0 rfl (lv_at hl 0 rfl) ?_
  refine cutW (α := Int32) (fun x H locs ls => x = f_Pm_isMemory_r1 x1 ∧ (H = s.heap ∧ locs = []) ∧ lv_has ls 1 [(0, .int x1)]) (fun x ls => F0 m 16 ls [.int x]) ?_ (fun k1 => ?_)
  · rintro v1 H locs ls ⟨ex, w, hl⟩
    have e_v1 := ex
    have w : (H = s.heap ∧ locs = []) := w
    have hl : lv_has ls 1 [(0, .int x1)] := hl
    show W _ _ _ _ _ _ _ _ _ _ _ _ _ _ _ (F0 m 16 ls [.int v1])
    exact Uz (pc := 16) F w hr hlk (e_v1 ▸ z_f_Pm_isMemory_r1_0 x1) (by rw [e_v1]; exact Eq.symm (rfl)) d_Pm_isMemory_16
  · refine lv_if_lt (pc := 1) F.1 F.2.1 d_Pm_isMemory_1 (tgt := 15) (by decide) (fun h1 => ?_) (fun h1 => ?_)
    · refine lv_iconst (pc := 15) (v := 0) F.1 F.2.1 d_Pm_isMemory_15 (by decide) ?_
      exact k1 0 _ _ _ ⟨(by exact Eq.symm (Eq.trans (if_pos h1) (rfl))), w, lv_sub hl [0] rfl⟩
    · refine lv_iload_n (pc := 4) F.1 F.2.1 d_Pm_isMemory_4 rfl (lv_at hl 0 rfl) ?_
      refine lv_sipush (pc := 5) (v := 768) F.1 F.2.1 d_Pm_isMemory_5 (by decide) ?_
      refine lv_icmp_ge (pc := 8) F.1 F.2.1 d_Pm_isMemory_8 (tgt := 15) (by decide) (fun h8 => ?_) (fun h8 => ?_)
      · refine lv_iconst (pc := 15) (v := 0) F.1 F.2.1 d_Pm_isMemory_15 (by decide) ?_
        exact k1 0 _ _ _ ⟨(by exact Eq.symm (Eq.trans (if_neg h1) (Eq.trans (if_pos h8) (rfl)))), w, lv_sub hl [0] rfl⟩
      · refine lv_iconst (pc := 11) (v := 1) F.1 F.2.1 d_Pm_isMemory_11 (by decide) ?_
        refine lv_goto (pc := 12) F.1 F.2.1 d_Pm_isMemory_12 (tgt := 16) (by decide) ?_
        exact k1 1 _ _ _ ⟨(by exact Eq.symm (Eq.trans (if_neg h1) (Eq.trans (if_neg h8) (rfl)))), w, lv_sub hl [0] rfl⟩
def f_Pm_isByte_r1 (x1 : Int32) : Int32 := if x1 < 0 then (0) else (if 255 < x1 then (0) else (1))
def f_Pm_isByte  (x1 : Int32) : Int32 := let v1 := (f_Pm_isByte_r1 x1); v1
theorem z_f_Pm_isByte_r1_0 (x1 : Int32) : (f_Pm_isByte_r1 x1) = 0 ∨ (f_Pm_isByte_r1 x1) = 1 := by unfold f_Pm_isByte_r1; (try dsimp only); (repeat' split) <;> first | exact Or.inl rfl | exact Or.inr rfl
theorem z_Pm_isByte  (x1 : Int32) : (f_Pm_isByte x1) = 0 ∨ (f_Pm_isByte x1) = 1 := by unfold f_Pm_isByte; (try dsimp only); (repeat' split) <;> first | exact Or.inl rfl | exact Or.inr rfl | apply z_f_Pm_isByte_r1_0
set_option maxHeartbeats 1000000 in
set_option maxRecDepth 100000 in
theorem c_Pm_isByte (l : Launch)  (x1 : Int32) : Met l y_Pm_isByte (Cond.code y_Pm_isByte b_Pm_isByte 1 (some .boolean) :: al) { frames := 0, cells := 0, slots := 0, locals := 0 } (PU [.int x1]) (QU (f_Pm_isByte x1)) 0 0 (fun _ => False) := by
  refine Mu l (by decide) (Nat.le_of_ble_eq_true rfl) ?_
  intro p e s m below meth c ls F hr hlk hl
  have F : CallFix p m c b_Pm_isByte 1 s _ al "PictureMachine" := F
  generalize hH : s.heap = H
  generalize hlo : ([] : List Loc) = locs
  have w : (H = s.heap ∧ locs = []) := ⟨hH.symm, hlo.symm⟩
  have hl : lv_has ls 1 [(0, .int x1)] := hl
  refine lv_iload_n (pc := 0) F.1 F.2.1 d_Pm_isByte_0 rfl (lv_at hl 0 rfl) ?_
  refine cutW (α := Int32) (fun x H locs ls => x = f_Pm_isByte_r1 x1 ∧ (H = s.heap ∧ locs = []) ∧ lv_has ls 1 [(0, .int x1)]) (fun x ls => F0 m 16 ls [.int x]) ?_ (fun k1 => ?_)
  · rintro v1 H locs ls ⟨ex, w, hl⟩
    have e_v1 := ex
    have w : (H = s.heap ∧ locs = []) := w
    have hl : lv_has ls 1 [(0, .int x1)] := hl
    show W _ _ _ _ _ _ _ _ _ _ _ _ _ _ _ (F0 m 16 ls [.int v1])
    exact Uz (pc := 16) F w hr hlk (e_v1 ▸ z_f_Pm_isByte_r1_0 x1) (by rw [e_v1]; exact Eq.symm (rfl)) d_Pm_isByte_16
  · refine lv_if_lt (pc := 1) F.1 F.2.1 d_Pm_isByte_1 (tgt := 15) (by decide) (fun h1 => ?_) (fun h1 => ?_)
    · refine lv_iconst (pc := 15) (v := 0) F.1 F.2.1 d_Pm_isByte_15 (by decide) ?_
      exact k1 0 _ _ _ ⟨(by exact Eq.symm (Eq.trans (if_pos h1) (rfl))), w, lv_sub hl [0] rfl⟩
    · refine lv_iload_n (pc := 4) F.1 F.2.1 d_Pm_isByte_4 rfl (lv_at hl 0 rfl) ?_
      refine lv_sipush (pc := 5) (v := 255) F.1 F.2.1 d_Pm_isByte_5 (by decide) ?_
      refine lv_icmp_gt (pc := 8) F.1 F.2.1 d_Pm_isByte_8 (tgt := 15) (by decide) (fun h8 => ?_) (fun h8 => ?_)
      · refine lv_iconst (pc := 15) (v := 0) F.1 F.2.1 d_Pm_isByte_15 (by decide) ?_
        exact k1 0 _ _ _ ⟨(by exact Eq.symm (Eq.trans (if_neg h1) (Eq.trans (if_pos h8) (rfl)))), w, lv_sub hl [0] rfl⟩
      · refine lv_iconst (pc := 11) (v := 1) F.1 F.2.1 d_Pm_isByte_11 (by decide) ?_
        refine lv_goto (pc := 12) F.1 F.2.1 d_Pm_isByte_12 (tgt := 16) (by decide) ?_
        exact k1 1 _ _ _ ⟨(by exact Eq.symm (Eq.trans (if_neg h1) (Eq.trans (if_neg h8) (rfl)))), w, lv_sub hl [0] rfl⟩
def f_Me_put_r10 (σ : Sg) (x1 : Int32) (x2 : Int32) : Sg := if 768 ≤ (x1 &&& 1023) then (σ) else (let s1 := sf σ 10 (x1 &&& 1023).toNatClampNeg x2; s1)
def f_Me_put (σ : Sg) (x1 : Int32) (x2 : Int32) : Sg := let s2 := (f_Me_put_r10 σ x1 x2); s2
set_option maxHeartbeats 1000000 in
set_option maxRecDepth 100000 in
theorem c_Me_put (l : Launch) (D : va_G) (cI : ClassId) (ad : Nat → Nat) (σ : Sg) (x1 : Int32) (x2 : Int32) : Met l y_Me_put (Cond.code y_Me_put b_Me_put 4 none :: al) { frames := 0, cells := 0, slots := 0, locals := 0 } (Px D cI (wC cI ad) (AC ad) σ [.ref (ad 4), .int x1, .int x2]) (va_Qv (fun u => u = f_Me_put σ x1 x2) (Bx D cI (wC cI ad) (AC ad)) (AC ad)) 0 0 (AC ad) := by
  refine Mx l (by decide) (Nat.le_of_ble_eq_true rfl) ?_
  intro p e s m below meth c ls F w hr hlk hl
  have F : CallFix p m c b_Me_put 4 s _ al "PictureMachine$Memory" := F
  have hl : lv_has ls 4 [(0, .ref (ad 4)), (1, .int x1), (2, .int x2)] := hl
  refine lv_iload_n (pc := 0) F.1 F.2.1 d_Me_put_0 rfl (lv_at hl 1 rfl) ?_
  refine lv_sipush (pc := 1) (v := 1023) F.1 F.2.1 d_Me_put_1 (by decide) ?_
  refine lv_iand (pc := 4) F.1 F.2.1 d_Me_put_4 ?_
  refine lv_istore_n (pc := 5) F.1 F.2.1 d_Me_put_5 rfl hl (by decide) rfl (fun ls hl => ?_)
  have hl : lv_has ls 4 [(3, .int (x1 &&& 1023)), (0, .ref (ad 4)), (1, .int x1), (2, .int x2)] := hl
  refine lv_iload_n (pc := 6) F.1 F.2.1 d_Me_put_6 rfl (lv_at hl 0 rfl) ?_
  refine lv_sipush (pc := 7) (v := 768) F.1 F.2.1 d_Me_put_7 (by decide) ?_
  refine cutW (α := Sg) (fun x H locs ls => x = f_Me_put_r10 σ x1 x2 ∧ Wx D cI (wC cI ad) (AC ad) (AC ad) s s.heap H locs x ∧ lv_has ls 4 [(0, .ref (ad 4)), (1, .int x1), (2, .int x2), (3, .int (x1 &&& 1023))]) (fun x ls => F0 m 20 ls []) ?_ (fun k10 => ?_)
  · rintro s2 H locs ls ⟨ex, w, hl⟩
    have e_s2 := ex
    have w : Wx D cI (wC cI ad) (AC ad) (AC ad) s s.heap H locs s2 := w
    have hl : lv_has ls 4 [(0, .ref (ad 4)), (1, .int x1), (2, .int x2), (3, .int (x1 &&& 1023))] := hl
    show W _ _ _ _ _ _ _ _ _ _ _ _ _ _ _ (F0 m 20 ls [])
    exact Rv (pc := 20) F hr hlk w (by rw [e_s2]; exact Eq.symm (rfl)) d_Me_put_20
  · refine lv_icmp_ge (pc := 10) F.1 F.2.1 d_Me_put_10 (tgt := 20) (by decide) (fun h10 => ?_) (fun h10 => ?_)
    · exact k10 σ _ _ _ ⟨(by exact Eq.symm (Eq.trans (if_pos h10) (rfl))), w, lv_sub hl [1, 2, 3, 0] rfl⟩
    · refine lv_aload_n (pc := 13) F.1 F.2.1 d_Me_put_13 rfl (lv_at hl 1 rfl) ?_
      refine gC4_0 (pc := 14) F w (F.2.2.2.2 _ m_76) d_Me_put_14 ?_
      refine lv_iload_n (pc := 17) F.1 F.2.1 d_Me_put_17 rfl (lv_at hl 0 rfl) ?_
      refine lv_iload_n (pc := 18) F.1 F.2.1 d_Me_put_18 rfl (lv_at hl 3 rfl) ?_
      refine aC10 (pc := 19) F w (by first | exact in768 (by assumption) | exact in768' (by assumption)) d_Me_put_19 (fun H locs s1 e_s1 w => ?_)
      exact k10 s1 _ _ _ ⟨(by rw [e_s1]; exact Eq.symm (Eq.trans (if_neg h10) (rfl))), w, lv_sub hl [1, 2, 3, 0] rfl⟩
def f_Pm_poke_r4 (x2 : Int32) (r1 : Int32) : Int32 := if r1 = 0 then (0) else (let r2 := f_Pm_isByte x2; if r2 = 0 then (0) else (1))
def f_Pm_poke (σ : Sg) (x1 : Int32) (x2 : Int32) : Sg := let r1 := f_Pm_isMemory x1; let v3 := (f_Pm_poke_r4 x2 r1); let s4 := f_Me_put σ x1 x2; s4
theorem z_f_Pm_poke_r4_0 (x2 : Int32) (r1 : Int32) : (f_Pm_poke_r4 x2 r1) = 0 ∨ (f_Pm_poke_r4 x2 r1) = 1 := by unfold f_Pm_poke_r4; (try dsimp only); (repeat' split) <;> first | exact Or.inl rfl | exact Or.inr rfl | apply z_Pm_isByte | apply z_Pm_isMemory
set_option maxHeartbeats 1000000 in
set_option maxRecDepth 100000 in
theorem c_Pm_poke (l : Launch) (D : va_G) (cI : ClassId) (ad : Nat → Nat) (σ : Sg) (x1 : Int32) (x2 : Int32) (hp : ¬ (f_Pm_poke_r4 x2 (f_Pm_isMemory x1)) = 0) : Met l y_Pm_poke (Cond.code y_Pm_poke b_Pm_poke 3 none :: al) { frames := 1, cells := 0, slots := 0, locals := 23 } (Px D cI (wC cI ad) (AC ad) σ [.ref (ad 0), .int x1, .int x2]) (va_Qv (fun u => u = f_Pm_poke σ x1 x2) (Bx D cI (wC cI ad) (AC ad)) (AC ad)) 0 0 (AC ad) := by
  refine Mx l (by decide) (Nat.le_of_ble_eq_true rfl) ?_
  intro p e s m below meth c ls F w hr hlk hl
  have F : CallFix p m c b_Pm_poke 3 s _ al "PictureMachine" := F
  have hl : lv_has ls 3 [(0, .ref (ad 0)), (1, .int x1), (2, .int x2)] := hl
  have hcs : (0 : Nat) ≤ 0 ∧ (0 : Nat) ≤ 0 := ⟨Nat.le_refl _, Nat.le_refl _⟩
  refine lv_iload_n (pc := 0) F.1 F.2.1 d_Pm_poke_0 rfl (lv_at hl 1 rfl) ?_
  refine Usi (pc := 1) (As := [.int x1]) (rest := []) F (c_Pm_isMemory l x1) k_Pm_isMemory m_365 (Nat.le_of_ble_eq_true rfl) (Nat.le_of_ble_eq_true rfl) ⟨rfl, rfl⟩ rfl hl.1 rfl (Nat.le_of_ble_eq_true rfl) d_Pm_poke_1 hcs (fun r1 e_r1 => ?_)
  refine cutW (α := Int32) (fun x H locs ls => x = f_Pm_poke_r4 x2 r1 ∧ Wx D cI (wC cI ad) (AC ad) (AC ad) s s.heap H locs σ ∧ lv_has ls 3 [(0, .ref (ad 0)), (1, .int x1), (2, .int x2)]) (fun x ls => F0 m 19 ls [.int x]) ?_ (fun k4 => ?_)
  · rintro v3 H locs ls ⟨ex, w, hl⟩
    have e_v3 := ex
    have w : Wx D cI (wC cI ad) (AC ad) (AC ad) s s.heap H locs σ := w
    have hl : lv_has ls 3 [(0, .ref (ad 0)), (1, .int x1), (2, .int x2)] := hl
    show W _ _ _ _ _ _ _ _ _ _ _ _ _ _ _ (F0 m 19 ls [.int v3])
    refine Usv (pc := 19) F (c_Pm_need l (by rw [e_v3, e_r1]; exact hp)) k_Pm_need m_371 (Nat.le_of_ble_eq_true rfl) (Nat.le_of_ble_eq_true rfl) ⟨rfl, rfl⟩ rfl hl.1 rfl (Nat.le_of_ble_eq_true rfl) d_Pm_poke_19 hcs ?_
    refine lv_aload_n (pc := 22) F.1 F.2.1 d_Pm_poke_22 rfl (lv_at hl 0 rfl) ?_
    refine gC0_0 (pc := 23) F w (F.2.2.2.2 _ m_319) d_Pm_poke_23 ?_
    refine gNC1_2 (pc := 26) F w m_233 d_Pm_poke_26 ?_
    refine lv_iload_n (pc := 29) F.1 F.2.1 d_Pm_poke_29 rfl (lv_at hl 1 rfl) ?_
    refine lv_iload_n (pc := 30) F.1 F.2.1 d_Pm_poke_30 rfl (lv_at hl 2 rfl) ?_
    refine Cvv (pc := 31) (As := [.int x1, .int x2]) (rest := []) F w (c_Me_put l D cI ad σ x1 x2) 4 rfl rfl k_Me_put m_436 (Nat.le_of_ble_eq_true rfl) (Nat.le_of_ble_eq_true rfl) ⟨rfl, rfl⟩ rfl hl.1 rfl (Nat.le_of_ble_eq_true rfl) d_Pm_poke_31 hcs (fun s4 H locs e_s4 w => ?_)
    exact Rv (pc := 34) F hr hlk w (by rw [e_s4]; exact Eq.symm (rfl)) d_Pm_poke_34
  · refine lv_if_eq (pc := 4) F.1 F.2.1 d_Pm_poke_4 (tgt := 18) (by decide) (fun h4 => ?_) (fun h4 => ?_)
    · refine lv_iconst (pc := 18) (v := 0) F.1 F.2.1 d_Pm_poke_18 (by decide) ?_
      exact k4 0 _ _ _ ⟨(by exact Eq.symm (Eq.trans (if_pos h4) (rfl))), w, lv_sub hl [0, 1, 2] rfl⟩
    · refine lv_iload_n (pc := 7) F.1 F.2.1 d_Pm_poke_7 rfl (lv_at hl 2 rfl) ?_
      refine Usi (pc := 8) (As := [.int x2]) (rest := []) F (c_Pm_isByte l x2) k_Pm_isByte m_368 (Nat.le_of_ble_eq_true rfl) (Nat.le_of_ble_eq_true rfl) ⟨rfl, rfl⟩ rfl hl.1 rfl (Nat.le_of_ble_eq_true rfl) d_Pm_poke_8 hcs (fun r2 e_r2 => ?_)
      refine lv_if_eq (pc := 11) F.1 F.2.1 d_Pm_poke_11 (tgt := 18) (by decide) (fun h11 => ?_) (fun h11 => ?_)
      · refine lv_iconst (pc := 18) (v := 0) F.1 F.2.1 d_Pm_poke_18 (by decide) ?_
        exact k4 0 _ _ _ ⟨(by rw [e_r2] at h11; exact Eq.symm (Eq.trans (if_neg h4) (Eq.trans (if_pos h11) (rfl)))), w, lv_sub hl [0, 1, 2] rfl⟩
      · refine lv_iconst (pc := 14) (v := 1) F.1 F.2.1 d_Pm_poke_14 (by decide) ?_
        refine lv_goto (pc := 15) F.1 F.2.1 d_Pm_poke_15 (tgt := 19) (by decide) ?_
        exact k4 1 _ _ _ ⟨(by rw [e_r2] at h11; exact Eq.symm (Eq.trans (if_neg h4) (Eq.trans (if_neg h11) (rfl)))), w, lv_sub hl [0, 1, 2] rfl⟩
set_option maxHeartbeats 1000000 in
set_option maxRecDepth 100000 in
theorem t_Pm_poke (l : Launch) (htr : l.stackTraces = false) (A : Nat → Prop) (ad : Nat → Nat)  (x1 : Int32) (x2 : Int32) (hp : (f_Pm_poke_r4 x2 (f_Pm_isMemory x1)) = 0) : MetT l y_Pm_poke (Cond.code y_Pm_poke b_Pm_poke 3 none :: al) { frames := 7, cells := 1, slots := 6, locals := 128 } (PZ A [.ref (ad 0), .int x1, .int x2]) (QX "java/lang/IllegalArgumentException") 1 6 (fun _ => False) := by
  refine MuT l (by decide) (Nat.le_of_ble_eq_true rfl) ?_
  intro p e s m below meth c ls F hno hlk hl hZ
  have F : CallFix p m c b_Pm_poke 3 s _ al "PictureMachine" := F
  generalize hH : s.heap = H
  generalize hlo : ([] : List Loc) = locs
  have w : (H = s.heap ∧ locs = []) := ⟨hH.symm, hlo.symm⟩
  have hl : lv_has ls 3 [(0, .ref (ad 0)), (1, .int x1), (2, .int x2)] := hl
  have hcs : (0 : Nat) ≤ 1 ∧ (0 : Nat) ≤ 6 := ⟨Nat.zero_le _, Nat.zero_le _⟩
  refine lv_iload_n (pc := 0) F.1 F.2.1 d_Pm_poke_0 rfl (lv_at hl 1 rfl) ?_
  refine Usi (pc := 1) (As := [.int x1]) (rest := []) F (c_Pm_isMemory l x1) k_Pm_isMemory m_365 (Nat.le_of_ble_eq_true rfl) (Nat.le_of_ble_eq_true rfl) ⟨rfl, rfl⟩ rfl hl.1 rfl (Nat.le_of_ble_eq_true rfl) d_Pm_poke_1 hcs (fun r1 e_r1 => ?_)
  refine cutW (α := Int32) (fun x H locs ls => x = f_Pm_poke_r4 x2 r1 ∧ (H = s.heap ∧ locs = []) ∧ lv_has ls 3 [(0, .ref (ad 0)), (1, .int x1), (2, .int x2)]) (fun x ls => F0 m 19 ls [.int x]) ?_ (fun k4 => ?_)
  · rintro v3 H locs ls ⟨ex, w, hl⟩
    have e_v3 := ex
    have w : (H = s.heap ∧ locs = []) := w
    have hl : lv_has ls 3 [(0, .ref (ad 0)), (1, .int x1), (2, .int x2)] := hl
    show W _ _ _ _ _ _ _ _ _ _ _ _ _ _ _ (F0 m 19 ls [.int v3])
    exact needT F (t_Pm_need l htr A (x1 := v3) (by rw [e_v3, e_r1]; exact hp)) k_Pm_need m_371 (Nat.le_of_ble_eq_true rfl) (Nat.le_of_ble_eq_true rfl) (Nat.le_of_ble_eq_true rfl) (Nat.le_of_ble_eq_true rfl) rfl rfl hl.1 hZ w hno hlk d_Pm_poke_19
  · refine lv_if_eq (pc := 4) F.1 F.2.1 d_Pm_poke_4 (tgt := 18) (by decide) (fun h4 => ?_) (fun h4 => ?_)
    · refine lv_iconst (pc := 18) (v := 0) F.1 F.2.1 d_Pm_poke_18 (by decide) ?_
      exact k4 0 _ _ _ ⟨(by exact Eq.symm (Eq.trans (if_pos h4) (rfl))), w, lv_sub hl [0, 1, 2] rfl⟩
    · refine lv_iload_n (pc := 7) F.1 F.2.1 d_Pm_poke_7 rfl (lv_at hl 2 rfl) ?_
      refine Usi (pc := 8) (As := [.int x2]) (rest := []) F (c_Pm_isByte l x2) k_Pm_isByte m_368 (Nat.le_of_ble_eq_true rfl) (Nat.le_of_ble_eq_true rfl) ⟨rfl, rfl⟩ rfl hl.1 rfl (Nat.le_of_ble_eq_true rfl) d_Pm_poke_8 hcs (fun r2 e_r2 => ?_)
      refine lv_if_eq (pc := 11) F.1 F.2.1 d_Pm_poke_11 (tgt := 18) (by decide) (fun h11 => ?_) (fun h11 => ?_)
      · refine lv_iconst (pc := 18) (v := 0) F.1 F.2.1 d_Pm_poke_18 (by decide) ?_
        exact k4 0 _ _ _ ⟨(by rw [e_r2] at h11; exact Eq.symm (Eq.trans (if_neg h4) (Eq.trans (if_pos h11) (rfl)))), w, lv_sub hl [0, 1, 2] rfl⟩
      · refine lv_iconst (pc := 14) (v := 1) F.1 F.2.1 d_Pm_poke_14 (by decide) ?_
        refine lv_goto (pc := 15) F.1 F.2.1 d_Pm_poke_15 (tgt := 19) (by decide) ?_
        exact k4 1 _ _ _ ⟨(by rw [e_r2] at h11; exact Eq.symm (Eq.trans (if_neg h4) (Eq.trans (if_neg h11) (rfl)))), w, lv_sub hl [0, 1, 2] rfl⟩
def f_Me_at_r10 (σ : Sg) (x1 : Int32) : Int32 := if 768 ≤ (x1 &&& 1023) then (255) else ((σ 10 (x1 &&& 1023).toNatClampNeg))
def f_Me_at (σ : Sg) (x1 : Int32) : Int32 := let v1 := (f_Me_at_r10 σ x1); v1
set_option maxHeartbeats 1000000 in
set_option maxRecDepth 100000 in
theorem c_Me_at (l : Launch) (D : va_G) (cI : ClassId) (ad : Nat → Nat) (σ : Sg) (x1 : Int32) : Met l y_Me_at (Cond.code y_Me_at b_Me_at 3 (some .int) :: al) { frames := 0, cells := 0, slots := 0, locals := 0 } (Px D cI (wC cI ad) (AC ad) σ [.ref (ad 4), .int x1]) (va_Qi (fun r u => r = f_Me_at σ x1 ∧ u = σ) (Bx D cI (wC cI ad) (AC ad)) (AC ad)) 0 0 (AC ad) := by
  refine Mx l (by decide) (Nat.le_of_ble_eq_true rfl) ?_
  intro p e s m below meth c ls F w hr hlk hl
  have F : CallFix p m c b_Me_at 3 s _ al "PictureMachine$Memory" := F
  have hl : lv_has ls 3 [(0, .ref (ad 4)), (1, .int x1)] := hl
  refine lv_iload_n (pc := 0) F.1 F.2.1 d_Me_at_0 rfl (lv_at hl 1 rfl) ?_
  refine lv_sipush (pc := 1) (v := 1023) F.1 F.2.1 d_Me_at_1 (by decide) ?_
  refine lv_iand (pc := 4) F.1 F.2.1 d_Me_at_4 ?_
  refine lv_istore_n (pc := 5) F.1 F.2.1 d_Me_at_5 rfl hl (by decide) rfl (fun ls hl => ?_)
  have hl : lv_has ls 3 [(2, .int (x1 &&& 1023)), (0, .ref (ad 4)), (1, .int x1)] := hl
  refine lv_iload_n (pc := 6) F.1 F.2.1 d_Me_at_6 rfl (lv_at hl 0 rfl) ?_
  refine lv_sipush (pc := 7) (v := 768) F.1 F.2.1 d_Me_at_7 (by decide) ?_
  refine cutW (α := Int32) (fun x H locs ls => x = f_Me_at_r10 σ x1 ∧ Wx D cI (wC cI ad) (AC ad) (AC ad) s s.heap H locs σ ∧ lv_has ls 3 [(0, .ref (ad 4)), (1, .int x1), (2, .int (x1 &&& 1023))]) (fun x ls => F0 m 25 ls [.int x]) ?_ (fun k10 => ?_)
  · rintro v1 H locs ls ⟨ex, w, hl⟩
    have e_v1 := ex
    have w : Wx D cI (wC cI ad) (AC ad) (AC ad) s s.heap H locs σ := w
    have hl : lv_has ls 3 [(0, .ref (ad 4)), (1, .int x1), (2, .int (x1 &&& 1023))] := hl
    show W _ _ _ _ _ _ _ _ _ _ _ _ _ _ _ (F0 m 25 ls [.int v1])
    exact Ki (pc := 25) F hr hlk w (by rw [e_v1]; exact Eq.symm (rfl)) d_Me_at_25
  · refine lv_icmp_ge (pc := 10) F.1 F.2.1 d_Me_at_10 (tgt := 22) (by decide) (fun h10 => ?_) (fun h10 => ?_)
    · refine lv_sipush (pc := 22) (v := 255) F.1 F.2.1 d_Me_at_22 (by decide) ?_
      exact k10 255 _ _ _ ⟨(by exact Eq.symm (Eq.trans (if_pos h10) (rfl))), w, lv_sub hl [1, 2, 0] rfl⟩
    · refine lv_aload_n (pc := 13) F.1 F.2.1 d_Me_at_13 rfl (lv_at hl 1 rfl) ?_
      refine gC4_0 (pc := 14) F w (F.2.2.2.2 _ m_76) d_Me_at_14 ?_
      refine lv_iload_n (pc := 17) F.1 F.2.1 d_Me_at_17 rfl (lv_at hl 0 rfl) ?_
      refine lC10 (pc := 18) F w (by first | exact in768 (by assumption) | exact in768' (by assumption)) d_Me_at_18 ?_
      refine lv_goto (pc := 19) F.1 F.2.1 d_Me_at_19 (tgt := 25) (by decide) ?_
      exact k10 (σ 10 (x1 &&& 1023).toNatClampNeg) _ _ _ ⟨(by exact Eq.symm (Eq.trans (if_neg h10) (rfl))), w, lv_sub hl [1, 2, 0] rfl⟩
def f_Pm_peek (σ : Sg) (x1 : Int32) : Int32 × Sg := let r1 := f_Pm_isMemory x1; let r2 := f_Me_at σ x1; (r2, σ)
set_option maxHeartbeats 1000000 in
set_option maxRecDepth 100000 in
theorem c_Pm_peek (l : Launch) (D : va_G) (cI : ClassId) (ad : Nat → Nat) (σ : Sg) (x1 : Int32) (hp : ¬ (f_Pm_isMemory x1) = 0) : Met l y_Pm_peek (Cond.code y_Pm_peek b_Pm_peek 2 (some .int) :: al) { frames := 1, cells := 0, slots := 0, locals := 22 } (Px D cI (wC cI ad) (AC ad) σ [.ref (ad 0), .int x1]) (va_Qi (fun r u => (r, u) = f_Pm_peek σ x1) (Bx D cI (wC cI ad) (AC ad)) (AC ad)) 0 0 (AC ad) := by
  refine Mx l (by decide) (Nat.le_of_ble_eq_true rfl) ?_
  intro p e s m below meth c ls F w hr hlk hl
  have F : CallFix p m c b_Pm_peek 2 s _ al "PictureMachine" := F
  have hl : lv_has ls 2 [(0, .ref (ad 0)), (1, .int x1)] := hl
  have hcs : (0 : Nat) ≤ 0 ∧ (0 : Nat) ≤ 0 := ⟨Nat.le_refl _, Nat.le_refl _⟩
  refine lv_iload_n (pc := 0) F.1 F.2.1 d_Pm_peek_0 rfl (lv_at hl 1 rfl) ?_
  refine Usi (pc := 1) (As := [.int x1]) (rest := []) F (c_Pm_isMemory l x1) k_Pm_isMemory m_365 (Nat.le_of_ble_eq_true rfl) (Nat.le_of_ble_eq_true rfl) ⟨rfl, rfl⟩ rfl hl.1 rfl (Nat.le_of_ble_eq_true rfl) d_Pm_peek_1 hcs (fun r1 e_r1 => ?_)
  refine Usv (pc := 4) F (c_Pm_need l (by rw [e_r1]; exact hp)) k_Pm_need m_371 (Nat.le_of_ble_eq_true rfl) (Nat.le_of_ble_eq_true rfl) ⟨rfl, rfl⟩ rfl hl.1 rfl (Nat.le_of_ble_eq_true rfl) d_Pm_peek_4 hcs ?_
  refine lv_aload_n (pc := 7) F.1 F.2.1 d_Pm_peek_7 rfl (lv_at hl 0 rfl) ?_
  refine gC0_0 (pc := 8) F w (F.2.2.2.2 _ m_319) d_Pm_peek_8 ?_
  refine gNC1_2 (pc := 11) F w m_233 d_Pm_peek_11 ?_
  refine lv_iload_n (pc := 14) F.1 F.2.1 d_Pm_peek_14 rfl (lv_at hl 1 rfl) ?_
  refine Kvi (pc := 15) (As := [.int x1]) (rest := []) F w (c_Me_at l D cI ad σ x1) 4 rfl rfl k_Me_at m_447 (Nat.le_of_ble_eq_true rfl) (Nat.le_of_ble_eq_true rfl) ⟨rfl, rfl⟩ rfl hl.1 rfl (Nat.le_of_ble_eq_true rfl) d_Pm_peek_15 hcs (fun r2 H locs e_r2 w => ?_)
  exact Ri (pc := 18) F hr hlk w (by rw [e_r2]; exact Eq.symm (rfl)) d_Pm_peek_18
set_option maxHeartbeats 1000000 in
set_option maxRecDepth 100000 in
theorem t_Pm_peek (l : Launch) (htr : l.stackTraces = false) (A : Nat → Prop) (ad : Nat → Nat)  (x1 : Int32) (hp : (f_Pm_isMemory x1) = 0) : MetT l y_Pm_peek (Cond.code y_Pm_peek b_Pm_peek 2 (some .int) :: al) { frames := 7, cells := 1, slots := 6, locals := 128 } (PZ A [.ref (ad 0), .int x1]) (QX "java/lang/IllegalArgumentException") 1 6 (fun _ => False) := by
  refine MuT l (by decide) (Nat.le_of_ble_eq_true rfl) ?_
  intro p e s m below meth c ls F hno hlk hl hZ
  have F : CallFix p m c b_Pm_peek 2 s _ al "PictureMachine" := F
  generalize hH : s.heap = H
  generalize hlo : ([] : List Loc) = locs
  have w : (H = s.heap ∧ locs = []) := ⟨hH.symm, hlo.symm⟩
  have hl : lv_has ls 2 [(0, .ref (ad 0)), (1, .int x1)] := hl
  have hcs : (0 : Nat) ≤ 1 ∧ (0 : Nat) ≤ 6 := ⟨Nat.zero_le _, Nat.zero_le _⟩
  refine lv_iload_n (pc := 0) F.1 F.2.1 d_Pm_peek_0 rfl (lv_at hl 1 rfl) ?_
  refine Usi (pc := 1) (As := [.int x1]) (rest := []) F (c_Pm_isMemory l x1) k_Pm_isMemory m_365 (Nat.le_of_ble_eq_true rfl) (Nat.le_of_ble_eq_true rfl) ⟨rfl, rfl⟩ rfl hl.1 rfl (Nat.le_of_ble_eq_true rfl) d_Pm_peek_1 hcs (fun r1 e_r1 => ?_)
  exact needT F (t_Pm_need l htr A (x1 := r1) (by rw [e_r1]; exact hp)) k_Pm_need m_371 (Nat.le_of_ble_eq_true rfl) (Nat.le_of_ble_eq_true rfl) (Nat.le_of_ble_eq_true rfl) (Nat.le_of_ble_eq_true rfl) rfl rfl hl.1 hZ w hno hlk d_Pm_peek_4
def f_Pc_forgetCollisions (σ : Sg) : Sg := let s1 := sf σ 15 (0 : Int32).toNatClampNeg 0; let s2 := sf s1 15 (1 : Int32).toNatClampNeg 0; let s3 := sf s2 7 4 0; s3
set_option maxHeartbeats 1000000 in
set_option maxRecDepth 100000 in
theorem c_Pc_forgetCollisions (l : Launch) (D : va_G) (cI : ClassId) (ad : Nat → Nat) (σ : Sg) : Met l y_Pc_forgetCollisions (Cond.code y_Pc_forgetCollisions b_Pc_forgetCollisions 1 none :: al) { frames := 0, cells := 0, slots := 0, locals := 0 } (Px D cI (wC cI ad) (AC ad) σ [.ref (ad 7)]) (va_Qv (fun u => u = f_Pc_forgetCollisions σ ) (Bx D cI (wC cI ad) (AC ad)) (AC ad)) 0 0 (AC ad) := by
  refine Mx l (by decide) (Nat.le_of_ble_eq_true rfl) ?_
  intro p e s m below meth c ls F w hr hlk hl
  have F : CallFix p m c b_Pc_forgetCollisions 1 s _ al "PictureMachine$Picture" := F
  have hl : lv_has ls 1 [(0, .ref (ad 7))] := hl
  refine lv_aload_n (pc := 0) F.1 F.2.1 d_Pc_forgetCollisions_0 rfl (lv_at hl 0 rfl) ?_
  refine gC7_3 (pc := 1) F w (F.2.2.2.2 _ m_210) d_Pc_forgetCollisions_1 ?_
  refine lv_iconst (pc := 4) (v := 0) F.1 F.2.1 d_Pc_forgetCollisions_4 (by decide) ?_
  refine lv_iconst (pc := 5) (v := 0) F.1 F.2.1 d_Pc_forgetCollisions_5 (by decide) ?_
  refine aC15 (pc := 6) F w (by unfold vp_in; decide) d_Pc_forgetCollisions_6 (fun H locs s1 e_s1 w => ?_)
  refine lv_aload_n (pc := 7) F.1 F.2.1 d_Pc_forgetCollisions_7 rfl (lv_at hl 0 rfl) ?_
  refine gC7_3 (pc := 8) F w (F.2.2.2.2 _ m_210) d_Pc_forgetCollisions_8 ?_
  refine lv_iconst (pc := 11) (v := 1) F.1 F.2.1 d_Pc_forgetCollisions_11 (by decide) ?_
  refine lv_iconst (pc := 12) (v := 0) F.1 F.2.1 d_Pc_forgetCollisions_12 (by decide) ?_
  refine aC15 (pc := 13) F w (by unfold vp_in; decide) d_Pc_forgetCollisions_13 (fun H locs s2 e_s2 w => ?_)
  refine lv_aload_n (pc := 14) F.1 F.2.1 d_Pc_forgetCollisions_14 rfl (lv_at hl 0 rfl) ?_
  refine lv_iconst (pc := 15) (v := 0) F.1 F.2.1 d_Pc_forgetCollisions_15 (by decide) ?_
  refine pC7_4 (pc := 16) F w (Or.inl rfl) (F.2.2.2.2 _ m_214) d_Pc_forgetCollisions_16 (fun H locs s3 e_s3 w => ?_)
  exact Rv (pc := 19) F hr hlk w (by rw [e_s3, e_s2, e_s1]; exact Eq.symm (rfl)) d_Pc_forgetCollisions_19
def f_Ch_startTimer (σ : Sg) : Sg := let s1 := sf σ 5 2 (σ 11 (21 : Int32).toNatClampNeg); let s2 := sf s1 5 3 0; s2
set_option maxHeartbeats 1000000 in
set_option maxRecDepth 100000 in
theorem c_Ch_startTimer (l : Launch) (D : va_G) (cI : ClassId) (ad : Nat → Nat) (σ : Sg) : Met l y_Ch_startTimer (Cond.code y_Ch_startTimer b_Ch_startTimer 1 none :: al) { frames := 0, cells := 0, slots := 0, locals := 0 } (Px D cI (wC cI ad) (AC ad) σ [.ref (ad 5)]) (va_Qv (fun u => u = f_Ch_startTimer σ ) (Bx D cI (wC cI ad) (AC ad)) (AC ad)) 0 0 (AC ad) := by
  refine Mx l (by decide) (Nat.le_of_ble_eq_true rfl) ?_
  intro p e s m below meth c ls F w hr hlk hl
  have F : CallFix p m c b_Ch_startTimer 1 s _ al "PictureMachine$Chance" := F
  have hl : lv_has ls 1 [(0, .ref (ad 5))] := hl
  refine lv_aload_n (pc := 0) F.1 F.2.1 d_Ch_startTimer_0 rfl (lv_at hl 0 rfl) ?_
  refine lv_aload_n (pc := 1) F.1 F.2.1 d_Ch_startTimer_1 rfl (lv_at hl 0 rfl) ?_
  refine gC5_0 (pc := 2) F w (F.2.2.2.2 _ m_130) d_Ch_startTimer_2 ?_
  refine lv_bipush (pc := 5) (v := 21) F.1 F.2.1 d_Ch_startTimer_5 (by decide) ?_
  refine lC11 (pc := 7) F w (by unfold vp_in; decide) d_Ch_startTimer_7 ?_
  refine pC5_2 (pc := 8) F w (F.2.2.2.2 _ m_134) d_Ch_startTimer_8 (fun H locs s1 e_s1 w => ?_)
  refine lv_aload_n (pc := 11) F.1 F.2.1 d_Ch_startTimer_11 rfl (lv_at hl 0 rfl) ?_
  refine lv_iconst (pc := 12) (v := 0) F.1 F.2.1 d_Ch_startTimer_12 (by decide) ?_
  refine pC5_3 (pc := 13) F w (F.2.2.2.2 _ m_136) d_Ch_startTimer_13 (fun H locs s2 e_s2 w => ?_)
  exact Rv (pc := 16) F hr hlk w (by rw [e_s2, e_s1]; exact Eq.symm (rfl)) d_Ch_startTimer_16
def f_Dr_sum_17_r24 (σ : Sg) (x2 : Int32) (v1 : Int32) (j5 : Nat) : Int32 := if (v1 + (σ 17 (x2 + nI j5).toNatClampNeg)) ≤ 255 then ((v1 + (σ 17 (x2 + nI j5).toNatClampNeg))) else (((v1 + (σ 17 (x2 + nI j5).toNatClampNeg)) + (-255)))
def bd_Dr_sum_17_5 (σ : Sg) (x2 : Int32) (v1 : Int32) (j5 : Nat) : Int32 := let v2 := (f_Dr_sum_17_r24 σ x2 v1 j5); v2
def it_Dr_sum_17_5 (σ : Sg) (x2 : Int32) : Nat → Int32 := itr (fun j5 x => bd_Dr_sum_17_5 σ x2 x j5) 0
def f_Dr_sum_17 (σ : Sg) (x2 : Int32) (x3 : Int32) : Int32 := let v1 := (it_Dr_sum_17_5 σ x2 (x3.toNatClampNeg)); v1
set_option maxHeartbeats 1000000 in
set_option maxRecDepth 100000 in
theorem c_Dr_sum_17 (l : Launch) (D : va_G) (cI : ClassId) (ad : Nat → Nat) (σ : Sg) (x2 : Int32) (x3 : Int32) (hq : SmOk x2 x3 9) : Met l y_Dr_sum (Cond.code y_Dr_sum b_Dr_sum 5 (some .int) :: al) { frames := 0, cells := 0, slots := 0, locals := 0 } (Px D cI (wC cI ad) (AC ad) σ [.ref (ad 17), .int x2, .int x3]) (va_Qi (fun r u => r = f_Dr_sum_17 σ x2 x3 ∧ u = σ) (Bx D cI (wC cI ad) (AC ad)) (AC ad)) 0 0 (AC ad) := by
  refine Mx l (by decide) (Nat.le_of_ble_eq_true rfl) ?_
  intro p e s m below meth c ls F w hr hlk hl
  have F : CallFix p m c b_Dr_sum 5 s _ al "PictureMachine$Drive" := F
  have hl : lv_has ls 5 [(0, .ref (ad 17)), (1, .int x2), (2, .int x3)] := hl
  refine lv_iconst (pc := 0) (v := 0) F.1 F.2.1 d_Dr_sum_0 (by decide) ?_
  refine lv_istore_n (pc := 1) F.1 F.2.1 d_Dr_sum_1 rfl hl (by decide) rfl (fun ls hl => ?_)
  have hl : lv_has ls 5 [(3, .int 0), (0, .ref (ad 17)), (1, .int x2), (2, .int x3)] := hl
  refine lv_iload_n (pc := 2) F.1 F.2.1 d_Dr_sum_2 rfl (lv_at hl 2 rfl) ?_
  refine lv_istore (pc := 3) F.1 F.2.1 d_Dr_sum_3 hl (by decide) rfl (fun ls hl => ?_)
  have hl : lv_has ls 5 [(4, .int x2), (3, .int 0), (0, .ref (ad 17)), (1, .int x2), (2, .int x3)] := hl
  refine loopW (α := Int32) (x3.toNatClampNeg) (fun j5 x H locs ls => x = it_Dr_sum_17_5 σ x2 j5 ∧ Wx D cI (wC cI ad) (AC ad) (AC ad) s s.heap H locs σ ∧ lv_has ls 5 [(0, .ref (ad 17)), (1, .int x2), (2, .int x3), (3, .int x), (4, .int (x2 + nI j5))]) (fun _ ls => F0 m 5 ls []) ?_ ?_ 0 0 _ _ _ (Nat.zero_le _) ⟨rfl, w, by rw [ci_0]; exact lv_sub hl [2, 3, 4, 1, 0] rfl⟩
  · rintro j5 v1 H locs ls hj5 ⟨ex, w, hl⟩ nx5
    have e_v1 := ex
    have w : Wx D cI (wC cI ad) (AC ad) (AC ad) s s.heap H locs σ := w
    have hl : lv_has ls 5 [(0, .ref (ad 17)), (1, .int x2), (2, .int x3), (3, .int v1), (4, .int (x2 + nI j5))] := hl
    have hc5_0 : ¬ ((x2 + x3) ≤ (x2 + nI j5)) := sm_lt hq hj5
    refine lv_iload (pc := 5) F.1 F.2.1 d_Dr_sum_5 (lv_at hl 4 rfl) ?_
    refine lv_iload_n (pc := 7) F.1 F.2.1 d_Dr_sum_7 rfl (lv_at hl 1 rfl) ?_
    refine lv_iload_n (pc := 8) F.1 F.2.1 d_Dr_sum_8 rfl (lv_at hl 2 rfl) ?_
    refine lv_iadd (pc := 9) F.1 F.2.1 d_Dr_sum_9 ?_
    refine lv_icmp_ge (pc := 10) F.1 F.2.1 d_Dr_sum_10 (tgt := 39) (by decide) (fun q => absurd q hc5_0) (fun _ => ?_)
    refine lv_iload_n (pc := 13) F.1 F.2.1 d_Dr_sum_13 rfl (lv_at hl 3 rfl) ?_
    refine lv_aload_n (pc := 14) F.1 F.2.1 d_Dr_sum_14 rfl (lv_at hl 0 rfl) ?_
    refine lv_iload (pc := 15) F.1 F.2.1 d_Dr_sum_15 (lv_at hl 4 rfl) ?_
    refine lC17 (pc := 17) F w (sm_in hq hj5) d_Dr_sum_17 ?_
    refine lv_iadd (pc := 18) F.1 F.2.1 d_Dr_sum_18 ?_
    refine lv_istore_n (pc := 19) F.1 F.2.1 d_Dr_sum_19 rfl hl (by decide) rfl (fun ls hl => ?_)
    have hl : lv_has ls 5 [(3, .int (v1 + (σ 17 (x2 + nI j5).toNatClampNeg))), (0, .ref (ad 17)), (1, .int x2), (2, .int x3), (4, .int (x2 + nI j5))] := hl
    refine lv_iload_n (pc := 20) F.1 F.2.1 d_Dr_sum_20 rfl (lv_at hl 0 rfl) ?_
    refine lv_sipush (pc := 21) (v := 255) F.1 F.2.1 d_Dr_sum_21 (by decide) ?_
    refine cutW (α := Int32) (fun x H locs ls => x = f_Dr_sum_17_r24 σ x2 v1 j5 ∧ Wx D cI (wC cI ad) (AC ad) (AC ad) s s.heap H locs σ ∧ lv_has ls 5 [(0, .ref (ad 17)), (1, .int x2), (2, .int x3), (3, .int x), (4, .int (x2 + nI j5))]) (fun x ls => F0 m 33 ls []) ?_ (fun k24 => ?_)
    · rintro v2 H locs ls ⟨ex, w, hl⟩
      have e_v2 := ex
      have w : Wx D cI (wC cI ad) (AC ad) (AC ad) s s.heap H locs σ := w
      have hl : lv_has ls 5 [(0, .ref (ad 17)), (1, .int x2), (2, .int x3), (3, .int v2), (4, .int (x2 + nI j5))] := hl
      show W _ _ _ _ _ _ _ _ _ _ _ _ _ _ _ (F0 m 33 ls [])
      refine lv_iinc (pc := 33) (k := 4) (v := ((x2 + nI j5) + 1)) F.1 F.2.1 d_Dr_sum_33 hl rfl (by first | rfl | decide) (by decide) rfl (fun ls hl => ?_)
      have hl : lv_has ls 5 [(4, .int ((x2 + nI j5) + 1)), (0, .ref (ad 17)), (1, .int x2), (2, .int x3), (3, .int v2)] := hl
      refine lv_goto (pc := 36) F.1 F.2.1 d_Dr_sum_36 (tgt := 5) (by decide) ?_
      exact nx5 v2 _ _ _ ⟨(by rw [e_v2, e_v1]; exact Eq.symm (rfl)), w, by rw [← ci_s]; exact lv_sub hl [1, 2, 3, 4, 0] rfl⟩
    · refine lv_icmp_le (pc := 24) F.1 F.2.1 d_Dr_sum_24 (tgt := 33) (by decide) (fun h24 => ?_) (fun h24 => ?_)
      · exact k24 (v1 + (σ 17 (x2 + nI j5).toNatClampNeg)) _ _ _ ⟨(by exact Eq.symm (Eq.trans (if_pos h24) (rfl))), w, lv_sub hl [1, 2, 3, 0, 4] rfl⟩
      · refine lv_iincW (pc := 27) (k := 0) (v := ((v1 + (σ 17 (x2 + nI j5).toNatClampNeg)) + (-255))) F.1 F.2.1 d_Dr_sum_27 hl rfl (by first | rfl | decide) (by decide) rfl (fun ls hl => ?_)
        have hl : lv_has ls 5 [(3, .int ((v1 + (σ 17 (x2 + nI j5).toNatClampNeg)) + (-255))), (0, .ref (ad 17)), (1, .int x2), (2, .int x3), (4, .int (x2 + nI j5))] := hl
        exact k24 ((v1 + (σ 17 (x2 + nI j5).toNatClampNeg)) + (-255)) _ _ _ ⟨(by exact Eq.symm (Eq.trans (if_neg h24) (rfl))), w, lv_sub hl [1, 2, 3, 0, 4] rfl⟩
  · rintro v1 H locs ls ⟨ex, w, hl⟩
    have e_v1 := ex
    have w : Wx D cI (wC cI ad) (AC ad) (AC ad) s s.heap H locs σ := w
    have hl : lv_has ls 5 [(0, .ref (ad 17)), (1, .int x2), (2, .int x3), (3, .int v1), (4, .int (x2 + nI (x3.toNatClampNeg)))] := hl
    have hx5_0 : (x2 + x3) ≤ (x2 + nI (x3.toNatClampNeg)) := sm_ge hq
    refine lv_iload (pc := 5) F.1 F.2.1 d_Dr_sum_5 (lv_at hl 4 rfl) ?_
    refine lv_iload_n (pc := 7) F.1 F.2.1 d_Dr_sum_7 rfl (lv_at hl 1 rfl) ?_
    refine lv_iload_n (pc := 8) F.1 F.2.1 d_Dr_sum_8 rfl (lv_at hl 2 rfl) ?_
    refine lv_iadd (pc := 9) F.1 F.2.1 d_Dr_sum_9 ?_
    refine lv_icmp_ge (pc := 10) F.1 F.2.1 d_Dr_sum_10 (tgt := 39) (by decide) (fun _ => ?_) (fun q => absurd hx5_0 q)
    refine lv_iload_n (pc := 39) F.1 F.2.1 d_Dr_sum_39 rfl (lv_at hl 3 rfl) ?_
    exact Ki (pc := 40) F hr hlk w (by rw [e_v1]; exact Eq.symm (rfl)) d_Dr_sum_40
def f_Dr_sum_16_r24 (σ : Sg) (x2 : Int32) (v1 : Int32) (j5 : Nat) : Int32 := if (v1 + (σ 16 (x2 + nI j5).toNatClampNeg)) ≤ 255 then ((v1 + (σ 16 (x2 + nI j5).toNatClampNeg))) else (((v1 + (σ 16 (x2 + nI j5).toNatClampNeg)) + (-255)))
def bd_Dr_sum_16_5 (σ : Sg) (x2 : Int32) (v1 : Int32) (j5 : Nat) : Int32 := let v2 := (f_Dr_sum_16_r24 σ x2 v1 j5); v2
def it_Dr_sum_16_5 (σ : Sg) (x2 : Int32) : Nat → Int32 := itr (fun j5 x => bd_Dr_sum_16_5 σ x2 x j5) 0
def f_Dr_sum_16 (σ : Sg) (x2 : Int32) (x3 : Int32) : Int32 := let v1 := (it_Dr_sum_16_5 σ x2 (x3.toNatClampNeg)); v1
set_option maxHeartbeats 1000000 in
set_option maxRecDepth 100000 in
theorem c_Dr_sum_16 (l : Launch) (D : va_G) (cI : ClassId) (ad : Nat → Nat) (σ : Sg) (x2 : Int32) (x3 : Int32) (hq : SmOk x2 x3 64) : Met l y_Dr_sum (Cond.code y_Dr_sum b_Dr_sum 5 (some .int) :: al) { frames := 0, cells := 0, slots := 0, locals := 0 } (Px D cI (wC cI ad) (AC ad) σ [.ref (ad 16), .int x2, .int x3]) (va_Qi (fun r u => r = f_Dr_sum_16 σ x2 x3 ∧ u = σ) (Bx D cI (wC cI ad) (AC ad)) (AC ad)) 0 0 (AC ad) := by
  refine Mx l (by decide) (Nat.le_of_ble_eq_true rfl) ?_
  intro p e s m below meth c ls F w hr hlk hl
  have F : CallFix p m c b_Dr_sum 5 s _ al "PictureMachine$Drive" := F
  have hl : lv_has ls 5 [(0, .ref (ad 16)), (1, .int x2), (2, .int x3)] := hl
  refine lv_iconst (pc := 0) (v := 0) F.1 F.2.1 d_Dr_sum_0 (by decide) ?_
  refine lv_istore_n (pc := 1) F.1 F.2.1 d_Dr_sum_1 rfl hl (by decide) rfl (fun ls hl => ?_)
  have hl : lv_has ls 5 [(3, .int 0), (0, .ref (ad 16)), (1, .int x2), (2, .int x3)] := hl
  refine lv_iload_n (pc := 2) F.1 F.2.1 d_Dr_sum_2 rfl (lv_at hl 2 rfl) ?_
  refine lv_istore (pc := 3) F.1 F.2.1 d_Dr_sum_3 hl (by decide) rfl (fun ls hl => ?_)
  have hl : lv_has ls 5 [(4, .int x2), (3, .int 0), (0, .ref (ad 16)), (1, .int x2), (2, .int x3)] := hl
  refine loopW (α := Int32) (x3.toNatClampNeg) (fun j5 x H locs ls => x = it_Dr_sum_16_5 σ x2 j5 ∧ Wx D cI (wC cI ad) (AC ad) (AC ad) s s.heap H locs σ ∧ lv_has ls 5 [(0, .ref (ad 16)), (1, .int x2), (2, .int x3), (3, .int x), (4, .int (x2 + nI j5))]) (fun _ ls => F0 m 5 ls []) ?_ ?_ 0 0 _ _ _ (Nat.zero_le _) ⟨rfl, w, by rw [ci_0]; exact lv_sub hl [2, 3, 4, 1, 0] rfl⟩
  · rintro j5 v1 H locs ls hj5 ⟨ex, w, hl⟩ nx5
    have e_v1 := ex
    have w : Wx D cI (wC cI ad) (AC ad) (AC ad) s s.heap H locs σ := w
    have hl : lv_has ls 5 [(0, .ref (ad 16)), (1, .int x2), (2, .int x3), (3, .int v1), (4, .int (x2 + nI j5))] := hl
    have hc5_0 : ¬ ((x2 + x3) ≤ (x2 + nI j5)) := sm_lt hq hj5
    refine lv_iload (pc := 5) F.1 F.2.1 d_Dr_sum_5 (lv_at hl 4 rfl) ?_
    refine lv_iload_n (pc := 7) F.1 F.2.1 d_Dr_sum_7 rfl (lv_at hl 1 rfl) ?_
    refine lv_iload_n (pc := 8) F.1 F.2.1 d_Dr_sum_8 rfl (lv_at hl 2 rfl) ?_
    refine lv_iadd (pc := 9) F.1 F.2.1 d_Dr_sum_9 ?_
    refine lv_icmp_ge (pc := 10) F.1 F.2.1 d_Dr_sum_10 (tgt := 39) (by decide) (fun q => absurd q hc5_0) (fun _ => ?_)
    refine lv_iload_n (pc := 13) F.1 F.2.1 d_Dr_sum_13 rfl (lv_at hl 3 rfl) ?_
    refine lv_aload_n (pc := 14) F.1 F.2.1 d_Dr_sum_14 rfl (lv_at hl 0 rfl) ?_
    refine lv_iload (pc := 15) F.1 F.2.1 d_Dr_sum_15 (lv_at hl 4 rfl) ?_
    refine lC16 (pc := 17) F w (sm_in hq hj5) d_Dr_sum_17 ?_
    refine lv_iadd (pc := 18) F.1 F.2.1 d_Dr_sum_18 ?_
    refine lv_istore_n (pc := 19) F.1 F.2.1 d_Dr_sum_19 rfl hl (by decide) rfl (fun ls hl => ?_)
    have hl : lv_has ls 5 [(3, .int (v1 + (σ 16 (x2 + nI j5).toNatClampNeg))), (0, .ref (ad 16)), (1, .int x2), (2, .int x3), (4, .int (x2 + nI j5))] := hl
    refine lv_iload_n (pc := 20) F.1 F.2.1 d_Dr_sum_20 rfl (lv_at hl 0 rfl) ?_
    refine lv_sipush (pc := 21) (v := 255) F.1 F.2.1 d_Dr_sum_21 (by decide) ?_
    refine cutW (α := Int32) (fun x H locs ls => x = f_Dr_sum_16_r24 σ x2 v1 j5 ∧ Wx D cI (wC cI ad) (AC ad) (AC ad) s s.heap H locs σ ∧ lv_has ls 5 [(0, .ref (ad 16)), (1, .int x2), (2, .int x3), (3, .int x), (4, .int (x2 + nI j5))]) (fun x ls => F0 m 33 ls []) ?_ (fun k24 => ?_)
    · rintro v2 H locs ls ⟨ex, w, hl⟩
      have e_v2 := ex
      have w : Wx D cI (wC cI ad) (AC ad) (AC ad) s s.heap H locs σ := w
      have hl : lv_has ls 5 [(0, .ref (ad 16)), (1, .int x2), (2, .int x3), (3, .int v2), (4, .int (x2 + nI j5))] := hl
      show W _ _ _ _ _ _ _ _ _ _ _ _ _ _ _ (F0 m 33 ls [])
      refine lv_iinc (pc := 33) (k := 4) (v := ((x2 + nI j5) + 1)) F.1 F.2.1 d_Dr_sum_33 hl rfl (by first | rfl | decide) (by decide) rfl (fun ls hl => ?_)
      have hl : lv_has ls 5 [(4, .int ((x2 + nI j5) + 1)), (0, .ref (ad 16)), (1, .int x2), (2, .int x3), (3, .int v2)] := hl
      refine lv_goto (pc := 36) F.1 F.2.1 d_Dr_sum_36 (tgt := 5) (by decide) ?_
      exact nx5 v2 _ _ _ ⟨(by rw [e_v2, e_v1]; exact Eq.symm (rfl)), w, by rw [← ci_s]; exact lv_sub hl [1, 2, 3, 4, 0] rfl⟩
    · refine lv_icmp_le (pc := 24) F.1 F.2.1 d_Dr_sum_24 (tgt := 33) (by decide) (fun h24 => ?_) (fun h24 => ?_)
      · exact k24 (v1 + (σ 16 (x2 + nI j5).toNatClampNeg)) _ _ _ ⟨(by exact Eq.symm (Eq.trans (if_pos h24) (rfl))), w, lv_sub hl [1, 2, 3, 0, 4] rfl⟩
      · refine lv_iincW (pc := 27) (k := 0) (v := ((v1 + (σ 16 (x2 + nI j5).toNatClampNeg)) + (-255))) F.1 F.2.1 d_Dr_sum_27 hl rfl (by first | rfl | decide) (by decide) rfl (fun ls hl => ?_)
        have hl : lv_has ls 5 [(3, .int ((v1 + (σ 16 (x2 + nI j5).toNatClampNeg)) + (-255))), (0, .ref (ad 16)), (1, .int x2), (2, .int x3), (4, .int (x2 + nI j5))] := hl
        exact k24 ((v1 + (σ 16 (x2 + nI j5).toNatClampNeg)) + (-255)) _ _ _ ⟨(by exact Eq.symm (Eq.trans (if_neg h24) (rfl))), w, lv_sub hl [1, 2, 3, 0, 4] rfl⟩
  · rintro v1 H locs ls ⟨ex, w, hl⟩
    have e_v1 := ex
    have w : Wx D cI (wC cI ad) (AC ad) (AC ad) s s.heap H locs σ := w
    have hl : lv_has ls 5 [(0, .ref (ad 16)), (1, .int x2), (2, .int x3), (3, .int v1), (4, .int (x2 + nI (x3.toNatClampNeg)))] := hl
    have hx5_0 : (x2 + x3) ≤ (x2 + nI (x3.toNatClampNeg)) := sm_ge hq
    refine lv_iload (pc := 5) F.1 F.2.1 d_Dr_sum_5 (lv_at hl 4 rfl) ?_
    refine lv_iload_n (pc := 7) F.1 F.2.1 d_Dr_sum_7 rfl (lv_at hl 1 rfl) ?_
    refine lv_iload_n (pc := 8) F.1 F.2.1 d_Dr_sum_8 rfl (lv_at hl 2 rfl) ?_
    refine lv_iadd (pc := 9) F.1 F.2.1 d_Dr_sum_9 ?_
    refine lv_icmp_ge (pc := 10) F.1 F.2.1 d_Dr_sum_10 (tgt := 39) (by decide) (fun _ => ?_) (fun q => absurd hx5_0 q)
    refine lv_iload_n (pc := 39) F.1 F.2.1 d_Dr_sum_39 rfl (lv_at hl 3 rfl) ?_
    exact Ki (pc := 40) F hr hlk w (by rw [e_v1]; exact Eq.symm (rfl)) d_Dr_sum_40
def f_Dr_answer_r6 (σ : Sg) (x1 : Int32) : Sg := if 40 ≤ (σ 8 7) then (σ) else (let s1 := sf σ 18 (((σ 8 6) + (σ 8 7)) - ((σ 8 6) + (σ 8 7)) / 40 * 40).toNatClampNeg x1; let s2 := sf s1 8 7 ((s1 8 7) + 1); s2)
def f_Dr_answer (σ : Sg) (x1 : Int32) : Sg := let s3 := (f_Dr_answer_r6 σ x1); s3
set_option maxHeartbeats 1000000 in
set_option maxRecDepth 100000 in
theorem c_Dr_answer (l : Launch) (D : va_G) (cI : ClassId) (ad : Nat → Nat) (σ : Sg) (x1 : Int32) (hI : IC σ) : Met l y_Dr_answer (Cond.code y_Dr_answer b_Dr_answer 2 none :: al) { frames := 0, cells := 0, slots := 0, locals := 0 } (Px D cI (wC cI ad) (AC ad) σ [.ref (ad 8), .int x1]) (va_Qv (fun u => u = f_Dr_answer σ x1) (Bx D cI (wC cI ad) (AC ad)) (AC ad)) 0 0 (AC ad) := by
  refine Mx l (by decide) (Nat.le_of_ble_eq_true rfl) ?_
  intro p e s m below meth c ls F w hr hlk hl
  have F : CallFix p m c b_Dr_answer 2 s _ al "PictureMachine$Drive" := F
  have hl : lv_has ls 2 [(0, .ref (ad 8)), (1, .int x1)] := hl
  refine lv_aload_n (pc := 0) F.1 F.2.1 d_Dr_answer_0 rfl (lv_at hl 0 rfl) ?_
  refine gC8_7 (pc := 1) F w (F.2.2.2.2 _ m_97) d_Dr_answer_1 ?_
  refine lv_bipush (pc := 4) (v := 40) F.1 F.2.1 d_Dr_answer_4 (by decide) ?_
  refine cutW (α := Sg) (fun x H locs ls => x = f_Dr_answer_r6 σ x1 ∧ Wx D cI (wC cI ad) (AC ad) (AC ad) s s.heap H locs x ∧ lv_has ls 2 [(0, .ref (ad 8)), (1, .int x1)]) (fun x ls => F0 m 37 ls []) ?_ (fun k6 => ?_)
  · rintro s3 H locs ls ⟨ex, w, hl⟩
    have e_s3 := ex
    have w : Wx D cI (wC cI ad) (AC ad) (AC ad) s s.heap H locs s3 := w
    have hl : lv_has ls 2 [(0, .ref (ad 8)), (1, .int x1)] := hl
    show W _ _ _ _ _ _ _ _ _ _ _ _ _ _ _ (F0 m 37 ls [])
    exact Rv (pc := 37) F hr hlk w (by rw [e_s3]; exact Eq.symm (rfl)) d_Dr_answer_37
  · refine lv_icmp_ge (pc := 6) F.1 F.2.1 d_Dr_answer_6 (tgt := 37) (by decide) (fun h6 => ?_) (fun h6 => ?_)
    · exact k6 σ _ _ _ ⟨(by exact Eq.symm (Eq.trans (if_pos h6) (rfl))), w, lv_sub hl [0, 1] rfl⟩
    · refine lv_aload_n (pc := 9) F.1 F.2.1 d_Dr_answer_9 rfl (lv_at hl 0 rfl) ?_
      refine gC8_2 (pc := 10) F w (F.2.2.2.2 _ m_90) d_Dr_answer_10 ?_
      refine lv_aload_n (pc := 13) F.1 F.2.1 d_Dr_answer_13 rfl (lv_at hl 0 rfl) ?_
      refine gC8_6 (pc := 14) F w (F.2.2.2.2 _ m_96) d_Dr_answer_14 ?_
      refine lv_aload_n (pc := 17) F.1 F.2.1 d_Dr_answer_17 rfl (lv_at hl 0 rfl) ?_
      refine gC8_7 (pc := 18) F w (F.2.2.2.2 _ m_97) d_Dr_answer_18 ?_
      refine lv_iadd (pc := 21) F.1 F.2.1 d_Dr_answer_21 ?_
      refine lv_bipush (pc := 22) (v := 40) F.1 F.2.1 d_Dr_answer_22 (by decide) ?_
      refine lv_irem (pc := 24) F.1 F.2.1 d_Dr_answer_24 (by decide) ?_
      refine lv_iload_n (pc := 25) F.1 F.2.1 d_Dr_answer_25 rfl (lv_at hl 1 rfl) ?_
      refine aC18 (pc := 26) F w (IC.ringok hI) d_Dr_answer_26 (fun H locs s1 e_s1 w => ?_)
      have iIC_s1 : IC s1 := by rw [e_s1]; exact hI
      refine lv_aload_n (pc := 27) F.1 F.2.1 d_Dr_answer_27 rfl (lv_at hl 0 rfl) ?_
      refine lv_dup (pc := 28) F.1 F.2.1 d_Dr_answer_28 rfl ?_
      refine gC8_7 (pc := 29) F w (F.2.2.2.2 _ m_97) d_Dr_answer_29 ?_
      refine lv_iconst (pc := 32) (v := 1) F.1 F.2.1 d_Dr_answer_32 (by decide) ?_
      refine lv_iadd (pc := 33) F.1 F.2.1 d_Dr_answer_33 ?_
      refine pC8_7 (pc := 34) F w (F.2.2.2.2 _ m_97) d_Dr_answer_34 (fun H locs s2 e_s2 w => ?_)
      exact k6 s2 _ _ _ ⟨(by rw [e_s2, e_s1]; exact Eq.symm (Eq.trans (if_neg h6) (rfl))), w, lv_sub hl [0, 1] rfl⟩
theorem iIC_Dr_answer {σ : Sg} (h : IC σ) (x : Int32) : IC (f_Dr_answer σ x) := by
  unfold f_Dr_answer f_Dr_answer_r6
  dsimp only
  split
  · exact h
  · rename_i hn
    obtain ⟨h1, h2, h3, h4, h5, h6⟩ := h
    rw [ti_le, show (40 : Int32).toInt = 40 by decide] at hn
    refine ⟨h1, h2, h3, ?_, h5, h6⟩
    show bt2 0 (σ 8 7 + 1) 40
    have e1 : (1 : Int32).toInt = 1 := by decide
    have a1 := h4.1
    have a2 := h4.2
    have e : (σ 8 7 + 1).toInt = (σ 8 7).toInt + 1 := by rw [ti_add] <;> omega
    exact ⟨by omega, by omega⟩
def f_Dr_firstByteOf  (x1 : Int32) : Int32 := ((x1 - 1) * 8)
set_option maxHeartbeats 1000000 in
set_option maxRecDepth 100000 in
theorem c_Dr_firstByteOf (l : Launch)  (x1 : Int32) : Met l y_Dr_firstByteOf (Cond.code y_Dr_firstByteOf b_Dr_firstByteOf 1 (some .int) :: al) { frames := 0, cells := 0, slots := 0, locals := 0 } (PU [.int x1]) (QU (f_Dr_firstByteOf x1)) 0 0 (fun _ => False) := by
  refine Mu l (by decide) (Nat.le_of_ble_eq_true rfl) ?_
  intro p e s m below meth c ls F hr hlk hl
  have F : CallFix p m c b_Dr_firstByteOf 1 s _ al "PictureMachine$Drive" := F
  generalize hH : s.heap = H
  generalize hlo : ([] : List Loc) = locs
  have w : (H = s.heap ∧ locs = []) := ⟨hH.symm, hlo.symm⟩
  have hl : lv_has ls 1 [(0, .int x1)] := hl
  refine lv_iload_n (pc := 0) F.1 F.2.1 d_Dr_firstByteOf_0 rfl (lv_at hl 0 rfl) ?_
  refine lv_iconst (pc := 1) (v := 1) F.1 F.2.1 d_Dr_firstByteOf_1 (by decide) ?_
  refine lv_isub (pc := 2) F.1 F.2.1 d_Dr_firstByteOf_2 ?_
  refine lv_bipush (pc := 3) (v := 8) F.1 F.2.1 d_Dr_firstByteOf_3 (by decide) ?_
  refine lv_imul (pc := 5) F.1 F.2.1 d_Dr_firstByteOf_5 ?_
  exact Ui (pc := 6) F w hr hlk (by exact Eq.symm (rfl)) d_Dr_firstByteOf_6
def f_Dr_storeSector (σ : Sg) : Sg := let s1 := sf σ 8 4 0; let r2 := f_Dr_sum_17 s1 0 8; if (s1 17 (8 : Int32).toNatClampNeg) = r2 then (let r3 := f_Dr_firstByteOf (s1 8 5); let s4 := st s1 16 (va_cpy (s1 17) (s1 16) (0 : Int32).toNatClampNeg r3.toNatClampNeg (8 : Int32).toNatClampNeg); let s5 := f_Dr_answer s4 65; let s6 := f_Dr_answer s5 67; s6) else (let s7 := f_Dr_answer s1 78; s7)
set_option maxHeartbeats 1000000 in
set_option maxRecDepth 100000 in
theorem c_Dr_storeSector (l : Launch) (D : va_G) (cI : ClassId) (ad : Nat → Nat) (σ : Sg) (hI : IC σ) : Met l y_Dr_storeSector (Cond.code y_Dr_storeSector b_Dr_storeSector 1 none :: al) { frames := 1, cells := 0, slots := 0, locals := 64 } (Px D cI (wC cI ad) (AC ad) σ [.ref (ad 8)]) (va_Qv (fun u => u = f_Dr_storeSector σ ) (Bx D cI (wC cI ad) (AC ad)) (AC ad)) 0 0 (AC ad) := by
  refine Mx l (by decide) (Nat.le_of_ble_eq_true rfl) ?_
  intro p e s m below meth c ls F w hr hlk hl
  have F : CallFix p m c b_Dr_storeSector 1 s _ al "PictureMachine$Drive" := F
  have hl : lv_has ls 1 [(0, .ref (ad 8))] := hl
  have hcs : (0 : Nat) ≤ 0 ∧ (0 : Nat) ≤ 0 := ⟨Nat.le_refl _, Nat.le_refl _⟩
  refine lv_aload_n (pc := 0) F.1 F.2.1 d_Dr_storeSector_0 rfl (lv_at hl 0 rfl) ?_
  refine lv_iconst (pc := 1) (v := 0) F.1 F.2.1 d_Dr_storeSector_1 (by decide) ?_
  refine pC8_4 (pc := 2) F w (Or.inl rfl) (F.2.2.2.2 _ m_93) d_Dr_storeSector_2 (fun H locs s1 e_s1 w => ?_)
  have iIC_s1 : IC s1 := by rw [e_s1]; exact hI
  refine lv_aload_n (pc := 5) F.1 F.2.1 d_Dr_storeSector_5 rfl (lv_at hl 0 rfl) ?_
  refine gC8_1 (pc := 6) F w (F.2.2.2.2 _ m_89) d_Dr_storeSector_6 ?_
  refine lv_bipush (pc := 9) (v := 8) F.1 F.2.1 d_Dr_storeSector_9 (by decide) ?_
  refine lC17 (pc := 11) F w (by unfold vp_in; decide) d_Dr_storeSector_11 ?_
  refine lv_aload_n (pc := 12) F.1 F.2.1 d_Dr_storeSector_12 rfl (lv_at hl 0 rfl) ?_
  refine gC8_1 (pc := 13) F w (F.2.2.2.2 _ m_89) d_Dr_storeSector_13 ?_
  refine lv_iconst (pc := 16) (v := 0) F.1 F.2.1 d_Dr_storeSector_16 (by decide) ?_
  refine lv_bipush (pc := 17) (v := 8) F.1 F.2.1 d_Dr_storeSector_17 (by decide) ?_
  refine Ksi (pc := 19) (As := [.ref (ad 17), .int 0, .int 8]) (rest := [.int (s1 17 (8 : Int32).toNatClampNeg)]) F w (c_Dr_sum_17 l D cI ad s1 0 8 (by unfold SmOk; decide)) k_Dr_sum m_478 (Nat.le_of_ble_eq_true rfl) (Nat.le_of_ble_eq_true rfl) ⟨rfl, rfl⟩ rfl hl.1 rfl (Nat.le_of_ble_eq_true rfl) d_Dr_storeSector_19 hcs (fun r2 H locs e_r2 w => ?_)
  refine lv_icmp_eq (pc := 22) F.1 F.2.1 d_Dr_storeSector_22 (tgt := 32) (by decide) (fun h22 => ?_) (fun h22 => ?_)
  · refine lv_aload_n (pc := 32) F.1 F.2.1 d_Dr_storeSector_32 rfl (lv_at hl 0 rfl) ?_
    refine gC8_1 (pc := 33) F w (F.2.2.2.2 _ m_89) d_Dr_storeSector_33 ?_
    refine lv_iconst (pc := 36) (v := 0) F.1 F.2.1 d_Dr_storeSector_36 (by decide) ?_
    refine lv_aload_n (pc := 37) F.1 F.2.1 d_Dr_storeSector_37 rfl (lv_at hl 0 rfl) ?_
    refine gC8_0 (pc := 38) F w (F.2.2.2.2 _ m_88) d_Dr_storeSector_38 ?_
    refine lv_aload_n (pc := 41) F.1 F.2.1 d_Dr_storeSector_41 rfl (lv_at hl 0 rfl) ?_
    refine gC8_5 (pc := 42) F w (F.2.2.2.2 _ m_95) d_Dr_storeSector_42 ?_
    refine Usi (pc := 45) (As := [.int (s1 8 5)]) (rest := [.ref (ad 16), .int 0, .ref (ad 17)]) F (c_Dr_firstByteOf l (s1 8 5)) k_Dr_firstByteOf m_485 (Nat.le_of_ble_eq_true rfl) (Nat.le_of_ble_eq_true rfl) ⟨rfl, rfl⟩ rfl hl.1 rfl (Nat.le_of_ble_eq_true rfl) d_Dr_storeSector_45 hcs (fun r3 e_r3 => ?_)
    refine lv_bipush (pc := 48) (v := 8) F.1 F.2.1 d_Dr_storeSector_48 (by decide) ?_
    refine cpC (pc := 50) F w hl.1 m_488 m_490 m_489 m_16 (by decide) (by rw [e_r3]; exact (cp_dp iIC_s1.2.1).1) (by decide) (by decide) (by rw [e_r3]; exact (cp_dp iIC_s1.2.1).2) (Nat.le_of_ble_eq_true rfl) (Nat.le_of_ble_eq_true rfl) d_Dr_storeSector_50 (fun H locs s4 e_s4 w => ?_)
    have iIC_s4 : IC s4 := by rw [e_s4]; exact iIC_s1
    refine lv_aload_n (pc := 53) F.1 F.2.1 d_Dr_storeSector_53 rfl (lv_at hl 0 rfl) ?_
    refine lv_bipush (pc := 54) (v := 65) F.1 F.2.1 d_Dr_storeSector_54 (by decide) ?_
    refine Cvv (pc := 56) (As := [.int 65]) (rest := []) F w (c_Dr_answer l D cI ad s4 65 iIC_s4) 8 rfl rfl k_Dr_answer m_481 (Nat.le_of_ble_eq_true rfl) (Nat.le_of_ble_eq_true rfl) ⟨rfl, rfl⟩ rfl hl.1 rfl (Nat.le_of_ble_eq_true rfl) d_Dr_storeSector_56 hcs (fun s5 H locs e_s5 w => ?_)
    have iIC_s5 : IC s5 := by rw [e_s5]; exact iIC_Dr_answer iIC_s4 65
    refine lv_aload_n (pc := 59) F.1 F.2.1 d_Dr_storeSector_59 rfl (lv_at hl 0 rfl) ?_
    refine lv_bipush (pc := 60) (v := 67) F.1 F.2.1 d_Dr_storeSector_60 (by decide) ?_
    refine Cvv (pc := 62) (As := [.int 67]) (rest := []) F w (c_Dr_answer l D cI ad s5 67 iIC_s5) 8 rfl rfl k_Dr_answer m_481 (Nat.le_of_ble_eq_true rfl) (Nat.le_of_ble_eq_true rfl) ⟨rfl, rfl⟩ rfl hl.1 rfl (Nat.le_of_ble_eq_true rfl) d_Dr_storeSector_62 hcs (fun s6 H locs e_s6 w => ?_)
    have iIC_s6 : IC s6 := by rw [e_s6]; exact iIC_Dr_answer iIC_s5 67
    exact Rv (pc := 65) F hr hlk w (by rw [e_r2, e_s1] at h22; rw [e_s6, e_s5, e_s4, e_r3, e_s1]; exact Eq.symm (Eq.trans (if_pos h22) (rfl))) d_Dr_storeSector_65
  · refine lv_aload_n (pc := 25) F.1 F.2.1 d_Dr_storeSector_25 rfl (lv_at hl 0 rfl) ?_
    refine lv_bipush (pc := 26) (v := 78) F.1 F.2.1 d_Dr_storeSector_26 (by decide) ?_
    refine Cvv (pc := 28) (As := [.int 78]) (rest := []) F w (c_Dr_answer l D cI ad s1 78 iIC_s1) 8 rfl rfl k_Dr_answer m_481 (Nat.le_of_ble_eq_true rfl) (Nat.le_of_ble_eq_true rfl) ⟨rfl, rfl⟩ rfl hl.1 rfl (Nat.le_of_ble_eq_true rfl) d_Dr_storeSector_28 hcs (fun s7 H locs e_s7 w => ?_)
    have iIC_s7 : IC s7 := by rw [e_s7]; exact iIC_Dr_answer iIC_s1 78
    exact Rv (pc := 31) F hr hlk w (by rw [e_r2, e_s1] at h22; rw [e_s7, e_s1]; exact Eq.symm (Eq.trans (if_neg h22) (rfl))) d_Dr_storeSector_31
def f_Pm_isPlaceOnDisk_r2 (x1 : Int32) (x2 : Int32) : Int32 := if x1 < 1 then (0) else (if 8 < x1 then (0) else (if x2 < 0 then (0) else (if 8 ≤ x2 then (0) else (1))))
def f_Pm_isPlaceOnDisk  (x1 : Int32) (x2 : Int32) : Int32 := let v1 := (f_Pm_isPlaceOnDisk_r2 x1 x2); v1
theorem z_f_Pm_isPlaceOnDisk_r2_0 (x1 : Int32) (x2 : Int32) : (f_Pm_isPlaceOnDisk_r2 x1 x2) = 0 ∨ (f_Pm_isPlaceOnDisk_r2 x1 x2) = 1 := by unfold f_Pm_isPlaceOnDisk_r2; (try dsimp only); (repeat' split) <;> first | exact Or.inl rfl | exact Or.inr rfl
theorem z_Pm_isPlaceOnDisk  (x1 : Int32) (x2 : Int32) : (f_Pm_isPlaceOnDisk x1 x2) = 0 ∨ (f_Pm_isPlaceOnDisk x1 x2) = 1 := by unfold f_Pm_isPlaceOnDisk; (try dsimp only); (repeat' split) <;> first | exact Or.inl rfl | exact Or.inr rfl | apply z_f_Pm_isPlaceOnDisk_r2_0
set_option maxHeartbeats 1000000 in
set_option maxRecDepth 100000 in
theorem c_Pm_isPlaceOnDisk (l : Launch)  (x1 : Int32) (x2 : Int32) : Met l y_Pm_isPlaceOnDisk (Cond.code y_Pm_isPlaceOnDisk b_Pm_isPlaceOnDisk 2 (some .boolean) :: al) { frames := 0, cells := 0, slots := 0, locals := 0 } (PU [.int x1, .int x2]) (QU (f_Pm_isPlaceOnDisk x1 x2)) 0 0 (fun _ => False) := by
  refine Mu l (by decide) (Nat.le_of_ble_eq_true rfl) ?_
  intro p e s m below meth c ls F hr hlk hl
  have F : CallFix p m c b_Pm_isPlaceOnDisk 2 s _ al "PictureMachine" := F
  generalize hH : s.heap = H
  generalize hlo : ([] : List Loc) = locs
  have w : (H = s.heap ∧ locs = []) := ⟨hH.symm, hlo.symm⟩
  have hl : lv_has ls 2 [(0, .int x1), (1, .int x2)] := hl
  refine lv_iload_n (pc := 0) F.1 F.2.1 d_Pm_isPlaceOnDisk_0 rfl (lv_at hl 0 rfl) ?_
  refine lv_iconst (pc := 1) (v := 1) F.1 F.2.1 d_Pm_isPlaceOnDisk_1 (by decide) ?_
  refine cutW (α := Int32) (fun x H locs ls => x = f_Pm_isPlaceOnDisk_r2 x1 x2 ∧ (H = s.heap ∧ locs = []) ∧ lv_has ls 2 [(0, .int x1), (1, .int x2)]) (fun x ls => F0 m 26 ls [.int x]) ?_ (fun k2 => ?_)
  · rintro v1 H locs ls ⟨ex, w, hl⟩
    have e_v1 := ex
    have w : (H = s.heap ∧ locs = []) := w
    have hl : lv_has ls 2 [(0, .int x1), (1, .int x2)] := hl
    show W _ _ _ _ _ _ _ _ _ _ _ _ _ _ _ (F0 m 26 ls [.int v1])
    exact Uz (pc := 26) F w hr hlk (e_v1 ▸ z_f_Pm_isPlaceOnDisk_r2_0 x1 x2) (by rw [e_v1]; exact Eq.symm (rfl)) d_Pm_isPlaceOnDisk_26
  · refine lv_icmp_lt (pc := 2) F.1 F.2.1 d_Pm_isPlaceOnDisk_2 (tgt := 25) (by decide) (fun h2 => ?_) (fun h2 => ?_)
    · refine lv_iconst (pc := 25) (v := 0) F.1 F.2.1 d_Pm_isPlaceOnDisk_25 (by decide) ?_
      exact k2 0 _ _ _ ⟨(by exact Eq.symm (Eq.trans (if_pos h2) (rfl))), w, lv_sub hl [0, 1] rfl⟩
    · refine lv_iload_n (pc := 5) F.1 F.2.1 d_Pm_isPlaceOnDisk_5 rfl (lv_at hl 0 rfl) ?_
      refine lv_bipush (pc := 6) (v := 8) F.1 F.2.1 d_Pm_isPlaceOnDisk_6 (by decide) ?_
      refine lv_icmp_gt (pc := 8) F.1 F.2.1 d_Pm_isPlaceOnDisk_8 (tgt := 25) (by decide) (fun h8 => ?_) (fun h8 => ?_)
      · refine lv_iconst (pc := 25) (v := 0) F.1 F.2.1 d_Pm_isPlaceOnDisk_25 (by decide) ?_
        exact k2 0 _ _ _ ⟨(by exact Eq.symm (Eq.trans (if_neg h2) (Eq.trans (if_pos h8) (rfl)))), w, lv_sub hl [0, 1] rfl⟩
      · refine lv_iload_n (pc := 11) F.1 F.2.1 d_Pm_isPlaceOnDisk_11 rfl (lv_at hl 1 rfl) ?_
        refine lv_if_lt (pc := 12) F.1 F.2.1 d_Pm_isPlaceOnDisk_12 (tgt := 25) (by decide) (fun h12 => ?_) (fun h12 => ?_)
        · refine lv_iconst (pc := 25) (v := 0) F.1 F.2.1 d_Pm_isPlaceOnDisk_25 (by decide) ?_
          exact k2 0 _ _ _ ⟨(by exact Eq.symm (Eq.trans (if_neg h2) (Eq.trans (if_neg h8) (Eq.trans (if_pos h12) (rfl))))), w, lv_sub hl [0, 1] rfl⟩
        · refine lv_iload_n (pc := 15) F.1 F.2.1 d_Pm_isPlaceOnDisk_15 rfl (lv_at hl 1 rfl) ?_
          refine lv_bipush (pc := 16) (v := 8) F.1 F.2.1 d_Pm_isPlaceOnDisk_16 (by decide) ?_
          refine lv_icmp_ge (pc := 18) F.1 F.2.1 d_Pm_isPlaceOnDisk_18 (tgt := 25) (by decide) (fun h18 => ?_) (fun h18 => ?_)
          · refine lv_iconst (pc := 25) (v := 0) F.1 F.2.1 d_Pm_isPlaceOnDisk_25 (by decide) ?_
            exact k2 0 _ _ _ ⟨(by exact Eq.symm (Eq.trans (if_neg h2) (Eq.trans (if_neg h8) (Eq.trans (if_neg h12) (Eq.trans (if_pos h18) (rfl)))))), w, lv_sub hl [0, 1] rfl⟩
          · refine lv_iconst (pc := 21) (v := 1) F.1 F.2.1 d_Pm_isPlaceOnDisk_21 (by decide) ?_
            refine lv_goto (pc := 22) F.1 F.2.1 d_Pm_isPlaceOnDisk_22 (tgt := 26) (by decide) ?_
            exact k2 1 _ _ _ ⟨(by exact Eq.symm (Eq.trans (if_neg h2) (Eq.trans (if_neg h8) (Eq.trans (if_neg h12) (Eq.trans (if_neg h18) (rfl)))))), w, lv_sub hl [0, 1] rfl⟩
theorem ipd_ok {x y : Int32} (h : ¬ f_Pm_isPlaceOnDisk x y = 0) : bt2 1 x 8 ∧ bt2 0 y 7 := by
  by_cases h1 : x < 1
  · exact absurd (show f_Pm_isPlaceOnDisk x y = 0 from if_pos h1) h
  by_cases h2 : 8 < x
  · exact absurd (show f_Pm_isPlaceOnDisk x y = 0 from (if_neg h1).trans (if_pos h2)) h
  by_cases h3 : y < 0
  · exact absurd (show f_Pm_isPlaceOnDisk x y = 0 from (if_neg h1).trans ((if_neg h2).trans (if_pos h3))) h
  by_cases h4 : 8 ≤ y
  · exact absurd (show f_Pm_isPlaceOnDisk x y = 0 from (if_neg h1).trans ((if_neg h2).trans ((if_neg h3).trans (if_pos h4)))) h
  rw [ti_lt, show (1 : Int32).toInt = 1 by decide] at h1
  rw [ti_lt, show (8 : Int32).toInt = 8 by decide] at h2
  rw [ti_lt, show (0 : Int32).toInt = 0 by decide] at h3
  rw [ti_le, show (8 : Int32).toInt = 8 by decide] at h4
  exact ⟨⟨by omega, by omega⟩, by omega, by omega⟩
theorem ob_in {x y : Int32} {r : Int32} {j : Nat} (h : ¬ r = 0) (e : r = f_Pm_isPlaceOnDisk x y) (hj : j < 8) : vp_in (f_Dr_firstByteOf x + (0 + nI j)) 64 := by
  rw [e] at h
  rw [Int32.zero_add]
  exact fb_in (ipd_ok h).1 (bt_n (n := 7) (by omega) (by omega))
theorem ob_sm {x y r v : Int32} (h : ¬ r = 0) (e : r = f_Pm_isPlaceOnDisk x y) (ev : v = f_Dr_firstByteOf x) : SmOk v 8 64 := by
  rw [e] at h
  rw [ev]
  obtain ⟨i, hi, rfl⟩ := bt_nI1 (n := 8) (ipd_ok h).1
  have e8 : (8 : Int32) = nI 8 := by decide
  have e9 : f_Dr_firstByteOf (nI (i + 1)) = nI (i * 8) := by
    show (nI (i + 1) - 1) * 8 = _
    rw [nI_pred, e8, pk_mul]
  rw [e9, e8]
  exact ⟨by rw [nI_toInt (by omega)]; omega, by decide, by rw [nI_toInt (by omega), nI_toInt (by omega)]; omega, by decide⟩
def bd_Dr_obeyCommand_72 (σ : Sg) (s9 : Sg) (s10 : Sg) (j72 : Nat) : Sg := let r11 := f_Dr_firstByteOf (σ 17 (2 : Int32).toNatClampNeg); let s12 := f_Dr_answer s10 (s10 16 (r11 + (0 + nI j72)).toNatClampNeg); s12
def it_Dr_obeyCommand_72 (σ : Sg) (s9 : Sg) : Nat → Sg := itr (fun j72 x => bd_Dr_obeyCommand_72 σ s9 x j72) s9
def f_Dr_obeyCommand_r44 (σ : Sg) (r2 : Int32) : Sg := if r2 = 0 then (let s3 := f_Dr_answer σ 78; s3) else (if (σ 17 (1 : Int32).toNatClampNeg) = 82 then (let s8 := f_Dr_answer σ 65; let s9 := f_Dr_answer s8 67; let s10 := (it_Dr_obeyCommand_72 σ s9 8); let r13 := f_Dr_firstByteOf (σ 17 (2 : Int32).toNatClampNeg); let r14 := f_Dr_sum_16 s10 r13 8; let s15 := f_Dr_answer s10 r14; s15) else (if (σ 17 (1 : Int32).toNatClampNeg) = 87 then (let s5 := f_Dr_answer σ 65; let s6 := sf s5 8 4 1; let s7 := sf s6 8 5 (σ 17 (2 : Int32).toNatClampNeg); s7) else (let s4 := f_Dr_answer σ 78; s4)))
def f_Dr_obeyCommand (σ : Sg) : Sg := if (σ 17 (0 : Int32).toNatClampNeg) = 49 then (let r1 := f_Dr_sum_17 σ 0 3; if (σ 17 (3 : Int32).toNatClampNeg) = r1 then (let r2 := f_Pm_isPlaceOnDisk (σ 17 (2 : Int32).toNatClampNeg) 0; let s16 := (f_Dr_obeyCommand_r44 σ r2); s16) else (σ)) else (σ)
set_option maxHeartbeats 1000000 in
set_option maxRecDepth 100000 in
theorem c_Dr_obeyCommand (l : Launch) (D : va_G) (cI : ClassId) (ad : Nat → Nat) (σ : Sg) (hI : IC σ) : Met l y_Dr_obeyCommand (Cond.code y_Dr_obeyCommand b_Dr_obeyCommand 4 none :: al) { frames := 1, cells := 0, slots := 0, locals := 24 } (Px D cI (wC cI ad) (AC ad) σ [.ref (ad 8)]) (va_Qv (fun u => u = f_Dr_obeyCommand σ ) (Bx D cI (wC cI ad) (AC ad)) (AC ad)) 0 0 (AC ad) := by
  refine Mx l (by decide) (Nat.le_of_ble_eq_true rfl) ?_
  intro p e s m below meth c ls F w hr hlk hl
  have F : CallFix p m c b_Dr_obeyCommand 4 s _ al "PictureMachine$Drive" := F
  have hl : lv_has ls 4 [(0, .ref (ad 8))] := hl
  have hcs : (0 : Nat) ≤ 0 ∧ (0 : Nat) ≤ 0 := ⟨Nat.le_refl _, Nat.le_refl _⟩
  refine lv_aload_n (pc := 0) F.1 F.2.1 d_Dr_obeyCommand_0 rfl (lv_at hl 0 rfl) ?_
  refine gC8_1 (pc := 1) F w (F.2.2.2.2 _ m_89) d_Dr_obeyCommand_1 ?_
  refine lv_iconst (pc := 4) (v := 2) F.1 F.2.1 d_Dr_obeyCommand_4 (by decide) ?_
  refine lC17 (pc := 5) F w (by unfold vp_in; decide) d_Dr_obeyCommand_5 ?_
  refine lv_istore_n (pc := 6) F.1 F.2.1 d_Dr_obeyCommand_6 rfl hl (by decide) rfl (fun ls hl => ?_)
  have hl : lv_has ls 4 [(1, .int (σ 17 (2 : Int32).toNatClampNeg)), (0, .ref (ad 8))] := hl
  refine lv_aload_n (pc := 7) F.1 F.2.1 d_Dr_obeyCommand_7 rfl (lv_at hl 1 rfl) ?_
  refine gC8_1 (pc := 8) F w (F.2.2.2.2 _ m_89) d_Dr_obeyCommand_8 ?_
  refine lv_iconst (pc := 11) (v := 0) F.1 F.2.1 d_Dr_obeyCommand_11 (by decide) ?_
  refine lC17 (pc := 12) F w (by unfold vp_in; decide) d_Dr_obeyCommand_12 ?_
  refine lv_bipush (pc := 13) (v := 49) F.1 F.2.1 d_Dr_obeyCommand_13 (by decide) ?_
  refine lv_icmp_ne (pc := 15) F.1 F.2.1 d_Dr_obeyCommand_15 (tgt := 36) (by decide) (fun h15 => ?_) (fun h15 => ?_)
  · exact Rv (pc := 36) F hr hlk w (by exact Eq.symm (Eq.trans (if_neg h15) (rfl))) d_Dr_obeyCommand_36
  · refine lv_aload_n (pc := 18) F.1 F.2.1 d_Dr_obeyCommand_18 rfl (lv_at hl 1 rfl) ?_
    refine gC8_1 (pc := 19) F w (F.2.2.2.2 _ m_89) d_Dr_obeyCommand_19 ?_
    refine lv_iconst (pc := 22) (v := 3) F.1 F.2.1 d_Dr_obeyCommand_22 (by decide) ?_
    refine lC17 (pc := 23) F w (by unfold vp_in; decide) d_Dr_obeyCommand_23 ?_
    refine lv_aload_n (pc := 24) F.1 F.2.1 d_Dr_obeyCommand_24 rfl (lv_at hl 1 rfl) ?_
    refine gC8_1 (pc := 25) F w (F.2.2.2.2 _ m_89) d_Dr_obeyCommand_25 ?_
    refine lv_iconst (pc := 28) (v := 0) F.1 F.2.1 d_Dr_obeyCommand_28 (by decide) ?_
    refine lv_iconst (pc := 29) (v := 3) F.1 F.2.1 d_Dr_obeyCommand_29 (by decide) ?_
    refine Ksi (pc := 30) (As := [.ref (ad 17), .int 0, .int 3]) (rest := [.int (σ 17 (3 : Int32).toNatClampNeg)]) F w (c_Dr_sum_17 l D cI ad σ 0 3 (by unfold SmOk; decide)) k_Dr_sum m_478 (Nat.le_of_ble_eq_true rfl) (Nat.le_of_ble_eq_true rfl) ⟨rfl, rfl⟩ rfl hl.1 rfl (Nat.le_of_ble_eq_true rfl) d_Dr_obeyCommand_30 hcs (fun r1 H locs e_r1 w => ?_)
    refine lv_icmp_eq (pc := 33) F.1 F.2.1 d_Dr_obeyCommand_33 (tgt := 37) (by decide) (fun h33 => ?_) (fun h33 => ?_)
    · refine lv_iload_n (pc := 37) F.1 F.2.1 d_Dr_obeyCommand_37 rfl (lv_at hl 0 rfl) ?_
      refine lv_iconst (pc := 38) (v := 0) F.1 F.2.1 d_Dr_obeyCommand_38 (by decide) ?_
      refine UsNi (pc := 39) (As := [.int (σ 17 (2 : Int32).toNatClampNeg), .int 0]) (rest := []) F w.2.2.2.2.1 (c_Pm_isPlaceOnDisk l (σ 17 (2 : Int32).toNatClampNeg) 0) k_Pm_isPlaceOnDisk m_495 (Nat.le_of_ble_eq_true rfl) (Nat.le_of_ble_eq_true rfl) ⟨rfl, rfl⟩ rfl hl.1 rfl (Nat.le_of_ble_eq_true rfl) d_Dr_obeyCommand_39 hcs (fun r2 e_r2 => ?_)
      refine lv_istore_n (pc := 42) F.1 F.2.1 d_Dr_obeyCommand_42 rfl hl (by decide) rfl (fun ls hl => ?_)
      have hl : lv_has ls 4 [(2, .int r2), (1, .int (σ 17 (2 : Int32).toNatClampNeg)), (0, .ref (ad 8))] := hl
      refine lv_iload_n (pc := 43) F.1 F.2.1 d_Dr_obeyCommand_43 rfl (lv_at hl 0 rfl) ?_
      refine cutW (α := Sg) (fun x H locs ls => x = f_Dr_obeyCommand_r44 σ r2 ∧ Wx D cI (wC cI ad) (AC ad) (AC ad) s s.heap H locs x ∧ lv_has ls 4 [(0, .ref (ad 8)), (1, .int (σ 17 (2 : Int32).toNatClampNeg)), (2, .int r2)]) (fun x ls => F0 m 159 ls []) ?_ (fun k44 => ?_)
      · rintro s16 H locs ls ⟨ex, w, hl⟩
        have e_s16 := ex
        have w : Wx D cI (wC cI ad) (AC ad) (AC ad) s s.heap H locs s16 := w
        have hl : lv_has ls 4 [(0, .ref (ad 8)), (1, .int (σ 17 (2 : Int32).toNatClampNeg)), (2, .int r2)] := hl
        show W _ _ _ _ _ _ _ _ _ _ _ _ _ _ _ (F0 m 159 ls [])
        exact Rv (pc := 159) F hr hlk w (by rw [e_r1] at h33; rw [e_s16, e_r2]; exact Eq.symm (Eq.trans (if_pos h15) (Eq.trans (if_pos h33) (rfl)))) d_Dr_obeyCommand_159
      · refine lv_if_eq (pc := 44) F.1 F.2.1 d_Dr_obeyCommand_44 (tgt := 119) (by decide) (fun h44 => ?_) (fun h44 => ?_)
        · refine lv_iload_n (pc := 119) F.1 F.2.1 d_Dr_obeyCommand_119 rfl (lv_at hl 0 rfl) ?_
          refine lv_if_eq (pc := 120) F.1 F.2.1 d_Dr_obeyCommand_120 (tgt := 153) (by decide) (fun _ => ?_) (fun q => absurd h44 q)
          refine lv_aload_n (pc := 153) F.1 F.2.1 d_Dr_obeyCommand_153 rfl (lv_at hl 2 rfl) ?_
          refine lv_bipush (pc := 154) (v := 78) F.1 F.2.1 d_Dr_obeyCommand_154 (by decide) ?_
          refine Cvv (pc := 156) (As := [.int 78]) (rest := []) F w (c_Dr_answer l D cI ad σ 78 hI) 8 rfl rfl k_Dr_answer m_481 (Nat.le_of_ble_eq_true rfl) (Nat.le_of_ble_eq_true rfl) ⟨rfl, rfl⟩ rfl hl.1 rfl (Nat.le_of_ble_eq_true rfl) d_Dr_obeyCommand_156 hcs (fun s3 H locs e_s3 w => ?_)
          have iIC_s3 : IC s3 := by rw [e_s3]; exact iIC_Dr_answer hI 78
          exact k44 s3 _ _ _ ⟨(by rw [e_s3]; exact Eq.symm (Eq.trans (if_pos h44) (rfl))), w, lv_sub hl [2, 1, 0] rfl⟩
        · refine lv_aload_n (pc := 47) F.1 F.2.1 d_Dr_obeyCommand_47 rfl (lv_at hl 2 rfl) ?_
          refine gC8_1 (pc := 48) F w (F.2.2.2.2 _ m_89) d_Dr_obeyCommand_48 ?_
          refine lv_iconst (pc := 51) (v := 1) F.1 F.2.1 d_Dr_obeyCommand_51 (by decide) ?_
          refine lC17 (pc := 52) F w (by unfold vp_in; decide) d_Dr_obeyCommand_52 ?_
          refine lv_bipush (pc := 53) (v := 82) F.1 F.2.1 d_Dr_obeyCommand_53 (by decide) ?_
          refine lv_icmp_ne (pc := 55) F.1 F.2.1 d_Dr_obeyCommand_55 (tgt := 119) (by decide) (fun h55 => ?_) (fun h55 => ?_)
          · refine lv_iload_n (pc := 119) F.1 F.2.1 d_Dr_obeyCommand_119 rfl (lv_at hl 0 rfl) ?_
            refine lv_if_eq (pc := 120) F.1 F.2.1 d_Dr_obeyCommand_120 (tgt := 153) (by decide) (fun q => absurd q h44) (fun _ => ?_)
            refine lv_aload_n (pc := 123) F.1 F.2.1 d_Dr_obeyCommand_123 rfl (lv_at hl 2 rfl) ?_
            refine gC8_1 (pc := 124) F w (F.2.2.2.2 _ m_89) d_Dr_obeyCommand_124 ?_
            refine lv_iconst (pc := 127) (v := 1) F.1 F.2.1 d_Dr_obeyCommand_127 (by decide) ?_
            refine lC17 (pc := 128) F w (by unfold vp_in; decide) d_Dr_obeyCommand_128 ?_
            refine lv_bipush (pc := 129) (v := 87) F.1 F.2.1 d_Dr_obeyCommand_129 (by decide) ?_
            refine lv_icmp_ne (pc := 131) F.1 F.2.1 d_Dr_obeyCommand_131 (tgt := 153) (by decide) (fun h131 => ?_) (fun h131 => ?_)
            · refine lv_aload_n (pc := 153) F.1 F.2.1 d_Dr_obeyCommand_153 rfl (lv_at hl 2 rfl) ?_
              refine lv_bipush (pc := 154) (v := 78) F.1 F.2.1 d_Dr_obeyCommand_154 (by decide) ?_
              refine Cvv (pc := 156) (As := [.int 78]) (rest := []) F w (c_Dr_answer l D cI ad σ 78 hI) 8 rfl rfl k_Dr_answer m_481 (Nat.le_of_ble_eq_true rfl) (Nat.le_of_ble_eq_true rfl) ⟨rfl, rfl⟩ rfl hl.1 rfl (Nat.le_of_ble_eq_true rfl) d_Dr_obeyCommand_156 hcs (fun s4 H locs e_s4 w => ?_)
              have iIC_s4 : IC s4 := by rw [e_s4]; exact iIC_Dr_answer hI 78
              exact k44 s4 _ _ _ ⟨(by rw [e_s4]; exact Eq.symm (Eq.trans (if_neg h44) (Eq.trans (if_neg h55) (Eq.trans (if_neg h131) (rfl))))), w, lv_sub hl [2, 1, 0] rfl⟩
            · refine lv_aload_n (pc := 134) F.1 F.2.1 d_Dr_obeyCommand_134 rfl (lv_at hl 2 rfl) ?_
              refine lv_bipush (pc := 135) (v := 65) F.1 F.2.1 d_Dr_obeyCommand_135 (by decide) ?_
              refine Cvv (pc := 137) (As := [.int 65]) (rest := []) F w (c_Dr_answer l D cI ad σ 65 hI) 8 rfl rfl k_Dr_answer m_481 (Nat.le_of_ble_eq_true rfl) (Nat.le_of_ble_eq_true rfl) ⟨rfl, rfl⟩ rfl hl.1 rfl (Nat.le_of_ble_eq_true rfl) d_Dr_obeyCommand_137 hcs (fun s5 H locs e_s5 w => ?_)
              have iIC_s5 : IC s5 := by rw [e_s5]; exact iIC_Dr_answer hI 65
              refine lv_aload_n (pc := 140) F.1 F.2.1 d_Dr_obeyCommand_140 rfl (lv_at hl 2 rfl) ?_
              refine lv_iconst (pc := 141) (v := 1) F.1 F.2.1 d_Dr_obeyCommand_141 (by decide) ?_
              refine pC8_4 (pc := 142) F w (Or.inr rfl) (F.2.2.2.2 _ m_93) d_Dr_obeyCommand_142 (fun H locs s6 e_s6 w => ?_)
              have iIC_s6 : IC s6 := by rw [e_s6]; exact iIC_s5
              refine lv_aload_n (pc := 145) F.1 F.2.1 d_Dr_obeyCommand_145 rfl (lv_at hl 2 rfl) ?_
              refine lv_iload_n (pc := 146) F.1 F.2.1 d_Dr_obeyCommand_146 rfl (lv_at hl 1 rfl) ?_
              refine pC8_5 (pc := 147) F w (F.2.2.2.2 _ m_95) d_Dr_obeyCommand_147 (fun H locs s7 e_s7 w => ?_)
              refine lv_goto (pc := 150) F.1 F.2.1 d_Dr_obeyCommand_150 (tgt := 159) (by decide) ?_
              exact k44 s7 _ _ _ ⟨(by rw [e_s7, e_s6, e_s5]; exact Eq.symm (Eq.trans (if_neg h44) (Eq.trans (if_neg h55) (Eq.trans (if_pos h131) (rfl))))), w, lv_sub hl [2, 1, 0] rfl⟩
          · refine lv_aload_n (pc := 58) F.1 F.2.1 d_Dr_obeyCommand_58 rfl (lv_at hl 2 rfl) ?_
            refine lv_bipush (pc := 59) (v := 65) F.1 F.2.1 d_Dr_obeyCommand_59 (by decide) ?_
            refine Cvv (pc := 61) (As := [.int 65]) (rest := []) F w (c_Dr_answer l D cI ad σ 65 hI) 8 rfl rfl k_Dr_answer m_481 (Nat.le_of_ble_eq_true rfl) (Nat.le_of_ble_eq_true rfl) ⟨rfl, rfl⟩ rfl hl.1 rfl (Nat.le_of_ble_eq_true rfl) d_Dr_obeyCommand_61 hcs (fun s8 H locs e_s8 w => ?_)
            have iIC_s8 : IC s8 := by rw [e_s8]; exact iIC_Dr_answer hI 65
            refine lv_aload_n (pc := 64) F.1 F.2.1 d_Dr_obeyCommand_64 rfl (lv_at hl 2 rfl) ?_
            refine lv_bipush (pc := 65) (v := 67) F.1 F.2.1 d_Dr_obeyCommand_65 (by decide) ?_
            refine Cvv (pc := 67) (As := [.int 67]) (rest := []) F w (c_Dr_answer l D cI ad s8 67 iIC_s8) 8 rfl rfl k_Dr_answer m_481 (Nat.le_of_ble_eq_true rfl) (Nat.le_of_ble_eq_true rfl) ⟨rfl, rfl⟩ rfl hl.1 rfl (Nat.le_of_ble_eq_true rfl) d_Dr_obeyCommand_67 hcs (fun s9 H locs e_s9 w => ?_)
            have iIC_s9 : IC s9 := by rw [e_s9]; exact iIC_Dr_answer iIC_s8 67
            refine lv_iconst (pc := 70) (v := 0) F.1 F.2.1 d_Dr_obeyCommand_70 (by decide) ?_
            refine lv_istore_n (pc := 71) F.1 F.2.1 d_Dr_obeyCommand_71 rfl hl (by decide) rfl (fun ls hl => ?_)
            have hl : lv_has ls 4 [(3, .int 0), (2, .int r2), (1, .int (σ 17 (2 : Int32).toNatClampNeg)), (0, .ref (ad 8))] := hl
            refine loopW (α := Sg) 8 (fun j72 x H locs ls => x = it_Dr_obeyCommand_72 σ s9 j72 ∧ Wx D cI (wC cI ad) (AC ad) (AC ad) s s.heap H locs x ∧ lv_has ls 4 [(0, .ref (ad 8)), (1, .int (σ 17 (2 : Int32).toNatClampNeg)), (2, .int r2), (3, .int (0 + nI j72))] ∧ IC x) (fun _ ls => F0 m 72 ls []) ?_ ?_ 0 s9 _ _ _ (Nat.zero_le _) ⟨rfl, w, by rw [ci_0]; exact lv_sub hl [3, 2, 1, 0] rfl, iIC_s9⟩
            · rintro j72 s10 H locs ls hj72 ⟨ex, w, hl, iIC_s10⟩ nx72
              have e_s10 := ex
              have w : Wx D cI (wC cI ad) (AC ad) (AC ad) s s.heap H locs s10 := w
              have iIC_s10 : IC s10 := iIC_s10
              have hl : lv_has ls 4 [(0, .ref (ad 8)), (1, .int (σ 17 (2 : Int32).toNatClampNeg)), (2, .int r2), (3, .int (0 + nI j72))] := hl
              have hc72_0 : ¬ (8 ≤ (0 + nI j72)) := lp_lt hj72 (by decide) (by decide)
              refine lv_iload_n (pc := 72) F.1 F.2.1 d_Dr_obeyCommand_72 rfl (lv_at hl 3 rfl) ?_
              refine lv_bipush (pc := 73) (v := 8) F.1 F.2.1 d_Dr_obeyCommand_73 (by decide) ?_
              refine lv_icmp_ge (pc := 75) F.1 F.2.1 d_Dr_obeyCommand_75 (tgt := 99) (by decide) (fun q => absurd q hc72_0) (fun _ => ?_)
              refine lv_aload_n (pc := 78) F.1 F.2.1 d_Dr_obeyCommand_78 rfl (lv_at hl 0 rfl) ?_
              refine lv_aload_n (pc := 79) F.1 F.2.1 d_Dr_obeyCommand_79 rfl (lv_at hl 0 rfl) ?_
              refine gC8_0 (pc := 80) F w (F.2.2.2.2 _ m_88) d_Dr_obeyCommand_80 ?_
              refine lv_iload_n (pc := 83) F.1 F.2.1 d_Dr_obeyCommand_83 rfl (lv_at hl 1 rfl) ?_
              refine Usi (pc := 84) (As := [.int (σ 17 (2 : Int32).toNatClampNeg)]) (rest := [.ref (ad 16), .ref (ad 8)]) F (c_Dr_firstByteOf l (σ 17 (2 : Int32).toNatClampNeg)) k_Dr_firstByteOf m_485 (Nat.le_of_ble_eq_true rfl) (Nat.le_of_ble_eq_true rfl) ⟨rfl, rfl⟩ rfl hl.1 rfl (Nat.le_of_ble_eq_true rfl) d_Dr_obeyCommand_84 hcs (fun r11 e_r11 => ?_)
              refine lv_iload_n (pc := 87) F.1 F.2.1 d_Dr_obeyCommand_87 rfl (lv_at hl 3 rfl) ?_
              refine lv_iadd (pc := 88) F.1 F.2.1 d_Dr_obeyCommand_88 ?_
              refine lC16 (pc := 89) F w (by rw [e_r11]; exact ob_in h44 e_r2 hj72) d_Dr_obeyCommand_89 ?_
              refine Cvv (pc := 90) (As := [.int (s10 16 (r11 + (0 + nI j72)).toNatClampNeg)]) (rest := []) F w (c_Dr_answer l D cI ad s10 (s10 16 (r11 + (0 + nI j72)).toNatClampNeg) iIC_s10) 8 rfl rfl k_Dr_answer m_481 (Nat.le_of_ble_eq_true rfl) (Nat.le_of_ble_eq_true rfl) ⟨rfl, rfl⟩ rfl hl.1 rfl (Nat.le_of_ble_eq_true rfl) d_Dr_obeyCommand_90 hcs (fun s12 H locs e_s12 w => ?_)
              have iIC_s12 : IC s12 := by rw [e_s12]; exact iIC_Dr_answer iIC_s10 (s10 16 (r11 + (0 + nI j72)).toNatClampNeg)
              refine lv_iinc (pc := 93) (k := 3) (v := ((0 + nI j72) + 1)) F.1 F.2.1 d_Dr_obeyCommand_93 hl rfl (by first | rfl | decide) (by decide) rfl (fun ls hl => ?_)
              have hl : lv_has ls 4 [(3, .int ((0 + nI j72) + 1)), (0, .ref (ad 8)), (1, .int (σ 17 (2 : Int32).toNatClampNeg)), (2, .int r2)] := hl
              refine lv_goto (pc := 96) F.1 F.2.1 d_Dr_obeyCommand_96 (tgt := 72) (by decide) ?_
              exact nx72 s12 _ _ _ ⟨(by rw [e_s12, e_r11, e_s10]; exact Eq.symm (rfl)), w, by rw [← ci_s]; exact lv_sub hl [1, 2, 3, 0] rfl, iIC_s12⟩
            · rintro s10 H locs ls ⟨ex, w, hl, iIC_s10⟩
              have e_s10 := ex
              have w : Wx D cI (wC cI ad) (AC ad) (AC ad) s s.heap H locs s10 := w
              have iIC_s10 : IC s10 := iIC_s10
              have hl : lv_has ls 4 [(0, .ref (ad 8)), (1, .int (σ 17 (2 : Int32).toNatClampNeg)), (2, .int r2), (3, .int (0 + nI 8))] := hl
              have hx72_0 : 8 ≤ (0 + nI 8) := lp_ge (by decide)
              refine lv_iload_n (pc := 72) F.1 F.2.1 d_Dr_obeyCommand_72 rfl (lv_at hl 3 rfl) ?_
              refine lv_bipush (pc := 73) (v := 8) F.1 F.2.1 d_Dr_obeyCommand_73 (by decide) ?_
              refine lv_icmp_ge (pc := 75) F.1 F.2.1 d_Dr_obeyCommand_75 (tgt := 99) (by decide) (fun _ => ?_) (fun q => absurd hx72_0 q)
              refine lv_aload_n (pc := 99) F.1 F.2.1 d_Dr_obeyCommand_99 rfl (lv_at hl 0 rfl) ?_
              refine lv_aload_n (pc := 100) F.1 F.2.1 d_Dr_obeyCommand_100 rfl (lv_at hl 0 rfl) ?_
              refine gC8_0 (pc := 101) F w (F.2.2.2.2 _ m_88) d_Dr_obeyCommand_101 ?_
              refine lv_iload_n (pc := 104) F.1 F.2.1 d_Dr_obeyCommand_104 rfl (lv_at hl 1 rfl) ?_
              refine Usi (pc := 105) (As := [.int (σ 17 (2 : Int32).toNatClampNeg)]) (rest := [.ref (ad 16), .ref (ad 8)]) F (c_Dr_firstByteOf l (σ 17 (2 : Int32).toNatClampNeg)) k_Dr_firstByteOf m_485 (Nat.le_of_ble_eq_true rfl) (Nat.le_of_ble_eq_true rfl) ⟨rfl, rfl⟩ rfl hl.1 rfl (Nat.le_of_ble_eq_true rfl) d_Dr_obeyCommand_105 hcs (fun r13 e_r13 => ?_)
              refine lv_bipush (pc := 108) (v := 8) F.1 F.2.1 d_Dr_obeyCommand_108 (by decide) ?_
              refine Ksi (pc := 110) (As := [.ref (ad 16), .int r13, .int 8]) (rest := [.ref (ad 8)]) F w (c_Dr_sum_16 l D cI ad s10 r13 8 (ob_sm h44 e_r2 e_r13)) k_Dr_sum m_478 (Nat.le_of_ble_eq_true rfl) (Nat.le_of_ble_eq_true rfl) ⟨rfl, rfl⟩ rfl hl.1 rfl (Nat.le_of_ble_eq_true rfl) d_Dr_obeyCommand_110 hcs (fun r14 H locs e_r14 w => ?_)
              refine Cvv (pc := 113) (As := [.int r14]) (rest := []) F w (c_Dr_answer l D cI ad s10 r14 iIC_s10) 8 rfl rfl k_Dr_answer m_481 (Nat.le_of_ble_eq_true rfl) (Nat.le_of_ble_eq_true rfl) ⟨rfl, rfl⟩ rfl hl.1 rfl (Nat.le_of_ble_eq_true rfl) d_Dr_obeyCommand_113 hcs (fun s15 H locs e_s15 w => ?_)
              have iIC_s15 : IC s15 := by rw [e_s15]; exact iIC_Dr_answer iIC_s10 r14
              refine lv_goto (pc := 116) F.1 F.2.1 d_Dr_obeyCommand_116 (tgt := 159) (by decide) ?_
              exact k44 s15 _ _ _ ⟨(by rw [e_s15, e_r14, e_r13, e_s10, e_s9, e_s8]; exact Eq.symm (Eq.trans (if_neg h44) (Eq.trans (if_pos h55) (rfl)))), w, lv_sub hl [0, 1, 2] rfl⟩
    · exact Rv (pc := 36) F hr hlk w (by rw [e_r1] at h33; exact Eq.symm (Eq.trans (if_pos h15) (Eq.trans (if_neg h33) (rfl)))) d_Dr_obeyCommand_36
def f_Dr_gather_r24 (s2 : Sg) : Int32 := if (s2 8 4) = 0 then (4) else (9)
def f_Dr_gather_r52 (s4 : Sg) : Sg := if (s4 8 4) = 0 then (let s5 := f_Dr_obeyCommand s4; s5) else (let s6 := f_Dr_storeSector s4; s6)
def f_Dr_gather (σ : Sg) (x1 : Int32) : Sg := let s1 := sf σ 17 (σ 8 3).toNatClampNeg x1; let s2 := sf s1 8 3 ((s1 8 3) + 1); let v3 := (f_Dr_gather_r24 s2); if v3 ≤ (s2 8 3) then (let s4 := sf s2 8 3 0; let s7 := (f_Dr_gather_r52 s4); s7) else (s2)
set_option maxHeartbeats 1000000 in
set_option maxRecDepth 100000 in
theorem c_Dr_gather (l : Launch) (D : va_G) (cI : ClassId) (ad : Nat → Nat) (σ : Sg) (x1 : Int32) (hI : IC σ) : Met l y_Dr_gather (Cond.code y_Dr_gather b_Dr_gather 3 none :: al) { frames := 2, cells := 0, slots := 0, locals := 84 } (Px D cI (wC cI ad) (AC ad) σ [.ref (ad 8), .int x1]) (va_Qv (fun u => u = f_Dr_gather σ x1) (Bx D cI (wC cI ad) (AC ad)) (AC ad)) 0 0 (AC ad) := by
  refine Mx l (by decide) (Nat.le_of_ble_eq_true rfl) ?_
  intro p e s m below meth c ls F w hr hlk hl
  have F : CallFix p m c b_Dr_gather 3 s _ al "PictureMachine$Drive" := F
  have hl : lv_has ls 3 [(0, .ref (ad 8)), (1, .int x1)] := hl
  have hcs : (0 : Nat) ≤ 0 ∧ (0 : Nat) ≤ 0 := ⟨Nat.le_refl _, Nat.le_refl _⟩
  refine lv_aload_n (pc := 0) F.1 F.2.1 d_Dr_gather_0 rfl (lv_at hl 0 rfl) ?_
  refine gC8_1 (pc := 1) F w (F.2.2.2.2 _ m_89) d_Dr_gather_1 ?_
  refine lv_aload_n (pc := 4) F.1 F.2.1 d_Dr_gather_4 rfl (lv_at hl 0 rfl) ?_
  refine gC8_3 (pc := 5) F w (F.2.2.2.2 _ m_91) d_Dr_gather_5 ?_
  refine lv_iload_n (pc := 8) F.1 F.2.1 d_Dr_gather_8 rfl (lv_at hl 1 rfl) ?_
  refine aC17 (pc := 9) F w (bt_in hI.1 (by decide) (by decide)) d_Dr_gather_9 (fun H locs s1 e_s1 w => ?_)
  have iIC_s1 : IC s1 := by rw [e_s1]; exact hI
  refine lv_aload_n (pc := 10) F.1 F.2.1 d_Dr_gather_10 rfl (lv_at hl 0 rfl) ?_
  refine lv_dup (pc := 11) F.1 F.2.1 d_Dr_gather_11 rfl ?_
  refine gC8_3 (pc := 12) F w (F.2.2.2.2 _ m_91) d_Dr_gather_12 ?_
  refine lv_iconst (pc := 15) (v := 1) F.1 F.2.1 d_Dr_gather_15 (by decide) ?_
  refine lv_iadd (pc := 16) F.1 F.2.1 d_Dr_gather_16 ?_
  refine pC8_3 (pc := 17) F w (F.2.2.2.2 _ m_91) d_Dr_gather_17 (fun H locs s2 e_s2 w => ?_)
  refine lv_aload_n (pc := 20) F.1 F.2.1 d_Dr_gather_20 rfl (lv_at hl 0 rfl) ?_
  refine gC8_4 (pc := 21) F w (F.2.2.2.2 _ m_93) d_Dr_gather_21 ?_
  refine cutW (α := Int32) (fun x H locs ls => x = f_Dr_gather_r24 s2 ∧ Wx D cI (wC cI ad) (AC ad) (AC ad) s s.heap H locs s2 ∧ lv_has ls 3 [(0, .ref (ad 8)), (1, .int x1)]) (fun x ls => F0 m 33 ls [.int x]) ?_ (fun k24 => ?_)
  · rintro v3 H locs ls ⟨ex, w, hl⟩
    have e_v3 := ex
    have w : Wx D cI (wC cI ad) (AC ad) (AC ad) s s.heap H locs s2 := w
    have hl : lv_has ls 3 [(0, .ref (ad 8)), (1, .int x1)] := hl
    show W _ _ _ _ _ _ _ _ _ _ _ _ _ _ _ (F0 m 33 ls [.int v3])
    refine lv_istore_n (pc := 33) F.1 F.2.1 d_Dr_gather_33 rfl hl (by decide) rfl (fun ls hl => ?_)
    have hl : lv_has ls 3 [(2, .int v3), (0, .ref (ad 8)), (1, .int x1)] := hl
    refine lv_aload_n (pc := 34) F.1 F.2.1 d_Dr_gather_34 rfl (lv_at hl 1 rfl) ?_
    refine gC8_3 (pc := 35) F w (F.2.2.2.2 _ m_91) d_Dr_gather_35 ?_
    refine lv_iload_n (pc := 38) F.1 F.2.1 d_Dr_gather_38 rfl (lv_at hl 0 rfl) ?_
    refine lv_icmp_ge (pc := 39) F.1 F.2.1 d_Dr_gather_39 (tgt := 43) (by decide) (fun h39 => ?_) (fun h39 => ?_)
    · refine lv_aload_n (pc := 43) F.1 F.2.1 d_Dr_gather_43 rfl (lv_at hl 1 rfl) ?_
      refine lv_iconst (pc := 44) (v := 0) F.1 F.2.1 d_Dr_gather_44 (by decide) ?_
      refine pC8_3 (pc := 45) F w (F.2.2.2.2 _ m_91) d_Dr_gather_45 (fun H locs s4 e_s4 w => ?_)
      have iIC_s4 : IC s4 := by rw [e_s4, e_s2, e_s1]; exact ⟨(⟨by decide, by decide⟩ : bt2 0 0 8), hI.2⟩
      refine lv_aload_n (pc := 48) F.1 F.2.1 d_Dr_gather_48 rfl (lv_at hl 1 rfl) ?_
      refine gC8_4 (pc := 49) F w (F.2.2.2.2 _ m_93) d_Dr_gather_49 ?_
      refine cutW (α := Sg) (fun x H locs ls => x = f_Dr_gather_r52 s4 ∧ Wx D cI (wC cI ad) (AC ad) (AC ad) s s.heap H locs x ∧ lv_has ls 3 [(0, .ref (ad 8)), (1, .int x1), (2, .int v3)]) (fun x ls => F0 m 66 ls []) ?_ (fun k52 => ?_)
      · rintro s7 H locs ls ⟨ex, w, hl⟩
        have e_s7 := ex
        have w : Wx D cI (wC cI ad) (AC ad) (AC ad) s s.heap H locs s7 := w
        have hl : lv_has ls 3 [(0, .ref (ad 8)), (1, .int x1), (2, .int v3)] := hl
        show W _ _ _ _ _ _ _ _ _ _ _ _ _ _ _ (F0 m 66 ls [])
        exact Rv (pc := 66) F hr hlk w (by rw [e_v3, e_s2, e_s1] at h39; rw [e_s7, e_s4, e_s2, e_s1]; exact Eq.symm (Eq.trans (if_pos h39) (rfl))) d_Dr_gather_66
      · refine lv_if_eq (pc := 52) F.1 F.2.1 d_Dr_gather_52 (tgt := 62) (by decide) (fun h52 => ?_) (fun h52 => ?_)
        · refine lv_aload_n (pc := 62) F.1 F.2.1 d_Dr_gather_62 rfl (lv_at hl 1 rfl) ?_
          refine Cvv (pc := 63) (As := []) (rest := []) F w (c_Dr_obeyCommand l D cI ad s4 iIC_s4) 8 rfl rfl k_Dr_obeyCommand m_491 (Nat.le_of_ble_eq_true rfl) (Nat.le_of_ble_eq_true rfl) ⟨rfl, rfl⟩ rfl hl.1 rfl (Nat.le_of_ble_eq_true rfl) d_Dr_gather_63 hcs (fun s5 H locs e_s5 w => ?_)
          exact k52 s5 _ _ _ ⟨(by rw [e_s5]; exact Eq.symm (Eq.trans (if_pos h52) (rfl))), w, lv_sub hl [1, 2, 0] rfl⟩
        · refine lv_aload_n (pc := 55) F.1 F.2.1 d_Dr_gather_55 rfl (lv_at hl 1 rfl) ?_
          refine Cvv (pc := 56) (As := []) (rest := []) F w (c_Dr_storeSector l D cI ad s4 iIC_s4) 8 rfl rfl k_Dr_storeSector m_474 (Nat.le_of_ble_eq_true rfl) (Nat.le_of_ble_eq_true rfl) ⟨rfl, rfl⟩ rfl hl.1 rfl (Nat.le_of_ble_eq_true rfl) d_Dr_gather_56 hcs (fun s6 H locs e_s6 w => ?_)
          refine lv_goto (pc := 59) F.1 F.2.1 d_Dr_gather_59 (tgt := 66) (by decide) ?_
          exact k52 s6 _ _ _ ⟨(by rw [e_s6]; exact Eq.symm (Eq.trans (if_neg h52) (rfl))), w, lv_sub hl [1, 2, 0] rfl⟩
    · exact Rv (pc := 42) F hr hlk w (by rw [e_v3, e_s2, e_s1] at h39; rw [e_s2, e_s1]; exact Eq.symm (Eq.trans (if_neg h39) (rfl))) d_Dr_gather_42
  · refine lv_if_eq (pc := 24) F.1 F.2.1 d_Dr_gather_24 (tgt := 32) (by decide) (fun h24 => ?_) (fun h24 => ?_)
    · refine lv_iconst (pc := 32) (v := 4) F.1 F.2.1 d_Dr_gather_32 (by decide) ?_
      exact k24 4 _ _ _ ⟨(by exact Eq.symm (Eq.trans (if_pos h24) (rfl))), w, lv_sub hl [0, 1] rfl⟩
    · refine lv_bipush (pc := 27) (v := 9) F.1 F.2.1 d_Dr_gather_27 (by decide) ?_
      refine lv_goto (pc := 29) F.1 F.2.1 d_Dr_gather_29 (tgt := 33) (by decide) ?_
      exact k24 9 _ _ _ ⟨(by exact Eq.symm (Eq.trans (if_neg h24) (rfl))), w, lv_sub hl [0, 1] rfl⟩
