def f_Mo_push (σ : Sg) (x1 : Int32) : Sg := let s1 := sf σ 1 (256 + (σ 0 9)).toNatClampNeg x1; let s2 := sf s1 0 9 (((s1 0 9) - 1) &&& 255); s2
set_option maxHeartbeats 1000000 in
set_option maxRecDepth 100000 in
theorem c_Mo_push (l : Launch) (D : va_G) (cI : ClassId) (am : Nat → Nat) (σ : Sg) (x1 : Int32) (hI : JM σ) : Met l y_Mo_push (Cond.code y_Mo_push b_Mo_push 2 none :: al) { frames := 0, cells := 0, slots := 0, locals := 0 } (Px D cI (wM cI am) (AM am) σ [.ref (am 0), .int x1]) (va_Qv (fun u => u = f_Mo_push σ x1) (Bx D cI (wM cI am) (AM am)) (AM am)) 0 0 (AM am) := by
  refine Mx l (by decide) (Nat.le_of_ble_eq_true rfl) ?_
  intro p e s m below meth c ls F w hr hlk hl
  have F : CallFix p m c b_Mo_push 2 s _ al "PictureMachineModel" := F
  have hl : lv_has ls 2 [(0, .ref (am 0)), (1, .int x1)] := hl
  refine lv_aload_n (pc := 0) F.1 F.2.1 d_Mo_push_0 rfl (lv_at hl 0 rfl) ?_
  refine gM0_1 (pc := 1) F w (F.2.2.2.2 _ m_776) d_Mo_push_1 ?_
  refine lv_sipush (pc := 4) (v := 256) F.1 F.2.1 d_Mo_push_4 (by decide) ?_
  refine lv_aload_n (pc := 7) F.1 F.2.1 d_Mo_push_7 rfl (lv_at hl 0 rfl) ?_
  refine gM0_9 (pc := 8) F w (F.2.2.2.2 _ m_784) d_Mo_push_8 ?_
  refine lv_iadd (pc := 11) F.1 F.2.1 d_Mo_push_11 ?_
  refine lv_iload_n (pc := 12) F.1 F.2.1 d_Mo_push_12 rfl (lv_at hl 1 rfl) ?_
  refine aM1 (pc := 13) F w (st_in hI.2.2.2.1) d_Mo_push_13 (fun H locs s1 e_s1 w => ?_)
  have iJM_s1 : JM s1 := by rw [e_s1]; exact hI
  refine lv_aload_n (pc := 14) F.1 F.2.1 d_Mo_push_14 rfl (lv_at hl 0 rfl) ?_
  refine lv_aload_n (pc := 15) F.1 F.2.1 d_Mo_push_15 rfl (lv_at hl 0 rfl) ?_
  refine gM0_9 (pc := 16) F w (F.2.2.2.2 _ m_784) d_Mo_push_16 ?_
  refine lv_iconst (pc := 19) (v := 1) F.1 F.2.1 d_Mo_push_19 (by decide) ?_
  refine lv_isub (pc := 20) F.1 F.2.1 d_Mo_push_20 ?_
  refine lv_sipush (pc := 21) (v := 255) F.1 F.2.1 d_Mo_push_21 (by decide) ?_
  refine lv_iand (pc := 24) F.1 F.2.1 d_Mo_push_24 ?_
  refine pM0_9 (pc := 25) F w (F.2.2.2.2 _ m_784) d_Mo_push_25 (fun H locs s2 e_s2 w => ?_)
  exact Rv (pc := 28) F hr hlk w (by rw [e_s2, e_s1]; exact Eq.symm (rfl)) d_Mo_push_28
theorem iJM_Mo_push {σ : Sg} (h : JM σ) (x : Int32) : JM (f_Mo_push σ x) := ⟨h.1, h.2.1, h.2.2.1, bt_8 _, h.2.2.2.2⟩
def f_Mo_pull (σ : Sg) : Int32 × Sg := let s1 := sf σ 0 9 (((σ 0 9) + 1) &&& 255); ((s1 1 (256 + (s1 0 9)).toNatClampNeg), s1)
set_option maxHeartbeats 1000000 in
set_option maxRecDepth 100000 in
theorem c_Mo_pull (l : Launch) (D : va_G) (cI : ClassId) (am : Nat → Nat) (σ : Sg) (hI : JM σ) : Met l y_Mo_pull (Cond.code y_Mo_pull b_Mo_pull 1 (some .int) :: al) { frames := 0, cells := 0, slots := 0, locals := 0 } (Px D cI (wM cI am) (AM am) σ [.ref (am 0)]) (va_Qi (fun r u => (r, u) = f_Mo_pull σ ) (Bx D cI (wM cI am) (AM am)) (AM am)) 0 0 (AM am) := by
  refine Mx l (by decide) (Nat.le_of_ble_eq_true rfl) ?_
  intro p e s m below meth c ls F w hr hlk hl
  have F : CallFix p m c b_Mo_pull 1 s _ al "PictureMachineModel" := F
  have hl : lv_has ls 1 [(0, .ref (am 0))] := hl
  refine lv_aload_n (pc := 0) F.1 F.2.1 d_Mo_pull_0 rfl (lv_at hl 0 rfl) ?_
  refine lv_aload_n (pc := 1) F.1 F.2.1 d_Mo_pull_1 rfl (lv_at hl 0 rfl) ?_
  refine gM0_9 (pc := 2) F w (F.2.2.2.2 _ m_784) d_Mo_pull_2 ?_
  refine lv_iconst (pc := 5) (v := 1) F.1 F.2.1 d_Mo_pull_5 (by decide) ?_
  refine lv_iadd (pc := 6) F.1 F.2.1 d_Mo_pull_6 ?_
  refine lv_sipush (pc := 7) (v := 255) F.1 F.2.1 d_Mo_pull_7 (by decide) ?_
  refine lv_iand (pc := 10) F.1 F.2.1 d_Mo_pull_10 ?_
  refine pM0_9 (pc := 11) F w (F.2.2.2.2 _ m_784) d_Mo_pull_11 (fun H locs s1 e_s1 w => ?_)
  refine lv_aload_n (pc := 14) F.1 F.2.1 d_Mo_pull_14 rfl (lv_at hl 0 rfl) ?_
  refine gM0_1 (pc := 15) F w (F.2.2.2.2 _ m_776) d_Mo_pull_15 ?_
  refine lv_sipush (pc := 18) (v := 256) F.1 F.2.1 d_Mo_pull_18 (by decide) ?_
  refine lv_aload_n (pc := 21) F.1 F.2.1 d_Mo_pull_21 rfl (lv_at hl 0 rfl) ?_
  refine gM0_9 (pc := 22) F w (F.2.2.2.2 _ m_784) d_Mo_pull_22 ?_
  refine lv_iadd (pc := 25) F.1 F.2.1 d_Mo_pull_25 ?_
  refine lM1 (pc := 26) F w (by rw [e_s1]; exact sp_in ((σ 0 9) + 1)) d_Mo_pull_26 ?_
  exact Ri (pc := 27) F hr hlk w (by rw [e_s1]; exact Eq.symm (rfl)) d_Mo_pull_27
theorem iJM_Mo_pull {σ : Sg} (h : JM σ) : JM (f_Mo_pull σ).2 := ⟨h.1, h.2.1, h.2.2.1, bt_8 _, h.2.2.2.2⟩
def f_Mo_flags_r4 (σ : Sg) : Int32 := if (σ 0 11) = 0 then (0) else (128)
def f_Mo_flags_r18 (σ : Sg) : Int32 := if (σ 0 12) = 0 then (0) else (2)
def f_Mo_flags_r31 (σ : Sg) : Int32 := if (σ 0 13) = 0 then (0) else (1)
def f_Mo_flags (σ : Sg) : Int32 := let v1 := (f_Mo_flags_r4 σ); let v2 := (f_Mo_flags_r18 σ); let v3 := (f_Mo_flags_r31 σ); ((v1 + v2) + v3)
theorem z_f_Mo_flags_r31_0 (σ : Sg) : (f_Mo_flags_r31 σ) = 0 ∨ (f_Mo_flags_r31 σ) = 1 := by unfold f_Mo_flags_r31; (try dsimp only); (repeat' split) <;> first | exact Or.inl rfl | exact Or.inr rfl
set_option maxHeartbeats 1000000 in
set_option maxRecDepth 100000 in
theorem c_Mo_flags (l : Launch) (D : va_G) (cI : ClassId) (am : Nat → Nat) (σ : Sg) : Met l y_Mo_flags (Cond.code y_Mo_flags b_Mo_flags 1 (some .int) :: al) { frames := 0, cells := 0, slots := 0, locals := 0 } (Px D cI (wM cI am) (AM am) σ [.ref (am 0)]) (va_Qi (fun r u => r = f_Mo_flags σ  ∧ u = σ) (Bx D cI (wM cI am) (AM am)) (AM am)) 0 0 (AM am) := by
  refine Mx l (by decide) (Nat.le_of_ble_eq_true rfl) ?_
  intro p e s m below meth c ls F w hr hlk hl
  have F : CallFix p m c b_Mo_flags 1 s _ al "PictureMachineModel" := F
  have hl : lv_has ls 1 [(0, .ref (am 0))] := hl
  refine lv_aload_n (pc := 0) F.1 F.2.1 d_Mo_flags_0 rfl (lv_at hl 0 rfl) ?_
  refine gM0_11 (pc := 1) F w (F.2.2.2.2 _ m_786) d_Mo_flags_1 ?_
  refine cutW (α := Int32) (fun x H locs ls => x = f_Mo_flags_r4 σ ∧ Wx D cI (wM cI am) (AM am) (AM am) s s.heap H locs σ ∧ lv_has ls 1 [(0, .ref (am 0))]) (fun x ls => F0 m 14 ls [.int x]) ?_ (fun k4 => ?_)
  · rintro v1 H locs ls ⟨ex, w, hl⟩
    have e_v1 := ex
    have w : Wx D cI (wM cI am) (AM am) (AM am) s s.heap H locs σ := w
    have hl : lv_has ls 1 [(0, .ref (am 0))] := hl
    show W _ _ _ _ _ _ _ _ _ _ _ _ _ _ _ (F0 m 14 ls [.int v1])
    refine lv_aload_n (pc := 14) F.1 F.2.1 d_Mo_flags_14 rfl (lv_at hl 0 rfl) ?_
    refine gM0_12 (pc := 15) F w (F.2.2.2.2 _ m_787) d_Mo_flags_15 ?_
    refine cutW (α := Int32) (fun x H locs ls => x = f_Mo_flags_r18 σ ∧ Wx D cI (wM cI am) (AM am) (AM am) s s.heap H locs σ ∧ lv_has ls 1 [(0, .ref (am 0))]) (fun x ls => F0 m 26 ls [.int x, .int v1]) ?_ (fun k18 => ?_)
    · rintro v2 H locs ls ⟨ex, w, hl⟩
      have e_v2 := ex
      have w : Wx D cI (wM cI am) (AM am) (AM am) s s.heap H locs σ := w
      have hl : lv_has ls 1 [(0, .ref (am 0))] := hl
      show W _ _ _ _ _ _ _ _ _ _ _ _ _ _ _ (F0 m 26 ls [.int v2, .int v1])
      refine lv_iadd (pc := 26) F.1 F.2.1 d_Mo_flags_26 ?_
      refine lv_aload_n (pc := 27) F.1 F.2.1 d_Mo_flags_27 rfl (lv_at hl 0 rfl) ?_
      refine gM0_13 (pc := 28) F w (F.2.2.2.2 _ m_788) d_Mo_flags_28 ?_
      refine cutW (α := Int32) (fun x H locs ls => x = f_Mo_flags_r31 σ ∧ Wx D cI (wM cI am) (AM am) (AM am) s s.heap H locs σ ∧ lv_has ls 1 [(0, .ref (am 0))]) (fun x ls => F0 m 39 ls [.int x, .int (v1 + v2)]) ?_ (fun k31 => ?_)
      · rintro v3 H locs ls ⟨ex, w, hl⟩
        have e_v3 := ex
        have w : Wx D cI (wM cI am) (AM am) (AM am) s s.heap H locs σ := w
        have hl : lv_has ls 1 [(0, .ref (am 0))] := hl
        show W _ _ _ _ _ _ _ _ _ _ _ _ _ _ _ (F0 m 39 ls [.int v3, .int (v1 + v2)])
        refine lv_iadd (pc := 39) F.1 F.2.1 d_Mo_flags_39 ?_
        exact Ki (pc := 40) F hr hlk w (by rw [e_v3, e_v2, e_v1]; exact Eq.symm (rfl)) d_Mo_flags_40
      · refine lv_if_eq (pc := 31) F.1 F.2.1 d_Mo_flags_31 (tgt := 38) (by decide) (fun h31 => ?_) (fun h31 => ?_)
        · refine lv_iconst (pc := 38) (v := 0) F.1 F.2.1 d_Mo_flags_38 (by decide) ?_
          exact k31 0 _ _ _ ⟨(by exact Eq.symm (Eq.trans (if_pos h31) (rfl))), w, lv_sub hl [0] rfl⟩
        · refine lv_iconst (pc := 34) (v := 1) F.1 F.2.1 d_Mo_flags_34 (by decide) ?_
          refine lv_goto (pc := 35) F.1 F.2.1 d_Mo_flags_35 (tgt := 39) (by decide) ?_
          exact k31 1 _ _ _ ⟨(by exact Eq.symm (Eq.trans (if_neg h31) (rfl))), w, lv_sub hl [0] rfl⟩
    · refine lv_if_eq (pc := 18) F.1 F.2.1 d_Mo_flags_18 (tgt := 25) (by decide) (fun h18 => ?_) (fun h18 => ?_)
      · refine lv_iconst (pc := 25) (v := 0) F.1 F.2.1 d_Mo_flags_25 (by decide) ?_
        exact k18 0 _ _ _ ⟨(by exact Eq.symm (Eq.trans (if_pos h18) (rfl))), w, lv_sub hl [0] rfl⟩
      · refine lv_iconst (pc := 21) (v := 2) F.1 F.2.1 d_Mo_flags_21 (by decide) ?_
        refine lv_goto (pc := 22) F.1 F.2.1 d_Mo_flags_22 (tgt := 26) (by decide) ?_
        exact k18 2 _ _ _ ⟨(by exact Eq.symm (Eq.trans (if_neg h18) (rfl))), w, lv_sub hl [0] rfl⟩
  · refine lv_if_eq (pc := 4) F.1 F.2.1 d_Mo_flags_4 (tgt := 13) (by decide) (fun h4 => ?_) (fun h4 => ?_)
    · refine lv_iconst (pc := 13) (v := 0) F.1 F.2.1 d_Mo_flags_13 (by decide) ?_
      exact k4 0 _ _ _ ⟨(by exact Eq.symm (Eq.trans (if_pos h4) (rfl))), w, lv_sub hl [0] rfl⟩
    · refine lv_sipush (pc := 7) (v := 128) F.1 F.2.1 d_Mo_flags_7 (by decide) ?_
      refine lv_goto (pc := 10) F.1 F.2.1 d_Mo_flags_10 (tgt := 14) (by decide) ?_
      exact k4 128 _ _ _ ⟨(by exact Eq.symm (Eq.trans (if_neg h4) (rfl))), w, lv_sub hl [0] rfl⟩
def f_Mo_set_r6 (x1 : Int32) : Int32 := if (x1 &&& 128) = 0 then (0) else (1)
def f_Mo_set_r23 (x1 : Int32) : Int32 := if (x1 &&& 255) = 0 then (1) else (0)
def f_Mo_set (σ : Sg) (x1 : Int32) : Int32 × Sg := let v1 := (f_Mo_set_r6 x1); let s2 := sf σ 0 11 v1; let v3 := (f_Mo_set_r23 x1); let s4 := sf s2 0 12 v3; ((x1 &&& 255), s4)
theorem z_f_Mo_set_r6_0 (x1 : Int32) : (f_Mo_set_r6 x1) = 0 ∨ (f_Mo_set_r6 x1) = 1 := by unfold f_Mo_set_r6; (try dsimp only); (repeat' split) <;> first | exact Or.inl rfl | exact Or.inr rfl
theorem z_f_Mo_set_r23_0 (x1 : Int32) : (f_Mo_set_r23 x1) = 0 ∨ (f_Mo_set_r23 x1) = 1 := by unfold f_Mo_set_r23; (try dsimp only); (repeat' split) <;> first | exact Or.inl rfl | exact Or.inr rfl | apply z_f_Mo_set_r6_0
set_option maxHeartbeats 1000000 in
set_option maxRecDepth 100000 in
theorem c_Mo_set (l : Launch) (D : va_G) (cI : ClassId) (am : Nat → Nat) (σ : Sg) (x1 : Int32) : Met l y_Mo_set (Cond.code y_Mo_set b_Mo_set 2 (some .int) :: al) { frames := 0, cells := 0, slots := 0, locals := 0 } (Px D cI (wM cI am) (AM am) σ [.ref (am 0), .int x1]) (va_Qi (fun r u => (r, u) = f_Mo_set σ x1) (Bx D cI (wM cI am) (AM am)) (AM am)) 0 0 (AM am) := by
  refine Mx l (by decide) (Nat.le_of_ble_eq_true rfl) ?_
  intro p e s m below meth c ls F w hr hlk hl
  have F : CallFix p m c b_Mo_set 2 s _ al "PictureMachineModel" := F
  have hl : lv_has ls 2 [(0, .ref (am 0)), (1, .int x1)] := hl
  refine lv_aload_n (pc := 0) F.1 F.2.1 d_Mo_set_0 rfl (lv_at hl 0 rfl) ?_
  refine lv_iload_n (pc := 1) F.1 F.2.1 d_Mo_set_1 rfl (lv_at hl 1 rfl) ?_
  refine lv_sipush (pc := 2) (v := 128) F.1 F.2.1 d_Mo_set_2 (by decide) ?_
  refine lv_iand (pc := 5) F.1 F.2.1 d_Mo_set_5 ?_
  refine cutW (α := Int32) (fun x H locs ls => x = f_Mo_set_r6 x1 ∧ Wx D cI (wM cI am) (AM am) (AM am) s s.heap H locs σ ∧ lv_has ls 2 [(0, .ref (am 0)), (1, .int x1)]) (fun x ls => F0 m 14 ls [.int x, .ref (am 0)]) ?_ (fun k6 => ?_)
  · rintro v1 H locs ls ⟨ex, w, hl⟩
    have e_v1 := ex
    have w : Wx D cI (wM cI am) (AM am) (AM am) s s.heap H locs σ := w
    have hl : lv_has ls 2 [(0, .ref (am 0)), (1, .int x1)] := hl
    show W _ _ _ _ _ _ _ _ _ _ _ _ _ _ _ (F0 m 14 ls [.int v1, .ref (am 0)])
    refine pM0_11 (pc := 14) F w (e_v1 ▸ z_f_Mo_set_r6_0 x1) (F.2.2.2.2 _ m_786) d_Mo_set_14 (fun H locs s2 e_s2 w => ?_)
    refine lv_aload_n (pc := 17) F.1 F.2.1 d_Mo_set_17 rfl (lv_at hl 0 rfl) ?_
    refine lv_iload_n (pc := 18) F.1 F.2.1 d_Mo_set_18 rfl (lv_at hl 1 rfl) ?_
    refine lv_sipush (pc := 19) (v := 255) F.1 F.2.1 d_Mo_set_19 (by decide) ?_
    refine lv_iand (pc := 22) F.1 F.2.1 d_Mo_set_22 ?_
    refine cutW (α := Int32) (fun x H locs ls => x = f_Mo_set_r23 x1 ∧ Wx D cI (wM cI am) (AM am) (AM am) s s.heap H locs s2 ∧ lv_has ls 2 [(0, .ref (am 0)), (1, .int x1)]) (fun x ls => F0 m 31 ls [.int x, .ref (am 0)]) ?_ (fun k23 => ?_)
    · rintro v3 H locs ls ⟨ex, w, hl⟩
      have e_v3 := ex
      have w : Wx D cI (wM cI am) (AM am) (AM am) s s.heap H locs s2 := w
      have hl : lv_has ls 2 [(0, .ref (am 0)), (1, .int x1)] := hl
      show W _ _ _ _ _ _ _ _ _ _ _ _ _ _ _ (F0 m 31 ls [.int v3, .ref (am 0)])
      refine pM0_12 (pc := 31) F w (e_v3 ▸ z_f_Mo_set_r23_0 x1) (F.2.2.2.2 _ m_787) d_Mo_set_31 (fun H locs s4 e_s4 w => ?_)
      refine lv_iload_n (pc := 34) F.1 F.2.1 d_Mo_set_34 rfl (lv_at hl 1 rfl) ?_
      refine lv_sipush (pc := 35) (v := 255) F.1 F.2.1 d_Mo_set_35 (by decide) ?_
      refine lv_iand (pc := 38) F.1 F.2.1 d_Mo_set_38 ?_
      exact Ri (pc := 39) F hr hlk w (by rw [e_s4, e_v3, e_s2, e_v1]; exact Eq.symm (rfl)) d_Mo_set_39
    · refine lv_if_ne (pc := 23) F.1 F.2.1 d_Mo_set_23 (tgt := 30) (by decide) (fun h23 => ?_) (fun h23 => ?_)
      · refine lv_iconst (pc := 30) (v := 0) F.1 F.2.1 d_Mo_set_30 (by decide) ?_
        exact k23 0 _ _ _ ⟨(by exact Eq.symm (Eq.trans (if_neg h23) (rfl))), w, lv_sub hl [0, 1] rfl⟩
      · refine lv_iconst (pc := 26) (v := 1) F.1 F.2.1 d_Mo_set_26 (by decide) ?_
        refine lv_goto (pc := 27) F.1 F.2.1 d_Mo_set_27 (tgt := 31) (by decide) ?_
        exact k23 1 _ _ _ ⟨(by exact Eq.symm (Eq.trans (if_pos h23) (rfl))), w, lv_sub hl [0, 1] rfl⟩
  · refine lv_if_eq (pc := 6) F.1 F.2.1 d_Mo_set_6 (tgt := 13) (by decide) (fun h6 => ?_) (fun h6 => ?_)
    · refine lv_iconst (pc := 13) (v := 0) F.1 F.2.1 d_Mo_set_13 (by decide) ?_
      exact k6 0 _ _ _ ⟨(by exact Eq.symm (Eq.trans (if_pos h6) (rfl))), w, lv_sub hl [0, 1] rfl⟩
    · refine lv_iconst (pc := 9) (v := 1) F.1 F.2.1 d_Mo_set_9 (by decide) ?_
      refine lv_goto (pc := 10) F.1 F.2.1 d_Mo_set_10 (tgt := 14) (by decide) ?_
      exact k6 1 _ _ _ ⟨(by exact Eq.symm (Eq.trans (if_neg h6) (rfl))), w, lv_sub hl [0, 1] rfl⟩
def f_Mo_sum_r10 (σ : Sg) : Int32 := if (σ 0 13) = 0 then (0) else (1)
def f_Mo_sum_r25 (σ : Sg) (x1 : Int32) (v1 : Int32) : Int32 := if (((σ 0 6) + x1) + v1) ≤ 255 then (0) else (1)
def f_Mo_sum (σ : Sg) (x1 : Int32) : Int32 × Sg := let v1 := (f_Mo_sum_r10 σ); let v2 := (f_Mo_sum_r25 σ x1 v1); let s3 := sf σ 0 13 v2; let r4 := (f_Mo_set s3 (((σ 0 6) + x1) + v1)).1; let s5 := (f_Mo_set s3 (((σ 0 6) + x1) + v1)).2; (r4, s5)
theorem z_f_Mo_sum_r10_0 (σ : Sg) : (f_Mo_sum_r10 σ) = 0 ∨ (f_Mo_sum_r10 σ) = 1 := by unfold f_Mo_sum_r10; (try dsimp only); (repeat' split) <;> first | exact Or.inl rfl | exact Or.inr rfl
theorem z_f_Mo_sum_r25_0 (σ : Sg) (x1 : Int32) (v1 : Int32) : (f_Mo_sum_r25 σ x1 v1) = 0 ∨ (f_Mo_sum_r25 σ x1 v1) = 1 := by unfold f_Mo_sum_r25; (try dsimp only); (repeat' split) <;> first | exact Or.inl rfl | exact Or.inr rfl | apply z_f_Mo_sum_r10_0
set_option maxHeartbeats 1000000 in
set_option maxRecDepth 100000 in
theorem c_Mo_sum (l : Launch) (D : va_G) (cI : ClassId) (am : Nat → Nat) (σ : Sg) (x1 : Int32) : Met l y_Mo_sum (Cond.code y_Mo_sum b_Mo_sum 3 (some .int) :: al) { frames := 1, cells := 0, slots := 0, locals := 21 } (Px D cI (wM cI am) (AM am) σ [.ref (am 0), .int x1]) (va_Qi (fun r u => (r, u) = f_Mo_sum σ x1) (Bx D cI (wM cI am) (AM am)) (AM am)) 0 0 (AM am) := by
  refine Mx l (by decide) (Nat.le_of_ble_eq_true rfl) ?_
  intro p e s m below meth c ls F w hr hlk hl
  have F : CallFix p m c b_Mo_sum 3 s _ al "PictureMachineModel" := F
  have hl : lv_has ls 3 [(0, .ref (am 0)), (1, .int x1)] := hl
  have hcs : (0 : Nat) ≤ 0 ∧ (0 : Nat) ≤ 0 := ⟨Nat.le_refl _, Nat.le_refl _⟩
  refine lv_aload_n (pc := 0) F.1 F.2.1 d_Mo_sum_0 rfl (lv_at hl 0 rfl) ?_
  refine gM0_6 (pc := 1) F w (F.2.2.2.2 _ m_781) d_Mo_sum_1 ?_
  refine lv_iload_n (pc := 4) F.1 F.2.1 d_Mo_sum_4 rfl (lv_at hl 1 rfl) ?_
  refine lv_iadd (pc := 5) F.1 F.2.1 d_Mo_sum_5 ?_
  refine lv_aload_n (pc := 6) F.1 F.2.1 d_Mo_sum_6 rfl (lv_at hl 0 rfl) ?_
  refine gM0_13 (pc := 7) F w (F.2.2.2.2 _ m_788) d_Mo_sum_7 ?_
  refine cutW (α := Int32) (fun x H locs ls => x = f_Mo_sum_r10 σ ∧ Wx D cI (wM cI am) (AM am) (AM am) s s.heap H locs σ ∧ lv_has ls 3 [(0, .ref (am 0)), (1, .int x1)]) (fun x ls => F0 m 18 ls [.int x, .int ((σ 0 6) + x1)]) ?_ (fun k10 => ?_)
  · rintro v1 H locs ls ⟨ex, w, hl⟩
    have e_v1 := ex
    have w : Wx D cI (wM cI am) (AM am) (AM am) s s.heap H locs σ := w
    have hl : lv_has ls 3 [(0, .ref (am 0)), (1, .int x1)] := hl
    show W _ _ _ _ _ _ _ _ _ _ _ _ _ _ _ (F0 m 18 ls [.int v1, .int ((σ 0 6) + x1)])
    refine lv_iadd (pc := 18) F.1 F.2.1 d_Mo_sum_18 ?_
    refine lv_istore_n (pc := 19) F.1 F.2.1 d_Mo_sum_19 rfl hl (by decide) rfl (fun ls hl => ?_)
    have hl : lv_has ls 3 [(2, .int (((σ 0 6) + x1) + v1)), (0, .ref (am 0)), (1, .int x1)] := hl
    refine lv_aload_n (pc := 20) F.1 F.2.1 d_Mo_sum_20 rfl (lv_at hl 1 rfl) ?_
    refine lv_iload_n (pc := 21) F.1 F.2.1 d_Mo_sum_21 rfl (lv_at hl 0 rfl) ?_
    refine lv_sipush (pc := 22) (v := 255) F.1 F.2.1 d_Mo_sum_22 (by decide) ?_
    refine cutW (α := Int32) (fun x H locs ls => x = f_Mo_sum_r25 σ x1 v1 ∧ Wx D cI (wM cI am) (AM am) (AM am) s s.heap H locs σ ∧ lv_has ls 3 [(0, .ref (am 0)), (1, .int x1), (2, .int (((σ 0 6) + x1) + v1))]) (fun x ls => F0 m 33 ls [.int x, .ref (am 0)]) ?_ (fun k25 => ?_)
    · rintro v2 H locs ls ⟨ex, w, hl⟩
      have e_v2 := ex
      have w : Wx D cI (wM cI am) (AM am) (AM am) s s.heap H locs σ := w
      have hl : lv_has ls 3 [(0, .ref (am 0)), (1, .int x1), (2, .int (((σ 0 6) + x1) + v1))] := hl
      show W _ _ _ _ _ _ _ _ _ _ _ _ _ _ _ (F0 m 33 ls [.int v2, .ref (am 0)])
      refine pM0_13 (pc := 33) F w (e_v2 ▸ z_f_Mo_sum_r25_0 σ x1 v1) (F.2.2.2.2 _ m_788) d_Mo_sum_33 (fun H locs s3 e_s3 w => ?_)
      refine lv_aload_n (pc := 36) F.1 F.2.1 d_Mo_sum_36 rfl (lv_at hl 0 rfl) ?_
      refine lv_iload_n (pc := 37) F.1 F.2.1 d_Mo_sum_37 rfl (lv_at hl 2 rfl) ?_
      refine Cvi (pc := 38) (As := [.int (((σ 0 6) + x1) + v1)]) (rest := []) F w (c_Mo_set l D cI am s3 (((σ 0 6) + x1) + v1)) 0 rfl rfl k_Mo_set m_1061 (Nat.le_of_ble_eq_true rfl) (Nat.le_of_ble_eq_true rfl) ⟨rfl, rfl⟩ rfl hl.1 rfl (Nat.le_of_ble_eq_true rfl) d_Mo_sum_38 hcs (fun r4 s5 H locs e_r4 e_s5 w => ?_)
      exact Ri (pc := 41) F hr hlk w (by rw [e_s5, e_r4, e_s3, e_v2, e_v1]; exact Eq.symm (rfl)) d_Mo_sum_41
    · refine lv_icmp_le (pc := 25) F.1 F.2.1 d_Mo_sum_25 (tgt := 32) (by decide) (fun h25 => ?_) (fun h25 => ?_)
      · refine lv_iconst (pc := 32) (v := 0) F.1 F.2.1 d_Mo_sum_32 (by decide) ?_
        exact k25 0 _ _ _ ⟨(by exact Eq.symm (Eq.trans (if_pos h25) (rfl))), w, lv_sub hl [1, 2, 0] rfl⟩
      · refine lv_iconst (pc := 28) (v := 1) F.1 F.2.1 d_Mo_sum_28 (by decide) ?_
        refine lv_goto (pc := 29) F.1 F.2.1 d_Mo_sum_29 (tgt := 33) (by decide) ?_
        exact k25 1 _ _ _ ⟨(by exact Eq.symm (Eq.trans (if_neg h25) (rfl))), w, lv_sub hl [1, 2, 0] rfl⟩
  · refine lv_if_eq (pc := 10) F.1 F.2.1 d_Mo_sum_10 (tgt := 17) (by decide) (fun h10 => ?_) (fun h10 => ?_)
    · refine lv_iconst (pc := 17) (v := 0) F.1 F.2.1 d_Mo_sum_17 (by decide) ?_
      exact k10 0 _ _ _ ⟨(by exact Eq.symm (Eq.trans (if_pos h10) (rfl))), w, lv_sub hl [0, 1] rfl⟩
    · refine lv_iconst (pc := 13) (v := 1) F.1 F.2.1 d_Mo_sum_13 (by decide) ?_
      refine lv_goto (pc := 14) F.1 F.2.1 d_Mo_sum_14 (tgt := 18) (by decide) ?_
      exact k10 1 _ _ _ ⟨(by exact Eq.symm (Eq.trans (if_neg h10) (rfl))), w, lv_sub hl [0, 1] rfl⟩
def f_Mo_compare_r11 (x1 : Int32) (x2 : Int32) : Int32 := if x1 < x2 then (0) else (1)
def f_Mo_compare (σ : Sg) (x1 : Int32) (x2 : Int32) : Sg := let r1 := (f_Mo_set σ (x1 - x2)).1; let s2 := (f_Mo_set σ (x1 - x2)).2; let v3 := (f_Mo_compare_r11 x1 x2); let s4 := sf s2 0 13 v3; s4
theorem z_f_Mo_compare_r11_0 (x1 : Int32) (x2 : Int32) : (f_Mo_compare_r11 x1 x2) = 0 ∨ (f_Mo_compare_r11 x1 x2) = 1 := by unfold f_Mo_compare_r11; (try dsimp only); (repeat' split) <;> first | exact Or.inl rfl | exact Or.inr rfl
set_option maxHeartbeats 1000000 in
set_option maxRecDepth 100000 in
theorem c_Mo_compare (l : Launch) (D : va_G) (cI : ClassId) (am : Nat → Nat) (σ : Sg) (x1 : Int32) (x2 : Int32) : Met l y_Mo_compare (Cond.code y_Mo_compare b_Mo_compare 3 none :: al) { frames := 1, cells := 0, slots := 0, locals := 21 } (Px D cI (wM cI am) (AM am) σ [.ref (am 0), .int x1, .int x2]) (va_Qv (fun u => u = f_Mo_compare σ x1 x2) (Bx D cI (wM cI am) (AM am)) (AM am)) 0 0 (AM am) := by
  refine Mx l (by decide) (Nat.le_of_ble_eq_true rfl) ?_
  intro p e s m below meth c ls F w hr hlk hl
  have F : CallFix p m c b_Mo_compare 3 s _ al "PictureMachineModel" := F
  have hl : lv_has ls 3 [(0, .ref (am 0)), (1, .int x1), (2, .int x2)] := hl
  have hcs : (0 : Nat) ≤ 0 ∧ (0 : Nat) ≤ 0 := ⟨Nat.le_refl _, Nat.le_refl _⟩
  refine lv_aload_n (pc := 0) F.1 F.2.1 d_Mo_compare_0 rfl (lv_at hl 0 rfl) ?_
  refine lv_iload_n (pc := 1) F.1 F.2.1 d_Mo_compare_1 rfl (lv_at hl 1 rfl) ?_
  refine lv_iload_n (pc := 2) F.1 F.2.1 d_Mo_compare_2 rfl (lv_at hl 2 rfl) ?_
  refine lv_isub (pc := 3) F.1 F.2.1 d_Mo_compare_3 ?_
  refine Cvi (pc := 4) (As := [.int (x1 - x2)]) (rest := []) F w (c_Mo_set l D cI am σ (x1 - x2)) 0 rfl rfl k_Mo_set m_1061 (Nat.le_of_ble_eq_true rfl) (Nat.le_of_ble_eq_true rfl) ⟨rfl, rfl⟩ rfl hl.1 rfl (Nat.le_of_ble_eq_true rfl) d_Mo_compare_4 hcs (fun r1 s2 H locs e_r1 e_s2 w => ?_)
  refine lv_pop (pc := 7) F.1 F.2.1 d_Mo_compare_7 rfl ?_
  refine lv_aload_n (pc := 8) F.1 F.2.1 d_Mo_compare_8 rfl (lv_at hl 0 rfl) ?_
  refine lv_iload_n (pc := 9) F.1 F.2.1 d_Mo_compare_9 rfl (lv_at hl 2 rfl) ?_
  refine lv_iload_n (pc := 10) F.1 F.2.1 d_Mo_compare_10 rfl (lv_at hl 1 rfl) ?_
  refine cutW (α := Int32) (fun x H locs ls => x = f_Mo_compare_r11 x1 x2 ∧ Wx D cI (wM cI am) (AM am) (AM am) s s.heap H locs s2 ∧ lv_has ls 3 [(0, .ref (am 0)), (1, .int x1), (2, .int x2)]) (fun x ls => F0 m 19 ls [.int x, .ref (am 0)]) ?_ (fun k11 => ?_)
  · rintro v3 H locs ls ⟨ex, w, hl⟩
    have e_v3 := ex
    have w : Wx D cI (wM cI am) (AM am) (AM am) s s.heap H locs s2 := w
    have hl : lv_has ls 3 [(0, .ref (am 0)), (1, .int x1), (2, .int x2)] := hl
    show W _ _ _ _ _ _ _ _ _ _ _ _ _ _ _ (F0 m 19 ls [.int v3, .ref (am 0)])
    refine pM0_13 (pc := 19) F w (e_v3 ▸ z_f_Mo_compare_r11_0 x1 x2) (F.2.2.2.2 _ m_788) d_Mo_compare_19 (fun H locs s4 e_s4 w => ?_)
    exact Rv (pc := 22) F hr hlk w (by rw [e_s4, e_v3, e_s2]; exact Eq.symm (rfl)) d_Mo_compare_22
  · refine lv_icmp_gt (pc := 11) F.1 F.2.1 d_Mo_compare_11 (tgt := 18) (by decide) (fun h11 => ?_) (fun h11 => ?_)
    · refine lv_iconst (pc := 18) (v := 0) F.1 F.2.1 d_Mo_compare_18 (by decide) ?_
      exact k11 0 _ _ _ ⟨(by exact Eq.symm (Eq.trans (if_pos h11) (rfl))), w, lv_sub hl [0, 1, 2] rfl⟩
    · refine lv_iconst (pc := 14) (v := 1) F.1 F.2.1 d_Mo_compare_14 (by decide) ?_
      refine lv_goto (pc := 15) F.1 F.2.1 d_Mo_compare_15 (tgt := 19) (by decide) ?_
      exact k11 1 _ _ _ ⟨(by exact Eq.symm (Eq.trans (if_neg h11) (rfl))), w, lv_sub hl [0, 1, 2] rfl⟩
def f_Mo_interrupt (σ : Sg) : Sg := let s1 := f_Mo_push σ ((σ 0 10) >>> ((8 : Int32) &&& 31)); let s2 := f_Mo_push s1 ((s1 0 10) &&& 255); let r3 := f_Mo_flags s2; let s4 := f_Mo_push s2 r3; let s5 := sf s4 0 10 (((256 * (s4 1 (761 : Int32).toNatClampNeg)) + (s4 1 (760 : Int32).toNatClampNeg)) &&& 1023); let s6 := sf s5 0 16 0; let s7 := sf s6 0 17 0; s7
set_option maxHeartbeats 1000000 in
set_option maxRecDepth 100000 in
theorem c_Mo_interrupt (l : Launch) (D : va_G) (cI : ClassId) (am : Nat → Nat) (σ : Sg) (hI : JM σ) : Met l y_Mo_interrupt (Cond.code y_Mo_interrupt b_Mo_interrupt 1 none :: al) { frames := 1, cells := 0, slots := 0, locals := 21 } (Px D cI (wM cI am) (AM am) σ [.ref (am 0)]) (va_Qv (fun u => u = f_Mo_interrupt σ ) (Bx D cI (wM cI am) (AM am)) (AM am)) 0 0 (AM am) := by
  refine Mx l (by decide) (Nat.le_of_ble_eq_true rfl) ?_
  intro p e s m below meth c ls F w hr hlk hl
  have F : CallFix p m c b_Mo_interrupt 1 s _ al "PictureMachineModel" := F
  have hl : lv_has ls 1 [(0, .ref (am 0))] := hl
  have hcs : (0 : Nat) ≤ 0 ∧ (0 : Nat) ≤ 0 := ⟨Nat.le_refl _, Nat.le_refl _⟩
  refine lv_aload_n (pc := 0) F.1 F.2.1 d_Mo_interrupt_0 rfl (lv_at hl 0 rfl) ?_
  refine lv_aload_n (pc := 1) F.1 F.2.1 d_Mo_interrupt_1 rfl (lv_at hl 0 rfl) ?_
  refine gM0_10 (pc := 2) F w (F.2.2.2.2 _ m_785) d_Mo_interrupt_2 ?_
  refine lv_bipush (pc := 5) (v := 8) F.1 F.2.1 d_Mo_interrupt_5 (by decide) ?_
  refine lv_ishr (pc := 7) F.1 F.2.1 d_Mo_interrupt_7 ?_
  refine Cvv (pc := 8) (As := [.int ((σ 0 10) >>> ((8 : Int32) &&& 31))]) (rest := []) F w (c_Mo_push l D cI am σ ((σ 0 10) >>> ((8 : Int32) &&& 31)) hI) 0 rfl rfl k_Mo_push m_1006 (Nat.le_of_ble_eq_true rfl) (Nat.le_of_ble_eq_true rfl) ⟨rfl, rfl⟩ rfl hl.1 rfl (Nat.le_of_ble_eq_true rfl) d_Mo_interrupt_8 hcs (fun s1 H locs e_s1 w => ?_)
  have iJM_s1 : JM s1 := by rw [e_s1]; exact iJM_Mo_push hI ((σ 0 10) >>> ((8 : Int32) &&& 31))
  refine lv_aload_n (pc := 11) F.1 F.2.1 d_Mo_interrupt_11 rfl (lv_at hl 0 rfl) ?_
  refine lv_aload_n (pc := 12) F.1 F.2.1 d_Mo_interrupt_12 rfl (lv_at hl 0 rfl) ?_
  refine gM0_10 (pc := 13) F w (F.2.2.2.2 _ m_785) d_Mo_interrupt_13 ?_
  refine lv_sipush (pc := 16) (v := 255) F.1 F.2.1 d_Mo_interrupt_16 (by decide) ?_
  refine lv_iand (pc := 19) F.1 F.2.1 d_Mo_interrupt_19 ?_
  refine Cvv (pc := 20) (As := [.int ((s1 0 10) &&& 255)]) (rest := []) F w (c_Mo_push l D cI am s1 ((s1 0 10) &&& 255) iJM_s1) 0 rfl rfl k_Mo_push m_1006 (Nat.le_of_ble_eq_true rfl) (Nat.le_of_ble_eq_true rfl) ⟨rfl, rfl⟩ rfl hl.1 rfl (Nat.le_of_ble_eq_true rfl) d_Mo_interrupt_20 hcs (fun s2 H locs e_s2 w => ?_)
  have iJM_s2 : JM s2 := by rw [e_s2]; exact iJM_Mo_push iJM_s1 ((s1 0 10) &&& 255)
  refine lv_aload_n (pc := 23) F.1 F.2.1 d_Mo_interrupt_23 rfl (lv_at hl 0 rfl) ?_
  refine lv_aload_n (pc := 24) F.1 F.2.1 d_Mo_interrupt_24 rfl (lv_at hl 0 rfl) ?_
  refine Kvi (pc := 25) (As := []) (rest := [.ref (am 0)]) F w (c_Mo_flags l D cI am s2) 0 rfl rfl k_Mo_flags m_1010 (Nat.le_of_ble_eq_true rfl) (Nat.le_of_ble_eq_true rfl) ⟨rfl, rfl⟩ rfl hl.1 rfl (Nat.le_of_ble_eq_true rfl) d_Mo_interrupt_25 hcs (fun r3 H locs e_r3 w => ?_)
  refine Cvv (pc := 28) (As := [.int r3]) (rest := []) F w (c_Mo_push l D cI am s2 r3 iJM_s2) 0 rfl rfl k_Mo_push m_1006 (Nat.le_of_ble_eq_true rfl) (Nat.le_of_ble_eq_true rfl) ⟨rfl, rfl⟩ rfl hl.1 rfl (Nat.le_of_ble_eq_true rfl) d_Mo_interrupt_28 hcs (fun s4 H locs e_s4 w => ?_)
  have iJM_s4 : JM s4 := by rw [e_s4]; exact iJM_Mo_push iJM_s2 r3
  refine lv_aload_n (pc := 31) F.1 F.2.1 d_Mo_interrupt_31 rfl (lv_at hl 0 rfl) ?_
  refine lv_sipush (pc := 32) (v := 256) F.1 F.2.1 d_Mo_interrupt_32 (by decide) ?_
  refine lv_aload_n (pc := 35) F.1 F.2.1 d_Mo_interrupt_35 rfl (lv_at hl 0 rfl) ?_
  refine gM0_1 (pc := 36) F w (F.2.2.2.2 _ m_776) d_Mo_interrupt_36 ?_
  refine lv_sipush (pc := 39) (v := 761) F.1 F.2.1 d_Mo_interrupt_39 (by decide) ?_
  refine lM1 (pc := 42) F w (by unfold vp_in; decide) d_Mo_interrupt_42 ?_
  refine lv_imul (pc := 43) F.1 F.2.1 d_Mo_interrupt_43 ?_
  refine lv_aload_n (pc := 44) F.1 F.2.1 d_Mo_interrupt_44 rfl (lv_at hl 0 rfl) ?_
  refine gM0_1 (pc := 45) F w (F.2.2.2.2 _ m_776) d_Mo_interrupt_45 ?_
  refine lv_sipush (pc := 48) (v := 760) F.1 F.2.1 d_Mo_interrupt_48 (by decide) ?_
  refine lM1 (pc := 51) F w (by unfold vp_in; decide) d_Mo_interrupt_51 ?_
  refine lv_iadd (pc := 52) F.1 F.2.1 d_Mo_interrupt_52 ?_
  refine lv_sipush (pc := 53) (v := 1023) F.1 F.2.1 d_Mo_interrupt_53 (by decide) ?_
  refine lv_iand (pc := 56) F.1 F.2.1 d_Mo_interrupt_56 ?_
  refine pM0_10 (pc := 57) F w (F.2.2.2.2 _ m_785) d_Mo_interrupt_57 (fun H locs s5 e_s5 w => ?_)
  have iJM_s5 : JM s5 := by rw [e_s5]; exact iJM_s4
  refine lv_aload_n (pc := 60) F.1 F.2.1 d_Mo_interrupt_60 rfl (lv_at hl 0 rfl) ?_
  refine lv_iconst (pc := 61) (v := 0) F.1 F.2.1 d_Mo_interrupt_61 (by decide) ?_
  refine pM0_16 (pc := 62) F w (Or.inl rfl) (F.2.2.2.2 _ m_791) d_Mo_interrupt_62 (fun H locs s6 e_s6 w => ?_)
  have iJM_s6 : JM s6 := by rw [e_s6]; exact JM.req iJM_s5 (Or.inl rfl)
  refine lv_aload_n (pc := 65) F.1 F.2.1 d_Mo_interrupt_65 rfl (lv_at hl 0 rfl) ?_
  refine lv_iconst (pc := 66) (v := 0) F.1 F.2.1 d_Mo_interrupt_66 (by decide) ?_
  refine pM0_17 (pc := 67) F w (Or.inl rfl) (F.2.2.2.2 _ m_792) d_Mo_interrupt_67 (fun H locs s7 e_s7 w => ?_)
  have iJM_s7 : JM s7 := by rw [e_s7]; exact iJM_s6
  exact Rv (pc := 70) F hr hlk w (by rw [e_s7, e_s6, e_s5, e_s4, e_r3, e_s2, e_s1]; exact Eq.symm (rfl)) d_Mo_interrupt_70
def f_Mo_isTaken_r78 (σ : Sg) : Int32 := if (σ 0 13) = 0 then (1) else (0)
def f_Mo_isTaken_r60 (σ : Sg) : Int32 := if (σ 0 12) = 0 then (1) else (0)
def f_Mo_isTaken_r101 (σ : Sg) : Int32 := if (σ 0 11) = 0 then (1) else (0)
def f_Mo_isTaken (σ : Sg) : Int32 := if (σ 0 19) = 48 then ((σ 0 11)) else if (σ 0 19) = 144 then (let v1 := (f_Mo_isTaken_r78 σ); v1) else if (σ 0 19) = 176 then ((σ 0 13)) else if (σ 0 19) = 208 then (let v2 := (f_Mo_isTaken_r60 σ); v2) else if (σ 0 19) = 240 then ((σ 0 12)) else (let v3 := (f_Mo_isTaken_r101 σ); v3)
theorem z_f_Mo_isTaken_r78_0 (σ : Sg) : (f_Mo_isTaken_r78 σ) = 0 ∨ (f_Mo_isTaken_r78 σ) = 1 := by unfold f_Mo_isTaken_r78; (try dsimp only); (repeat' split) <;> first | exact Or.inl rfl | exact Or.inr rfl
theorem z_f_Mo_isTaken_r60_0 (σ : Sg) : (f_Mo_isTaken_r60 σ) = 0 ∨ (f_Mo_isTaken_r60 σ) = 1 := by unfold f_Mo_isTaken_r60; (try dsimp only); (repeat' split) <;> first | exact Or.inl rfl | exact Or.inr rfl | apply z_f_Mo_isTaken_r78_0
theorem z_f_Mo_isTaken_r101_0 (σ : Sg) : (f_Mo_isTaken_r101 σ) = 0 ∨ (f_Mo_isTaken_r101 σ) = 1 := by unfold f_Mo_isTaken_r101; (try dsimp only); (repeat' split) <;> first | exact Or.inl rfl | exact Or.inr rfl | apply z_f_Mo_isTaken_r60_0 | apply z_f_Mo_isTaken_r78_0
set_option maxHeartbeats 1000000 in
set_option maxRecDepth 100000 in
theorem c_Mo_isTaken (l : Launch) (D : va_G) (cI : ClassId) (am : Nat → Nat) (σ : Sg) (hI : JM σ) : Met l y_Mo_isTaken (Cond.code y_Mo_isTaken b_Mo_isTaken 1 (some .boolean) :: al) { frames := 0, cells := 0, slots := 0, locals := 0 } (Px D cI (wM cI am) (AM am) σ [.ref (am 0)]) (va_Qi (fun r u => r = f_Mo_isTaken σ  ∧ u = σ) (Bx D cI (wM cI am) (AM am)) (AM am)) 0 0 (AM am) := by
  refine Mx l (by decide) (Nat.le_of_ble_eq_true rfl) ?_
  intro p e s m below meth c ls F w hr hlk hl
  have F : CallFix p m c b_Mo_isTaken 1 s _ al "PictureMachineModel" := F
  have hl : lv_has ls 1 [(0, .ref (am 0))] := hl
  refine lv_aload_n (pc := 0) F.1 F.2.1 d_Mo_isTaken_0 rfl (lv_at hl 0 rfl) ?_
  refine gM0_19 (pc := 1) F w (F.2.2.2.2 _ m_794) d_Mo_isTaken_1 ?_
  by_cases h4_48 : (σ 0 19) = 48
  · refine lv_lookup (pc := 4) F.1 F.2.1 d_Mo_isTaken_4 (by decide) (off := 88) (tgt := 92) (by rw [h4_48]; decide) (by decide) ?_
    refine lv_aload_n (pc := 92) F.1 F.2.1 d_Mo_isTaken_92 rfl (lv_at hl 0 rfl) ?_
    refine gM0_11 (pc := 93) F w (F.2.2.2.2 _ m_786) d_Mo_isTaken_93 ?_
    exact Kz (pc := 96) F hr hlk w hI.2.2.2.2.2.2.2.1 (by exact Eq.symm (Eq.trans (if_pos h4_48) (rfl))) d_Mo_isTaken_96
  by_cases h4_144 : (σ 0 19) = 144
  · refine lv_lookup (pc := 4) F.1 F.2.1 d_Mo_isTaken_4 (by decide) (off := 70) (tgt := 74) (by rw [h4_144]; decide) (by decide) ?_
    refine lv_aload_n (pc := 74) F.1 F.2.1 d_Mo_isTaken_74 rfl (lv_at hl 0 rfl) ?_
    refine gM0_13 (pc := 75) F w (F.2.2.2.2 _ m_788) d_Mo_isTaken_75 ?_
    refine cutW (α := Int32) (fun x H locs ls => x = f_Mo_isTaken_r78 σ ∧ Wx D cI (wM cI am) (AM am) (AM am) s s.heap H locs σ ∧ lv_has ls 1 [(0, .ref (am 0))]) (fun x ls => F0 m 86 ls [.int x]) ?_ (fun k78 => ?_)
    · rintro v1 H locs ls ⟨ex, w, hl⟩
      have e_v1 := ex
      have w : Wx D cI (wM cI am) (AM am) (AM am) s s.heap H locs σ := w
      have hl : lv_has ls 1 [(0, .ref (am 0))] := hl
      show W _ _ _ _ _ _ _ _ _ _ _ _ _ _ _ (F0 m 86 ls [.int v1])
      exact Kz (pc := 86) F hr hlk w (e_v1 ▸ z_f_Mo_isTaken_r78_0 σ) (by rw [e_v1]; exact Eq.symm (Eq.trans (if_neg h4_48) (Eq.trans (if_pos h4_144) (rfl)))) d_Mo_isTaken_86
    · refine lv_if_ne (pc := 78) F.1 F.2.1 d_Mo_isTaken_78 (tgt := 85) (by decide) (fun h78 => ?_) (fun h78 => ?_)
      · refine lv_iconst (pc := 85) (v := 0) F.1 F.2.1 d_Mo_isTaken_85 (by decide) ?_
        exact k78 0 _ _ _ ⟨(by exact Eq.symm (Eq.trans (if_neg h78) (rfl))), w, lv_sub hl [0] rfl⟩
      · refine lv_iconst (pc := 81) (v := 1) F.1 F.2.1 d_Mo_isTaken_81 (by decide) ?_
        refine lv_goto (pc := 82) F.1 F.2.1 d_Mo_isTaken_82 (tgt := 86) (by decide) ?_
        exact k78 1 _ _ _ ⟨(by exact Eq.symm (Eq.trans (if_pos h78) (rfl))), w, lv_sub hl [0] rfl⟩
  by_cases h4_176 : (σ 0 19) = 176
  · refine lv_lookup (pc := 4) F.1 F.2.1 d_Mo_isTaken_4 (by decide) (off := 83) (tgt := 87) (by rw [h4_176]; decide) (by decide) ?_
    refine lv_aload_n (pc := 87) F.1 F.2.1 d_Mo_isTaken_87 rfl (lv_at hl 0 rfl) ?_
    refine gM0_13 (pc := 88) F w (F.2.2.2.2 _ m_788) d_Mo_isTaken_88 ?_
    exact Kz (pc := 91) F hr hlk w hI.2.2.2.2.2.2.2.2.2.1 (by exact Eq.symm (Eq.trans (if_neg h4_48) (Eq.trans (if_neg h4_144) (Eq.trans (if_pos h4_176) (rfl))))) d_Mo_isTaken_91
  by_cases h4_208 : (σ 0 19) = 208
  · refine lv_lookup (pc := 4) F.1 F.2.1 d_Mo_isTaken_4 (by decide) (off := 52) (tgt := 56) (by rw [h4_208]; decide) (by decide) ?_
    refine lv_aload_n (pc := 56) F.1 F.2.1 d_Mo_isTaken_56 rfl (lv_at hl 0 rfl) ?_
    refine gM0_12 (pc := 57) F w (F.2.2.2.2 _ m_787) d_Mo_isTaken_57 ?_
    refine cutW (α := Int32) (fun x H locs ls => x = f_Mo_isTaken_r60 σ ∧ Wx D cI (wM cI am) (AM am) (AM am) s s.heap H locs σ ∧ lv_has ls 1 [(0, .ref (am 0))]) (fun x ls => F0 m 68 ls [.int x]) ?_ (fun k60 => ?_)
    · rintro v2 H locs ls ⟨ex, w, hl⟩
      have e_v2 := ex
      have w : Wx D cI (wM cI am) (AM am) (AM am) s s.heap H locs σ := w
      have hl : lv_has ls 1 [(0, .ref (am 0))] := hl
      show W _ _ _ _ _ _ _ _ _ _ _ _ _ _ _ (F0 m 68 ls [.int v2])
      exact Kz (pc := 68) F hr hlk w (e_v2 ▸ z_f_Mo_isTaken_r60_0 σ) (by rw [e_v2]; exact Eq.symm (Eq.trans (if_neg h4_48) (Eq.trans (if_neg h4_144) (Eq.trans (if_neg h4_176) (Eq.trans (if_pos h4_208) (rfl)))))) d_Mo_isTaken_68
    · refine lv_if_ne (pc := 60) F.1 F.2.1 d_Mo_isTaken_60 (tgt := 67) (by decide) (fun h60 => ?_) (fun h60 => ?_)
      · refine lv_iconst (pc := 67) (v := 0) F.1 F.2.1 d_Mo_isTaken_67 (by decide) ?_
        exact k60 0 _ _ _ ⟨(by exact Eq.symm (Eq.trans (if_neg h60) (rfl))), w, lv_sub hl [0] rfl⟩
      · refine lv_iconst (pc := 63) (v := 1) F.1 F.2.1 d_Mo_isTaken_63 (by decide) ?_
        refine lv_goto (pc := 64) F.1 F.2.1 d_Mo_isTaken_64 (tgt := 68) (by decide) ?_
        exact k60 1 _ _ _ ⟨(by exact Eq.symm (Eq.trans (if_pos h60) (rfl))), w, lv_sub hl [0] rfl⟩
  by_cases h4_240 : (σ 0 19) = 240
  · refine lv_lookup (pc := 4) F.1 F.2.1 d_Mo_isTaken_4 (by decide) (off := 65) (tgt := 69) (by rw [h4_240]; decide) (by decide) ?_
    refine lv_aload_n (pc := 69) F.1 F.2.1 d_Mo_isTaken_69 rfl (lv_at hl 0 rfl) ?_
    refine gM0_12 (pc := 70) F w (F.2.2.2.2 _ m_787) d_Mo_isTaken_70 ?_
    exact Kz (pc := 73) F hr hlk w hI.2.2.2.2.2.2.2.2.1 (by exact Eq.symm (Eq.trans (if_neg h4_48) (Eq.trans (if_neg h4_144) (Eq.trans (if_neg h4_176) (Eq.trans (if_neg h4_208) (Eq.trans (if_pos h4_240) (rfl))))))) d_Mo_isTaken_73
  refine lv_lookup (pc := 4) F.1 F.2.1 d_Mo_isTaken_4 (by decide) (off := 93) (tgt := 97) ((lv_osw h4_48 rfl).trans ((lv_osw h4_144 rfl).trans ((lv_osw h4_176 rfl).trans ((lv_osw h4_208 rfl).trans ((lv_osw h4_240 rfl).trans (rfl)))))) (by decide) ?_
  refine lv_aload_n (pc := 97) F.1 F.2.1 d_Mo_isTaken_97 rfl (lv_at hl 0 rfl) ?_
  refine gM0_11 (pc := 98) F w (F.2.2.2.2 _ m_786) d_Mo_isTaken_98 ?_
  refine cutW (α := Int32) (fun x H locs ls => x = f_Mo_isTaken_r101 σ ∧ Wx D cI (wM cI am) (AM am) (AM am) s s.heap H locs σ ∧ lv_has ls 1 [(0, .ref (am 0))]) (fun x ls => F0 m 109 ls [.int x]) ?_ (fun k101 => ?_)
  · rintro v3 H locs ls ⟨ex, w, hl⟩
    have e_v3 := ex
    have w : Wx D cI (wM cI am) (AM am) (AM am) s s.heap H locs σ := w
    have hl : lv_has ls 1 [(0, .ref (am 0))] := hl
    show W _ _ _ _ _ _ _ _ _ _ _ _ _ _ _ (F0 m 109 ls [.int v3])
    exact Kz (pc := 109) F hr hlk w (e_v3 ▸ z_f_Mo_isTaken_r101_0 σ) (by rw [e_v3]; exact Eq.symm (Eq.trans (if_neg h4_48) (Eq.trans (if_neg h4_144) (Eq.trans (if_neg h4_176) (Eq.trans (if_neg h4_208) (Eq.trans (if_neg h4_240) (rfl))))))) d_Mo_isTaken_109
  · refine lv_if_ne (pc := 101) F.1 F.2.1 d_Mo_isTaken_101 (tgt := 108) (by decide) (fun h101 => ?_) (fun h101 => ?_)
    · refine lv_iconst (pc := 108) (v := 0) F.1 F.2.1 d_Mo_isTaken_108 (by decide) ?_
      exact k101 0 _ _ _ ⟨(by exact Eq.symm (Eq.trans (if_neg h101) (rfl))), w, lv_sub hl [0] rfl⟩
    · refine lv_iconst (pc := 104) (v := 1) F.1 F.2.1 d_Mo_isTaken_104 (by decide) ?_
      refine lv_goto (pc := 105) F.1 F.2.1 d_Mo_isTaken_105 (tgt := 109) (by decide) ?_
      exact k101 1 _ _ _ ⟨(by exact Eq.symm (Eq.trans (if_pos h101) (rfl))), w, lv_sub hl [0] rfl⟩
def f_Mo_comeBack (σ : Sg) (x1 : Int32) : Sg := let r1 := (f_Mo_pull σ).1; let s2 := (f_Mo_pull σ).2; let r3 := (f_Mo_pull s2).1; let s4 := (f_Mo_pull s2).2; let s5 := sf s4 0 10 (((r1 + (256 * r3)) + x1) &&& 1023); s5
set_option maxHeartbeats 1000000 in
set_option maxRecDepth 100000 in
theorem c_Mo_comeBack (l : Launch) (D : va_G) (cI : ClassId) (am : Nat → Nat) (σ : Sg) (x1 : Int32) (hI : JM σ) : Met l y_Mo_comeBack (Cond.code y_Mo_comeBack b_Mo_comeBack 3 none :: al) { frames := 1, cells := 0, slots := 0, locals := 20 } (Px D cI (wM cI am) (AM am) σ [.ref (am 0), .int x1]) (va_Qv (fun u => u = f_Mo_comeBack σ x1) (Bx D cI (wM cI am) (AM am)) (AM am)) 0 0 (AM am) := by
  refine Mx l (by decide) (Nat.le_of_ble_eq_true rfl) ?_
  intro p e s m below meth c ls F w hr hlk hl
  have F : CallFix p m c b_Mo_comeBack 3 s _ al "PictureMachineModel" := F
  have hl : lv_has ls 3 [(0, .ref (am 0)), (1, .int x1)] := hl
  have hcs : (0 : Nat) ≤ 0 ∧ (0 : Nat) ≤ 0 := ⟨Nat.le_refl _, Nat.le_refl _⟩
  refine lv_aload_n (pc := 0) F.1 F.2.1 d_Mo_comeBack_0 rfl (lv_at hl 0 rfl) ?_
  refine Cvi (pc := 1) (As := []) (rest := []) F w (c_Mo_pull l D cI am σ hI) 0 rfl rfl k_Mo_pull m_1026 (Nat.le_of_ble_eq_true rfl) (Nat.le_of_ble_eq_true rfl) ⟨rfl, rfl⟩ rfl hl.1 rfl (Nat.le_of_ble_eq_true rfl) d_Mo_comeBack_1 hcs (fun r1 s2 H locs e_r1 e_s2 w => ?_)
  have iJM_s2 : JM s2 := by rw [e_s2]; exact iJM_Mo_pull hI 
  refine lv_istore_n (pc := 4) F.1 F.2.1 d_Mo_comeBack_4 rfl hl (by decide) rfl (fun ls hl => ?_)
  have hl : lv_has ls 3 [(2, .int r1), (0, .ref (am 0)), (1, .int x1)] := hl
  refine lv_aload_n (pc := 5) F.1 F.2.1 d_Mo_comeBack_5 rfl (lv_at hl 1 rfl) ?_
  refine lv_iload_n (pc := 6) F.1 F.2.1 d_Mo_comeBack_6 rfl (lv_at hl 0 rfl) ?_
  refine lv_sipush (pc := 7) (v := 256) F.1 F.2.1 d_Mo_comeBack_7 (by decide) ?_
  refine lv_aload_n (pc := 10) F.1 F.2.1 d_Mo_comeBack_10 rfl (lv_at hl 1 rfl) ?_
  refine Cvi (pc := 11) (As := []) (rest := [.int 256, .int r1, .ref (am 0)]) F w (c_Mo_pull l D cI am s2 iJM_s2) 0 rfl rfl k_Mo_pull m_1026 (Nat.le_of_ble_eq_true rfl) (Nat.le_of_ble_eq_true rfl) ⟨rfl, rfl⟩ rfl hl.1 rfl (Nat.le_of_ble_eq_true rfl) d_Mo_comeBack_11 hcs (fun r3 s4 H locs e_r3 e_s4 w => ?_)
  have iJM_s4 : JM s4 := by rw [e_s4]; exact iJM_Mo_pull iJM_s2 
  refine lv_imul (pc := 14) F.1 F.2.1 d_Mo_comeBack_14 ?_
  refine lv_iadd (pc := 15) F.1 F.2.1 d_Mo_comeBack_15 ?_
  refine lv_iload_n (pc := 16) F.1 F.2.1 d_Mo_comeBack_16 rfl (lv_at hl 2 rfl) ?_
  refine lv_iadd (pc := 17) F.1 F.2.1 d_Mo_comeBack_17 ?_
  refine lv_sipush (pc := 18) (v := 1023) F.1 F.2.1 d_Mo_comeBack_18 (by decide) ?_
  refine lv_iand (pc := 21) F.1 F.2.1 d_Mo_comeBack_21 ?_
  refine pM0_10 (pc := 22) F w (F.2.2.2.2 _ m_785) d_Mo_comeBack_22 (fun H locs s5 e_s5 w => ?_)
  have iJM_s5 : JM s5 := by rw [e_s5]; exact iJM_s4
  exact Rv (pc := 25) F hr hlk w (by rw [e_s5, e_s4, e_r3, e_s2, e_r1]; exact Eq.symm (rfl)) d_Mo_comeBack_25
def f_Mo_go_r127 (r2 : Int32) : Int32 := if (r2 &&& 128) = 0 then (0) else (1)
def f_Mo_go_r143 (r2 : Int32) : Int32 := if (r2 &&& 2) = 0 then (0) else (1)
def f_Mo_go_r159 (r2 : Int32) : Int32 := if (r2 &&& 1) = 0 then (0) else (1)
def f_Mo_go_r21 (x3 : Int32) : Int32 := if x3 ≤ 127 then (x3) else ((x3 - 256))
def f_Mo_go_r3 (σ : Sg) (x1 : Int32) (x2 : Int32) (x3 : Int32) : Sg := if x1 = 25 then (let r15 := f_Mo_isTaken σ; if r15 = 0 then (σ) else (let v16 := (f_Mo_go_r21 x3); let s17 := sf σ 0 10 (((σ 0 10) + v16) &&& 1023); s17)) else (if x1 = 26 then (let s14 := sf σ 0 10 (x3 &&& 1023); s14) else (if x1 = 27 then (let s11 := f_Mo_push σ (((x2 + 2) &&& 1023) >>> ((8 : Int32) &&& 31)); let s12 := f_Mo_push s11 (((x2 + 2) &&& 1023) &&& 255); let s13 := sf s12 0 10 (x3 &&& 1023); s13) else (if x1 = 29 then (let r2 := (f_Mo_pull σ).1; let s3 := (f_Mo_pull σ).2; let v4 := (f_Mo_go_r127 r2); let s5 := sf s3 0 11 v4; let v6 := (f_Mo_go_r143 r2); let s7 := sf s5 0 12 v6; let v8 := (f_Mo_go_r159 r2); let s9 := sf s7 0 13 v8; let s10 := f_Mo_comeBack s9 0; s10) else (if x1 = 28 then (let s1 := f_Mo_comeBack σ 1; s1) else (σ)))))
def f_Mo_go (σ : Sg) (x1 : Int32) (x2 : Int32) (x3 : Int32) : Sg := let s18 := (f_Mo_go_r3 σ x1 x2 x3); s18
theorem z_f_Mo_go_r127_0 (r2 : Int32) : (f_Mo_go_r127 r2) = 0 ∨ (f_Mo_go_r127 r2) = 1 := by unfold f_Mo_go_r127; (try dsimp only); (repeat' split) <;> first | exact Or.inl rfl | exact Or.inr rfl
theorem z_f_Mo_go_r143_0 (r2 : Int32) : (f_Mo_go_r143 r2) = 0 ∨ (f_Mo_go_r143 r2) = 1 := by unfold f_Mo_go_r143; (try dsimp only); (repeat' split) <;> first | exact Or.inl rfl | exact Or.inr rfl | apply z_f_Mo_go_r127_0
theorem z_f_Mo_go_r159_0 (r2 : Int32) : (f_Mo_go_r159 r2) = 0 ∨ (f_Mo_go_r159 r2) = 1 := by unfold f_Mo_go_r159; (try dsimp only); (repeat' split) <;> first | exact Or.inl rfl | exact Or.inr rfl | apply z_f_Mo_go_r143_0 | apply z_f_Mo_go_r127_0
set_option maxHeartbeats 1000000 in
set_option maxRecDepth 100000 in
theorem c_Mo_go (l : Launch) (D : va_G) (cI : ClassId) (am : Nat → Nat) (σ : Sg) (x1 : Int32) (x2 : Int32) (x3 : Int32) (hI : JM σ) : Met l y_Mo_go (Cond.code y_Mo_go b_Mo_go 5 none :: al) { frames := 2, cells := 0, slots := 0, locals := 42 } (Px D cI (wM cI am) (AM am) σ [.ref (am 0), .int x1, .int x2, .int x3]) (va_Qv (fun u => u = f_Mo_go σ x1 x2 x3) (Bx D cI (wM cI am) (AM am)) (AM am)) 0 0 (AM am) := by
  refine Mx l (by decide) (Nat.le_of_ble_eq_true rfl) ?_
  intro p e s m below meth c ls F w hr hlk hl
  have F : CallFix p m c b_Mo_go 5 s _ al "PictureMachineModel" := F
  have hl : lv_has ls 5 [(0, .ref (am 0)), (1, .int x1), (2, .int x2), (3, .int x3)] := hl
  have hcs : (0 : Nat) ≤ 0 ∧ (0 : Nat) ≤ 0 := ⟨Nat.le_refl _, Nat.le_refl _⟩
  refine lv_iload_n (pc := 0) F.1 F.2.1 d_Mo_go_0 rfl (lv_at hl 1 rfl) ?_
  refine lv_bipush (pc := 1) (v := 25) F.1 F.2.1 d_Mo_go_1 (by decide) ?_
  refine cutW (α := Sg) (fun x H locs ls => x = f_Mo_go_r3 σ x1 x2 x3 ∧ Wx D cI (wM cI am) (AM am) (AM am) s s.heap H locs x ∧ lv_has ls 5 [(0, .ref (am 0)), (1, .int x1), (2, .int x2), (3, .int x3)]) (fun x ls => F0 m 189 ls []) ?_ (fun k3 => ?_)
  · rintro s18 H locs ls ⟨ex, w, hl⟩
    have e_s18 := ex
    have w : Wx D cI (wM cI am) (AM am) (AM am) s s.heap H locs s18 := w
    have hl : lv_has ls 5 [(0, .ref (am 0)), (1, .int x1), (2, .int x2), (3, .int x3)] := hl
    show W _ _ _ _ _ _ _ _ _ _ _ _ _ _ _ (F0 m 189 ls [])
    exact Rv (pc := 189) F hr hlk w (by rw [e_s18]; exact Eq.symm (rfl)) d_Mo_go_189
  · refine lv_icmp_ne (pc := 3) F.1 F.2.1 d_Mo_go_3 (tgt := 44) (by decide) (fun h3 => ?_) (fun h3 => ?_)
    · refine lv_iload_n (pc := 44) F.1 F.2.1 d_Mo_go_44 rfl (lv_at hl 1 rfl) ?_
      refine lv_bipush (pc := 45) (v := 26) F.1 F.2.1 d_Mo_go_45 (by decide) ?_
      refine lv_icmp_ne (pc := 47) F.1 F.2.1 d_Mo_go_47 (tgt := 62) (by decide) (fun h47 => ?_) (fun h47 => ?_)
      · refine lv_iload_n (pc := 62) F.1 F.2.1 d_Mo_go_62 rfl (lv_at hl 1 rfl) ?_
        refine lv_bipush (pc := 63) (v := 27) F.1 F.2.1 d_Mo_go_63 (by decide) ?_
        refine lv_icmp_ne (pc := 65) F.1 F.2.1 d_Mo_go_65 (tgt := 108) (by decide) (fun h65 => ?_) (fun h65 => ?_)
        · refine lv_iload_n (pc := 108) F.1 F.2.1 d_Mo_go_108 rfl (lv_at hl 1 rfl) ?_
          refine lv_bipush (pc := 109) (v := 29) F.1 F.2.1 d_Mo_go_109 (by decide) ?_
          refine lv_icmp_ne (pc := 111) F.1 F.2.1 d_Mo_go_111 (tgt := 178) (by decide) (fun h111 => ?_) (fun h111 => ?_)
          · refine lv_iload_n (pc := 178) F.1 F.2.1 d_Mo_go_178 rfl (lv_at hl 1 rfl) ?_
            refine lv_bipush (pc := 179) (v := 28) F.1 F.2.1 d_Mo_go_179 (by decide) ?_
            refine lv_icmp_ne (pc := 181) F.1 F.2.1 d_Mo_go_181 (tgt := 189) (by decide) (fun h181 => ?_) (fun h181 => ?_)
            · exact k3 σ _ _ _ ⟨(by exact Eq.symm (Eq.trans (if_neg h3) (Eq.trans (if_neg h47) (Eq.trans (if_neg h65) (Eq.trans (if_neg h111) (Eq.trans (if_neg h181) (rfl))))))), w, lv_sub hl [0, 1, 2, 3] rfl⟩
            · refine lv_aload_n (pc := 184) F.1 F.2.1 d_Mo_go_184 rfl (lv_at hl 0 rfl) ?_
              refine lv_iconst (pc := 185) (v := 1) F.1 F.2.1 d_Mo_go_185 (by decide) ?_
              refine Cvv (pc := 186) (As := [.int 1]) (rest := []) F w (c_Mo_comeBack l D cI am σ 1 hI) 0 rfl rfl k_Mo_comeBack m_1030 (Nat.le_of_ble_eq_true rfl) (Nat.le_of_ble_eq_true rfl) ⟨rfl, rfl⟩ rfl hl.1 rfl (Nat.le_of_ble_eq_true rfl) d_Mo_go_186 hcs (fun s1 H locs e_s1 w => ?_)
              exact k3 s1 _ _ _ ⟨(by rw [e_s1]; exact Eq.symm (Eq.trans (if_neg h3) (Eq.trans (if_neg h47) (Eq.trans (if_neg h65) (Eq.trans (if_neg h111) (Eq.trans (if_pos h181) (rfl))))))), w, lv_sub hl [0, 1, 2, 3] rfl⟩
          · refine lv_aload_n (pc := 114) F.1 F.2.1 d_Mo_go_114 rfl (lv_at hl 0 rfl) ?_
            refine Cvi (pc := 115) (As := []) (rest := []) F w (c_Mo_pull l D cI am σ hI) 0 rfl rfl k_Mo_pull m_1026 (Nat.le_of_ble_eq_true rfl) (Nat.le_of_ble_eq_true rfl) ⟨rfl, rfl⟩ rfl hl.1 rfl (Nat.le_of_ble_eq_true rfl) d_Mo_go_115 hcs (fun r2 s3 H locs e_r2 e_s3 w => ?_)
            have iJM_s3 : JM s3 := by rw [e_s3]; exact iJM_Mo_pull hI 
            refine lv_istore (pc := 118) F.1 F.2.1 d_Mo_go_118 hl (by decide) rfl (fun ls hl => ?_)
            have hl : lv_has ls 5 [(4, .int r2), (0, .ref (am 0)), (1, .int x1), (2, .int x2), (3, .int x3)] := hl
            refine lv_aload_n (pc := 120) F.1 F.2.1 d_Mo_go_120 rfl (lv_at hl 1 rfl) ?_
            refine lv_iload (pc := 121) F.1 F.2.1 d_Mo_go_121 (lv_at hl 0 rfl) ?_
            refine lv_sipush (pc := 123) (v := 128) F.1 F.2.1 d_Mo_go_123 (by decide) ?_
            refine lv_iand (pc := 126) F.1 F.2.1 d_Mo_go_126 ?_
            refine cutW (α := Int32) (fun x H locs ls => x = f_Mo_go_r127 r2 ∧ Wx D cI (wM cI am) (AM am) (AM am) s s.heap H locs s3 ∧ lv_has ls 5 [(0, .ref (am 0)), (1, .int x1), (2, .int x2), (3, .int x3), (4, .int r2)]) (fun x ls => F0 m 135 ls [.int x, .ref (am 0)]) ?_ (fun k127 => ?_)
            · rintro v4 H locs ls ⟨ex, w, hl⟩
              have e_v4 := ex
              have w : Wx D cI (wM cI am) (AM am) (AM am) s s.heap H locs s3 := w
              have hl : lv_has ls 5 [(0, .ref (am 0)), (1, .int x1), (2, .int x2), (3, .int x3), (4, .int r2)] := hl
              show W _ _ _ _ _ _ _ _ _ _ _ _ _ _ _ (F0 m 135 ls [.int v4, .ref (am 0)])
              refine pM0_11 (pc := 135) F w (e_v4 ▸ z_f_Mo_go_r127_0 r2) (F.2.2.2.2 _ m_786) d_Mo_go_135 (fun H locs s5 e_s5 w => ?_)
              have iJM_s5 : JM s5 := by rw [e_s5]; exact JM.neg iJM_s3 (e_v4 ▸ z_f_Mo_go_r127_0 r2)
              refine lv_aload_n (pc := 138) F.1 F.2.1 d_Mo_go_138 rfl (lv_at hl 0 rfl) ?_
              refine lv_iload (pc := 139) F.1 F.2.1 d_Mo_go_139 (lv_at hl 4 rfl) ?_
              refine lv_iconst (pc := 141) (v := 2) F.1 F.2.1 d_Mo_go_141 (by decide) ?_
              refine lv_iand (pc := 142) F.1 F.2.1 d_Mo_go_142 ?_
              refine cutW (α := Int32) (fun x H locs ls => x = f_Mo_go_r143 r2 ∧ Wx D cI (wM cI am) (AM am) (AM am) s s.heap H locs s5 ∧ lv_has ls 5 [(0, .ref (am 0)), (1, .int x1), (2, .int x2), (3, .int x3), (4, .int r2)]) (fun x ls => F0 m 151 ls [.int x, .ref (am 0)]) ?_ (fun k143 => ?_)
              · rintro v6 H locs ls ⟨ex, w, hl⟩
                have e_v6 := ex
                have w : Wx D cI (wM cI am) (AM am) (AM am) s s.heap H locs s5 := w
                have hl : lv_has ls 5 [(0, .ref (am 0)), (1, .int x1), (2, .int x2), (3, .int x3), (4, .int r2)] := hl
                show W _ _ _ _ _ _ _ _ _ _ _ _ _ _ _ (F0 m 151 ls [.int v6, .ref (am 0)])
                refine pM0_12 (pc := 151) F w (e_v6 ▸ z_f_Mo_go_r143_0 r2) (F.2.2.2.2 _ m_787) d_Mo_go_151 (fun H locs s7 e_s7 w => ?_)
                have iJM_s7 : JM s7 := by rw [e_s7]; exact JM.zer iJM_s5 (e_v6 ▸ z_f_Mo_go_r143_0 r2)
                refine lv_aload_n (pc := 154) F.1 F.2.1 d_Mo_go_154 rfl (lv_at hl 0 rfl) ?_
                refine lv_iload (pc := 155) F.1 F.2.1 d_Mo_go_155 (lv_at hl 4 rfl) ?_
                refine lv_iconst (pc := 157) (v := 1) F.1 F.2.1 d_Mo_go_157 (by decide) ?_
                refine lv_iand (pc := 158) F.1 F.2.1 d_Mo_go_158 ?_
                refine cutW (α := Int32) (fun x H locs ls => x = f_Mo_go_r159 r2 ∧ Wx D cI (wM cI am) (AM am) (AM am) s s.heap H locs s7 ∧ lv_has ls 5 [(0, .ref (am 0)), (1, .int x1), (2, .int x2), (3, .int x3), (4, .int r2)]) (fun x ls => F0 m 167 ls [.int x, .ref (am 0)]) ?_ (fun k159 => ?_)
                · rintro v8 H locs ls ⟨ex, w, hl⟩
                  have e_v8 := ex
                  have w : Wx D cI (wM cI am) (AM am) (AM am) s s.heap H locs s7 := w
                  have hl : lv_has ls 5 [(0, .ref (am 0)), (1, .int x1), (2, .int x2), (3, .int x3), (4, .int r2)] := hl
                  show W _ _ _ _ _ _ _ _ _ _ _ _ _ _ _ (F0 m 167 ls [.int v8, .ref (am 0)])
                  refine pM0_13 (pc := 167) F w (e_v8 ▸ z_f_Mo_go_r159_0 r2) (F.2.2.2.2 _ m_788) d_Mo_go_167 (fun H locs s9 e_s9 w => ?_)
                  have iJM_s9 : JM s9 := by rw [e_s9]; exact JM.car iJM_s7 (e_v8 ▸ z_f_Mo_go_r159_0 r2)
                  refine lv_aload_n (pc := 170) F.1 F.2.1 d_Mo_go_170 rfl (lv_at hl 0 rfl) ?_
                  refine lv_iconst (pc := 171) (v := 0) F.1 F.2.1 d_Mo_go_171 (by decide) ?_
                  refine Cvv (pc := 172) (As := [.int 0]) (rest := []) F w (c_Mo_comeBack l D cI am s9 0 iJM_s9) 0 rfl rfl k_Mo_comeBack m_1030 (Nat.le_of_ble_eq_true rfl) (Nat.le_of_ble_eq_true rfl) ⟨rfl, rfl⟩ rfl hl.1 rfl (Nat.le_of_ble_eq_true rfl) d_Mo_go_172 hcs (fun s10 H locs e_s10 w => ?_)
                  refine lv_goto (pc := 175) F.1 F.2.1 d_Mo_go_175 (tgt := 189) (by decide) ?_
                  exact k3 s10 _ _ _ ⟨(by rw [e_s10, e_s9, e_v8, e_s7, e_v6, e_s5, e_v4, e_s3, e_r2]; exact Eq.symm (Eq.trans (if_neg h3) (Eq.trans (if_neg h47) (Eq.trans (if_neg h65) (Eq.trans (if_pos h111) (rfl)))))), w, lv_sub hl [0, 1, 2, 3] rfl⟩
                · refine lv_if_eq (pc := 159) F.1 F.2.1 d_Mo_go_159 (tgt := 166) (by decide) (fun h159 => ?_) (fun h159 => ?_)
                  · refine lv_iconst (pc := 166) (v := 0) F.1 F.2.1 d_Mo_go_166 (by decide) ?_
                    exact k159 0 _ _ _ ⟨(by exact Eq.symm (Eq.trans (if_pos h159) (rfl))), w, lv_sub hl [0, 1, 2, 3, 4] rfl⟩
                  · refine lv_iconst (pc := 162) (v := 1) F.1 F.2.1 d_Mo_go_162 (by decide) ?_
                    refine lv_goto (pc := 163) F.1 F.2.1 d_Mo_go_163 (tgt := 167) (by decide) ?_
                    exact k159 1 _ _ _ ⟨(by exact Eq.symm (Eq.trans (if_neg h159) (rfl))), w, lv_sub hl [0, 1, 2, 3, 4] rfl⟩
              · refine lv_if_eq (pc := 143) F.1 F.2.1 d_Mo_go_143 (tgt := 150) (by decide) (fun h143 => ?_) (fun h143 => ?_)
                · refine lv_iconst (pc := 150) (v := 0) F.1 F.2.1 d_Mo_go_150 (by decide) ?_
                  exact k143 0 _ _ _ ⟨(by exact Eq.symm (Eq.trans (if_pos h143) (rfl))), w, lv_sub hl [0, 1, 2, 3, 4] rfl⟩
                · refine lv_iconst (pc := 146) (v := 1) F.1 F.2.1 d_Mo_go_146 (by decide) ?_
                  refine lv_goto (pc := 147) F.1 F.2.1 d_Mo_go_147 (tgt := 151) (by decide) ?_
                  exact k143 1 _ _ _ ⟨(by exact Eq.symm (Eq.trans (if_neg h143) (rfl))), w, lv_sub hl [0, 1, 2, 3, 4] rfl⟩
            · refine lv_if_eq (pc := 127) F.1 F.2.1 d_Mo_go_127 (tgt := 134) (by decide) (fun h127 => ?_) (fun h127 => ?_)
              · refine lv_iconst (pc := 134) (v := 0) F.1 F.2.1 d_Mo_go_134 (by decide) ?_
                exact k127 0 _ _ _ ⟨(by exact Eq.symm (Eq.trans (if_pos h127) (rfl))), w, lv_sub hl [1, 2, 3, 4, 0] rfl⟩
              · refine lv_iconst (pc := 130) (v := 1) F.1 F.2.1 d_Mo_go_130 (by decide) ?_
                refine lv_goto (pc := 131) F.1 F.2.1 d_Mo_go_131 (tgt := 135) (by decide) ?_
                exact k127 1 _ _ _ ⟨(by exact Eq.symm (Eq.trans (if_neg h127) (rfl))), w, lv_sub hl [1, 2, 3, 4, 0] rfl⟩
        · refine lv_iload_n (pc := 68) F.1 F.2.1 d_Mo_go_68 rfl (lv_at hl 2 rfl) ?_
          refine lv_iconst (pc := 69) (v := 2) F.1 F.2.1 d_Mo_go_69 (by decide) ?_
          refine lv_iadd (pc := 70) F.1 F.2.1 d_Mo_go_70 ?_
          refine lv_sipush (pc := 71) (v := 1023) F.1 F.2.1 d_Mo_go_71 (by decide) ?_
          refine lv_iand (pc := 74) F.1 F.2.1 d_Mo_go_74 ?_
          refine lv_istore (pc := 75) F.1 F.2.1 d_Mo_go_75 hl (by decide) rfl (fun ls hl => ?_)
          have hl : lv_has ls 5 [(4, .int ((x2 + 2) &&& 1023)), (0, .ref (am 0)), (1, .int x1), (2, .int x2), (3, .int x3)] := hl
          refine lv_aload_n (pc := 77) F.1 F.2.1 d_Mo_go_77 rfl (lv_at hl 1 rfl) ?_
          refine lv_iload (pc := 78) F.1 F.2.1 d_Mo_go_78 (lv_at hl 0 rfl) ?_
          refine lv_bipush (pc := 80) (v := 8) F.1 F.2.1 d_Mo_go_80 (by decide) ?_
          refine lv_ishr (pc := 82) F.1 F.2.1 d_Mo_go_82 ?_
          refine Cvv (pc := 83) (As := [.int (((x2 + 2) &&& 1023) >>> ((8 : Int32) &&& 31))]) (rest := []) F w (c_Mo_push l D cI am σ (((x2 + 2) &&& 1023) >>> ((8 : Int32) &&& 31)) hI) 0 rfl rfl k_Mo_push m_1006 (Nat.le_of_ble_eq_true rfl) (Nat.le_of_ble_eq_true rfl) ⟨rfl, rfl⟩ rfl hl.1 rfl (Nat.le_of_ble_eq_true rfl) d_Mo_go_83 hcs (fun s11 H locs e_s11 w => ?_)
          have iJM_s11 : JM s11 := by rw [e_s11]; exact iJM_Mo_push hI (((x2 + 2) &&& 1023) >>> ((8 : Int32) &&& 31))
          refine lv_aload_n (pc := 86) F.1 F.2.1 d_Mo_go_86 rfl (lv_at hl 1 rfl) ?_
          refine lv_iload (pc := 87) F.1 F.2.1 d_Mo_go_87 (lv_at hl 0 rfl) ?_
          refine lv_sipush (pc := 89) (v := 255) F.1 F.2.1 d_Mo_go_89 (by decide) ?_
          refine lv_iand (pc := 92) F.1 F.2.1 d_Mo_go_92 ?_
          refine Cvv (pc := 93) (As := [.int (((x2 + 2) &&& 1023) &&& 255)]) (rest := []) F w (c_Mo_push l D cI am s11 (((x2 + 2) &&& 1023) &&& 255) iJM_s11) 0 rfl rfl k_Mo_push m_1006 (Nat.le_of_ble_eq_true rfl) (Nat.le_of_ble_eq_true rfl) ⟨rfl, rfl⟩ rfl hl.1 rfl (Nat.le_of_ble_eq_true rfl) d_Mo_go_93 hcs (fun s12 H locs e_s12 w => ?_)
          have iJM_s12 : JM s12 := by rw [e_s12]; exact iJM_Mo_push iJM_s11 (((x2 + 2) &&& 1023) &&& 255)
          refine lv_aload_n (pc := 96) F.1 F.2.1 d_Mo_go_96 rfl (lv_at hl 1 rfl) ?_
          refine lv_iload_n (pc := 97) F.1 F.2.1 d_Mo_go_97 rfl (lv_at hl 4 rfl) ?_
          refine lv_sipush (pc := 98) (v := 1023) F.1 F.2.1 d_Mo_go_98 (by decide) ?_
          refine lv_iand (pc := 101) F.1 F.2.1 d_Mo_go_101 ?_
          refine pM0_10 (pc := 102) F w (F.2.2.2.2 _ m_785) d_Mo_go_102 (fun H locs s13 e_s13 w => ?_)
          have iJM_s13 : JM s13 := by rw [e_s13]; exact iJM_s12
          refine lv_goto (pc := 105) F.1 F.2.1 d_Mo_go_105 (tgt := 189) (by decide) ?_
          exact k3 s13 _ _ _ ⟨(by rw [e_s13, e_s12, e_s11]; exact Eq.symm (Eq.trans (if_neg h3) (Eq.trans (if_neg h47) (Eq.trans (if_pos h65) (rfl))))), w, lv_sub hl [1, 2, 3, 4] rfl⟩
      · refine lv_aload_n (pc := 50) F.1 F.2.1 d_Mo_go_50 rfl (lv_at hl 0 rfl) ?_
        refine lv_iload_n (pc := 51) F.1 F.2.1 d_Mo_go_51 rfl (lv_at hl 3 rfl) ?_
        refine lv_sipush (pc := 52) (v := 1023) F.1 F.2.1 d_Mo_go_52 (by decide) ?_
        refine lv_iand (pc := 55) F.1 F.2.1 d_Mo_go_55 ?_
        refine pM0_10 (pc := 56) F w (F.2.2.2.2 _ m_785) d_Mo_go_56 (fun H locs s14 e_s14 w => ?_)
        have iJM_s14 : JM s14 := by rw [e_s14]; exact hI
        refine lv_goto (pc := 59) F.1 F.2.1 d_Mo_go_59 (tgt := 189) (by decide) ?_
        exact k3 s14 _ _ _ ⟨(by rw [e_s14]; exact Eq.symm (Eq.trans (if_neg h3) (Eq.trans (if_pos h47) (rfl)))), w, lv_sub hl [0, 1, 2, 3] rfl⟩
    · refine lv_aload_n (pc := 6) F.1 F.2.1 d_Mo_go_6 rfl (lv_at hl 0 rfl) ?_
      refine Kvi (pc := 7) (As := []) (rest := []) F w (c_Mo_isTaken l D cI am σ hI) 0 rfl rfl k_Mo_isTaken m_1022 (Nat.le_of_ble_eq_true rfl) (Nat.le_of_ble_eq_true rfl) ⟨rfl, rfl⟩ rfl hl.1 rfl (Nat.le_of_ble_eq_true rfl) d_Mo_go_7 hcs (fun r15 H locs e_r15 w => ?_)
      refine lv_if_eq (pc := 10) F.1 F.2.1 d_Mo_go_10 (tgt := 189) (by decide) (fun h10 => ?_) (fun h10 => ?_)
      · exact k3 σ _ _ _ ⟨(by rw [e_r15] at h10; exact Eq.symm (Eq.trans (if_pos h3) (Eq.trans (if_pos h10) (rfl)))), w, lv_sub hl [0, 1, 2, 3] rfl⟩
      · refine lv_aload_n (pc := 13) F.1 F.2.1 d_Mo_go_13 rfl (lv_at hl 0 rfl) ?_
        refine lv_aload_n (pc := 14) F.1 F.2.1 d_Mo_go_14 rfl (lv_at hl 0 rfl) ?_
        refine gM0_10 (pc := 15) F w (F.2.2.2.2 _ m_785) d_Mo_go_15 ?_
        refine lv_iload_n (pc := 18) F.1 F.2.1 d_Mo_go_18 rfl (lv_at hl 3 rfl) ?_
        refine lv_bipush (pc := 19) (v := 127) F.1 F.2.1 d_Mo_go_19 (by decide) ?_
        refine cutW (α := Int32) (fun x H locs ls => x = f_Mo_go_r21 x3 ∧ Wx D cI (wM cI am) (AM am) (AM am) s s.heap H locs σ ∧ lv_has ls 5 [(0, .ref (am 0)), (1, .int x1), (2, .int x2), (3, .int x3)]) (fun x ls => F0 m 33 ls [.int x, .int (σ 0 10), .ref (am 0)]) ?_ (fun k21 => ?_)
        · rintro v16 H locs ls ⟨ex, w, hl⟩
          have e_v16 := ex
          have w : Wx D cI (wM cI am) (AM am) (AM am) s s.heap H locs σ := w
          have hl : lv_has ls 5 [(0, .ref (am 0)), (1, .int x1), (2, .int x2), (3, .int x3)] := hl
          show W _ _ _ _ _ _ _ _ _ _ _ _ _ _ _ (F0 m 33 ls [.int v16, .int (σ 0 10), .ref (am 0)])
          refine lv_iadd (pc := 33) F.1 F.2.1 d_Mo_go_33 ?_
          refine lv_sipush (pc := 34) (v := 1023) F.1 F.2.1 d_Mo_go_34 (by decide) ?_
          refine lv_iand (pc := 37) F.1 F.2.1 d_Mo_go_37 ?_
          refine pM0_10 (pc := 38) F w (F.2.2.2.2 _ m_785) d_Mo_go_38 (fun H locs s17 e_s17 w => ?_)
          have iJM_s17 : JM s17 := by rw [e_s17]; exact hI
          refine lv_goto (pc := 41) F.1 F.2.1 d_Mo_go_41 (tgt := 189) (by decide) ?_
          exact k3 s17 _ _ _ ⟨(by rw [e_r15] at h10; rw [e_s17, e_v16]; exact Eq.symm (Eq.trans (if_pos h3) (Eq.trans (if_neg h10) (rfl)))), w, lv_sub hl [0, 1, 2, 3] rfl⟩
        · refine lv_icmp_le (pc := 21) F.1 F.2.1 d_Mo_go_21 (tgt := 32) (by decide) (fun h21 => ?_) (fun h21 => ?_)
          · refine lv_iload_n (pc := 32) F.1 F.2.1 d_Mo_go_32 rfl (lv_at hl 3 rfl) ?_
            exact k21 x3 _ _ _ ⟨(by exact Eq.symm (Eq.trans (if_pos h21) (rfl))), w, lv_sub hl [0, 1, 2, 3] rfl⟩
          · refine lv_iload_n (pc := 24) F.1 F.2.1 d_Mo_go_24 rfl (lv_at hl 3 rfl) ?_
            refine lv_sipush (pc := 25) (v := 256) F.1 F.2.1 d_Mo_go_25 (by decide) ?_
            refine lv_isub (pc := 28) F.1 F.2.1 d_Mo_go_28 ?_
            refine lv_goto (pc := 29) F.1 F.2.1 d_Mo_go_29 (tgt := 33) (by decide) ?_
            exact k21 (x3 - 256) _ _ _ ⟨(by exact Eq.symm (Eq.trans (if_neg h21) (rfl))), w, lv_sub hl [0, 1, 2, 3] rfl⟩
def f_Mo_use_r1 (σ : Sg) (x1 : Int32) (x2 : Int32) : Sg := if x1 = 1 then (let r1 := (f_Mo_set σ x2).1; let s2 := (f_Mo_set σ x2).2; let s3 := sf s2 0 6 r1; s3) else if x1 = 2 then (let r4 := (f_Mo_set σ x2).1; let s5 := (f_Mo_set σ x2).2; let s6 := sf s5 0 7 r4; s6) else if x1 = 3 then (let r7 := (f_Mo_set σ x2).1; let s8 := (f_Mo_set σ x2).2; let s9 := sf s8 0 8 r7; s9) else if x1 = 4 then (let s10 := f_Mo_compare σ (σ 0 7) x2; s10) else if x1 = 5 then (let s11 := f_Mo_compare σ (σ 0 7) x2; s11) else if x1 = 6 then (let r12 := (f_Mo_sum σ x2).1; let s13 := (f_Mo_sum σ x2).2; let s14 := sf s13 0 6 r12; s14) else if x1 = 7 then (let r15 := (f_Mo_sum σ (255 - x2)).1; let s16 := (f_Mo_sum σ (255 - x2)).2; let s17 := sf s16 0 6 r15; s17) else if x1 = 8 then (let r18 := (f_Mo_set σ ((σ 0 6) &&& x2)).1; let s19 := (f_Mo_set σ ((σ 0 6) &&& x2)).2; let s20 := sf s19 0 6 r18; s20) else if x1 = 9 then (let r21 := (f_Mo_set σ ((σ 0 6) ||| x2)).1; let s22 := (f_Mo_set σ ((σ 0 6) ||| x2)).2; let s23 := sf s22 0 6 r21; s23) else if x1 = 10 then (let r24 := (f_Mo_set σ ((σ 0 6) ^^^ x2)).1; let s25 := (f_Mo_set σ ((σ 0 6) ^^^ x2)).2; let s26 := sf s25 0 6 r24; s26) else if x1 = 11 then (let s27 := f_Mo_compare σ (σ 0 6) x2; s27) else (let s28 := f_Mo_compare σ (σ 0 7) x2; s28)
def f_Mo_use (σ : Sg) (x1 : Int32) (x2 : Int32) : Sg := let s29 := (f_Mo_use_r1 σ x1 x2); s29
set_option maxHeartbeats 1000000 in
set_option maxRecDepth 100000 in
theorem c_Mo_use (l : Launch) (D : va_G) (cI : ClassId) (am : Nat → Nat) (σ : Sg) (x1 : Int32) (x2 : Int32) : Met l y_Mo_use (Cond.code y_Mo_use b_Mo_use 3 none :: al) { frames := 2, cells := 0, slots := 0, locals := 43 } (Px D cI (wM cI am) (AM am) σ [.ref (am 0), .int x1, .int x2]) (va_Qv (fun u => u = f_Mo_use σ x1 x2) (Bx D cI (wM cI am) (AM am)) (AM am)) 0 0 (AM am) := by
  refine Mx l (by decide) (Nat.le_of_ble_eq_true rfl) ?_
  intro p e s m below meth c ls F w hr hlk hl
  have F : CallFix p m c b_Mo_use 3 s _ al "PictureMachineModel" := F
  have hl : lv_has ls 3 [(0, .ref (am 0)), (1, .int x1), (2, .int x2)] := hl
  have hcs : (0 : Nat) ≤ 0 ∧ (0 : Nat) ≤ 0 := ⟨Nat.le_refl _, Nat.le_refl _⟩
  refine lv_iload_n (pc := 0) F.1 F.2.1 d_Mo_use_0 rfl (lv_at hl 1 rfl) ?_
  refine cutW (α := Sg) (fun x H locs ls => x = f_Mo_use_r1 σ x1 x2 ∧ Wx D cI (wM cI am) (AM am) (AM am) s s.heap H locs x ∧ lv_has ls 3 [(0, .ref (am 0)), (1, .int x1), (2, .int x2)]) (fun x ls => F0 m 196 ls []) ?_ (fun k1 => ?_)
  · rintro s29 H locs ls ⟨ex, w, hl⟩
    have e_s29 := ex
    have w : Wx D cI (wM cI am) (AM am) (AM am) s s.heap H locs s29 := w
    have hl : lv_has ls 3 [(0, .ref (am 0)), (1, .int x1), (2, .int x2)] := hl
    show W _ _ _ _ _ _ _ _ _ _ _ _ _ _ _ (F0 m 196 ls [])
    exact Rv (pc := 196) F hr hlk w (by rw [e_s29]; exact Eq.symm (rfl)) d_Mo_use_196
  · by_cases h1_1 : x1 = 1
    · refine lv_tableIn (pc := 1) F.1 F.2.1 d_Mo_use_1 (tgt := 60) (by rw [h1_1]; decide) (by rw [h1_1]; decide) (by rw [h1_1]; rfl) (by decide) ?_
      refine lv_aload_n (pc := 60) F.1 F.2.1 d_Mo_use_60 rfl (lv_at hl 0 rfl) ?_
      refine lv_aload_n (pc := 61) F.1 F.2.1 d_Mo_use_61 rfl (lv_at hl 0 rfl) ?_
      refine lv_iload_n (pc := 62) F.1 F.2.1 d_Mo_use_62 rfl (lv_at hl 2 rfl) ?_
      refine Cvi (pc := 63) (As := [.int x2]) (rest := [.ref (am 0)]) F w (c_Mo_set l D cI am σ x2) 0 rfl rfl k_Mo_set m_1061 (Nat.le_of_ble_eq_true rfl) (Nat.le_of_ble_eq_true rfl) ⟨rfl, rfl⟩ rfl hl.1 rfl (Nat.le_of_ble_eq_true rfl) d_Mo_use_63 hcs (fun r1 s2 H locs e_r1 e_s2 w => ?_)
      refine pM0_6 (pc := 66) F w (F.2.2.2.2 _ m_781) d_Mo_use_66 (fun H locs s3 e_s3 w => ?_)
      refine lv_goto (pc := 69) F.1 F.2.1 d_Mo_use_69 (tgt := 196) (by decide) ?_
      exact k1 s3 _ _ _ ⟨(by rw [e_s3, e_s2, e_r1]; exact Eq.symm (Eq.trans (if_pos h1_1) (rfl))), w, lv_sub hl [0, 1, 2] rfl⟩
    by_cases h1_2 : x1 = 2
    · refine lv_tableIn (pc := 1) F.1 F.2.1 d_Mo_use_1 (tgt := 72) (by rw [h1_2]; decide) (by rw [h1_2]; decide) (by rw [h1_2]; rfl) (by decide) ?_
      refine lv_aload_n (pc := 72) F.1 F.2.1 d_Mo_use_72 rfl (lv_at hl 0 rfl) ?_
      refine lv_aload_n (pc := 73) F.1 F.2.1 d_Mo_use_73 rfl (lv_at hl 0 rfl) ?_
      refine lv_iload_n (pc := 74) F.1 F.2.1 d_Mo_use_74 rfl (lv_at hl 2 rfl) ?_
      refine Cvi (pc := 75) (As := [.int x2]) (rest := [.ref (am 0)]) F w (c_Mo_set l D cI am σ x2) 0 rfl rfl k_Mo_set m_1061 (Nat.le_of_ble_eq_true rfl) (Nat.le_of_ble_eq_true rfl) ⟨rfl, rfl⟩ rfl hl.1 rfl (Nat.le_of_ble_eq_true rfl) d_Mo_use_75 hcs (fun r4 s5 H locs e_r4 e_s5 w => ?_)
      refine pM0_7 (pc := 78) F w (F.2.2.2.2 _ m_782) d_Mo_use_78 (fun H locs s6 e_s6 w => ?_)
      refine lv_goto (pc := 81) F.1 F.2.1 d_Mo_use_81 (tgt := 196) (by decide) ?_
      exact k1 s6 _ _ _ ⟨(by rw [e_s6, e_s5, e_r4]; exact Eq.symm (Eq.trans (if_neg h1_1) (Eq.trans (if_pos h1_2) (rfl)))), w, lv_sub hl [0, 1, 2] rfl⟩
    by_cases h1_3 : x1 = 3
    · refine lv_tableIn (pc := 1) F.1 F.2.1 d_Mo_use_1 (tgt := 84) (by rw [h1_3]; decide) (by rw [h1_3]; decide) (by rw [h1_3]; rfl) (by decide) ?_
      refine lv_aload_n (pc := 84) F.1 F.2.1 d_Mo_use_84 rfl (lv_at hl 0 rfl) ?_
      refine lv_aload_n (pc := 85) F.1 F.2.1 d_Mo_use_85 rfl (lv_at hl 0 rfl) ?_
      refine lv_iload_n (pc := 86) F.1 F.2.1 d_Mo_use_86 rfl (lv_at hl 2 rfl) ?_
      refine Cvi (pc := 87) (As := [.int x2]) (rest := [.ref (am 0)]) F w (c_Mo_set l D cI am σ x2) 0 rfl rfl k_Mo_set m_1061 (Nat.le_of_ble_eq_true rfl) (Nat.le_of_ble_eq_true rfl) ⟨rfl, rfl⟩ rfl hl.1 rfl (Nat.le_of_ble_eq_true rfl) d_Mo_use_87 hcs (fun r7 s8 H locs e_r7 e_s8 w => ?_)
      refine pM0_8 (pc := 90) F w (F.2.2.2.2 _ m_783) d_Mo_use_90 (fun H locs s9 e_s9 w => ?_)
      refine lv_goto (pc := 93) F.1 F.2.1 d_Mo_use_93 (tgt := 196) (by decide) ?_
      exact k1 s9 _ _ _ ⟨(by rw [e_s9, e_s8, e_r7]; exact Eq.symm (Eq.trans (if_neg h1_1) (Eq.trans (if_neg h1_2) (Eq.trans (if_pos h1_3) (rfl))))), w, lv_sub hl [0, 1, 2] rfl⟩
    by_cases h1_4 : x1 = 4
    · refine lv_tableIn (pc := 1) F.1 F.2.1 d_Mo_use_1 (tgt := 187) (by rw [h1_4]; decide) (by rw [h1_4]; decide) (by rw [h1_4]; rfl) (by decide) ?_
      refine lv_aload_n (pc := 187) F.1 F.2.1 d_Mo_use_187 rfl (lv_at hl 0 rfl) ?_
      refine lv_aload_n (pc := 188) F.1 F.2.1 d_Mo_use_188 rfl (lv_at hl 0 rfl) ?_
      refine gM0_7 (pc := 189) F w (F.2.2.2.2 _ m_782) d_Mo_use_189 ?_
      refine lv_iload_n (pc := 192) F.1 F.2.1 d_Mo_use_192 rfl (lv_at hl 2 rfl) ?_
      refine Cvv (pc := 193) (As := [.int (σ 0 7), .int x2]) (rest := []) F w (c_Mo_compare l D cI am σ (σ 0 7) x2) 0 rfl rfl k_Mo_compare m_1073 (Nat.le_of_ble_eq_true rfl) (Nat.le_of_ble_eq_true rfl) ⟨rfl, rfl⟩ rfl hl.1 rfl (Nat.le_of_ble_eq_true rfl) d_Mo_use_193 hcs (fun s10 H locs e_s10 w => ?_)
      exact k1 s10 _ _ _ ⟨(by rw [e_s10]; exact Eq.symm (Eq.trans (if_neg h1_1) (Eq.trans (if_neg h1_2) (Eq.trans (if_neg h1_3) (Eq.trans (if_pos h1_4) (rfl)))))), w, lv_sub hl [0, 1, 2] rfl⟩
    by_cases h1_5 : x1 = 5
    · refine lv_tableIn (pc := 1) F.1 F.2.1 d_Mo_use_1 (tgt := 187) (by rw [h1_5]; decide) (by rw [h1_5]; decide) (by rw [h1_5]; rfl) (by decide) ?_
      refine lv_aload_n (pc := 187) F.1 F.2.1 d_Mo_use_187 rfl (lv_at hl 0 rfl) ?_
      refine lv_aload_n (pc := 188) F.1 F.2.1 d_Mo_use_188 rfl (lv_at hl 0 rfl) ?_
      refine gM0_7 (pc := 189) F w (F.2.2.2.2 _ m_782) d_Mo_use_189 ?_
      refine lv_iload_n (pc := 192) F.1 F.2.1 d_Mo_use_192 rfl (lv_at hl 2 rfl) ?_
      refine Cvv (pc := 193) (As := [.int (σ 0 7), .int x2]) (rest := []) F w (c_Mo_compare l D cI am σ (σ 0 7) x2) 0 rfl rfl k_Mo_compare m_1073 (Nat.le_of_ble_eq_true rfl) (Nat.le_of_ble_eq_true rfl) ⟨rfl, rfl⟩ rfl hl.1 rfl (Nat.le_of_ble_eq_true rfl) d_Mo_use_193 hcs (fun s11 H locs e_s11 w => ?_)
      exact k1 s11 _ _ _ ⟨(by rw [e_s11]; exact Eq.symm (Eq.trans (if_neg h1_1) (Eq.trans (if_neg h1_2) (Eq.trans (if_neg h1_3) (Eq.trans (if_neg h1_4) (Eq.trans (if_pos h1_5) (rfl))))))), w, lv_sub hl [0, 1, 2] rfl⟩
    by_cases h1_6 : x1 = 6
    · refine lv_tableIn (pc := 1) F.1 F.2.1 d_Mo_use_1 (tgt := 96) (by rw [h1_6]; decide) (by rw [h1_6]; decide) (by rw [h1_6]; rfl) (by decide) ?_
      refine lv_aload_n (pc := 96) F.1 F.2.1 d_Mo_use_96 rfl (lv_at hl 0 rfl) ?_
      refine lv_aload_n (pc := 97) F.1 F.2.1 d_Mo_use_97 rfl (lv_at hl 0 rfl) ?_
      refine lv_iload_n (pc := 98) F.1 F.2.1 d_Mo_use_98 rfl (lv_at hl 2 rfl) ?_
      refine Cvi (pc := 99) (As := [.int x2]) (rest := [.ref (am 0)]) F w (c_Mo_sum l D cI am σ x2) 0 rfl rfl k_Mo_sum m_1069 (Nat.le_of_ble_eq_true rfl) (Nat.le_of_ble_eq_true rfl) ⟨rfl, rfl⟩ rfl hl.1 rfl (Nat.le_of_ble_eq_true rfl) d_Mo_use_99 hcs (fun r12 s13 H locs e_r12 e_s13 w => ?_)
      refine pM0_6 (pc := 102) F w (F.2.2.2.2 _ m_781) d_Mo_use_102 (fun H locs s14 e_s14 w => ?_)
      refine lv_goto (pc := 105) F.1 F.2.1 d_Mo_use_105 (tgt := 196) (by decide) ?_
      exact k1 s14 _ _ _ ⟨(by rw [e_s14, e_s13, e_r12]; exact Eq.symm (Eq.trans (if_neg h1_1) (Eq.trans (if_neg h1_2) (Eq.trans (if_neg h1_3) (Eq.trans (if_neg h1_4) (Eq.trans (if_neg h1_5) (Eq.trans (if_pos h1_6) (rfl)))))))), w, lv_sub hl [0, 1, 2] rfl⟩
    by_cases h1_7 : x1 = 7
    · refine lv_tableIn (pc := 1) F.1 F.2.1 d_Mo_use_1 (tgt := 108) (by rw [h1_7]; decide) (by rw [h1_7]; decide) (by rw [h1_7]; rfl) (by decide) ?_
      refine lv_aload_n (pc := 108) F.1 F.2.1 d_Mo_use_108 rfl (lv_at hl 0 rfl) ?_
      refine lv_aload_n (pc := 109) F.1 F.2.1 d_Mo_use_109 rfl (lv_at hl 0 rfl) ?_
      refine lv_sipush (pc := 110) (v := 255) F.1 F.2.1 d_Mo_use_110 (by decide) ?_
      refine lv_iload_n (pc := 113) F.1 F.2.1 d_Mo_use_113 rfl (lv_at hl 2 rfl) ?_
      refine lv_isub (pc := 114) F.1 F.2.1 d_Mo_use_114 ?_
      refine Cvi (pc := 115) (As := [.int (255 - x2)]) (rest := [.ref (am 0)]) F w (c_Mo_sum l D cI am σ (255 - x2)) 0 rfl rfl k_Mo_sum m_1069 (Nat.le_of_ble_eq_true rfl) (Nat.le_of_ble_eq_true rfl) ⟨rfl, rfl⟩ rfl hl.1 rfl (Nat.le_of_ble_eq_true rfl) d_Mo_use_115 hcs (fun r15 s16 H locs e_r15 e_s16 w => ?_)
      refine pM0_6 (pc := 118) F w (F.2.2.2.2 _ m_781) d_Mo_use_118 (fun H locs s17 e_s17 w => ?_)
      refine lv_goto (pc := 121) F.1 F.2.1 d_Mo_use_121 (tgt := 196) (by decide) ?_
      exact k1 s17 _ _ _ ⟨(by rw [e_s17, e_s16, e_r15]; exact Eq.symm (Eq.trans (if_neg h1_1) (Eq.trans (if_neg h1_2) (Eq.trans (if_neg h1_3) (Eq.trans (if_neg h1_4) (Eq.trans (if_neg h1_5) (Eq.trans (if_neg h1_6) (Eq.trans (if_pos h1_7) (rfl))))))))), w, lv_sub hl [0, 1, 2] rfl⟩
    by_cases h1_8 : x1 = 8
    · refine lv_tableIn (pc := 1) F.1 F.2.1 d_Mo_use_1 (tgt := 124) (by rw [h1_8]; decide) (by rw [h1_8]; decide) (by rw [h1_8]; rfl) (by decide) ?_
      refine lv_aload_n (pc := 124) F.1 F.2.1 d_Mo_use_124 rfl (lv_at hl 0 rfl) ?_
      refine lv_aload_n (pc := 125) F.1 F.2.1 d_Mo_use_125 rfl (lv_at hl 0 rfl) ?_
      refine lv_aload_n (pc := 126) F.1 F.2.1 d_Mo_use_126 rfl (lv_at hl 0 rfl) ?_
      refine gM0_6 (pc := 127) F w (F.2.2.2.2 _ m_781) d_Mo_use_127 ?_
      refine lv_iload_n (pc := 130) F.1 F.2.1 d_Mo_use_130 rfl (lv_at hl 2 rfl) ?_
      refine lv_iand (pc := 131) F.1 F.2.1 d_Mo_use_131 ?_
      refine Cvi (pc := 132) (As := [.int ((σ 0 6) &&& x2)]) (rest := [.ref (am 0)]) F w (c_Mo_set l D cI am σ ((σ 0 6) &&& x2)) 0 rfl rfl k_Mo_set m_1061 (Nat.le_of_ble_eq_true rfl) (Nat.le_of_ble_eq_true rfl) ⟨rfl, rfl⟩ rfl hl.1 rfl (Nat.le_of_ble_eq_true rfl) d_Mo_use_132 hcs (fun r18 s19 H locs e_r18 e_s19 w => ?_)
      refine pM0_6 (pc := 135) F w (F.2.2.2.2 _ m_781) d_Mo_use_135 (fun H locs s20 e_s20 w => ?_)
      refine lv_goto (pc := 138) F.1 F.2.1 d_Mo_use_138 (tgt := 196) (by decide) ?_
      exact k1 s20 _ _ _ ⟨(by rw [e_s20, e_s19, e_r18]; exact Eq.symm (Eq.trans (if_neg h1_1) (Eq.trans (if_neg h1_2) (Eq.trans (if_neg h1_3) (Eq.trans (if_neg h1_4) (Eq.trans (if_neg h1_5) (Eq.trans (if_neg h1_6) (Eq.trans (if_neg h1_7) (Eq.trans (if_pos h1_8) (rfl)))))))))), w, lv_sub hl [0, 1, 2] rfl⟩
    by_cases h1_9 : x1 = 9
    · refine lv_tableIn (pc := 1) F.1 F.2.1 d_Mo_use_1 (tgt := 141) (by rw [h1_9]; decide) (by rw [h1_9]; decide) (by rw [h1_9]; rfl) (by decide) ?_
      refine lv_aload_n (pc := 141) F.1 F.2.1 d_Mo_use_141 rfl (lv_at hl 0 rfl) ?_
      refine lv_aload_n (pc := 142) F.1 F.2.1 d_Mo_use_142 rfl (lv_at hl 0 rfl) ?_
      refine lv_aload_n (pc := 143) F.1 F.2.1 d_Mo_use_143 rfl (lv_at hl 0 rfl) ?_
      refine gM0_6 (pc := 144) F w (F.2.2.2.2 _ m_781) d_Mo_use_144 ?_
      refine lv_iload_n (pc := 147) F.1 F.2.1 d_Mo_use_147 rfl (lv_at hl 2 rfl) ?_
      refine lv_ior (pc := 148) F.1 F.2.1 d_Mo_use_148 ?_
      refine Cvi (pc := 149) (As := [.int ((σ 0 6) ||| x2)]) (rest := [.ref (am 0)]) F w (c_Mo_set l D cI am σ ((σ 0 6) ||| x2)) 0 rfl rfl k_Mo_set m_1061 (Nat.le_of_ble_eq_true rfl) (Nat.le_of_ble_eq_true rfl) ⟨rfl, rfl⟩ rfl hl.1 rfl (Nat.le_of_ble_eq_true rfl) d_Mo_use_149 hcs (fun r21 s22 H locs e_r21 e_s22 w => ?_)
      refine pM0_6 (pc := 152) F w (F.2.2.2.2 _ m_781) d_Mo_use_152 (fun H locs s23 e_s23 w => ?_)
      refine lv_goto (pc := 155) F.1 F.2.1 d_Mo_use_155 (tgt := 196) (by decide) ?_
      exact k1 s23 _ _ _ ⟨(by rw [e_s23, e_s22, e_r21]; exact Eq.symm (Eq.trans (if_neg h1_1) (Eq.trans (if_neg h1_2) (Eq.trans (if_neg h1_3) (Eq.trans (if_neg h1_4) (Eq.trans (if_neg h1_5) (Eq.trans (if_neg h1_6) (Eq.trans (if_neg h1_7) (Eq.trans (if_neg h1_8) (Eq.trans (if_pos h1_9) (rfl))))))))))), w, lv_sub hl [0, 1, 2] rfl⟩
    by_cases h1_10 : x1 = 10
    · refine lv_tableIn (pc := 1) F.1 F.2.1 d_Mo_use_1 (tgt := 158) (by rw [h1_10]; decide) (by rw [h1_10]; decide) (by rw [h1_10]; rfl) (by decide) ?_
      refine lv_aload_n (pc := 158) F.1 F.2.1 d_Mo_use_158 rfl (lv_at hl 0 rfl) ?_
      refine lv_aload_n (pc := 159) F.1 F.2.1 d_Mo_use_159 rfl (lv_at hl 0 rfl) ?_
      refine lv_aload_n (pc := 160) F.1 F.2.1 d_Mo_use_160 rfl (lv_at hl 0 rfl) ?_
      refine gM0_6 (pc := 161) F w (F.2.2.2.2 _ m_781) d_Mo_use_161 ?_
      refine lv_iload_n (pc := 164) F.1 F.2.1 d_Mo_use_164 rfl (lv_at hl 2 rfl) ?_
      refine lv_ixor (pc := 165) F.1 F.2.1 d_Mo_use_165 ?_
      refine Cvi (pc := 166) (As := [.int ((σ 0 6) ^^^ x2)]) (rest := [.ref (am 0)]) F w (c_Mo_set l D cI am σ ((σ 0 6) ^^^ x2)) 0 rfl rfl k_Mo_set m_1061 (Nat.le_of_ble_eq_true rfl) (Nat.le_of_ble_eq_true rfl) ⟨rfl, rfl⟩ rfl hl.1 rfl (Nat.le_of_ble_eq_true rfl) d_Mo_use_166 hcs (fun r24 s25 H locs e_r24 e_s25 w => ?_)
      refine pM0_6 (pc := 169) F w (F.2.2.2.2 _ m_781) d_Mo_use_169 (fun H locs s26 e_s26 w => ?_)
      refine lv_goto (pc := 172) F.1 F.2.1 d_Mo_use_172 (tgt := 196) (by decide) ?_
      exact k1 s26 _ _ _ ⟨(by rw [e_s26, e_s25, e_r24]; exact Eq.symm (Eq.trans (if_neg h1_1) (Eq.trans (if_neg h1_2) (Eq.trans (if_neg h1_3) (Eq.trans (if_neg h1_4) (Eq.trans (if_neg h1_5) (Eq.trans (if_neg h1_6) (Eq.trans (if_neg h1_7) (Eq.trans (if_neg h1_8) (Eq.trans (if_neg h1_9) (Eq.trans (if_pos h1_10) (rfl)))))))))))), w, lv_sub hl [0, 1, 2] rfl⟩
    by_cases h1_11 : x1 = 11
    · refine lv_tableIn (pc := 1) F.1 F.2.1 d_Mo_use_1 (tgt := 175) (by rw [h1_11]; decide) (by rw [h1_11]; decide) (by rw [h1_11]; rfl) (by decide) ?_
      refine lv_aload_n (pc := 175) F.1 F.2.1 d_Mo_use_175 rfl (lv_at hl 0 rfl) ?_
      refine lv_aload_n (pc := 176) F.1 F.2.1 d_Mo_use_176 rfl (lv_at hl 0 rfl) ?_
      refine gM0_6 (pc := 177) F w (F.2.2.2.2 _ m_781) d_Mo_use_177 ?_
      refine lv_iload_n (pc := 180) F.1 F.2.1 d_Mo_use_180 rfl (lv_at hl 2 rfl) ?_
      refine Cvv (pc := 181) (As := [.int (σ 0 6), .int x2]) (rest := []) F w (c_Mo_compare l D cI am σ (σ 0 6) x2) 0 rfl rfl k_Mo_compare m_1073 (Nat.le_of_ble_eq_true rfl) (Nat.le_of_ble_eq_true rfl) ⟨rfl, rfl⟩ rfl hl.1 rfl (Nat.le_of_ble_eq_true rfl) d_Mo_use_181 hcs (fun s27 H locs e_s27 w => ?_)
      refine lv_goto (pc := 184) F.1 F.2.1 d_Mo_use_184 (tgt := 196) (by decide) ?_
      exact k1 s27 _ _ _ ⟨(by rw [e_s27]; exact Eq.symm (Eq.trans (if_neg h1_1) (Eq.trans (if_neg h1_2) (Eq.trans (if_neg h1_3) (Eq.trans (if_neg h1_4) (Eq.trans (if_neg h1_5) (Eq.trans (if_neg h1_6) (Eq.trans (if_neg h1_7) (Eq.trans (if_neg h1_8) (Eq.trans (if_neg h1_9) (Eq.trans (if_neg h1_10) (Eq.trans (if_pos h1_11) (rfl))))))))))))), w, lv_sub hl [0, 1, 2] rfl⟩
    refine lv_tableOut (pc := 1) F.1 F.2.1 d_Mo_use_1 (tgt := 187) (by have q_h1_1 := lv_neT h1_1 (a := 1) rfl; have q_h1_2 := lv_neT h1_2 (a := 2) rfl; have q_h1_3 := lv_neT h1_3 (a := 3) rfl; have q_h1_4 := lv_neT h1_4 (a := 4) rfl; have q_h1_5 := lv_neT h1_5 (a := 5) rfl; have q_h1_6 := lv_neT h1_6 (a := 6) rfl; have q_h1_7 := lv_neT h1_7 (a := 7) rfl; have q_h1_8 := lv_neT h1_8 (a := 8) rfl; have q_h1_9 := lv_neT h1_9 (a := 9) rfl; have q_h1_10 := lv_neT h1_10 (a := 10) rfl; have q_h1_11 := lv_neT h1_11 (a := 11) rfl; omega) (by decide) ?_
    refine lv_aload_n (pc := 187) F.1 F.2.1 d_Mo_use_187 rfl (lv_at hl 0 rfl) ?_
    refine lv_aload_n (pc := 188) F.1 F.2.1 d_Mo_use_188 rfl (lv_at hl 0 rfl) ?_
    refine gM0_7 (pc := 189) F w (F.2.2.2.2 _ m_782) d_Mo_use_189 ?_
    refine lv_iload_n (pc := 192) F.1 F.2.1 d_Mo_use_192 rfl (lv_at hl 2 rfl) ?_
    refine Cvv (pc := 193) (As := [.int (σ 0 7), .int x2]) (rest := []) F w (c_Mo_compare l D cI am σ (σ 0 7) x2) 0 rfl rfl k_Mo_compare m_1073 (Nat.le_of_ble_eq_true rfl) (Nat.le_of_ble_eq_true rfl) ⟨rfl, rfl⟩ rfl hl.1 rfl (Nat.le_of_ble_eq_true rfl) d_Mo_use_193 hcs (fun s28 H locs e_s28 w => ?_)
    exact k1 s28 _ _ _ ⟨(by rw [e_s28]; exact Eq.symm (Eq.trans (if_neg h1_1) (Eq.trans (if_neg h1_2) (Eq.trans (if_neg h1_3) (Eq.trans (if_neg h1_4) (Eq.trans (if_neg h1_5) (Eq.trans (if_neg h1_6) (Eq.trans (if_neg h1_7) (Eq.trans (if_neg h1_8) (Eq.trans (if_neg h1_9) (Eq.trans (if_neg h1_10) (Eq.trans (if_neg h1_11) (rfl))))))))))))), w, lv_sub hl [0, 1, 2] rfl⟩
def f_Mo_alter_r184 (x1 : Int32) : Int32 := if x1 = 24 then (1) else (0)
def f_Mo_alter_r184_2 (x1 : Int32) : Int32 := if x1 = 24 then (1) else (0)
def f_Mo_alter_r184_3 (x1 : Int32) : Int32 := if x1 = 24 then (1) else (0)
def f_Mo_alter_r1 (σ : Sg) (x1 : Int32) : Sg := if x1 = 13 then (let r1 := (f_Mo_set σ ((σ 0 7) + 1)).1; let s2 := (f_Mo_set σ ((σ 0 7) + 1)).2; let s3 := sf s2 0 7 r1; s3) else if x1 = 14 then (let r4 := (f_Mo_set σ ((σ 0 7) - 1)).1; let s5 := (f_Mo_set σ ((σ 0 7) - 1)).2; let s6 := sf s5 0 7 r4; s6) else if x1 = 15 then (let r7 := (f_Mo_set σ ((σ 0 8) + 1)).1; let s8 := (f_Mo_set σ ((σ 0 8) + 1)).2; let s9 := sf s8 0 8 r7; s9) else if x1 = 16 then (let r10 := (f_Mo_set σ ((σ 0 8) - 1)).1; let s11 := (f_Mo_set σ ((σ 0 8) - 1)).2; let s12 := sf s11 0 8 r10; s12) else if x1 = 17 then (let v13 := (f_Mo_alter_r184 x1); let s14 := sf σ 0 13 v13; s14) else if x1 = 18 then (let v15 := (f_Mo_alter_r184_2 x1); let s16 := sf σ 0 13 v15; s16) else if x1 = 19 then (let r17 := (f_Mo_set σ (σ 0 6)).1; let s18 := (f_Mo_set σ (σ 0 6)).2; let s19 := sf s18 0 7 r17; s19) else if x1 = 20 then (let r20 := (f_Mo_set σ (σ 0 7)).1; let s21 := (f_Mo_set σ (σ 0 7)).2; let s22 := sf s21 0 6 r20; s22) else if x1 = 21 then (let s23 := f_Mo_push σ (σ 0 6); s23) else if x1 = 22 then (let r24 := (f_Mo_pull σ).1; let s25 := (f_Mo_pull σ).2; let r26 := (f_Mo_set s25 r24).1; let s27 := (f_Mo_set s25 r24).2; let s28 := sf s27 0 6 r26; s28) else (let v29 := (f_Mo_alter_r184_3 x1); let s30 := sf σ 0 13 v29; s30)
def f_Mo_alter (σ : Sg) (x1 : Int32) : Sg := let s31 := (f_Mo_alter_r1 σ x1); s31
theorem z_f_Mo_alter_r184_0 (x1 : Int32) : (f_Mo_alter_r184 x1) = 0 ∨ (f_Mo_alter_r184 x1) = 1 := by unfold f_Mo_alter_r184; (try dsimp only); (repeat' split) <;> first | exact Or.inl rfl | exact Or.inr rfl
theorem z_f_Mo_alter_r184_2_0 (x1 : Int32) : (f_Mo_alter_r184_2 x1) = 0 ∨ (f_Mo_alter_r184_2 x1) = 1 := by unfold f_Mo_alter_r184_2; (try dsimp only); (repeat' split) <;> first | exact Or.inl rfl | exact Or.inr rfl | apply z_f_Mo_alter_r184_0
theorem z_f_Mo_alter_r184_3_0 (x1 : Int32) : (f_Mo_alter_r184_3 x1) = 0 ∨ (f_Mo_alter_r184_3 x1) = 1 := by unfold f_Mo_alter_r184_3; (try dsimp only); (repeat' split) <;> first | exact Or.inl rfl | exact Or.inr rfl | apply z_f_Mo_alter_r184_2_0 | apply z_f_Mo_alter_r184_0
set_option maxHeartbeats 1000000 in
set_option maxRecDepth 100000 in
theorem c_Mo_alter (l : Launch) (D : va_G) (cI : ClassId) (am : Nat → Nat) (σ : Sg) (x1 : Int32) (hI : JM σ) : Met l y_Mo_alter (Cond.code y_Mo_alter b_Mo_alter 2 none :: al) { frames := 1, cells := 0, slots := 0, locals := 21 } (Px D cI (wM cI am) (AM am) σ [.ref (am 0), .int x1]) (va_Qv (fun u => u = f_Mo_alter σ x1) (Bx D cI (wM cI am) (AM am)) (AM am)) 0 0 (AM am) := by
  refine Mx l (by decide) (Nat.le_of_ble_eq_true rfl) ?_
  intro p e s m below meth c ls F w hr hlk hl
  have F : CallFix p m c b_Mo_alter 2 s _ al "PictureMachineModel" := F
  have hl : lv_has ls 2 [(0, .ref (am 0)), (1, .int x1)] := hl
  have hcs : (0 : Nat) ≤ 0 ∧ (0 : Nat) ≤ 0 := ⟨Nat.le_refl _, Nat.le_refl _⟩
  refine lv_iload_n (pc := 0) F.1 F.2.1 d_Mo_alter_0 rfl (lv_at hl 1 rfl) ?_
  refine cutW (α := Sg) (fun x H locs ls => x = f_Mo_alter_r1 σ x1 ∧ Wx D cI (wM cI am) (AM am) (AM am) s s.heap H locs x ∧ lv_has ls 2 [(0, .ref (am 0)), (1, .int x1)]) (fun x ls => F0 m 195 ls []) ?_ (fun k1 => ?_)
  · rintro s31 H locs ls ⟨ex, w, hl⟩
    have e_s31 := ex
    have w : Wx D cI (wM cI am) (AM am) (AM am) s s.heap H locs s31 := w
    have hl : lv_has ls 2 [(0, .ref (am 0)), (1, .int x1)] := hl
    show W _ _ _ _ _ _ _ _ _ _ _ _ _ _ _ (F0 m 195 ls [])
    exact Rv (pc := 195) F hr hlk w (by rw [e_s31]; exact Eq.symm (rfl)) d_Mo_alter_195
  · by_cases h1_13 : x1 = 13
    · refine lv_tableIn (pc := 1) F.1 F.2.1 d_Mo_alter_1 (tgt := 56) (by rw [h1_13]; decide) (by rw [h1_13]; decide) (by rw [h1_13]; rfl) (by decide) ?_
      refine lv_aload_n (pc := 56) F.1 F.2.1 d_Mo_alter_56 rfl (lv_at hl 0 rfl) ?_
      refine lv_aload_n (pc := 57) F.1 F.2.1 d_Mo_alter_57 rfl (lv_at hl 0 rfl) ?_
      refine lv_aload_n (pc := 58) F.1 F.2.1 d_Mo_alter_58 rfl (lv_at hl 0 rfl) ?_
      refine gM0_7 (pc := 59) F w (F.2.2.2.2 _ m_782) d_Mo_alter_59 ?_
      refine lv_iconst (pc := 62) (v := 1) F.1 F.2.1 d_Mo_alter_62 (by decide) ?_
      refine lv_iadd (pc := 63) F.1 F.2.1 d_Mo_alter_63 ?_
      refine Cvi (pc := 64) (As := [.int ((σ 0 7) + 1)]) (rest := [.ref (am 0)]) F w (c_Mo_set l D cI am σ ((σ 0 7) + 1)) 0 rfl rfl k_Mo_set m_1061 (Nat.le_of_ble_eq_true rfl) (Nat.le_of_ble_eq_true rfl) ⟨rfl, rfl⟩ rfl hl.1 rfl (Nat.le_of_ble_eq_true rfl) d_Mo_alter_64 hcs (fun r1 s2 H locs e_r1 e_s2 w => ?_)
      refine pM0_7 (pc := 67) F w (F.2.2.2.2 _ m_782) d_Mo_alter_67 (fun H locs s3 e_s3 w => ?_)
      refine lv_goto (pc := 70) F.1 F.2.1 d_Mo_alter_70 (tgt := 195) (by decide) ?_
      exact k1 s3 _ _ _ ⟨(by rw [e_s3, e_s2, e_r1]; exact Eq.symm (Eq.trans (if_pos h1_13) (rfl))), w, lv_sub hl [0, 1] rfl⟩
    by_cases h1_14 : x1 = 14
    · refine lv_tableIn (pc := 1) F.1 F.2.1 d_Mo_alter_1 (tgt := 73) (by rw [h1_14]; decide) (by rw [h1_14]; decide) (by rw [h1_14]; rfl) (by decide) ?_
      refine lv_aload_n (pc := 73) F.1 F.2.1 d_Mo_alter_73 rfl (lv_at hl 0 rfl) ?_
      refine lv_aload_n (pc := 74) F.1 F.2.1 d_Mo_alter_74 rfl (lv_at hl 0 rfl) ?_
      refine lv_aload_n (pc := 75) F.1 F.2.1 d_Mo_alter_75 rfl (lv_at hl 0 rfl) ?_
      refine gM0_7 (pc := 76) F w (F.2.2.2.2 _ m_782) d_Mo_alter_76 ?_
      refine lv_iconst (pc := 79) (v := 1) F.1 F.2.1 d_Mo_alter_79 (by decide) ?_
      refine lv_isub (pc := 80) F.1 F.2.1 d_Mo_alter_80 ?_
      refine Cvi (pc := 81) (As := [.int ((σ 0 7) - 1)]) (rest := [.ref (am 0)]) F w (c_Mo_set l D cI am σ ((σ 0 7) - 1)) 0 rfl rfl k_Mo_set m_1061 (Nat.le_of_ble_eq_true rfl) (Nat.le_of_ble_eq_true rfl) ⟨rfl, rfl⟩ rfl hl.1 rfl (Nat.le_of_ble_eq_true rfl) d_Mo_alter_81 hcs (fun r4 s5 H locs e_r4 e_s5 w => ?_)
      refine pM0_7 (pc := 84) F w (F.2.2.2.2 _ m_782) d_Mo_alter_84 (fun H locs s6 e_s6 w => ?_)
      refine lv_goto (pc := 87) F.1 F.2.1 d_Mo_alter_87 (tgt := 195) (by decide) ?_
      exact k1 s6 _ _ _ ⟨(by rw [e_s6, e_s5, e_r4]; exact Eq.symm (Eq.trans (if_neg h1_13) (Eq.trans (if_pos h1_14) (rfl)))), w, lv_sub hl [0, 1] rfl⟩
    by_cases h1_15 : x1 = 15
    · refine lv_tableIn (pc := 1) F.1 F.2.1 d_Mo_alter_1 (tgt := 90) (by rw [h1_15]; decide) (by rw [h1_15]; decide) (by rw [h1_15]; rfl) (by decide) ?_
      refine lv_aload_n (pc := 90) F.1 F.2.1 d_Mo_alter_90 rfl (lv_at hl 0 rfl) ?_
      refine lv_aload_n (pc := 91) F.1 F.2.1 d_Mo_alter_91 rfl (lv_at hl 0 rfl) ?_
      refine lv_aload_n (pc := 92) F.1 F.2.1 d_Mo_alter_92 rfl (lv_at hl 0 rfl) ?_
      refine gM0_8 (pc := 93) F w (F.2.2.2.2 _ m_783) d_Mo_alter_93 ?_
      refine lv_iconst (pc := 96) (v := 1) F.1 F.2.1 d_Mo_alter_96 (by decide) ?_
      refine lv_iadd (pc := 97) F.1 F.2.1 d_Mo_alter_97 ?_
      refine Cvi (pc := 98) (As := [.int ((σ 0 8) + 1)]) (rest := [.ref (am 0)]) F w (c_Mo_set l D cI am σ ((σ 0 8) + 1)) 0 rfl rfl k_Mo_set m_1061 (Nat.le_of_ble_eq_true rfl) (Nat.le_of_ble_eq_true rfl) ⟨rfl, rfl⟩ rfl hl.1 rfl (Nat.le_of_ble_eq_true rfl) d_Mo_alter_98 hcs (fun r7 s8 H locs e_r7 e_s8 w => ?_)
      refine pM0_8 (pc := 101) F w (F.2.2.2.2 _ m_783) d_Mo_alter_101 (fun H locs s9 e_s9 w => ?_)
      refine lv_goto (pc := 104) F.1 F.2.1 d_Mo_alter_104 (tgt := 195) (by decide) ?_
      exact k1 s9 _ _ _ ⟨(by rw [e_s9, e_s8, e_r7]; exact Eq.symm (Eq.trans (if_neg h1_13) (Eq.trans (if_neg h1_14) (Eq.trans (if_pos h1_15) (rfl))))), w, lv_sub hl [0, 1] rfl⟩
    by_cases h1_16 : x1 = 16
    · refine lv_tableIn (pc := 1) F.1 F.2.1 d_Mo_alter_1 (tgt := 107) (by rw [h1_16]; decide) (by rw [h1_16]; decide) (by rw [h1_16]; rfl) (by decide) ?_
      refine lv_aload_n (pc := 107) F.1 F.2.1 d_Mo_alter_107 rfl (lv_at hl 0 rfl) ?_
      refine lv_aload_n (pc := 108) F.1 F.2.1 d_Mo_alter_108 rfl (lv_at hl 0 rfl) ?_
      refine lv_aload_n (pc := 109) F.1 F.2.1 d_Mo_alter_109 rfl (lv_at hl 0 rfl) ?_
      refine gM0_8 (pc := 110) F w (F.2.2.2.2 _ m_783) d_Mo_alter_110 ?_
      refine lv_iconst (pc := 113) (v := 1) F.1 F.2.1 d_Mo_alter_113 (by decide) ?_
      refine lv_isub (pc := 114) F.1 F.2.1 d_Mo_alter_114 ?_
      refine Cvi (pc := 115) (As := [.int ((σ 0 8) - 1)]) (rest := [.ref (am 0)]) F w (c_Mo_set l D cI am σ ((σ 0 8) - 1)) 0 rfl rfl k_Mo_set m_1061 (Nat.le_of_ble_eq_true rfl) (Nat.le_of_ble_eq_true rfl) ⟨rfl, rfl⟩ rfl hl.1 rfl (Nat.le_of_ble_eq_true rfl) d_Mo_alter_115 hcs (fun r10 s11 H locs e_r10 e_s11 w => ?_)
      refine pM0_8 (pc := 118) F w (F.2.2.2.2 _ m_783) d_Mo_alter_118 (fun H locs s12 e_s12 w => ?_)
      refine lv_goto (pc := 121) F.1 F.2.1 d_Mo_alter_121 (tgt := 195) (by decide) ?_
      exact k1 s12 _ _ _ ⟨(by rw [e_s12, e_s11, e_r10]; exact Eq.symm (Eq.trans (if_neg h1_13) (Eq.trans (if_neg h1_14) (Eq.trans (if_neg h1_15) (Eq.trans (if_pos h1_16) (rfl)))))), w, lv_sub hl [0, 1] rfl⟩
    by_cases h1_17 : x1 = 17
    · refine lv_tableIn (pc := 1) F.1 F.2.1 d_Mo_alter_1 (tgt := 180) (by rw [h1_17]; decide) (by rw [h1_17]; decide) (by rw [h1_17]; rfl) (by decide) ?_
      refine lv_aload_n (pc := 180) F.1 F.2.1 d_Mo_alter_180 rfl (lv_at hl 0 rfl) ?_
      refine lv_iload_n (pc := 181) F.1 F.2.1 d_Mo_alter_181 rfl (lv_at hl 1 rfl) ?_
      refine lv_bipush (pc := 182) (v := 24) F.1 F.2.1 d_Mo_alter_182 (by decide) ?_
      refine cutW (α := Int32) (fun x H locs ls => x = f_Mo_alter_r184 x1 ∧ Wx D cI (wM cI am) (AM am) (AM am) s s.heap H locs σ ∧ lv_has ls 2 [(0, .ref (am 0)), (1, .int x1)]) (fun x ls => F0 m 192 ls [.int x, .ref (am 0)]) ?_ (fun k184 => ?_)
      · rintro v13 H locs ls ⟨ex, w, hl⟩
        have e_v13 := ex
        have w : Wx D cI (wM cI am) (AM am) (AM am) s s.heap H locs σ := w
        have hl : lv_has ls 2 [(0, .ref (am 0)), (1, .int x1)] := hl
        show W _ _ _ _ _ _ _ _ _ _ _ _ _ _ _ (F0 m 192 ls [.int v13, .ref (am 0)])
        refine pM0_13 (pc := 192) F w (e_v13 ▸ z_f_Mo_alter_r184_0 x1) (F.2.2.2.2 _ m_788) d_Mo_alter_192 (fun H locs s14 e_s14 w => ?_)
        have iJM_s14 : JM s14 := by rw [e_s14]; exact JM.car hI (e_v13 ▸ z_f_Mo_alter_r184_0 x1)
        exact k1 s14 _ _ _ ⟨(by rw [e_s14, e_v13]; exact Eq.symm (Eq.trans (if_neg h1_13) (Eq.trans (if_neg h1_14) (Eq.trans (if_neg h1_15) (Eq.trans (if_neg h1_16) (Eq.trans (if_pos h1_17) (rfl))))))), w, lv_sub hl [0, 1] rfl⟩
      · refine lv_icmp_ne (pc := 184) F.1 F.2.1 d_Mo_alter_184 (tgt := 191) (by decide) (fun h184 => ?_) (fun h184 => ?_)
        · refine lv_iconst (pc := 191) (v := 0) F.1 F.2.1 d_Mo_alter_191 (by decide) ?_
          exact k184 0 _ _ _ ⟨(by exact Eq.symm (Eq.trans (if_neg h184) (rfl))), w, lv_sub hl [0, 1] rfl⟩
        · refine lv_iconst (pc := 187) (v := 1) F.1 F.2.1 d_Mo_alter_187 (by decide) ?_
          refine lv_goto (pc := 188) F.1 F.2.1 d_Mo_alter_188 (tgt := 192) (by decide) ?_
          exact k184 1 _ _ _ ⟨(by exact Eq.symm (Eq.trans (if_pos h184) (rfl))), w, lv_sub hl [0, 1] rfl⟩
    by_cases h1_18 : x1 = 18
    · refine lv_tableIn (pc := 1) F.1 F.2.1 d_Mo_alter_1 (tgt := 180) (by rw [h1_18]; decide) (by rw [h1_18]; decide) (by rw [h1_18]; rfl) (by decide) ?_
      refine lv_aload_n (pc := 180) F.1 F.2.1 d_Mo_alter_180 rfl (lv_at hl 0 rfl) ?_
      refine lv_iload_n (pc := 181) F.1 F.2.1 d_Mo_alter_181 rfl (lv_at hl 1 rfl) ?_
      refine lv_bipush (pc := 182) (v := 24) F.1 F.2.1 d_Mo_alter_182 (by decide) ?_
      refine cutW (α := Int32) (fun x H locs ls => x = f_Mo_alter_r184_2 x1 ∧ Wx D cI (wM cI am) (AM am) (AM am) s s.heap H locs σ ∧ lv_has ls 2 [(0, .ref (am 0)), (1, .int x1)]) (fun x ls => F0 m 192 ls [.int x, .ref (am 0)]) ?_ (fun k184 => ?_)
      · rintro v15 H locs ls ⟨ex, w, hl⟩
        have e_v15 := ex
        have w : Wx D cI (wM cI am) (AM am) (AM am) s s.heap H locs σ := w
        have hl : lv_has ls 2 [(0, .ref (am 0)), (1, .int x1)] := hl
        show W _ _ _ _ _ _ _ _ _ _ _ _ _ _ _ (F0 m 192 ls [.int v15, .ref (am 0)])
        refine pM0_13 (pc := 192) F w (e_v15 ▸ z_f_Mo_alter_r184_2_0 x1) (F.2.2.2.2 _ m_788) d_Mo_alter_192 (fun H locs s16 e_s16 w => ?_)
        have iJM_s16 : JM s16 := by rw [e_s16]; exact JM.car hI (e_v15 ▸ z_f_Mo_alter_r184_2_0 x1)
        exact k1 s16 _ _ _ ⟨(by rw [e_s16, e_v15]; exact Eq.symm (Eq.trans (if_neg h1_13) (Eq.trans (if_neg h1_14) (Eq.trans (if_neg h1_15) (Eq.trans (if_neg h1_16) (Eq.trans (if_neg h1_17) (Eq.trans (if_pos h1_18) (rfl)))))))), w, lv_sub hl [0, 1] rfl⟩
      · refine lv_icmp_ne (pc := 184) F.1 F.2.1 d_Mo_alter_184 (tgt := 191) (by decide) (fun h184 => ?_) (fun h184 => ?_)
        · refine lv_iconst (pc := 191) (v := 0) F.1 F.2.1 d_Mo_alter_191 (by decide) ?_
          exact k184 0 _ _ _ ⟨(by exact Eq.symm (Eq.trans (if_neg h184) (rfl))), w, lv_sub hl [0, 1] rfl⟩
        · refine lv_iconst (pc := 187) (v := 1) F.1 F.2.1 d_Mo_alter_187 (by decide) ?_
          refine lv_goto (pc := 188) F.1 F.2.1 d_Mo_alter_188 (tgt := 192) (by decide) ?_
          exact k184 1 _ _ _ ⟨(by exact Eq.symm (Eq.trans (if_pos h184) (rfl))), w, lv_sub hl [0, 1] rfl⟩
    by_cases h1_19 : x1 = 19
    · refine lv_tableIn (pc := 1) F.1 F.2.1 d_Mo_alter_1 (tgt := 124) (by rw [h1_19]; decide) (by rw [h1_19]; decide) (by rw [h1_19]; rfl) (by decide) ?_
      refine lv_aload_n (pc := 124) F.1 F.2.1 d_Mo_alter_124 rfl (lv_at hl 0 rfl) ?_
      refine lv_aload_n (pc := 125) F.1 F.2.1 d_Mo_alter_125 rfl (lv_at hl 0 rfl) ?_
      refine lv_aload_n (pc := 126) F.1 F.2.1 d_Mo_alter_126 rfl (lv_at hl 0 rfl) ?_
      refine gM0_6 (pc := 127) F w (F.2.2.2.2 _ m_781) d_Mo_alter_127 ?_
      refine Cvi (pc := 130) (As := [.int (σ 0 6)]) (rest := [.ref (am 0)]) F w (c_Mo_set l D cI am σ (σ 0 6)) 0 rfl rfl k_Mo_set m_1061 (Nat.le_of_ble_eq_true rfl) (Nat.le_of_ble_eq_true rfl) ⟨rfl, rfl⟩ rfl hl.1 rfl (Nat.le_of_ble_eq_true rfl) d_Mo_alter_130 hcs (fun r17 s18 H locs e_r17 e_s18 w => ?_)
      refine pM0_7 (pc := 133) F w (F.2.2.2.2 _ m_782) d_Mo_alter_133 (fun H locs s19 e_s19 w => ?_)
      refine lv_goto (pc := 136) F.1 F.2.1 d_Mo_alter_136 (tgt := 195) (by decide) ?_
      exact k1 s19 _ _ _ ⟨(by rw [e_s19, e_s18, e_r17]; exact Eq.symm (Eq.trans (if_neg h1_13) (Eq.trans (if_neg h1_14) (Eq.trans (if_neg h1_15) (Eq.trans (if_neg h1_16) (Eq.trans (if_neg h1_17) (Eq.trans (if_neg h1_18) (Eq.trans (if_pos h1_19) (rfl))))))))), w, lv_sub hl [0, 1] rfl⟩
    by_cases h1_20 : x1 = 20
    · refine lv_tableIn (pc := 1) F.1 F.2.1 d_Mo_alter_1 (tgt := 139) (by rw [h1_20]; decide) (by rw [h1_20]; decide) (by rw [h1_20]; rfl) (by decide) ?_
      refine lv_aload_n (pc := 139) F.1 F.2.1 d_Mo_alter_139 rfl (lv_at hl 0 rfl) ?_
      refine lv_aload_n (pc := 140) F.1 F.2.1 d_Mo_alter_140 rfl (lv_at hl 0 rfl) ?_
      refine lv_aload_n (pc := 141) F.1 F.2.1 d_Mo_alter_141 rfl (lv_at hl 0 rfl) ?_
      refine gM0_7 (pc := 142) F w (F.2.2.2.2 _ m_782) d_Mo_alter_142 ?_
      refine Cvi (pc := 145) (As := [.int (σ 0 7)]) (rest := [.ref (am 0)]) F w (c_Mo_set l D cI am σ (σ 0 7)) 0 rfl rfl k_Mo_set m_1061 (Nat.le_of_ble_eq_true rfl) (Nat.le_of_ble_eq_true rfl) ⟨rfl, rfl⟩ rfl hl.1 rfl (Nat.le_of_ble_eq_true rfl) d_Mo_alter_145 hcs (fun r20 s21 H locs e_r20 e_s21 w => ?_)
      refine pM0_6 (pc := 148) F w (F.2.2.2.2 _ m_781) d_Mo_alter_148 (fun H locs s22 e_s22 w => ?_)
      refine lv_goto (pc := 151) F.1 F.2.1 d_Mo_alter_151 (tgt := 195) (by decide) ?_
      exact k1 s22 _ _ _ ⟨(by rw [e_s22, e_s21, e_r20]; exact Eq.symm (Eq.trans (if_neg h1_13) (Eq.trans (if_neg h1_14) (Eq.trans (if_neg h1_15) (Eq.trans (if_neg h1_16) (Eq.trans (if_neg h1_17) (Eq.trans (if_neg h1_18) (Eq.trans (if_neg h1_19) (Eq.trans (if_pos h1_20) (rfl)))))))))), w, lv_sub hl [0, 1] rfl⟩
    by_cases h1_21 : x1 = 21
    · refine lv_tableIn (pc := 1) F.1 F.2.1 d_Mo_alter_1 (tgt := 154) (by rw [h1_21]; decide) (by rw [h1_21]; decide) (by rw [h1_21]; rfl) (by decide) ?_
      refine lv_aload_n (pc := 154) F.1 F.2.1 d_Mo_alter_154 rfl (lv_at hl 0 rfl) ?_
      refine lv_aload_n (pc := 155) F.1 F.2.1 d_Mo_alter_155 rfl (lv_at hl 0 rfl) ?_
      refine gM0_6 (pc := 156) F w (F.2.2.2.2 _ m_781) d_Mo_alter_156 ?_
      refine Cvv (pc := 159) (As := [.int (σ 0 6)]) (rest := []) F w (c_Mo_push l D cI am σ (σ 0 6) hI) 0 rfl rfl k_Mo_push m_1006 (Nat.le_of_ble_eq_true rfl) (Nat.le_of_ble_eq_true rfl) ⟨rfl, rfl⟩ rfl hl.1 rfl (Nat.le_of_ble_eq_true rfl) d_Mo_alter_159 hcs (fun s23 H locs e_s23 w => ?_)
      have iJM_s23 : JM s23 := by rw [e_s23]; exact iJM_Mo_push hI (σ 0 6)
      refine lv_goto (pc := 162) F.1 F.2.1 d_Mo_alter_162 (tgt := 195) (by decide) ?_
      exact k1 s23 _ _ _ ⟨(by rw [e_s23]; exact Eq.symm (Eq.trans (if_neg h1_13) (Eq.trans (if_neg h1_14) (Eq.trans (if_neg h1_15) (Eq.trans (if_neg h1_16) (Eq.trans (if_neg h1_17) (Eq.trans (if_neg h1_18) (Eq.trans (if_neg h1_19) (Eq.trans (if_neg h1_20) (Eq.trans (if_pos h1_21) (rfl))))))))))), w, lv_sub hl [0, 1] rfl⟩
    by_cases h1_22 : x1 = 22
    · refine lv_tableIn (pc := 1) F.1 F.2.1 d_Mo_alter_1 (tgt := 165) (by rw [h1_22]; decide) (by rw [h1_22]; decide) (by rw [h1_22]; rfl) (by decide) ?_
      refine lv_aload_n (pc := 165) F.1 F.2.1 d_Mo_alter_165 rfl (lv_at hl 0 rfl) ?_
      refine lv_aload_n (pc := 166) F.1 F.2.1 d_Mo_alter_166 rfl (lv_at hl 0 rfl) ?_
      refine lv_aload_n (pc := 167) F.1 F.2.1 d_Mo_alter_167 rfl (lv_at hl 0 rfl) ?_
      refine Cvi (pc := 168) (As := []) (rest := [.ref (am 0), .ref (am 0)]) F w (c_Mo_pull l D cI am σ hI) 0 rfl rfl k_Mo_pull m_1026 (Nat.le_of_ble_eq_true rfl) (Nat.le_of_ble_eq_true rfl) ⟨rfl, rfl⟩ rfl hl.1 rfl (Nat.le_of_ble_eq_true rfl) d_Mo_alter_168 hcs (fun r24 s25 H locs e_r24 e_s25 w => ?_)
      have iJM_s25 : JM s25 := by rw [e_s25]; exact iJM_Mo_pull hI 
      refine Cvi (pc := 171) (As := [.int r24]) (rest := [.ref (am 0)]) F w (c_Mo_set l D cI am s25 r24) 0 rfl rfl k_Mo_set m_1061 (Nat.le_of_ble_eq_true rfl) (Nat.le_of_ble_eq_true rfl) ⟨rfl, rfl⟩ rfl hl.1 rfl (Nat.le_of_ble_eq_true rfl) d_Mo_alter_171 hcs (fun r26 s27 H locs e_r26 e_s27 w => ?_)
      refine pM0_6 (pc := 174) F w (F.2.2.2.2 _ m_781) d_Mo_alter_174 (fun H locs s28 e_s28 w => ?_)
      refine lv_goto (pc := 177) F.1 F.2.1 d_Mo_alter_177 (tgt := 195) (by decide) ?_
      exact k1 s28 _ _ _ ⟨(by rw [e_s28, e_s27, e_r26, e_s25, e_r24]; exact Eq.symm (Eq.trans (if_neg h1_13) (Eq.trans (if_neg h1_14) (Eq.trans (if_neg h1_15) (Eq.trans (if_neg h1_16) (Eq.trans (if_neg h1_17) (Eq.trans (if_neg h1_18) (Eq.trans (if_neg h1_19) (Eq.trans (if_neg h1_20) (Eq.trans (if_neg h1_21) (Eq.trans (if_pos h1_22) (rfl)))))))))))), w, lv_sub hl [0, 1] rfl⟩
    refine lv_tableOut (pc := 1) F.1 F.2.1 d_Mo_alter_1 (tgt := 180) (by have q_h1_13 := lv_neT h1_13 (a := 13) rfl; have q_h1_14 := lv_neT h1_14 (a := 14) rfl; have q_h1_15 := lv_neT h1_15 (a := 15) rfl; have q_h1_16 := lv_neT h1_16 (a := 16) rfl; have q_h1_17 := lv_neT h1_17 (a := 17) rfl; have q_h1_18 := lv_neT h1_18 (a := 18) rfl; have q_h1_19 := lv_neT h1_19 (a := 19) rfl; have q_h1_20 := lv_neT h1_20 (a := 20) rfl; have q_h1_21 := lv_neT h1_21 (a := 21) rfl; have q_h1_22 := lv_neT h1_22 (a := 22) rfl; omega) (by decide) ?_
    refine lv_aload_n (pc := 180) F.1 F.2.1 d_Mo_alter_180 rfl (lv_at hl 0 rfl) ?_
    refine lv_iload_n (pc := 181) F.1 F.2.1 d_Mo_alter_181 rfl (lv_at hl 1 rfl) ?_
    refine lv_bipush (pc := 182) (v := 24) F.1 F.2.1 d_Mo_alter_182 (by decide) ?_
    refine cutW (α := Int32) (fun x H locs ls => x = f_Mo_alter_r184_3 x1 ∧ Wx D cI (wM cI am) (AM am) (AM am) s s.heap H locs σ ∧ lv_has ls 2 [(0, .ref (am 0)), (1, .int x1)]) (fun x ls => F0 m 192 ls [.int x, .ref (am 0)]) ?_ (fun k184 => ?_)
    · rintro v29 H locs ls ⟨ex, w, hl⟩
      have e_v29 := ex
      have w : Wx D cI (wM cI am) (AM am) (AM am) s s.heap H locs σ := w
      have hl : lv_has ls 2 [(0, .ref (am 0)), (1, .int x1)] := hl
      show W _ _ _ _ _ _ _ _ _ _ _ _ _ _ _ (F0 m 192 ls [.int v29, .ref (am 0)])
      refine pM0_13 (pc := 192) F w (e_v29 ▸ z_f_Mo_alter_r184_3_0 x1) (F.2.2.2.2 _ m_788) d_Mo_alter_192 (fun H locs s30 e_s30 w => ?_)
      have iJM_s30 : JM s30 := by rw [e_s30]; exact JM.car hI (e_v29 ▸ z_f_Mo_alter_r184_3_0 x1)
      exact k1 s30 _ _ _ ⟨(by rw [e_s30, e_v29]; exact Eq.symm (Eq.trans (if_neg h1_13) (Eq.trans (if_neg h1_14) (Eq.trans (if_neg h1_15) (Eq.trans (if_neg h1_16) (Eq.trans (if_neg h1_17) (Eq.trans (if_neg h1_18) (Eq.trans (if_neg h1_19) (Eq.trans (if_neg h1_20) (Eq.trans (if_neg h1_21) (Eq.trans (if_neg h1_22) (rfl)))))))))))), w, lv_sub hl [0, 1] rfl⟩
    · refine lv_icmp_ne (pc := 184) F.1 F.2.1 d_Mo_alter_184 (tgt := 191) (by decide) (fun h184 => ?_) (fun h184 => ?_)
      · refine lv_iconst (pc := 191) (v := 0) F.1 F.2.1 d_Mo_alter_191 (by decide) ?_
        exact k184 0 _ _ _ ⟨(by exact Eq.symm (Eq.trans (if_neg h184) (rfl))), w, lv_sub hl [0, 1] rfl⟩
      · refine lv_iconst (pc := 187) (v := 1) F.1 F.2.1 d_Mo_alter_187 (by decide) ?_
        refine lv_goto (pc := 188) F.1 F.2.1 d_Mo_alter_188 (tgt := 192) (by decide) ?_
        exact k184 1 _ _ _ ⟨(by exact Eq.symm (Eq.trans (if_pos h184) (rfl))), w, lv_sub hl [0, 1] rfl⟩
