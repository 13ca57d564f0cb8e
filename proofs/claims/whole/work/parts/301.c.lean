def f_Bd_store_r49 (x1 : Int32) (x2 : Int32) (s1 : Sg) : Sg := if ((x1 &&& 1023) - 768) = 5 then (let s2 := sf s1 3 0 1; s2) else if ((x1 &&& 1023) - 768) = 7 then (let s3 := sf s1 6 5 0; s3) else if ((x1 &&& 1023) - 768) = 18 then (let s4 := f_Pc_forgetCollisions s1; s4) else if ((x1 &&& 1023) - 768) = 22 then (let s5 := f_Ch_startTimer s1; s5) else if ((x1 &&& 1023) - 768) = 23 then (let s6 := f_Dr_gather s1 x2; s6) else (s1)
def f_Bd_store (σ : Sg) (x1 : Int32) (x2 : Int32) : Sg := if 768 ≤ (x1 &&& 1023) then (if ((x1 &&& 1023) - 768) < 32 then (let s1 := sf σ 11 ((x1 &&& 1023) - 768).toNatClampNeg x2; let s7 := (f_Bd_store_r49 x1 x2 s1); s7) else (σ)) else (let s8 := sf σ 10 (x1 &&& 1023).toNatClampNeg x2; s8)
set_option maxHeartbeats 1000000 in
set_option maxRecDepth 100000 in
theorem c_Bd_store (l : Launch) (D : va_G) (cI : ClassId) (ad : Nat → Nat) (σ : Sg) (x1 : Int32) (x2 : Int32) (hI : IC σ) : Met l y_Bd_store (Cond.code y_Bd_store b_Bd_store 5 none :: al) { frames := 3, cells := 0, slots := 0, locals := 106 } (Px D cI (wC cI ad) (AC ad) σ [.ref (ad 1), .int x1, .int x2]) (va_Qv (fun u => u = f_Bd_store σ x1 x2) (Bx D cI (wC cI ad) (AC ad)) (AC ad)) 0 0 (AC ad) := by
  refine Mx l (by decide) (Nat.le_of_ble_eq_true rfl) ?_
  intro p e s m below meth c ls F w hr hlk hl
  have F : CallFix p m c b_Bd_store 5 s _ al "PictureMachine$Board" := F
  have hl : lv_has ls 5 [(0, .ref (ad 1)), (1, .int x1), (2, .int x2)] := hl
  have hcs : (0 : Nat) ≤ 0 ∧ (0 : Nat) ≤ 0 := ⟨Nat.le_refl _, Nat.le_refl _⟩
  refine lv_iload_n (pc := 0) F.1 F.2.1 d_Bd_store_0 rfl (lv_at hl 1 rfl) ?_
  refine lv_sipush (pc := 1) (v := 1023) F.1 F.2.1 d_Bd_store_1 (by decide) ?_
  refine lv_iand (pc := 4) F.1 F.2.1 d_Bd_store_4 ?_
  refine lv_istore_n (pc := 5) F.1 F.2.1 d_Bd_store_5 rfl hl (by decide) rfl (fun ls hl => ?_)
  have hl : lv_has ls 5 [(3, .int (x1 &&& 1023)), (0, .ref (ad 1)), (1, .int x1), (2, .int x2)] := hl
  refine lv_iload_n (pc := 6) F.1 F.2.1 d_Bd_store_6 rfl (lv_at hl 0 rfl) ?_
  refine lv_sipush (pc := 7) (v := 768) F.1 F.2.1 d_Bd_store_7 (by decide) ?_
  refine lv_icmp_ge (pc := 10) F.1 F.2.1 d_Bd_store_10 (tgt := 24) (by decide) (fun h10 => ?_) (fun h10 => ?_)
  · refine lv_iload_n (pc := 24) F.1 F.2.1 d_Bd_store_24 rfl (lv_at hl 0 rfl) ?_
    refine lv_sipush (pc := 25) (v := 768) F.1 F.2.1 d_Bd_store_25 (by decide) ?_
    refine lv_isub (pc := 28) F.1 F.2.1 d_Bd_store_28 ?_
    refine lv_istore (pc := 29) F.1 F.2.1 d_Bd_store_29 hl (by decide) rfl (fun ls hl => ?_)
    have hl : lv_has ls 5 [(4, .int ((x1 &&& 1023) - 768)), (3, .int (x1 &&& 1023)), (0, .ref (ad 1)), (1, .int x1), (2, .int x2)] := hl
    refine lv_iload (pc := 31) F.1 F.2.1 d_Bd_store_31 (lv_at hl 0 rfl) ?_
    refine lv_bipush (pc := 33) (v := 32) F.1 F.2.1 d_Bd_store_33 (by decide) ?_
    refine lv_icmp_lt (pc := 35) F.1 F.2.1 d_Bd_store_35 (tgt := 39) (by decide) (fun h35 => ?_) (fun h35 => ?_)
    · refine lv_aload_n (pc := 39) F.1 F.2.1 d_Bd_store_39 rfl (lv_at hl 2 rfl) ?_
      refine gC1_3 (pc := 40) F w (F.2.2.2.2 _ m_235) d_Bd_store_40 ?_
      refine lv_iload (pc := 43) F.1 F.2.1 d_Bd_store_43 (lv_at hl 0 rfl) ?_
      refine lv_iload_n (pc := 45) F.1 F.2.1 d_Bd_store_45 rfl (lv_at hl 4 rfl) ?_
      refine aC11 (pc := 46) F w (by first | exact in32' (by assumption) (Int32.not_le.mpr (by assumption)) | exact in32 (by assumption) (by assumption) | exact in32' (by assumption) (by assumption)) d_Bd_store_46 (fun H locs s1 e_s1 w => ?_)
      have iIC_s1 : IC s1 := by rw [e_s1]; exact hI
      refine lv_iload (pc := 47) F.1 F.2.1 d_Bd_store_47 (lv_at hl 0 rfl) ?_
      refine cutW (α := Sg) (fun x H locs ls => x = f_Bd_store_r49 x1 x2 s1 ∧ Wx D cI (wC cI ad) (AC ad) (AC ad) s s.heap H locs x ∧ lv_has ls 5 [(0, .ref (ad 1)), (1, .int x1), (2, .int x2), (3, .int (x1 &&& 1023)), (4, .int ((x1 &&& 1023) - 768))]) (fun x ls => F0 m 153 ls []) ?_ (fun k49 => ?_)
      · rintro s7 H locs ls ⟨ex, w, hl⟩
        have e_s7 := ex
        have w : Wx D cI (wC cI ad) (AC ad) (AC ad) s s.heap H locs s7 := w
        have hl : lv_has ls 5 [(0, .ref (ad 1)), (1, .int x1), (2, .int x2), (3, .int (x1 &&& 1023)), (4, .int ((x1 &&& 1023) - 768))] := hl
        show W _ _ _ _ _ _ _ _ _ _ _ _ _ _ _ (F0 m 153 ls [])
        exact Rv (pc := 153) F hr hlk w (by rw [e_s7, e_s1]; exact Eq.symm (Eq.trans (if_pos h10) (Eq.trans (if_pos h35) (rfl)))) d_Bd_store_153
      · by_cases h49_5 : ((x1 &&& 1023) - 768) = 5
        · refine lv_lookup (pc := 49) F.1 F.2.1 d_Bd_store_49 (by decide) (off := 51) (tgt := 100) (by rw [h49_5]; decide) (by decide) ?_
          refine lv_aload_n (pc := 100) F.1 F.2.1 d_Bd_store_100 rfl (lv_at hl 2 rfl) ?_
          refine gC1_1 (pc := 101) F w (F.2.2.2.2 _ m_229) d_Bd_store_101 ?_
          refine lv_iconst (pc := 104) (v := 1) F.1 F.2.1 d_Bd_store_104 (by decide) ?_
          refine pNC3_0 (pc := 105) F w (Or.inr rfl) m_60 d_Bd_store_105 (fun H locs s2 e_s2 w => ?_)
          have iIC_s2 : IC s2 := by rw [e_s2]; exact iIC_s1
          refine lv_goto (pc := 108) F.1 F.2.1 d_Bd_store_108 (tgt := 153) (by decide) ?_
          exact k49 s2 _ _ _ ⟨(by rw [e_s2]; exact Eq.symm (Eq.trans (if_pos h49_5) (rfl))), w, lv_sub hl [2, 3, 4, 1, 0] rfl⟩
        by_cases h49_7 : ((x1 &&& 1023) - 768) = 7
        · refine lv_lookup (pc := 49) F.1 F.2.1 d_Bd_store_49 (by decide) (off := 62) (tgt := 111) (by rw [h49_7]; decide) (by decide) ?_
          refine lv_aload_n (pc := 111) F.1 F.2.1 d_Bd_store_111 rfl (lv_at hl 2 rfl) ?_
          refine gC1_5 (pc := 112) F w (F.2.2.2.2 _ m_239) d_Bd_store_112 ?_
          refine lv_iconst (pc := 115) (v := 0) F.1 F.2.1 d_Bd_store_115 (by decide) ?_
          refine pNC6_5 (pc := 116) F w m_158 d_Bd_store_116 (fun H locs s3 e_s3 w => ?_)
          have iIC_s3 : IC s3 := by rw [e_s3]; exact iIC_s1
          refine lv_goto (pc := 119) F.1 F.2.1 d_Bd_store_119 (tgt := 153) (by decide) ?_
          exact k49 s3 _ _ _ ⟨(by rw [e_s3]; exact Eq.symm (Eq.trans (if_neg h49_5) (Eq.trans (if_pos h49_7) (rfl)))), w, lv_sub hl [2, 3, 4, 1, 0] rfl⟩
        by_cases h49_18 : ((x1 &&& 1023) - 768) = 18
        · refine lv_lookup (pc := 49) F.1 F.2.1 d_Bd_store_49 (by decide) (off := 73) (tgt := 122) (by rw [h49_18]; decide) (by decide) ?_
          refine lv_aload_n (pc := 122) F.1 F.2.1 d_Bd_store_122 rfl (lv_at hl 2 rfl) ?_
          refine gC1_6 (pc := 123) F w (F.2.2.2.2 _ m_241) d_Bd_store_123 ?_
          refine Cvv (pc := 126) (As := []) (rest := []) F w (c_Pc_forgetCollisions l D cI ad s1) 7 rfl rfl k_Pc_forgetCollisions m_462 (Nat.le_of_ble_eq_true rfl) (Nat.le_of_ble_eq_true rfl) ⟨rfl, rfl⟩ rfl hl.1 rfl (Nat.le_of_ble_eq_true rfl) d_Bd_store_126 hcs (fun s4 H locs e_s4 w => ?_)
          refine lv_goto (pc := 129) F.1 F.2.1 d_Bd_store_129 (tgt := 153) (by decide) ?_
          exact k49 s4 _ _ _ ⟨(by rw [e_s4]; exact Eq.symm (Eq.trans (if_neg h49_5) (Eq.trans (if_neg h49_7) (Eq.trans (if_pos h49_18) (rfl))))), w, lv_sub hl [2, 3, 4, 1, 0] rfl⟩
        by_cases h49_22 : ((x1 &&& 1023) - 768) = 22
        · refine lv_lookup (pc := 49) F.1 F.2.1 d_Bd_store_49 (by decide) (off := 83) (tgt := 132) (by rw [h49_22]; decide) (by decide) ?_
          refine lv_aload_n (pc := 132) F.1 F.2.1 d_Bd_store_132 rfl (lv_at hl 2 rfl) ?_
          refine gC1_4 (pc := 133) F w (F.2.2.2.2 _ m_237) d_Bd_store_133 ?_
          refine Cvv (pc := 136) (As := []) (rest := []) F w (c_Ch_startTimer l D cI ad s1) 5 rfl rfl k_Ch_startTimer m_466 (Nat.le_of_ble_eq_true rfl) (Nat.le_of_ble_eq_true rfl) ⟨rfl, rfl⟩ rfl hl.1 rfl (Nat.le_of_ble_eq_true rfl) d_Bd_store_136 hcs (fun s5 H locs e_s5 w => ?_)
          refine lv_goto (pc := 139) F.1 F.2.1 d_Bd_store_139 (tgt := 153) (by decide) ?_
          exact k49 s5 _ _ _ ⟨(by rw [e_s5]; exact Eq.symm (Eq.trans (if_neg h49_5) (Eq.trans (if_neg h49_7) (Eq.trans (if_neg h49_18) (Eq.trans (if_pos h49_22) (rfl)))))), w, lv_sub hl [2, 3, 4, 1, 0] rfl⟩
        by_cases h49_23 : ((x1 &&& 1023) - 768) = 23
        · refine lv_lookup (pc := 49) F.1 F.2.1 d_Bd_store_49 (by decide) (off := 93) (tgt := 142) (by rw [h49_23]; decide) (by decide) ?_
          refine lv_aload_n (pc := 142) F.1 F.2.1 d_Bd_store_142 rfl (lv_at hl 2 rfl) ?_
          refine gC1_7 (pc := 143) F w (F.2.2.2.2 _ m_243) d_Bd_store_143 ?_
          refine lv_iload_n (pc := 146) F.1 F.2.1 d_Bd_store_146 rfl (lv_at hl 4 rfl) ?_
          refine Cvv (pc := 147) (As := [.int x2]) (rest := []) F w (c_Dr_gather l D cI ad s1 x2 iIC_s1) 8 rfl rfl k_Dr_gather m_470 (Nat.le_of_ble_eq_true rfl) (Nat.le_of_ble_eq_true rfl) ⟨rfl, rfl⟩ rfl hl.1 rfl (Nat.le_of_ble_eq_true rfl) d_Bd_store_147 hcs (fun s6 H locs e_s6 w => ?_)
          refine lv_goto (pc := 150) F.1 F.2.1 d_Bd_store_150 (tgt := 153) (by decide) ?_
          exact k49 s6 _ _ _ ⟨(by rw [e_s6]; exact Eq.symm (Eq.trans (if_neg h49_5) (Eq.trans (if_neg h49_7) (Eq.trans (if_neg h49_18) (Eq.trans (if_neg h49_22) (Eq.trans (if_pos h49_23) (rfl))))))), w, lv_sub hl [2, 3, 4, 1, 0] rfl⟩
        refine lv_lookup (pc := 49) F.1 F.2.1 d_Bd_store_49 (by decide) (off := 104) (tgt := 153) ((lv_osw h49_5 rfl).trans ((lv_osw h49_7 rfl).trans ((lv_osw h49_18 rfl).trans ((lv_osw h49_22 rfl).trans ((lv_osw h49_23 rfl).trans (rfl)))))) (by decide) ?_
        exact k49 s1 _ _ _ ⟨(by exact Eq.symm (Eq.trans (if_neg h49_5) (Eq.trans (if_neg h49_7) (Eq.trans (if_neg h49_18) (Eq.trans (if_neg h49_22) (Eq.trans (if_neg h49_23) (rfl))))))), w, lv_sub hl [2, 3, 4, 1, 0] rfl⟩
    · exact Rv (pc := 38) F hr hlk w (by exact Eq.symm (Eq.trans (if_pos h10) (Eq.trans (if_neg h35) (rfl)))) d_Bd_store_38
  · refine lv_aload_n (pc := 13) F.1 F.2.1 d_Bd_store_13 rfl (lv_at hl 1 rfl) ?_
    refine gC1_2 (pc := 14) F w (F.2.2.2.2 _ m_232) d_Bd_store_14 ?_
    refine gNC4_0 (pc := 17) F w m_77 d_Bd_store_17 ?_
    refine lv_iload_n (pc := 20) F.1 F.2.1 d_Bd_store_20 rfl (lv_at hl 0 rfl) ?_
    refine lv_iload_n (pc := 21) F.1 F.2.1 d_Bd_store_21 rfl (lv_at hl 3 rfl) ?_
    refine aC10 (pc := 22) F w (by first | exact in768 (by assumption) | exact in768' (by assumption)) d_Bd_store_22 (fun H locs s8 e_s8 w => ?_)
    have iIC_s8 : IC s8 := by rw [e_s8]; exact hI
    exact Rv (pc := 23) F hr hlk w (by rw [e_s8]; exact Eq.symm (Eq.trans (if_neg h10) (rfl))) d_Bd_store_23
def f_Pm_write_r1 (x1 : Int32) (x2 : Int32) : Int32 := if x1 < 0 then (0) else (if 32 ≤ x1 then (0) else (let r1 := f_Pm_isByte x2; if r1 = 0 then (0) else (1)))
def f_Pm_write (σ : Sg) (x1 : Int32) (x2 : Int32) : Sg := let v2 := (f_Pm_write_r1 x1 x2); let s3 := f_Bd_store σ (768 + x1) x2; s3
theorem z_f_Pm_write_r1_0 (x1 : Int32) (x2 : Int32) : (f_Pm_write_r1 x1 x2) = 0 ∨ (f_Pm_write_r1 x1 x2) = 1 := by unfold f_Pm_write_r1; (try dsimp only); (repeat' split) <;> first | exact Or.inl rfl | exact Or.inr rfl | apply z_Pm_isByte
set_option maxHeartbeats 1000000 in
set_option maxRecDepth 100000 in
theorem c_Pm_write (l : Launch) (D : va_G) (cI : ClassId) (ad : Nat → Nat) (σ : Sg) (x1 : Int32) (x2 : Int32) (hI : IC σ) (hp : ¬ (f_Pm_write_r1 x1 x2) = 0) : Met l y_Pm_write (Cond.code y_Pm_write b_Pm_write 3 none :: al) { frames := 4, cells := 0, slots := 0, locals := 130 } (Px D cI (wC cI ad) (AC ad) σ [.ref (ad 0), .int x1, .int x2]) (va_Qv (fun u => u = f_Pm_write σ x1 x2) (Bx D cI (wC cI ad) (AC ad)) (AC ad)) 0 0 (AC ad) := by
  refine Mx l (by decide) (Nat.le_of_ble_eq_true rfl) ?_
  intro p e s m below meth c ls F w hr hlk hl
  have F : CallFix p m c b_Pm_write 3 s _ al "PictureMachine" := F
  have hl : lv_has ls 3 [(0, .ref (ad 0)), (1, .int x1), (2, .int x2)] := hl
  have hcs : (0 : Nat) ≤ 0 ∧ (0 : Nat) ≤ 0 := ⟨Nat.le_refl _, Nat.le_refl _⟩
  refine lv_iload_n (pc := 0) F.1 F.2.1 d_Pm_write_0 rfl (lv_at hl 1 rfl) ?_
  refine cutW (α := Int32) (fun x H locs ls => x = f_Pm_write_r1 x1 x2 ∧ Wx D cI (wC cI ad) (AC ad) (AC ad) s s.heap H locs σ ∧ lv_has ls 3 [(0, .ref (ad 0)), (1, .int x1), (2, .int x2)]) (fun x ls => F0 m 22 ls [.int x]) ?_ (fun k1 => ?_)
  · rintro v2 H locs ls ⟨ex, w, hl⟩
    have e_v2 := ex
    have w : Wx D cI (wC cI ad) (AC ad) (AC ad) s s.heap H locs σ := w
    have hl : lv_has ls 3 [(0, .ref (ad 0)), (1, .int x1), (2, .int x2)] := hl
    show W _ _ _ _ _ _ _ _ _ _ _ _ _ _ _ (F0 m 22 ls [.int v2])
    refine Usv (pc := 22) F (c_Pm_need l (by rw [e_v2]; exact hp)) k_Pm_need m_371 (Nat.le_of_ble_eq_true rfl) (Nat.le_of_ble_eq_true rfl) ⟨rfl, rfl⟩ rfl hl.1 rfl (Nat.le_of_ble_eq_true rfl) d_Pm_write_22 hcs ?_
    refine lv_aload_n (pc := 25) F.1 F.2.1 d_Pm_write_25 rfl (lv_at hl 0 rfl) ?_
    refine gC0_0 (pc := 26) F w (F.2.2.2.2 _ m_319) d_Pm_write_26 ?_
    refine lv_sipush (pc := 29) (v := 768) F.1 F.2.1 d_Pm_write_29 (by decide) ?_
    refine lv_iload_n (pc := 32) F.1 F.2.1 d_Pm_write_32 rfl (lv_at hl 1 rfl) ?_
    refine lv_iadd (pc := 33) F.1 F.2.1 d_Pm_write_33 ?_
    refine lv_iload_n (pc := 34) F.1 F.2.1 d_Pm_write_34 rfl (lv_at hl 2 rfl) ?_
    refine Cvv (pc := 35) (As := [.int (768 + x1), .int x2]) (rest := []) F w (c_Bd_store l D cI ad σ (768 + x1) x2 hI) 1 rfl rfl k_Bd_store m_458 (Nat.le_of_ble_eq_true rfl) (Nat.le_of_ble_eq_true rfl) ⟨rfl, rfl⟩ rfl hl.1 rfl (Nat.le_of_ble_eq_true rfl) d_Pm_write_35 hcs (fun s3 H locs e_s3 w => ?_)
    exact Rv (pc := 38) F hr hlk w (by rw [e_s3]; exact Eq.symm (rfl)) d_Pm_write_38
  · refine lv_if_lt (pc := 1) F.1 F.2.1 d_Pm_write_1 (tgt := 21) (by decide) (fun h1 => ?_) (fun h1 => ?_)
    · refine lv_iconst (pc := 21) (v := 0) F.1 F.2.1 d_Pm_write_21 (by decide) ?_
      exact k1 0 _ _ _ ⟨(by exact Eq.symm (Eq.trans (if_pos h1) (rfl))), w, lv_sub hl [0, 1, 2] rfl⟩
    · refine lv_iload_n (pc := 4) F.1 F.2.1 d_Pm_write_4 rfl (lv_at hl 1 rfl) ?_
      refine lv_bipush (pc := 5) (v := 32) F.1 F.2.1 d_Pm_write_5 (by decide) ?_
      refine lv_icmp_ge (pc := 7) F.1 F.2.1 d_Pm_write_7 (tgt := 21) (by decide) (fun h7 => ?_) (fun h7 => ?_)
      · refine lv_iconst (pc := 21) (v := 0) F.1 F.2.1 d_Pm_write_21 (by decide) ?_
        exact k1 0 _ _ _ ⟨(by exact Eq.symm (Eq.trans (if_neg h1) (Eq.trans (if_pos h7) (rfl)))), w, lv_sub hl [0, 1, 2] rfl⟩
      · refine lv_iload_n (pc := 10) F.1 F.2.1 d_Pm_write_10 rfl (lv_at hl 2 rfl) ?_
        refine Usi (pc := 11) (As := [.int x2]) (rest := []) F (c_Pm_isByte l x2) k_Pm_isByte m_368 (Nat.le_of_ble_eq_true rfl) (Nat.le_of_ble_eq_true rfl) ⟨rfl, rfl⟩ rfl hl.1 rfl (Nat.le_of_ble_eq_true rfl) d_Pm_write_11 hcs (fun r1 e_r1 => ?_)
        refine lv_if_eq (pc := 14) F.1 F.2.1 d_Pm_write_14 (tgt := 21) (by decide) (fun h14 => ?_) (fun h14 => ?_)
        · refine lv_iconst (pc := 21) (v := 0) F.1 F.2.1 d_Pm_write_21 (by decide) ?_
          exact k1 0 _ _ _ ⟨(by rw [e_r1] at h14; exact Eq.symm (Eq.trans (if_neg h1) (Eq.trans (if_neg h7) (Eq.trans (if_pos h14) (rfl))))), w, lv_sub hl [0, 1, 2] rfl⟩
        · refine lv_iconst (pc := 17) (v := 1) F.1 F.2.1 d_Pm_write_17 (by decide) ?_
          refine lv_goto (pc := 18) F.1 F.2.1 d_Pm_write_18 (tgt := 22) (by decide) ?_
          exact k1 1 _ _ _ ⟨(by rw [e_r1] at h14; exact Eq.symm (Eq.trans (if_neg h1) (Eq.trans (if_neg h7) (Eq.trans (if_neg h14) (rfl))))), w, lv_sub hl [0, 1, 2] rfl⟩
set_option maxHeartbeats 1000000 in
set_option maxRecDepth 100000 in
theorem t_Pm_write (l : Launch) (htr : l.stackTraces = false) (A : Nat → Prop) (ad : Nat → Nat)  (x1 : Int32) (x2 : Int32) (hp : (f_Pm_write_r1 x1 x2) = 0) : MetT l y_Pm_write (Cond.code y_Pm_write b_Pm_write 3 none :: al) { frames := 7, cells := 1, slots := 6, locals := 128 } (PZ A [.ref (ad 0), .int x1, .int x2]) (QX "java/lang/IllegalArgumentException") 1 6 (fun _ => False) := by
  refine MuT l (by decide) (Nat.le_of_ble_eq_true rfl) ?_
  intro p e s m below meth c ls F hno hlk hl hZ
  have F : CallFix p m c b_Pm_write 3 s _ al "PictureMachine" := F
  generalize hH : s.heap = H
  generalize hlo : ([] : List Loc) = locs
  have w : (H = s.heap ∧ locs = []) := ⟨hH.symm, hlo.symm⟩
  have hl : lv_has ls 3 [(0, .ref (ad 0)), (1, .int x1), (2, .int x2)] := hl
  have hcs : (0 : Nat) ≤ 1 ∧ (0 : Nat) ≤ 6 := ⟨Nat.zero_le _, Nat.zero_le _⟩
  refine lv_iload_n (pc := 0) F.1 F.2.1 d_Pm_write_0 rfl (lv_at hl 1 rfl) ?_
  refine cutW (α := Int32) (fun x H locs ls => x = f_Pm_write_r1 x1 x2 ∧ (H = s.heap ∧ locs = []) ∧ lv_has ls 3 [(0, .ref (ad 0)), (1, .int x1), (2, .int x2)]) (fun x ls => F0 m 22 ls [.int x]) ?_ (fun k1 => ?_)
  · rintro v2 H locs ls ⟨ex, w, hl⟩
    have e_v2 := ex
    have w : (H = s.heap ∧ locs = []) := w
    have hl : lv_has ls 3 [(0, .ref (ad 0)), (1, .int x1), (2, .int x2)] := hl
    show W _ _ _ _ _ _ _ _ _ _ _ _ _ _ _ (F0 m 22 ls [.int v2])
    exact needT F (t_Pm_need l htr A (x1 := v2) (by rw [e_v2]; exact hp)) k_Pm_need m_371 (Nat.le_of_ble_eq_true rfl) (Nat.le_of_ble_eq_true rfl) (Nat.le_of_ble_eq_true rfl) (Nat.le_of_ble_eq_true rfl) rfl rfl hl.1 hZ w hno hlk d_Pm_write_22
  · refine lv_if_lt (pc := 1) F.1 F.2.1 d_Pm_write_1 (tgt := 21) (by decide) (fun h1 => ?_) (fun h1 => ?_)
    · refine lv_iconst (pc := 21) (v := 0) F.1 F.2.1 d_Pm_write_21 (by decide) ?_
      exact k1 0 _ _ _ ⟨(by exact Eq.symm (Eq.trans (if_pos h1) (rfl))), w, lv_sub hl [0, 1, 2] rfl⟩
    · refine lv_iload_n (pc := 4) F.1 F.2.1 d_Pm_write_4 rfl (lv_at hl 1 rfl) ?_
      refine lv_bipush (pc := 5) (v := 32) F.1 F.2.1 d_Pm_write_5 (by decide) ?_
      refine lv_icmp_ge (pc := 7) F.1 F.2.1 d_Pm_write_7 (tgt := 21) (by decide) (fun h7 => ?_) (fun h7 => ?_)
      · refine lv_iconst (pc := 21) (v := 0) F.1 F.2.1 d_Pm_write_21 (by decide) ?_
        exact k1 0 _ _ _ ⟨(by exact Eq.symm (Eq.trans (if_neg h1) (Eq.trans (if_pos h7) (rfl)))), w, lv_sub hl [0, 1, 2] rfl⟩
      · refine lv_iload_n (pc := 10) F.1 F.2.1 d_Pm_write_10 rfl (lv_at hl 2 rfl) ?_
        refine Usi (pc := 11) (As := [.int x2]) (rest := []) F (c_Pm_isByte l x2) k_Pm_isByte m_368 (Nat.le_of_ble_eq_true rfl) (Nat.le_of_ble_eq_true rfl) ⟨rfl, rfl⟩ rfl hl.1 rfl (Nat.le_of_ble_eq_true rfl) d_Pm_write_11 hcs (fun r1 e_r1 => ?_)
        refine lv_if_eq (pc := 14) F.1 F.2.1 d_Pm_write_14 (tgt := 21) (by decide) (fun h14 => ?_) (fun h14 => ?_)
        · refine lv_iconst (pc := 21) (v := 0) F.1 F.2.1 d_Pm_write_21 (by decide) ?_
          exact k1 0 _ _ _ ⟨(by rw [e_r1] at h14; exact Eq.symm (Eq.trans (if_neg h1) (Eq.trans (if_neg h7) (Eq.trans (if_pos h14) (rfl))))), w, lv_sub hl [0, 1, 2] rfl⟩
        · refine lv_iconst (pc := 17) (v := 1) F.1 F.2.1 d_Pm_write_17 (by decide) ?_
          refine lv_goto (pc := 18) F.1 F.2.1 d_Pm_write_18 (tgt := 22) (by decide) ?_
          exact k1 1 _ _ _ ⟨(by rw [e_r1] at h14; exact Eq.symm (Eq.trans (if_neg h1) (Eq.trans (if_neg h7) (Eq.trans (if_neg h14) (rfl))))), w, lv_sub hl [0, 1, 2] rfl⟩
def f_Dr_putByte (σ : Sg) (x1 : Int32) (x2 : Int32) (x3 : Int32) : Sg := let r1 := f_Dr_firstByteOf x1; let s2 := sf σ 16 (r1 + x2).toNatClampNeg x3; s2
set_option maxHeartbeats 1000000 in
set_option maxRecDepth 100000 in
theorem c_Dr_putByte (l : Launch) (D : va_G) (cI : ClassId) (ad : Nat → Nat) (σ : Sg) (x1 : Int32) (x2 : Int32) (x3 : Int32) (hq : bt2 1 x1 8 ∧ bt2 0 x2 7) : Met l y_Dr_putByte (Cond.code y_Dr_putByte b_Dr_putByte 4 none :: al) { frames := 1, cells := 0, slots := 0, locals := 20 } (Px D cI (wC cI ad) (AC ad) σ [.ref (ad 8), .int x1, .int x2, .int x3]) (va_Qv (fun u => u = f_Dr_putByte σ x1 x2 x3) (Bx D cI (wC cI ad) (AC ad)) (AC ad)) 0 0 (AC ad) := by
  refine Mx l (by decide) (Nat.le_of_ble_eq_true rfl) ?_
  intro p e s m below meth c ls F w hr hlk hl
  have F : CallFix p m c b_Dr_putByte 4 s _ al "PictureMachine$Drive" := F
  have hl : lv_has ls 4 [(0, .ref (ad 8)), (1, .int x1), (2, .int x2), (3, .int x3)] := hl
  have hcs : (0 : Nat) ≤ 0 ∧ (0 : Nat) ≤ 0 := ⟨Nat.le_refl _, Nat.le_refl _⟩
  refine lv_aload_n (pc := 0) F.1 F.2.1 d_Dr_putByte_0 rfl (lv_at hl 0 rfl) ?_
  refine gC8_0 (pc := 1) F w (F.2.2.2.2 _ m_88) d_Dr_putByte_1 ?_
  refine lv_iload_n (pc := 4) F.1 F.2.1 d_Dr_putByte_4 rfl (lv_at hl 1 rfl) ?_
  refine Usi (pc := 5) (As := [.int x1]) (rest := [.ref (ad 16)]) F (c_Dr_firstByteOf l x1) k_Dr_firstByteOf m_485 (Nat.le_of_ble_eq_true rfl) (Nat.le_of_ble_eq_true rfl) ⟨rfl, rfl⟩ rfl hl.1 rfl (Nat.le_of_ble_eq_true rfl) d_Dr_putByte_5 hcs (fun r1 e_r1 => ?_)
  refine lv_iload_n (pc := 8) F.1 F.2.1 d_Dr_putByte_8 rfl (lv_at hl 2 rfl) ?_
  refine lv_iadd (pc := 9) F.1 F.2.1 d_Dr_putByte_9 ?_
  refine lv_iload_n (pc := 10) F.1 F.2.1 d_Dr_putByte_10 rfl (lv_at hl 3 rfl) ?_
  refine aC16 (pc := 11) F w (by rw [e_r1]; exact fb_in hq.1 hq.2) d_Dr_putByte_11 (fun H locs s2 e_s2 w => ?_)
  exact Rv (pc := 12) F hr hlk w (by rw [e_s2, e_r1]; exact Eq.symm (rfl)) d_Dr_putByte_12
def f_Pm_disk_r5 (x3 : Int32) (r1 : Int32) : Int32 := if r1 = 0 then (0) else (let r2 := f_Pm_isByte x3; if r2 = 0 then (0) else (1))
def f_Pm_disk (σ : Sg) (x1 : Int32) (x2 : Int32) (x3 : Int32) : Sg := let r1 := f_Pm_isPlaceOnDisk x1 x2; let v3 := (f_Pm_disk_r5 x3 r1); let s4 := f_Dr_putByte σ x1 x2 x3; s4
theorem z_f_Pm_disk_r5_0 (x3 : Int32) (r1 : Int32) : (f_Pm_disk_r5 x3 r1) = 0 ∨ (f_Pm_disk_r5 x3 r1) = 1 := by unfold f_Pm_disk_r5; (try dsimp only); (repeat' split) <;> first | exact Or.inl rfl | exact Or.inr rfl | apply z_Pm_isByte | apply z_Pm_isPlaceOnDisk
theorem disk_ok {x1 x2 x3 : Int32} (h : ¬ f_Pm_disk_r5 x3 (f_Pm_isPlaceOnDisk x1 x2) = 0) : bt2 1 x1 8 ∧ bt2 0 x2 7 := by
  refine ipd_ok (fun e => h ?_)
  rw [e]
  rfl
set_option maxHeartbeats 1000000 in
set_option maxRecDepth 100000 in
theorem c_Pm_disk (l : Launch) (D : va_G) (cI : ClassId) (ad : Nat → Nat) (σ : Sg) (x1 : Int32) (x2 : Int32) (x3 : Int32) (hp : ¬ (f_Pm_disk_r5 x3 (f_Pm_isPlaceOnDisk x1 x2)) = 0) : Met l y_Pm_disk (Cond.code y_Pm_disk b_Pm_disk 4 none :: al) { frames := 2, cells := 0, slots := 0, locals := 43 } (Px D cI (wC cI ad) (AC ad) σ [.ref (ad 0), .int x1, .int x2, .int x3]) (va_Qv (fun u => u = f_Pm_disk σ x1 x2 x3) (Bx D cI (wC cI ad) (AC ad)) (AC ad)) 0 0 (AC ad) := by
  refine Mx l (by decide) (Nat.le_of_ble_eq_true rfl) ?_
  intro p e s m below meth c ls F w hr hlk hl
  have F : CallFix p m c b_Pm_disk 4 s _ al "PictureMachine" := F
  have hl : lv_has ls 4 [(0, .ref (ad 0)), (1, .int x1), (2, .int x2), (3, .int x3)] := hl
  have hcs : (0 : Nat) ≤ 0 ∧ (0 : Nat) ≤ 0 := ⟨Nat.le_refl _, Nat.le_refl _⟩
  refine lv_iload_n (pc := 0) F.1 F.2.1 d_Pm_disk_0 rfl (lv_at hl 1 rfl) ?_
  refine lv_iload_n (pc := 1) F.1 F.2.1 d_Pm_disk_1 rfl (lv_at hl 2 rfl) ?_
  refine Usi (pc := 2) (As := [.int x1, .int x2]) (rest := []) F (c_Pm_isPlaceOnDisk l x1 x2) k_Pm_isPlaceOnDisk m_505 (Nat.le_of_ble_eq_true rfl) (Nat.le_of_ble_eq_true rfl) ⟨rfl, rfl⟩ rfl hl.1 rfl (Nat.le_of_ble_eq_true rfl) d_Pm_disk_2 hcs (fun r1 e_r1 => ?_)
  refine cutW (α := Int32) (fun x H locs ls => x = f_Pm_disk_r5 x3 r1 ∧ Wx D cI (wC cI ad) (AC ad) (AC ad) s s.heap H locs σ ∧ lv_has ls 4 [(0, .ref (ad 0)), (1, .int x1), (2, .int x2), (3, .int x3)]) (fun x ls => F0 m 20 ls [.int x]) ?_ (fun k5 => ?_)
  · rintro v3 H locs ls ⟨ex, w, hl⟩
    have e_v3 := ex
    have w : Wx D cI (wC cI ad) (AC ad) (AC ad) s s.heap H locs σ := w
    have hl : lv_has ls 4 [(0, .ref (ad 0)), (1, .int x1), (2, .int x2), (3, .int x3)] := hl
    show W _ _ _ _ _ _ _ _ _ _ _ _ _ _ _ (F0 m 20 ls [.int v3])
    refine Usv (pc := 20) F (c_Pm_need l (by rw [e_v3, e_r1]; exact hp)) k_Pm_need m_371 (Nat.le_of_ble_eq_true rfl) (Nat.le_of_ble_eq_true rfl) ⟨rfl, rfl⟩ rfl hl.1 rfl (Nat.le_of_ble_eq_true rfl) d_Pm_disk_20 hcs ?_
    refine lv_aload_n (pc := 23) F.1 F.2.1 d_Pm_disk_23 rfl (lv_at hl 0 rfl) ?_
    refine gC0_0 (pc := 24) F w (F.2.2.2.2 _ m_319) d_Pm_disk_24 ?_
    refine gNC1_7 (pc := 27) F w m_244 d_Pm_disk_27 ?_
    refine lv_iload_n (pc := 30) F.1 F.2.1 d_Pm_disk_30 rfl (lv_at hl 1 rfl) ?_
    refine lv_iload_n (pc := 31) F.1 F.2.1 d_Pm_disk_31 rfl (lv_at hl 2 rfl) ?_
    refine lv_iload_n (pc := 32) F.1 F.2.1 d_Pm_disk_32 rfl (lv_at hl 3 rfl) ?_
    refine Cvv (pc := 33) (As := [.int x1, .int x2, .int x3]) (rest := []) F w (c_Dr_putByte l D cI ad σ x1 x2 x3 (disk_ok hp)) 8 rfl rfl k_Dr_putByte m_506 (Nat.le_of_ble_eq_true rfl) (Nat.le_of_ble_eq_true rfl) ⟨rfl, rfl⟩ rfl hl.1 rfl (Nat.le_of_ble_eq_true rfl) d_Pm_disk_33 hcs (fun s4 H locs e_s4 w => ?_)
    exact Rv (pc := 36) F hr hlk w (by rw [e_s4]; exact Eq.symm (rfl)) d_Pm_disk_36
  · refine lv_if_eq (pc := 5) F.1 F.2.1 d_Pm_disk_5 (tgt := 19) (by decide) (fun h5 => ?_) (fun h5 => ?_)
    · refine lv_iconst (pc := 19) (v := 0) F.1 F.2.1 d_Pm_disk_19 (by decide) ?_
      exact k5 0 _ _ _ ⟨(by exact Eq.symm (Eq.trans (if_pos h5) (rfl))), w, lv_sub hl [0, 1, 2, 3] rfl⟩
    · refine lv_iload_n (pc := 8) F.1 F.2.1 d_Pm_disk_8 rfl (lv_at hl 3 rfl) ?_
      refine Usi (pc := 9) (As := [.int x3]) (rest := []) F (c_Pm_isByte l x3) k_Pm_isByte m_368 (Nat.le_of_ble_eq_true rfl) (Nat.le_of_ble_eq_true rfl) ⟨rfl, rfl⟩ rfl hl.1 rfl (Nat.le_of_ble_eq_true rfl) d_Pm_disk_9 hcs (fun r2 e_r2 => ?_)
      refine lv_if_eq (pc := 12) F.1 F.2.1 d_Pm_disk_12 (tgt := 19) (by decide) (fun h12 => ?_) (fun h12 => ?_)
      · refine lv_iconst (pc := 19) (v := 0) F.1 F.2.1 d_Pm_disk_19 (by decide) ?_
        exact k5 0 _ _ _ ⟨(by rw [e_r2] at h12; exact Eq.symm (Eq.trans (if_neg h5) (Eq.trans (if_pos h12) (rfl)))), w, lv_sub hl [0, 1, 2, 3] rfl⟩
      · refine lv_iconst (pc := 15) (v := 1) F.1 F.2.1 d_Pm_disk_15 (by decide) ?_
        refine lv_goto (pc := 16) F.1 F.2.1 d_Pm_disk_16 (tgt := 20) (by decide) ?_
        exact k5 1 _ _ _ ⟨(by rw [e_r2] at h12; exact Eq.symm (Eq.trans (if_neg h5) (Eq.trans (if_neg h12) (rfl)))), w, lv_sub hl [0, 1, 2, 3] rfl⟩
set_option maxHeartbeats 1000000 in
set_option maxRecDepth 100000 in
theorem t_Pm_disk (l : Launch) (htr : l.stackTraces = false) (A : Nat → Prop) (ad : Nat → Nat)  (x1 : Int32) (x2 : Int32) (x3 : Int32) (hp : (f_Pm_disk_r5 x3 (f_Pm_isPlaceOnDisk x1 x2)) = 0) : MetT l y_Pm_disk (Cond.code y_Pm_disk b_Pm_disk 4 none :: al) { frames := 7, cells := 1, slots := 6, locals := 128 } (PZ A [.ref (ad 0), .int x1, .int x2, .int x3]) (QX "java/lang/IllegalArgumentException") 1 6 (fun _ => False) := by
  refine MuT l (by decide) (Nat.le_of_ble_eq_true rfl) ?_
  intro p e s m below meth c ls F hno hlk hl hZ
  have F : CallFix p m c b_Pm_disk 4 s _ al "PictureMachine" := F
  generalize hH : s.heap = H
  generalize hlo : ([] : List Loc) = locs
  have w : (H = s.heap ∧ locs = []) := ⟨hH.symm, hlo.symm⟩
  have hl : lv_has ls 4 [(0, .ref (ad 0)), (1, .int x1), (2, .int x2), (3, .int x3)] := hl
  have hcs : (0 : Nat) ≤ 1 ∧ (0 : Nat) ≤ 6 := ⟨Nat.zero_le _, Nat.zero_le _⟩
  refine lv_iload_n (pc := 0) F.1 F.2.1 d_Pm_disk_0 rfl (lv_at hl 1 rfl) ?_
  refine lv_iload_n (pc := 1) F.1 F.2.1 d_Pm_disk_1 rfl (lv_at hl 2 rfl) ?_
  refine Usi (pc := 2) (As := [.int x1, .int x2]) (rest := []) F (c_Pm_isPlaceOnDisk l x1 x2) k_Pm_isPlaceOnDisk m_505 (Nat.le_of_ble_eq_true rfl) (Nat.le_of_ble_eq_true rfl) ⟨rfl, rfl⟩ rfl hl.1 rfl (Nat.le_of_ble_eq_true rfl) d_Pm_disk_2 hcs (fun r1 e_r1 => ?_)
  refine cutW (α := Int32) (fun x H locs ls => x = f_Pm_disk_r5 x3 r1 ∧ (H = s.heap ∧ locs = []) ∧ lv_has ls 4 [(0, .ref (ad 0)), (1, .int x1), (2, .int x2), (3, .int x3)]) (fun x ls => F0 m 20 ls [.int x]) ?_ (fun k5 => ?_)
  · rintro v3 H locs ls ⟨ex, w, hl⟩
    have e_v3 := ex
    have w : (H = s.heap ∧ locs = []) := w
    have hl : lv_has ls 4 [(0, .ref (ad 0)), (1, .int x1), (2, .int x2), (3, .int x3)] := hl
    show W _ _ _ _ _ _ _ _ _ _ _ _ _ _ _ (F0 m 20 ls [.int v3])
    exact needT F (t_Pm_need l htr A (x1 := v3) (by rw [e_v3, e_r1]; exact hp)) k_Pm_need m_371 (Nat.le_of_ble_eq_true rfl) (Nat.le_of_ble_eq_true rfl) (Nat.le_of_ble_eq_true rfl) (Nat.le_of_ble_eq_true rfl) rfl rfl hl.1 hZ w hno hlk d_Pm_disk_20
  · refine lv_if_eq (pc := 5) F.1 F.2.1 d_Pm_disk_5 (tgt := 19) (by decide) (fun h5 => ?_) (fun h5 => ?_)
    · refine lv_iconst (pc := 19) (v := 0) F.1 F.2.1 d_Pm_disk_19 (by decide) ?_
      exact k5 0 _ _ _ ⟨(by exact Eq.symm (Eq.trans (if_pos h5) (rfl))), w, lv_sub hl [0, 1, 2, 3] rfl⟩
    · refine lv_iload_n (pc := 8) F.1 F.2.1 d_Pm_disk_8 rfl (lv_at hl 3 rfl) ?_
      refine Usi (pc := 9) (As := [.int x3]) (rest := []) F (c_Pm_isByte l x3) k_Pm_isByte m_368 (Nat.le_of_ble_eq_true rfl) (Nat.le_of_ble_eq_true rfl) ⟨rfl, rfl⟩ rfl hl.1 rfl (Nat.le_of_ble_eq_true rfl) d_Pm_disk_9 hcs (fun r2 e_r2 => ?_)
      refine lv_if_eq (pc := 12) F.1 F.2.1 d_Pm_disk_12 (tgt := 19) (by decide) (fun h12 => ?_) (fun h12 => ?_)
      · refine lv_iconst (pc := 19) (v := 0) F.1 F.2.1 d_Pm_disk_19 (by decide) ?_
        exact k5 0 _ _ _ ⟨(by rw [e_r2] at h12; exact Eq.symm (Eq.trans (if_neg h5) (Eq.trans (if_pos h12) (rfl)))), w, lv_sub hl [0, 1, 2, 3] rfl⟩
      · refine lv_iconst (pc := 15) (v := 1) F.1 F.2.1 d_Pm_disk_15 (by decide) ?_
        refine lv_goto (pc := 16) F.1 F.2.1 d_Pm_disk_16 (tgt := 20) (by decide) ?_
        exact k5 1 _ _ _ ⟨(by rw [e_r2] at h12; exact Eq.symm (Eq.trans (if_neg h5) (Eq.trans (if_neg h12) (rfl)))), w, lv_sub hl [0, 1, 2, 3] rfl⟩
def f_Dr_byteOf (σ : Sg) (x1 : Int32) (x2 : Int32) : Int32 := let r1 := f_Dr_firstByteOf x1; (σ 16 (r1 + x2).toNatClampNeg)
set_option maxHeartbeats 1000000 in
set_option maxRecDepth 100000 in
theorem c_Dr_byteOf (l : Launch) (D : va_G) (cI : ClassId) (ad : Nat → Nat) (σ : Sg) (x1 : Int32) (x2 : Int32) (hq : bt2 1 x1 8 ∧ bt2 0 x2 7) : Met l y_Dr_byteOf (Cond.code y_Dr_byteOf b_Dr_byteOf 3 (some .int) :: al) { frames := 1, cells := 0, slots := 0, locals := 20 } (Px D cI (wC cI ad) (AC ad) σ [.ref (ad 8), .int x1, .int x2]) (va_Qi (fun r u => r = f_Dr_byteOf σ x1 x2 ∧ u = σ) (Bx D cI (wC cI ad) (AC ad)) (AC ad)) 0 0 (AC ad) := by
  refine Mx l (by decide) (Nat.le_of_ble_eq_true rfl) ?_
  intro p e s m below meth c ls F w hr hlk hl
  have F : CallFix p m c b_Dr_byteOf 3 s _ al "PictureMachine$Drive" := F
  have hl : lv_has ls 3 [(0, .ref (ad 8)), (1, .int x1), (2, .int x2)] := hl
  have hcs : (0 : Nat) ≤ 0 ∧ (0 : Nat) ≤ 0 := ⟨Nat.le_refl _, Nat.le_refl _⟩
  refine lv_aload_n (pc := 0) F.1 F.2.1 d_Dr_byteOf_0 rfl (lv_at hl 0 rfl) ?_
  refine gC8_0 (pc := 1) F w (F.2.2.2.2 _ m_88) d_Dr_byteOf_1 ?_
  refine lv_iload_n (pc := 4) F.1 F.2.1 d_Dr_byteOf_4 rfl (lv_at hl 1 rfl) ?_
  refine Usi (pc := 5) (As := [.int x1]) (rest := [.ref (ad 16)]) F (c_Dr_firstByteOf l x1) k_Dr_firstByteOf m_485 (Nat.le_of_ble_eq_true rfl) (Nat.le_of_ble_eq_true rfl) ⟨rfl, rfl⟩ rfl hl.1 rfl (Nat.le_of_ble_eq_true rfl) d_Dr_byteOf_5 hcs (fun r1 e_r1 => ?_)
  refine lv_iload_n (pc := 8) F.1 F.2.1 d_Dr_byteOf_8 rfl (lv_at hl 2 rfl) ?_
  refine lv_iadd (pc := 9) F.1 F.2.1 d_Dr_byteOf_9 ?_
  refine lC16 (pc := 10) F w (by rw [e_r1]; exact fb_in hq.1 hq.2) d_Dr_byteOf_10 ?_
  exact Ki (pc := 11) F hr hlk w (by rw [e_r1]; exact Eq.symm (rfl)) d_Dr_byteOf_11
def f_Pm_sector (σ : Sg) (x1 : Int32) (x2 : Int32) : Int32 × Sg := let r1 := f_Pm_isPlaceOnDisk x1 x2; let r2 := f_Dr_byteOf σ x1 x2; (r2, σ)
set_option maxHeartbeats 1000000 in
set_option maxRecDepth 100000 in
theorem c_Pm_sector (l : Launch) (D : va_G) (cI : ClassId) (ad : Nat → Nat) (σ : Sg) (x1 : Int32) (x2 : Int32) (hp : ¬ (f_Pm_isPlaceOnDisk x1 x2) = 0) : Met l y_Pm_sector (Cond.code y_Pm_sector b_Pm_sector 3 (some .int) :: al) { frames := 2, cells := 0, slots := 0, locals := 42 } (Px D cI (wC cI ad) (AC ad) σ [.ref (ad 0), .int x1, .int x2]) (va_Qi (fun r u => (r, u) = f_Pm_sector σ x1 x2) (Bx D cI (wC cI ad) (AC ad)) (AC ad)) 0 0 (AC ad) := by
  refine Mx l (by decide) (Nat.le_of_ble_eq_true rfl) ?_
  intro p e s m below meth c ls F w hr hlk hl
  have F : CallFix p m c b_Pm_sector 3 s _ al "PictureMachine" := F
  have hl : lv_has ls 3 [(0, .ref (ad 0)), (1, .int x1), (2, .int x2)] := hl
  have hcs : (0 : Nat) ≤ 0 ∧ (0 : Nat) ≤ 0 := ⟨Nat.le_refl _, Nat.le_refl _⟩
  refine lv_iload_n (pc := 0) F.1 F.2.1 d_Pm_sector_0 rfl (lv_at hl 1 rfl) ?_
  refine lv_iload_n (pc := 1) F.1 F.2.1 d_Pm_sector_1 rfl (lv_at hl 2 rfl) ?_
  refine Usi (pc := 2) (As := [.int x1, .int x2]) (rest := []) F (c_Pm_isPlaceOnDisk l x1 x2) k_Pm_isPlaceOnDisk m_505 (Nat.le_of_ble_eq_true rfl) (Nat.le_of_ble_eq_true rfl) ⟨rfl, rfl⟩ rfl hl.1 rfl (Nat.le_of_ble_eq_true rfl) d_Pm_sector_2 hcs (fun r1 e_r1 => ?_)
  refine Usv (pc := 5) F (c_Pm_need l (by rw [e_r1]; exact hp)) k_Pm_need m_371 (Nat.le_of_ble_eq_true rfl) (Nat.le_of_ble_eq_true rfl) ⟨rfl, rfl⟩ rfl hl.1 rfl (Nat.le_of_ble_eq_true rfl) d_Pm_sector_5 hcs ?_
  refine lv_aload_n (pc := 8) F.1 F.2.1 d_Pm_sector_8 rfl (lv_at hl 0 rfl) ?_
  refine gC0_0 (pc := 9) F w (F.2.2.2.2 _ m_319) d_Pm_sector_9 ?_
  refine gNC1_7 (pc := 12) F w m_244 d_Pm_sector_12 ?_
  refine lv_iload_n (pc := 15) F.1 F.2.1 d_Pm_sector_15 rfl (lv_at hl 1 rfl) ?_
  refine lv_iload_n (pc := 16) F.1 F.2.1 d_Pm_sector_16 rfl (lv_at hl 2 rfl) ?_
  refine Kvi (pc := 17) (As := [.int x1, .int x2]) (rest := []) F w (c_Dr_byteOf l D cI ad σ x1 x2 (ipd_ok hp)) 8 rfl rfl k_Dr_byteOf m_517 (Nat.le_of_ble_eq_true rfl) (Nat.le_of_ble_eq_true rfl) ⟨rfl, rfl⟩ rfl hl.1 rfl (Nat.le_of_ble_eq_true rfl) d_Pm_sector_17 hcs (fun r2 H locs e_r2 w => ?_)
  exact Ri (pc := 20) F hr hlk w (by rw [e_r2]; exact Eq.symm (rfl)) d_Pm_sector_20
set_option maxHeartbeats 1000000 in
set_option maxRecDepth 100000 in
theorem t_Pm_sector (l : Launch) (htr : l.stackTraces = false) (A : Nat → Prop) (ad : Nat → Nat)  (x1 : Int32) (x2 : Int32) (hp : (f_Pm_isPlaceOnDisk x1 x2) = 0) : MetT l y_Pm_sector (Cond.code y_Pm_sector b_Pm_sector 3 (some .int) :: al) { frames := 7, cells := 1, slots := 6, locals := 128 } (PZ A [.ref (ad 0), .int x1, .int x2]) (QX "java/lang/IllegalArgumentException") 1 6 (fun _ => False) := by
  refine MuT l (by decide) (Nat.le_of_ble_eq_true rfl) ?_
  intro p e s m below meth c ls F hno hlk hl hZ
  have F : CallFix p m c b_Pm_sector 3 s _ al "PictureMachine" := F
  generalize hH : s.heap = H
  generalize hlo : ([] : List Loc) = locs
  have w : (H = s.heap ∧ locs = []) := ⟨hH.symm, hlo.symm⟩
  have hl : lv_has ls 3 [(0, .ref (ad 0)), (1, .int x1), (2, .int x2)] := hl
  have hcs : (0 : Nat) ≤ 1 ∧ (0 : Nat) ≤ 6 := ⟨Nat.zero_le _, Nat.zero_le _⟩
  refine lv_iload_n (pc := 0) F.1 F.2.1 d_Pm_sector_0 rfl (lv_at hl 1 rfl) ?_
  refine lv_iload_n (pc := 1) F.1 F.2.1 d_Pm_sector_1 rfl (lv_at hl 2 rfl) ?_
  refine Usi (pc := 2) (As := [.int x1, .int x2]) (rest := []) F (c_Pm_isPlaceOnDisk l x1 x2) k_Pm_isPlaceOnDisk m_505 (Nat.le_of_ble_eq_true rfl) (Nat.le_of_ble_eq_true rfl) ⟨rfl, rfl⟩ rfl hl.1 rfl (Nat.le_of_ble_eq_true rfl) d_Pm_sector_2 hcs (fun r1 e_r1 => ?_)
  exact needT F (t_Pm_need l htr A (x1 := r1) (by rw [e_r1]; exact hp)) k_Pm_need m_371 (Nat.le_of_ble_eq_true rfl) (Nat.le_of_ble_eq_true rfl) (Nat.le_of_ble_eq_true rfl) (Nat.le_of_ble_eq_true rfl) rfl rfl hl.1 hZ w hno hlk d_Pm_sector_5
def f_Pm_stick (σ : Sg) (x1 : Int32) : Sg := let r1 := f_Pm_isByte x1; let s2 := sf σ 1 8 x1; s2
set_option maxHeartbeats 1000000 in
set_option maxRecDepth 100000 in
theorem c_Pm_stick (l : Launch) (D : va_G) (cI : ClassId) (ad : Nat → Nat) (σ : Sg) (x1 : Int32) (hp : ¬ (f_Pm_isByte x1) = 0) : Met l y_Pm_stick (Cond.code y_Pm_stick b_Pm_stick 2 none :: al) { frames := 1, cells := 0, slots := 0, locals := 20 } (Px D cI (wC cI ad) (AC ad) σ [.ref (ad 0), .int x1]) (va_Qv (fun u => u = f_Pm_stick σ x1) (Bx D cI (wC cI ad) (AC ad)) (AC ad)) 0 0 (AC ad) := by
  refine Mx l (by decide) (Nat.le_of_ble_eq_true rfl) ?_
  intro p e s m below meth c ls F w hr hlk hl
  have F : CallFix p m c b_Pm_stick 2 s _ al "PictureMachine" := F
  have hl : lv_has ls 2 [(0, .ref (ad 0)), (1, .int x1)] := hl
  have hcs : (0 : Nat) ≤ 0 ∧ (0 : Nat) ≤ 0 := ⟨Nat.le_refl _, Nat.le_refl _⟩
  refine lv_iload_n (pc := 0) F.1 F.2.1 d_Pm_stick_0 rfl (lv_at hl 1 rfl) ?_
  refine Usi (pc := 1) (As := [.int x1]) (rest := []) F (c_Pm_isByte l x1) k_Pm_isByte m_368 (Nat.le_of_ble_eq_true rfl) (Nat.le_of_ble_eq_true rfl) ⟨rfl, rfl⟩ rfl hl.1 rfl (Nat.le_of_ble_eq_true rfl) d_Pm_stick_1 hcs (fun r1 e_r1 => ?_)
  refine Usv (pc := 4) F (c_Pm_need l (by rw [e_r1]; exact hp)) k_Pm_need m_371 (Nat.le_of_ble_eq_true rfl) (Nat.le_of_ble_eq_true rfl) ⟨rfl, rfl⟩ rfl hl.1 rfl (Nat.le_of_ble_eq_true rfl) d_Pm_stick_4 hcs ?_
  refine lv_aload_n (pc := 7) F.1 F.2.1 d_Pm_stick_7 rfl (lv_at hl 0 rfl) ?_
  refine gC0_0 (pc := 8) F w (F.2.2.2.2 _ m_319) d_Pm_stick_8 ?_
  refine lv_iload_n (pc := 11) F.1 F.2.1 d_Pm_stick_11 rfl (lv_at hl 1 rfl) ?_
  refine pNC1_8 (pc := 12) F w m_246 d_Pm_stick_12 (fun H locs s2 e_s2 w => ?_)
  exact Rv (pc := 15) F hr hlk w (by rw [e_s2]; exact Eq.symm (rfl)) d_Pm_stick_15
set_option maxHeartbeats 1000000 in
set_option maxRecDepth 100000 in
theorem t_Pm_stick (l : Launch) (htr : l.stackTraces = false) (A : Nat → Prop) (ad : Nat → Nat)  (x1 : Int32) (hp : (f_Pm_isByte x1) = 0) : MetT l y_Pm_stick (Cond.code y_Pm_stick b_Pm_stick 2 none :: al) { frames := 7, cells := 1, slots := 6, locals := 128 } (PZ A [.ref (ad 0), .int x1]) (QX "java/lang/IllegalArgumentException") 1 6 (fun _ => False) := by
  refine MuT l (by decide) (Nat.le_of_ble_eq_true rfl) ?_
  intro p e s m below meth c ls F hno hlk hl hZ
  have F : CallFix p m c b_Pm_stick 2 s _ al "PictureMachine" := F
  generalize hH : s.heap = H
  generalize hlo : ([] : List Loc) = locs
  have w : (H = s.heap ∧ locs = []) := ⟨hH.symm, hlo.symm⟩
  have hl : lv_has ls 2 [(0, .ref (ad 0)), (1, .int x1)] := hl
  have hcs : (0 : Nat) ≤ 1 ∧ (0 : Nat) ≤ 6 := ⟨Nat.zero_le _, Nat.zero_le _⟩
  refine lv_iload_n (pc := 0) F.1 F.2.1 d_Pm_stick_0 rfl (lv_at hl 1 rfl) ?_
  refine Usi (pc := 1) (As := [.int x1]) (rest := []) F (c_Pm_isByte l x1) k_Pm_isByte m_368 (Nat.le_of_ble_eq_true rfl) (Nat.le_of_ble_eq_true rfl) ⟨rfl, rfl⟩ rfl hl.1 rfl (Nat.le_of_ble_eq_true rfl) d_Pm_stick_1 hcs (fun r1 e_r1 => ?_)
  exact needT F (t_Pm_need l htr A (x1 := r1) (by rw [e_r1]; exact hp)) k_Pm_need m_371 (Nat.le_of_ble_eq_true rfl) (Nat.le_of_ble_eq_true rfl) (Nat.le_of_ble_eq_true rfl) (Nat.le_of_ble_eq_true rfl) rfl rfl hl.1 hZ w hno hlk d_Pm_stick_4
def f_Ds_beginLine_r6 (x1 : Int32) (s1 : Sg) : Sg := if x1 = 0 then (let s2 := sf s1 6 6 (((256 * (s1 11 (3 : Int32).toNatClampNeg)) + (s1 11 (2 : Int32).toNatClampNeg)) &&& 1023); let s3 := sf s2 6 9 0; let s4 := sf s3 6 10 0; let s5 := sf s4 6 11 0; s5) else (s1)
def f_Ds_beginLine (σ : Sg) (x1 : Int32) : Sg := let s1 := sf σ 6 12 0; let s6 := (f_Ds_beginLine_r6 x1 s1); s6
set_option maxHeartbeats 1000000 in
set_option maxRecDepth 100000 in
theorem c_Ds_beginLine (l : Launch) (D : va_G) (cI : ClassId) (ad : Nat → Nat) (σ : Sg) (x1 : Int32) : Met l y_Ds_beginLine (Cond.code y_Ds_beginLine b_Ds_beginLine 2 none :: al) { frames := 0, cells := 0, slots := 0, locals := 0 } (Px D cI (wC cI ad) (AC ad) σ [.ref (ad 6), .int x1]) (va_Qv (fun u => u = f_Ds_beginLine σ x1) (Bx D cI (wC cI ad) (AC ad)) (AC ad)) 0 0 (AC ad) := by
  refine Mx l (by decide) (Nat.le_of_ble_eq_true rfl) ?_
  intro p e s m below meth c ls F w hr hlk hl
  have F : CallFix p m c b_Ds_beginLine 2 s _ al "PictureMachine$Display" := F
  have hl : lv_has ls 2 [(0, .ref (ad 6)), (1, .int x1)] := hl
  refine lv_aload_n (pc := 0) F.1 F.2.1 d_Ds_beginLine_0 rfl (lv_at hl 0 rfl) ?_
  refine lv_iconst (pc := 1) (v := 0) F.1 F.2.1 d_Ds_beginLine_1 (by decide) ?_
  refine pC6_12 (pc := 2) F w (Or.inl rfl) (F.2.2.2.2 _ m_170) d_Ds_beginLine_2 (fun H locs s1 e_s1 w => ?_)
  refine lv_iload_n (pc := 5) F.1 F.2.1 d_Ds_beginLine_5 rfl (lv_at hl 1 rfl) ?_
  refine cutW (α := Sg) (fun x H locs ls => x = f_Ds_beginLine_r6 x1 s1 ∧ Wx D cI (wC cI ad) (AC ad) (AC ad) s s.heap H locs x ∧ lv_has ls 2 [(0, .ref (ad 6)), (1, .int x1)]) (fun x ls => F0 m 49 ls []) ?_ (fun k6 => ?_)
  · rintro s6 H locs ls ⟨ex, w, hl⟩
    have e_s6 := ex
    have w : Wx D cI (wC cI ad) (AC ad) (AC ad) s s.heap H locs s6 := w
    have hl : lv_has ls 2 [(0, .ref (ad 6)), (1, .int x1)] := hl
    show W _ _ _ _ _ _ _ _ _ _ _ _ _ _ _ (F0 m 49 ls [])
    exact Rv (pc := 49) F hr hlk w (by rw [e_s6, e_s1]; exact Eq.symm (rfl)) d_Ds_beginLine_49
  · refine lv_if_ne (pc := 6) F.1 F.2.1 d_Ds_beginLine_6 (tgt := 49) (by decide) (fun h6 => ?_) (fun h6 => ?_)
    · exact k6 s1 _ _ _ ⟨(by exact Eq.symm (Eq.trans (if_neg h6) (rfl))), w, lv_sub hl [0, 1] rfl⟩
    · refine lv_aload_n (pc := 9) F.1 F.2.1 d_Ds_beginLine_9 rfl (lv_at hl 0 rfl) ?_
      refine lv_sipush (pc := 10) (v := 256) F.1 F.2.1 d_Ds_beginLine_10 (by decide) ?_
      refine lv_aload_n (pc := 13) F.1 F.2.1 d_Ds_beginLine_13 rfl (lv_at hl 0 rfl) ?_
      refine gC6_1 (pc := 14) F w (F.2.2.2.2 _ m_154) d_Ds_beginLine_14 ?_
      refine lv_iconst (pc := 17) (v := 3) F.1 F.2.1 d_Ds_beginLine_17 (by decide) ?_
      refine lC11 (pc := 18) F w (by unfold vp_in; decide) d_Ds_beginLine_18 ?_
      refine lv_imul (pc := 19) F.1 F.2.1 d_Ds_beginLine_19 ?_
      refine lv_aload_n (pc := 20) F.1 F.2.1 d_Ds_beginLine_20 rfl (lv_at hl 0 rfl) ?_
      refine gC6_1 (pc := 21) F w (F.2.2.2.2 _ m_154) d_Ds_beginLine_21 ?_
      refine lv_iconst (pc := 24) (v := 2) F.1 F.2.1 d_Ds_beginLine_24 (by decide) ?_
      refine lC11 (pc := 25) F w (by unfold vp_in; decide) d_Ds_beginLine_25 ?_
      refine lv_iadd (pc := 26) F.1 F.2.1 d_Ds_beginLine_26 ?_
      refine lv_sipush (pc := 27) (v := 1023) F.1 F.2.1 d_Ds_beginLine_27 (by decide) ?_
      refine lv_iand (pc := 30) F.1 F.2.1 d_Ds_beginLine_30 ?_
      refine pC6_6 (pc := 31) F w (F.2.2.2.2 _ m_161) d_Ds_beginLine_31 (fun H locs s2 e_s2 w => ?_)
      refine lv_aload_n (pc := 34) F.1 F.2.1 d_Ds_beginLine_34 rfl (lv_at hl 0 rfl) ?_
      refine lv_iconst (pc := 35) (v := 0) F.1 F.2.1 d_Ds_beginLine_35 (by decide) ?_
      refine pC6_9 (pc := 36) F w (F.2.2.2.2 _ m_166) d_Ds_beginLine_36 (fun H locs s3 e_s3 w => ?_)
      refine lv_aload_n (pc := 39) F.1 F.2.1 d_Ds_beginLine_39 rfl (lv_at hl 0 rfl) ?_
      refine lv_iconst (pc := 40) (v := 0) F.1 F.2.1 d_Ds_beginLine_40 (by decide) ?_
      refine pC6_10 (pc := 41) F w (F.2.2.2.2 _ m_167) d_Ds_beginLine_41 (fun H locs s4 e_s4 w => ?_)
      refine lv_aload_n (pc := 44) F.1 F.2.1 d_Ds_beginLine_44 rfl (lv_at hl 0 rfl) ?_
      refine lv_iconst (pc := 45) (v := 0) F.1 F.2.1 d_Ds_beginLine_45 (by decide) ?_
      refine pC6_11 (pc := 46) F w (Or.inl rfl) (F.2.2.2.2 _ m_168) d_Ds_beginLine_46 (fun H locs s5 e_s5 w => ?_)
      exact k6 s5 _ _ _ ⟨(by rw [e_s5, e_s4, e_s3, e_s2]; exact Eq.symm (Eq.trans (if_pos h6) (rfl))), w, lv_sub hl [0, 1] rfl⟩
def f_Ds_fetchShape (σ : Sg) (x1 : Int32) (x2 : Int32) : Int32 × Sg := if ((σ 11 (0 : Int32).toNatClampNeg) &&& 2) = 0 then ((0, σ)) else (let r1 := f_Me_at σ ((256 * (σ 11 (4 : Int32).toNatClampNeg)) + x2); let s2 := sf σ 11 x1.toNatClampNeg r1; (1, s2))
theorem z_Ds_fetchShape (σ : Sg) (x1 : Int32) (x2 : Int32) : (f_Ds_fetchShape σ x1 x2).1 = 0 ∨ (f_Ds_fetchShape σ x1 x2).1 = 1 := by unfold f_Ds_fetchShape; (try dsimp only); (repeat' split) <;> first | exact Or.inl rfl | exact Or.inr rfl
set_option maxHeartbeats 1000000 in
set_option maxRecDepth 100000 in
theorem c_Ds_fetchShape (l : Launch) (D : va_G) (cI : ClassId) (ad : Nat → Nat) (σ : Sg) (x1 : Int32) (x2 : Int32) (hq : vp_in x1 32) : Met l y_Ds_fetchShape (Cond.code y_Ds_fetchShape b_Ds_fetchShape 3 (some .boolean) :: al) { frames := 1, cells := 0, slots := 0, locals := 22 } (Px D cI (wC cI ad) (AC ad) σ [.ref (ad 6), .int x1, .int x2]) (va_Qi (fun r u => (r, u) = f_Ds_fetchShape σ x1 x2) (Bx D cI (wC cI ad) (AC ad)) (AC ad)) 0 0 (AC ad) := by
  refine Mx l (by decide) (Nat.le_of_ble_eq_true rfl) ?_
  intro p e s m below meth c ls F w hr hlk hl
  have F : CallFix p m c b_Ds_fetchShape 3 s _ al "PictureMachine$Display" := F
  have hl : lv_has ls 3 [(0, .ref (ad 6)), (1, .int x1), (2, .int x2)] := hl
  have hcs : (0 : Nat) ≤ 0 ∧ (0 : Nat) ≤ 0 := ⟨Nat.le_refl _, Nat.le_refl _⟩
  refine lv_aload_n (pc := 0) F.1 F.2.1 d_Ds_fetchShape_0 rfl (lv_at hl 0 rfl) ?_
  refine gC6_1 (pc := 1) F w (F.2.2.2.2 _ m_154) d_Ds_fetchShape_1 ?_
  refine lv_iconst (pc := 4) (v := 0) F.1 F.2.1 d_Ds_fetchShape_4 (by decide) ?_
  refine lC11 (pc := 5) F w (by unfold vp_in; decide) d_Ds_fetchShape_5 ?_
  refine lv_iconst (pc := 6) (v := 2) F.1 F.2.1 d_Ds_fetchShape_6 (by decide) ?_
  refine lv_iand (pc := 7) F.1 F.2.1 d_Ds_fetchShape_7 ?_
  refine lv_if_ne (pc := 8) F.1 F.2.1 d_Ds_fetchShape_8 (tgt := 13) (by decide) (fun h8 => ?_) (fun h8 => ?_)
  · refine lv_aload_n (pc := 13) F.1 F.2.1 d_Ds_fetchShape_13 rfl (lv_at hl 0 rfl) ?_
    refine gC6_1 (pc := 14) F w (F.2.2.2.2 _ m_154) d_Ds_fetchShape_14 ?_
    refine lv_iload_n (pc := 17) F.1 F.2.1 d_Ds_fetchShape_17 rfl (lv_at hl 1 rfl) ?_
    refine lv_aload_n (pc := 18) F.1 F.2.1 d_Ds_fetchShape_18 rfl (lv_at hl 0 rfl) ?_
    refine gC6_0 (pc := 19) F w (F.2.2.2.2 _ m_153) d_Ds_fetchShape_19 ?_
    refine lv_sipush (pc := 22) (v := 256) F.1 F.2.1 d_Ds_fetchShape_22 (by decide) ?_
    refine lv_aload_n (pc := 25) F.1 F.2.1 d_Ds_fetchShape_25 rfl (lv_at hl 0 rfl) ?_
    refine gC6_1 (pc := 26) F w (F.2.2.2.2 _ m_154) d_Ds_fetchShape_26 ?_
    refine lv_iconst (pc := 29) (v := 4) F.1 F.2.1 d_Ds_fetchShape_29 (by decide) ?_
    refine lC11 (pc := 30) F w (by unfold vp_in; decide) d_Ds_fetchShape_30 ?_
    refine lv_imul (pc := 31) F.1 F.2.1 d_Ds_fetchShape_31 ?_
    refine lv_iload_n (pc := 32) F.1 F.2.1 d_Ds_fetchShape_32 rfl (lv_at hl 2 rfl) ?_
    refine lv_iadd (pc := 33) F.1 F.2.1 d_Ds_fetchShape_33 ?_
    refine Kvi (pc := 34) (As := [.int ((256 * (σ 11 (4 : Int32).toNatClampNeg)) + x2)]) (rest := [.int x1, .ref (ad 11)]) F w (c_Me_at l D cI ad σ ((256 * (σ 11 (4 : Int32).toNatClampNeg)) + x2)) 4 rfl rfl k_Me_at m_551 (Nat.le_of_ble_eq_true rfl) (Nat.le_of_ble_eq_true rfl) ⟨rfl, rfl⟩ rfl hl.1 rfl (Nat.le_of_ble_eq_true rfl) d_Ds_fetchShape_34 hcs (fun r1 H locs e_r1 w => ?_)
    refine aC11 (pc := 37) F w (hq) d_Ds_fetchShape_37 (fun H locs s2 e_s2 w => ?_)
    refine lv_iconst (pc := 38) (v := 1) F.1 F.2.1 d_Ds_fetchShape_38 (by decide) ?_
    exact Rz (pc := 39) F hr hlk w (Or.inr rfl) (by rw [e_s2, e_r1]; exact Eq.symm (Eq.trans (if_neg h8) (rfl))) d_Ds_fetchShape_39
  · refine lv_iconst (pc := 11) (v := 0) F.1 F.2.1 d_Ds_fetchShape_11 (by decide) ?_
    exact Rz (pc := 12) F hr hlk w (Or.inl rfl) (by exact Eq.symm (Eq.trans (if_pos h8) (rfl))) d_Ds_fetchShape_12
def f_Ds_requestNmi_r9 (σ : Sg) (x1 : Int32) : Sg := if ((σ 11 (6 : Int32).toNatClampNeg) &&& x1) = 0 then (σ) else (let s1 := sf σ 6 5 ((σ 6 5) ||| x1); let s2 := sf s1 3 1 1; s2)
def f_Ds_requestNmi (σ : Sg) (x1 : Int32) : Sg := let s3 := (f_Ds_requestNmi_r9 σ x1); s3
set_option maxHeartbeats 1000000 in
set_option maxRecDepth 100000 in
theorem c_Ds_requestNmi (l : Launch) (D : va_G) (cI : ClassId) (ad : Nat → Nat) (σ : Sg) (x1 : Int32) : Met l y_Ds_requestNmi (Cond.code y_Ds_requestNmi b_Ds_requestNmi 2 none :: al) { frames := 0, cells := 0, slots := 0, locals := 0 } (Px D cI (wC cI ad) (AC ad) σ [.ref (ad 6), .int x1]) (va_Qv (fun u => u = f_Ds_requestNmi σ x1) (Bx D cI (wC cI ad) (AC ad)) (AC ad)) 0 0 (AC ad) := by
  refine Mx l (by decide) (Nat.le_of_ble_eq_true rfl) ?_
  intro p e s m below meth c ls F w hr hlk hl
  have F : CallFix p m c b_Ds_requestNmi 2 s _ al "PictureMachine$Display" := F
  have hl : lv_has ls 2 [(0, .ref (ad 6)), (1, .int x1)] := hl
  refine lv_aload_n (pc := 0) F.1 F.2.1 d_Ds_requestNmi_0 rfl (lv_at hl 0 rfl) ?_
  refine gC6_1 (pc := 1) F w (F.2.2.2.2 _ m_154) d_Ds_requestNmi_1 ?_
  refine lv_bipush (pc := 4) (v := 6) F.1 F.2.1 d_Ds_requestNmi_4 (by decide) ?_
  refine lC11 (pc := 6) F w (by unfold vp_in; decide) d_Ds_requestNmi_6 ?_
  refine lv_iload_n (pc := 7) F.1 F.2.1 d_Ds_requestNmi_7 rfl (lv_at hl 1 rfl) ?_
  refine lv_iand (pc := 8) F.1 F.2.1 d_Ds_requestNmi_8 ?_
  refine cutW (α := Sg) (fun x H locs ls => x = f_Ds_requestNmi_r9 σ x1 ∧ Wx D cI (wC cI ad) (AC ad) (AC ad) s s.heap H locs x ∧ lv_has ls 2 [(0, .ref (ad 6)), (1, .int x1)]) (fun x ls => F0 m 30 ls []) ?_ (fun k9 => ?_)
  · rintro s3 H locs ls ⟨ex, w, hl⟩
    have e_s3 := ex
    have w : Wx D cI (wC cI ad) (AC ad) (AC ad) s s.heap H locs s3 := w
    have hl : lv_has ls 2 [(0, .ref (ad 6)), (1, .int x1)] := hl
    show W _ _ _ _ _ _ _ _ _ _ _ _ _ _ _ (F0 m 30 ls [])
    exact Rv (pc := 30) F hr hlk w (by rw [e_s3]; exact Eq.symm (rfl)) d_Ds_requestNmi_30
  · refine lv_if_eq (pc := 9) F.1 F.2.1 d_Ds_requestNmi_9 (tgt := 30) (by decide) (fun h9 => ?_) (fun h9 => ?_)
    · exact k9 σ _ _ _ ⟨(by exact Eq.symm (Eq.trans (if_pos h9) (rfl))), w, lv_sub hl [0, 1] rfl⟩
    · refine lv_aload_n (pc := 12) F.1 F.2.1 d_Ds_requestNmi_12 rfl (lv_at hl 0 rfl) ?_
      refine lv_dup (pc := 13) F.1 F.2.1 d_Ds_requestNmi_13 rfl ?_
      refine gC6_5 (pc := 14) F w (F.2.2.2.2 _ m_160) d_Ds_requestNmi_14 ?_
      refine lv_iload_n (pc := 17) F.1 F.2.1 d_Ds_requestNmi_17 rfl (lv_at hl 1 rfl) ?_
      refine lv_ior (pc := 18) F.1 F.2.1 d_Ds_requestNmi_18 ?_
      refine pC6_5 (pc := 19) F w (F.2.2.2.2 _ m_160) d_Ds_requestNmi_19 (fun H locs s1 e_s1 w => ?_)
      refine lv_aload_n (pc := 22) F.1 F.2.1 d_Ds_requestNmi_22 rfl (lv_at hl 0 rfl) ?_
      refine gC6_2 (pc := 23) F w (F.2.2.2.2 _ m_155) d_Ds_requestNmi_23 ?_
      refine lv_iconst (pc := 26) (v := 1) F.1 F.2.1 d_Ds_requestNmi_26 (by decide) ?_
      refine pNC3_1 (pc := 27) F w (Or.inr rfl) m_64 d_Ds_requestNmi_27 (fun H locs s2 e_s2 w => ?_)
      exact k9 s2 _ _ _ ⟨(by rw [e_s2, e_s1]; exact Eq.symm (Eq.trans (if_neg h9) (rfl))), w, lv_sub hl [0, 1] rfl⟩
def f_Pm_isShownLine_r2 (x1 : Int32) : Int32 := if x1 < 1 then (0) else (if 12 < x1 then (0) else (1))
def f_Pm_isShownLine  (x1 : Int32) : Int32 := let v1 := (f_Pm_isShownLine_r2 x1); v1
theorem z_f_Pm_isShownLine_r2_0 (x1 : Int32) : (f_Pm_isShownLine_r2 x1) = 0 ∨ (f_Pm_isShownLine_r2 x1) = 1 := by unfold f_Pm_isShownLine_r2; (try dsimp only); (repeat' split) <;> first | exact Or.inl rfl | exact Or.inr rfl
theorem z_Pm_isShownLine  (x1 : Int32) : (f_Pm_isShownLine x1) = 0 ∨ (f_Pm_isShownLine x1) = 1 := by unfold f_Pm_isShownLine; (try dsimp only); (repeat' split) <;> first | exact Or.inl rfl | exact Or.inr rfl | apply z_f_Pm_isShownLine_r2_0
set_option maxHeartbeats 1000000 in
set_option maxRecDepth 100000 in
theorem c_Pm_isShownLine (l : Launch)  (x1 : Int32) : Met l y_Pm_isShownLine (Cond.code y_Pm_isShownLine b_Pm_isShownLine 1 (some .boolean) :: al) { frames := 0, cells := 0, slots := 0, locals := 0 } (PU [.int x1]) (QU (f_Pm_isShownLine x1)) 0 0 (fun _ => False) := by
  refine Mu l (by decide) (Nat.le_of_ble_eq_true rfl) ?_
  intro p e s m below meth c ls F hr hlk hl
  have F : CallFix p m c b_Pm_isShownLine 1 s _ al "PictureMachine" := F
  generalize hH : s.heap = H
  generalize hlo : ([] : List Loc) = locs
  have w : (H = s.heap ∧ locs = []) := ⟨hH.symm, hlo.symm⟩
  have hl : lv_has ls 1 [(0, .int x1)] := hl
  refine lv_iload_n (pc := 0) F.1 F.2.1 d_Pm_isShownLine_0 rfl (lv_at hl 0 rfl) ?_
  refine lv_iconst (pc := 1) (v := 1) F.1 F.2.1 d_Pm_isShownLine_1 (by decide) ?_
  refine cutW (α := Int32) (fun x H locs ls => x = f_Pm_isShownLine_r2 x1 ∧ (H = s.heap ∧ locs = []) ∧ lv_has ls 1 [(0, .int x1)]) (fun x ls => F0 m 16 ls [.int x]) ?_ (fun k2 => ?_)
  · rintro v1 H locs ls ⟨ex, w, hl⟩
    have e_v1 := ex
    have w : (H = s.heap ∧ locs = []) := w
    have hl : lv_has ls 1 [(0, .int x1)] := hl
    show W _ _ _ _ _ _ _ _ _ _ _ _ _ _ _ (F0 m 16 ls [.int v1])
    exact Uz (pc := 16) F w hr hlk (e_v1 ▸ z_f_Pm_isShownLine_r2_0 x1) (by rw [e_v1]; exact Eq.symm (rfl)) d_Pm_isShownLine_16
  · refine lv_icmp_lt (pc := 2) F.1 F.2.1 d_Pm_isShownLine_2 (tgt := 15) (by decide) (fun h2 => ?_) (fun h2 => ?_)
    · refine lv_iconst (pc := 15) (v := 0) F.1 F.2.1 d_Pm_isShownLine_15 (by decide) ?_
      exact k2 0 _ _ _ ⟨(by exact Eq.symm (Eq.trans (if_pos h2) (rfl))), w, lv_sub hl [0] rfl⟩
    · refine lv_iload_n (pc := 5) F.1 F.2.1 d_Pm_isShownLine_5 rfl (lv_at hl 0 rfl) ?_
      refine lv_bipush (pc := 6) (v := 12) F.1 F.2.1 d_Pm_isShownLine_6 (by decide) ?_
      refine lv_icmp_gt (pc := 8) F.1 F.2.1 d_Pm_isShownLine_8 (tgt := 15) (by decide) (fun h8 => ?_) (fun h8 => ?_)
      · refine lv_iconst (pc := 15) (v := 0) F.1 F.2.1 d_Pm_isShownLine_15 (by decide) ?_
        exact k2 0 _ _ _ ⟨(by exact Eq.symm (Eq.trans (if_neg h2) (Eq.trans (if_pos h8) (rfl)))), w, lv_sub hl [0] rfl⟩
      · refine lv_iconst (pc := 11) (v := 1) F.1 F.2.1 d_Pm_isShownLine_11 (by decide) ?_
        refine lv_goto (pc := 12) F.1 F.2.1 d_Pm_isShownLine_12 (tgt := 16) (by decide) ?_
        exact k2 1 _ _ _ ⟨(by exact Eq.symm (Eq.trans (if_neg h2) (Eq.trans (if_neg h8) (rfl)))), w, lv_sub hl [0] rfl⟩
theorem isl_ok {x : Int32} (h : ¬ f_Pm_isShownLine x = 0) : bt2 1 x 12 := by
  by_cases h1 : x < 1
  · exact absurd (show f_Pm_isShownLine x = 0 from if_pos h1) h
  by_cases h2 : 12 < x
  · exact absurd (show f_Pm_isShownLine x = 0 from (if_neg h1).trans (if_pos h2)) h
  rw [ti_lt, show (1 : Int32).toInt = 1 by decide] at h1
  rw [ti_lt, show (12 : Int32).toInt = 12 by decide] at h2
  exact ⟨by omega, by omega⟩
theorem dot_ok {x : Int32} (h : ¬ x < 0 ∧ x < 32) : bt2 0 x 31 := by
  have e0 : (0 : Int32).toInt = 0 := by decide
  have e32 : (32 : Int32).toInt = 32 := by decide
  rw [ti_lt, ti_lt] at h
  exact ⟨by omega, by omega⟩
def f_Ds_isOn_r8 (σ : Sg) : Int32 := if ((σ 11 (0 : Int32).toNatClampNeg) &&& 1) = 0 then (0) else (1)
def f_Ds_isOn (σ : Sg) : Int32 := let v1 := (f_Ds_isOn_r8 σ); v1
theorem z_f_Ds_isOn_r8_0 (σ : Sg) : (f_Ds_isOn_r8 σ) = 0 ∨ (f_Ds_isOn_r8 σ) = 1 := by unfold f_Ds_isOn_r8; (try dsimp only); (repeat' split) <;> first | exact Or.inl rfl | exact Or.inr rfl
theorem z_Ds_isOn (σ : Sg) : (f_Ds_isOn σ ) = 0 ∨ (f_Ds_isOn σ ) = 1 := by unfold f_Ds_isOn; (try dsimp only); (repeat' split) <;> first | exact Or.inl rfl | exact Or.inr rfl | apply z_f_Ds_isOn_r8_0
set_option maxHeartbeats 1000000 in
set_option maxRecDepth 100000 in
theorem c_Ds_isOn (l : Launch) (D : va_G) (cI : ClassId) (ad : Nat → Nat) (σ : Sg) : Met l y_Ds_isOn (Cond.code y_Ds_isOn b_Ds_isOn 1 (some .boolean) :: al) { frames := 0, cells := 0, slots := 0, locals := 0 } (Px D cI (wC cI ad) (AC ad) σ [.ref (ad 6)]) (va_Qi (fun r u => r = f_Ds_isOn σ  ∧ u = σ) (Bx D cI (wC cI ad) (AC ad)) (AC ad)) 0 0 (AC ad) := by
  refine Mx l (by decide) (Nat.le_of_ble_eq_true rfl) ?_
  intro p e s m below meth c ls F w hr hlk hl
  have F : CallFix p m c b_Ds_isOn 1 s _ al "PictureMachine$Display" := F
  have hl : lv_has ls 1 [(0, .ref (ad 6))] := hl
  refine lv_aload_n (pc := 0) F.1 F.2.1 d_Ds_isOn_0 rfl (lv_at hl 0 rfl) ?_
  refine gC6_1 (pc := 1) F w (F.2.2.2.2 _ m_154) d_Ds_isOn_1 ?_
  refine lv_iconst (pc := 4) (v := 0) F.1 F.2.1 d_Ds_isOn_4 (by decide) ?_
  refine lC11 (pc := 5) F w (by unfold vp_in; decide) d_Ds_isOn_5 ?_
  refine lv_iconst (pc := 6) (v := 1) F.1 F.2.1 d_Ds_isOn_6 (by decide) ?_
  refine lv_iand (pc := 7) F.1 F.2.1 d_Ds_isOn_7 ?_
  refine cutW (α := Int32) (fun x H locs ls => x = f_Ds_isOn_r8 σ ∧ Wx D cI (wC cI ad) (AC ad) (AC ad) s s.heap H locs σ ∧ lv_has ls 1 [(0, .ref (ad 6))]) (fun x ls => F0 m 16 ls [.int x]) ?_ (fun k8 => ?_)
  · rintro v1 H locs ls ⟨ex, w, hl⟩
    have e_v1 := ex
    have w : Wx D cI (wC cI ad) (AC ad) (AC ad) s s.heap H locs σ := w
    have hl : lv_has ls 1 [(0, .ref (ad 6))] := hl
    show W _ _ _ _ _ _ _ _ _ _ _ _ _ _ _ (F0 m 16 ls [.int v1])
    exact Kz (pc := 16) F hr hlk w (e_v1 ▸ z_f_Ds_isOn_r8_0 σ) (by rw [e_v1]; exact Eq.symm (rfl)) d_Ds_isOn_16
  · refine lv_if_eq (pc := 8) F.1 F.2.1 d_Ds_isOn_8 (tgt := 15) (by decide) (fun h8 => ?_) (fun h8 => ?_)
    · refine lv_iconst (pc := 15) (v := 0) F.1 F.2.1 d_Ds_isOn_15 (by decide) ?_
      exact k8 0 _ _ _ ⟨(by exact Eq.symm (Eq.trans (if_pos h8) (rfl))), w, lv_sub hl [0] rfl⟩
    · refine lv_iconst (pc := 11) (v := 1) F.1 F.2.1 d_Ds_isOn_11 (by decide) ?_
      refine lv_goto (pc := 12) F.1 F.2.1 d_Ds_isOn_12 (tgt := 16) (by decide) ?_
      exact k8 1 _ _ _ ⟨(by exact Eq.symm (Eq.trans (if_neg h8) (rfl))), w, lv_sub hl [0] rfl⟩
def f_Ds_isInMarkedLastRow_r10 (σ : Sg) : Int32 := if ((σ 6 10) + 1) = (σ 6 9) then (if ((σ 6 8) &&& 128) = 0 then (0) else (1)) else (0)
def f_Ds_isInMarkedLastRow (σ : Sg) : Int32 := let v1 := (f_Ds_isInMarkedLastRow_r10 σ); v1
theorem z_f_Ds_isInMarkedLastRow_r10_0 (σ : Sg) : (f_Ds_isInMarkedLastRow_r10 σ) = 0 ∨ (f_Ds_isInMarkedLastRow_r10 σ) = 1 := by unfold f_Ds_isInMarkedLastRow_r10; (try dsimp only); (repeat' split) <;> first | exact Or.inl rfl | exact Or.inr rfl
theorem z_Ds_isInMarkedLastRow (σ : Sg) : (f_Ds_isInMarkedLastRow σ ) = 0 ∨ (f_Ds_isInMarkedLastRow σ ) = 1 := by unfold f_Ds_isInMarkedLastRow; (try dsimp only); (repeat' split) <;> first | exact Or.inl rfl | exact Or.inr rfl | apply z_f_Ds_isInMarkedLastRow_r10_0
set_option maxHeartbeats 1000000 in
set_option maxRecDepth 100000 in
theorem c_Ds_isInMarkedLastRow (l : Launch) (D : va_G) (cI : ClassId) (ad : Nat → Nat) (σ : Sg) : Met l y_Ds_isInMarkedLastRow (Cond.code y_Ds_isInMarkedLastRow b_Ds_isInMarkedLastRow 1 (some .boolean) :: al) { frames := 0, cells := 0, slots := 0, locals := 0 } (Px D cI (wC cI ad) (AC ad) σ [.ref (ad 6)]) (va_Qi (fun r u => r = f_Ds_isInMarkedLastRow σ  ∧ u = σ) (Bx D cI (wC cI ad) (AC ad)) (AC ad)) 0 0 (AC ad) := by
  refine Mx l (by decide) (Nat.le_of_ble_eq_true rfl) ?_
  intro p e s m below meth c ls F w hr hlk hl
  have F : CallFix p m c b_Ds_isInMarkedLastRow 1 s _ al "PictureMachine$Display" := F
  have hl : lv_has ls 1 [(0, .ref (ad 6))] := hl
  refine lv_aload_n (pc := 0) F.1 F.2.1 d_Ds_isInMarkedLastRow_0 rfl (lv_at hl 0 rfl) ?_
  refine gC6_10 (pc := 1) F w (F.2.2.2.2 _ m_167) d_Ds_isInMarkedLastRow_1 ?_
  refine lv_iconst (pc := 4) (v := 1) F.1 F.2.1 d_Ds_isInMarkedLastRow_4 (by decide) ?_
  refine lv_iadd (pc := 5) F.1 F.2.1 d_Ds_isInMarkedLastRow_5 ?_
  refine lv_aload_n (pc := 6) F.1 F.2.1 d_Ds_isInMarkedLastRow_6 rfl (lv_at hl 0 rfl) ?_
  refine gC6_9 (pc := 7) F w (F.2.2.2.2 _ m_166) d_Ds_isInMarkedLastRow_7 ?_
  refine cutW (α := Int32) (fun x H locs ls => x = f_Ds_isInMarkedLastRow_r10 σ ∧ Wx D cI (wC cI ad) (AC ad) (AC ad) s s.heap H locs σ ∧ lv_has ls 1 [(0, .ref (ad 6))]) (fun x ls => F0 m 29 ls [.int x]) ?_ (fun k10 => ?_)
  · rintro v1 H locs ls ⟨ex, w, hl⟩
    have e_v1 := ex
    have w : Wx D cI (wC cI ad) (AC ad) (AC ad) s s.heap H locs σ := w
    have hl : lv_has ls 1 [(0, .ref (ad 6))] := hl
    show W _ _ _ _ _ _ _ _ _ _ _ _ _ _ _ (F0 m 29 ls [.int v1])
    exact Kz (pc := 29) F hr hlk w (e_v1 ▸ z_f_Ds_isInMarkedLastRow_r10_0 σ) (by rw [e_v1]; exact Eq.symm (rfl)) d_Ds_isInMarkedLastRow_29
  · refine lv_icmp_ne (pc := 10) F.1 F.2.1 d_Ds_isInMarkedLastRow_10 (tgt := 28) (by decide) (fun h10 => ?_) (fun h10 => ?_)
    · refine lv_iconst (pc := 28) (v := 0) F.1 F.2.1 d_Ds_isInMarkedLastRow_28 (by decide) ?_
      exact k10 0 _ _ _ ⟨(by exact Eq.symm (Eq.trans (if_neg h10) (rfl))), w, lv_sub hl [0] rfl⟩
    · refine lv_aload_n (pc := 13) F.1 F.2.1 d_Ds_isInMarkedLastRow_13 rfl (lv_at hl 0 rfl) ?_
      refine gC6_8 (pc := 14) F w (F.2.2.2.2 _ m_165) d_Ds_isInMarkedLastRow_14 ?_
      refine lv_sipush (pc := 17) (v := 128) F.1 F.2.1 d_Ds_isInMarkedLastRow_17 (by decide) ?_
      refine lv_iand (pc := 20) F.1 F.2.1 d_Ds_isInMarkedLastRow_20 ?_
      refine lv_if_eq (pc := 21) F.1 F.2.1 d_Ds_isInMarkedLastRow_21 (tgt := 28) (by decide) (fun h21 => ?_) (fun h21 => ?_)
      · refine lv_iconst (pc := 28) (v := 0) F.1 F.2.1 d_Ds_isInMarkedLastRow_28 (by decide) ?_
        exact k10 0 _ _ _ ⟨(by exact Eq.symm (Eq.trans (if_pos h10) (Eq.trans (if_pos h21) (rfl)))), w, lv_sub hl [0] rfl⟩
      · refine lv_iconst (pc := 24) (v := 1) F.1 F.2.1 d_Ds_isInMarkedLastRow_24 (by decide) ?_
        refine lv_goto (pc := 25) F.1 F.2.1 d_Ds_isInMarkedLastRow_25 (tgt := 29) (by decide) ?_
        exact k10 1 _ _ _ ⟨(by exact Eq.symm (Eq.trans (if_pos h10) (Eq.trans (if_neg h21) (rfl)))), w, lv_sub hl [0] rfl⟩
def f_Ds_requestNmis_r3 (σ : Sg) (x1 : Int32) : Sg := if x1 = 13 then (let s5 := f_Ds_requestNmi σ 64; s5) else (let r1 := f_Pm_isShownLine x1; if r1 = 0 then (σ) else (let r2 := f_Ds_isOn σ; if r2 = 0 then (σ) else (let r3 := f_Ds_isInMarkedLastRow σ; if r3 = 0 then (σ) else (let s4 := f_Ds_requestNmi σ 128; s4))))
def f_Ds_requestNmis (σ : Sg) (x1 : Int32) : Sg := let s6 := (f_Ds_requestNmis_r3 σ x1); s6
set_option maxHeartbeats 1000000 in
set_option maxRecDepth 100000 in
theorem c_Ds_requestNmis (l : Launch) (D : va_G) (cI : ClassId) (ad : Nat → Nat) (σ : Sg) (x1 : Int32) : Met l y_Ds_requestNmis (Cond.code y_Ds_requestNmis b_Ds_requestNmis 2 none :: al) { frames := 1, cells := 0, slots := 0, locals := 21 } (Px D cI (wC cI ad) (AC ad) σ [.ref (ad 6), .int x1]) (va_Qv (fun u => u = f_Ds_requestNmis σ x1) (Bx D cI (wC cI ad) (AC ad)) (AC ad)) 0 0 (AC ad) := by
  refine Mx l (by decide) (Nat.le_of_ble_eq_true rfl) ?_
  intro p e s m below meth c ls F w hr hlk hl
  have F : CallFix p m c b_Ds_requestNmis 2 s _ al "PictureMachine$Display" := F
  have hl : lv_has ls 2 [(0, .ref (ad 6)), (1, .int x1)] := hl
  have hcs : (0 : Nat) ≤ 0 ∧ (0 : Nat) ≤ 0 := ⟨Nat.le_refl _, Nat.le_refl _⟩
  refine lv_iload_n (pc := 0) F.1 F.2.1 d_Ds_requestNmis_0 rfl (lv_at hl 1 rfl) ?_
  refine lv_bipush (pc := 1) (v := 13) F.1 F.2.1 d_Ds_requestNmis_1 (by decide) ?_
  refine cutW (α := Sg) (fun x H locs ls => x = f_Ds_requestNmis_r3 σ x1 ∧ Wx D cI (wC cI ad) (AC ad) (AC ad) s s.heap H locs x ∧ lv_has ls 2 [(0, .ref (ad 6)), (1, .int x1)]) (fun x ls => F0 m 43 ls []) ?_ (fun k3 => ?_)
  · rintro s6 H locs ls ⟨ex, w, hl⟩
    have e_s6 := ex
    have w : Wx D cI (wC cI ad) (AC ad) (AC ad) s s.heap H locs s6 := w
    have hl : lv_has ls 2 [(0, .ref (ad 6)), (1, .int x1)] := hl
    show W _ _ _ _ _ _ _ _ _ _ _ _ _ _ _ (F0 m 43 ls [])
    exact Rv (pc := 43) F hr hlk w (by rw [e_s6]; exact Eq.symm (rfl)) d_Ds_requestNmis_43
  · refine lv_icmp_ne (pc := 3) F.1 F.2.1 d_Ds_requestNmis_3 (tgt := 15) (by decide) (fun h3 => ?_) (fun h3 => ?_)
    · refine lv_iload_n (pc := 15) F.1 F.2.1 d_Ds_requestNmis_15 rfl (lv_at hl 1 rfl) ?_
      refine UsNi (pc := 16) (As := [.int x1]) (rest := []) F w.2.2.2.2.1 (c_Pm_isShownLine l x1) k_Pm_isShownLine m_560 (Nat.le_of_ble_eq_true rfl) (Nat.le_of_ble_eq_true rfl) ⟨rfl, rfl⟩ rfl hl.1 rfl (Nat.le_of_ble_eq_true rfl) d_Ds_requestNmis_16 hcs (fun r1 e_r1 => ?_)
      refine lv_if_eq (pc := 19) F.1 F.2.1 d_Ds_requestNmis_19 (tgt := 43) (by decide) (fun h19 => ?_) (fun h19 => ?_)
      · exact k3 σ _ _ _ ⟨(by rw [e_r1] at h19; exact Eq.symm (Eq.trans (if_neg h3) (Eq.trans (if_pos h19) (rfl)))), w, lv_sub hl [0, 1] rfl⟩
      · refine lv_aload_n (pc := 22) F.1 F.2.1 d_Ds_requestNmis_22 rfl (lv_at hl 0 rfl) ?_
        refine Kvi (pc := 23) (As := []) (rest := []) F w (c_Ds_isOn l D cI ad σ) 6 rfl rfl k_Ds_isOn m_563 (Nat.le_of_ble_eq_true rfl) (Nat.le_of_ble_eq_true rfl) ⟨rfl, rfl⟩ rfl hl.1 rfl (Nat.le_of_ble_eq_true rfl) d_Ds_requestNmis_23 hcs (fun r2 H locs e_r2 w => ?_)
        refine lv_if_eq (pc := 26) F.1 F.2.1 d_Ds_requestNmis_26 (tgt := 43) (by decide) (fun h26 => ?_) (fun h26 => ?_)
        · exact k3 σ _ _ _ ⟨(by rw [e_r1] at h19; rw [e_r2] at h26; exact Eq.symm (Eq.trans (if_neg h3) (Eq.trans (if_neg h19) (Eq.trans (if_pos h26) (rfl))))), w, lv_sub hl [0, 1] rfl⟩
        · refine lv_aload_n (pc := 29) F.1 F.2.1 d_Ds_requestNmis_29 rfl (lv_at hl 0 rfl) ?_
          refine Kvi (pc := 30) (As := []) (rest := []) F w (c_Ds_isInMarkedLastRow l D cI ad σ) 6 rfl rfl k_Ds_isInMarkedLastRow m_567 (Nat.le_of_ble_eq_true rfl) (Nat.le_of_ble_eq_true rfl) ⟨rfl, rfl⟩ rfl hl.1 rfl (Nat.le_of_ble_eq_true rfl) d_Ds_requestNmis_30 hcs (fun r3 H locs e_r3 w => ?_)
          refine lv_if_eq (pc := 33) F.1 F.2.1 d_Ds_requestNmis_33 (tgt := 43) (by decide) (fun h33 => ?_) (fun h33 => ?_)
          · exact k3 σ _ _ _ ⟨(by rw [e_r1] at h19; rw [e_r2] at h26; rw [e_r3] at h33; exact Eq.symm (Eq.trans (if_neg h3) (Eq.trans (if_neg h19) (Eq.trans (if_neg h26) (Eq.trans (if_pos h33) (rfl)))))), w, lv_sub hl [0, 1] rfl⟩
          · refine lv_aload_n (pc := 36) F.1 F.2.1 d_Ds_requestNmis_36 rfl (lv_at hl 0 rfl) ?_
            refine lv_sipush (pc := 37) (v := 128) F.1 F.2.1 d_Ds_requestNmis_37 (by decide) ?_
            refine Cvv (pc := 40) (As := [.int 128]) (rest := []) F w (c_Ds_requestNmi l D cI ad σ 128) 6 rfl rfl k_Ds_requestNmi m_556 (Nat.le_of_ble_eq_true rfl) (Nat.le_of_ble_eq_true rfl) ⟨rfl, rfl⟩ rfl hl.1 rfl (Nat.le_of_ble_eq_true rfl) d_Ds_requestNmis_40 hcs (fun s4 H locs e_s4 w => ?_)
            exact k3 s4 _ _ _ ⟨(by rw [e_r1] at h19; rw [e_r2] at h26; rw [e_r3] at h33; rw [e_s4]; exact Eq.symm (Eq.trans (if_neg h3) (Eq.trans (if_neg h19) (Eq.trans (if_neg h26) (Eq.trans (if_neg h33) (rfl)))))), w, lv_sub hl [0, 1] rfl⟩
    · refine lv_aload_n (pc := 6) F.1 F.2.1 d_Ds_requestNmis_6 rfl (lv_at hl 0 rfl) ?_
      refine lv_bipush (pc := 7) (v := 64) F.1 F.2.1 d_Ds_requestNmis_7 (by decide) ?_
      refine Cvv (pc := 9) (As := [.int 64]) (rest := []) F w (c_Ds_requestNmi l D cI ad σ 64) 6 rfl rfl k_Ds_requestNmi m_556 (Nat.le_of_ble_eq_true rfl) (Nat.le_of_ble_eq_true rfl) ⟨rfl, rfl⟩ rfl hl.1 rfl (Nat.le_of_ble_eq_true rfl) d_Ds_requestNmis_9 hcs (fun s5 H locs e_s5 w => ?_)
      refine lv_goto (pc := 12) F.1 F.2.1 d_Ds_requestNmis_12 (tgt := 43) (by decide) ?_
      exact k3 s5 _ _ _ ⟨(by rw [e_s5]; exact Eq.symm (Eq.trans (if_pos h3) (rfl))), w, lv_sub hl [0, 1] rfl⟩
def f_Ds_hasRow_r8 (σ : Sg) : Int32 := if (σ 6 9) ≤ (σ 6 10) then (0) else (1)
def f_Ds_hasRow (σ : Sg) : Int32 := let v1 := (f_Ds_hasRow_r8 σ); v1
theorem z_f_Ds_hasRow_r8_0 (σ : Sg) : (f_Ds_hasRow_r8 σ) = 0 ∨ (f_Ds_hasRow_r8 σ) = 1 := by unfold f_Ds_hasRow_r8; (try dsimp only); (repeat' split) <;> first | exact Or.inl rfl | exact Or.inr rfl
theorem z_Ds_hasRow (σ : Sg) : (f_Ds_hasRow σ ) = 0 ∨ (f_Ds_hasRow σ ) = 1 := by unfold f_Ds_hasRow; (try dsimp only); (repeat' split) <;> first | exact Or.inl rfl | exact Or.inr rfl | apply z_f_Ds_hasRow_r8_0
set_option maxHeartbeats 1000000 in
set_option maxRecDepth 100000 in
theorem c_Ds_hasRow (l : Launch) (D : va_G) (cI : ClassId) (ad : Nat → Nat) (σ : Sg) : Met l y_Ds_hasRow (Cond.code y_Ds_hasRow b_Ds_hasRow 1 (some .boolean) :: al) { frames := 0, cells := 0, slots := 0, locals := 0 } (Px D cI (wC cI ad) (AC ad) σ [.ref (ad 6)]) (va_Qi (fun r u => r = f_Ds_hasRow σ  ∧ u = σ) (Bx D cI (wC cI ad) (AC ad)) (AC ad)) 0 0 (AC ad) := by
  refine Mx l (by decide) (Nat.le_of_ble_eq_true rfl) ?_
  intro p e s m below meth c ls F w hr hlk hl
  have F : CallFix p m c b_Ds_hasRow 1 s _ al "PictureMachine$Display" := F
  have hl : lv_has ls 1 [(0, .ref (ad 6))] := hl
  refine lv_aload_n (pc := 0) F.1 F.2.1 d_Ds_hasRow_0 rfl (lv_at hl 0 rfl) ?_
  refine gC6_10 (pc := 1) F w (F.2.2.2.2 _ m_167) d_Ds_hasRow_1 ?_
  refine lv_aload_n (pc := 4) F.1 F.2.1 d_Ds_hasRow_4 rfl (lv_at hl 0 rfl) ?_
  refine gC6_9 (pc := 5) F w (F.2.2.2.2 _ m_166) d_Ds_hasRow_5 ?_
  refine cutW (α := Int32) (fun x H locs ls => x = f_Ds_hasRow_r8 σ ∧ Wx D cI (wC cI ad) (AC ad) (AC ad) s s.heap H locs σ ∧ lv_has ls 1 [(0, .ref (ad 6))]) (fun x ls => F0 m 16 ls [.int x]) ?_ (fun k8 => ?_)
  · rintro v1 H locs ls ⟨ex, w, hl⟩
    have e_v1 := ex
    have w : Wx D cI (wC cI ad) (AC ad) (AC ad) s s.heap H locs σ := w
    have hl : lv_has ls 1 [(0, .ref (ad 6))] := hl
    show W _ _ _ _ _ _ _ _ _ _ _ _ _ _ _ (F0 m 16 ls [.int v1])
    exact Kz (pc := 16) F hr hlk w (e_v1 ▸ z_f_Ds_hasRow_r8_0 σ) (by rw [e_v1]; exact Eq.symm (rfl)) d_Ds_hasRow_16
  · refine lv_icmp_ge (pc := 8) F.1 F.2.1 d_Ds_hasRow_8 (tgt := 15) (by decide) (fun h8 => ?_) (fun h8 => ?_)
    · refine lv_iconst (pc := 15) (v := 0) F.1 F.2.1 d_Ds_hasRow_15 (by decide) ?_
      exact k8 0 _ _ _ ⟨(by exact Eq.symm (Eq.trans (if_pos h8) (rfl))), w, lv_sub hl [0] rfl⟩
    · refine lv_iconst (pc := 11) (v := 1) F.1 F.2.1 d_Ds_hasRow_11 (by decide) ?_
      refine lv_goto (pc := 12) F.1 F.2.1 d_Ds_hasRow_12 (tgt := 16) (by decide) ?_
      exact k8 1 _ _ _ ⟨(by exact Eq.symm (Eq.trans (if_neg h8) (rfl))), w, lv_sub hl [0] rfl⟩
def f_Ds_movedOn  (x1 : Int32) : Int32 := ((x1 &&& (-256)) ||| ((x1 + 1) &&& 255))
set_option maxHeartbeats 1000000 in
set_option maxRecDepth 100000 in
theorem c_Ds_movedOn (l : Launch)  (x1 : Int32) : Met l y_Ds_movedOn (Cond.code y_Ds_movedOn b_Ds_movedOn 1 (some .int) :: al) { frames := 0, cells := 0, slots := 0, locals := 0 } (PU [.int x1]) (QU (f_Ds_movedOn x1)) 0 0 (fun _ => False) := by
  refine Mu l (by decide) (Nat.le_of_ble_eq_true rfl) ?_
  intro p e s m below meth c ls F hr hlk hl
  have F : CallFix p m c b_Ds_movedOn 1 s _ al "PictureMachine$Display" := F
  generalize hH : s.heap = H
  generalize hlo : ([] : List Loc) = locs
  have w : (H = s.heap ∧ locs = []) := ⟨hH.symm, hlo.symm⟩
  have hl : lv_has ls 1 [(0, .int x1)] := hl
  refine lv_iload_n (pc := 0) F.1 F.2.1 d_Ds_movedOn_0 rfl (lv_at hl 0 rfl) ?_
  refine lv_sipush (pc := 1) (v := (-256)) F.1 F.2.1 d_Ds_movedOn_1 (by decide) ?_
  refine lv_iand (pc := 4) F.1 F.2.1 d_Ds_movedOn_4 ?_
  refine lv_iload_n (pc := 5) F.1 F.2.1 d_Ds_movedOn_5 rfl (lv_at hl 0 rfl) ?_
  refine lv_iconst (pc := 6) (v := 1) F.1 F.2.1 d_Ds_movedOn_6 (by decide) ?_
  refine lv_iadd (pc := 7) F.1 F.2.1 d_Ds_movedOn_7 ?_
  refine lv_sipush (pc := 8) (v := 255) F.1 F.2.1 d_Ds_movedOn_8 (by decide) ?_
  refine lv_iand (pc := 11) F.1 F.2.1 d_Ds_movedOn_11 ?_
  refine lv_ior (pc := 12) F.1 F.2.1 d_Ds_movedOn_12 ?_
  exact Ui (pc := 13) F w hr hlk (by exact Eq.symm (rfl)) d_Ds_movedOn_13
def f_Ds_nextOfList (σ : Sg) : Int32 × Sg := let r1 := f_Me_at σ (σ 6 6); let r2 := f_Ds_movedOn (σ 6 6); let s3 := sf σ 6 6 r2; (r1, s3)
set_option maxHeartbeats 1000000 in
set_option maxRecDepth 100000 in
theorem c_Ds_nextOfList (l : Launch) (D : va_G) (cI : ClassId) (ad : Nat → Nat) (σ : Sg) : Met l y_Ds_nextOfList (Cond.code y_Ds_nextOfList b_Ds_nextOfList 2 (some .int) :: al) { frames := 1, cells := 0, slots := 0, locals := 22 } (Px D cI (wC cI ad) (AC ad) σ [.ref (ad 6)]) (va_Qi (fun r u => (r, u) = f_Ds_nextOfList σ ) (Bx D cI (wC cI ad) (AC ad)) (AC ad)) 0 0 (AC ad) := by
  refine Mx l (by decide) (Nat.le_of_ble_eq_true rfl) ?_
  intro p e s m below meth c ls F w hr hlk hl
  have F : CallFix p m c b_Ds_nextOfList 2 s _ al "PictureMachine$Display" := F
  have hl : lv_has ls 2 [(0, .ref (ad 6))] := hl
  have hcs : (0 : Nat) ≤ 0 ∧ (0 : Nat) ≤ 0 := ⟨Nat.le_refl _, Nat.le_refl _⟩
  refine lv_aload_n (pc := 0) F.1 F.2.1 d_Ds_nextOfList_0 rfl (lv_at hl 0 rfl) ?_
  refine gC6_0 (pc := 1) F w (F.2.2.2.2 _ m_153) d_Ds_nextOfList_1 ?_
  refine lv_aload_n (pc := 4) F.1 F.2.1 d_Ds_nextOfList_4 rfl (lv_at hl 0 rfl) ?_
  refine gC6_6 (pc := 5) F w (F.2.2.2.2 _ m_161) d_Ds_nextOfList_5 ?_
  refine Kvi (pc := 8) (As := [.int (σ 6 6)]) (rest := []) F w (c_Me_at l D cI ad σ (σ 6 6)) 4 rfl rfl k_Me_at m_551 (Nat.le_of_ble_eq_true rfl) (Nat.le_of_ble_eq_true rfl) ⟨rfl, rfl⟩ rfl hl.1 rfl (Nat.le_of_ble_eq_true rfl) d_Ds_nextOfList_8 hcs (fun r1 H locs e_r1 w => ?_)
  refine lv_istore_n (pc := 11) F.1 F.2.1 d_Ds_nextOfList_11 rfl hl (by decide) rfl (fun ls hl => ?_)
  have hl : lv_has ls 2 [(1, .int r1), (0, .ref (ad 6))] := hl
  refine lv_aload_n (pc := 12) F.1 F.2.1 d_Ds_nextOfList_12 rfl (lv_at hl 1 rfl) ?_
  refine lv_aload_n (pc := 13) F.1 F.2.1 d_Ds_nextOfList_13 rfl (lv_at hl 1 rfl) ?_
  refine gC6_6 (pc := 14) F w (F.2.2.2.2 _ m_161) d_Ds_nextOfList_14 ?_
  refine Usi (pc := 17) (As := [.int (σ 6 6)]) (rest := [.ref (ad 6)]) F (c_Ds_movedOn l (σ 6 6)) k_Ds_movedOn m_583 (Nat.le_of_ble_eq_true rfl) (Nat.le_of_ble_eq_true rfl) ⟨rfl, rfl⟩ rfl hl.1 rfl (Nat.le_of_ble_eq_true rfl) d_Ds_nextOfList_17 hcs (fun r2 e_r2 => ?_)
  refine pC6_6 (pc := 20) F w (F.2.2.2.2 _ m_161) d_Ds_nextOfList_20 (fun H locs s3 e_s3 w => ?_)
  refine lv_iload_n (pc := 23) F.1 F.2.1 d_Ds_nextOfList_23 rfl (lv_at hl 0 rfl) ?_
  exact Ri (pc := 24) F hr hlk w (by rw [e_s3, e_r2, e_r1]; exact Eq.symm (rfl)) d_Ds_nextOfList_24
def f_Ds_mode (σ : Sg) : Int32 := ((σ 6 8) &&& 15)
set_option maxHeartbeats 1000000 in
set_option maxRecDepth 100000 in
theorem c_Ds_mode (l : Launch) (D : va_G) (cI : ClassId) (ad : Nat → Nat) (σ : Sg) : Met l y_Ds_mode (Cond.code y_Ds_mode b_Ds_mode 1 (some .int) :: al) { frames := 0, cells := 0, slots := 0, locals := 0 } (Px D cI (wC cI ad) (AC ad) σ [.ref (ad 6)]) (va_Qi (fun r u => r = f_Ds_mode σ  ∧ u = σ) (Bx D cI (wC cI ad) (AC ad)) (AC ad)) 0 0 (AC ad) := by
  refine Mx l (by decide) (Nat.le_of_ble_eq_true rfl) ?_
  intro p e s m below meth c ls F w hr hlk hl
  have F : CallFix p m c b_Ds_mode 1 s _ al "PictureMachine$Display" := F
  have hl : lv_has ls 1 [(0, .ref (ad 6))] := hl
  refine lv_aload_n (pc := 0) F.1 F.2.1 d_Ds_mode_0 rfl (lv_at hl 0 rfl) ?_
  refine gC6_8 (pc := 1) F w (F.2.2.2.2 _ m_165) d_Ds_mode_1 ?_
  refine lv_bipush (pc := 4) (v := 15) F.1 F.2.1 d_Ds_mode_4 (by decide) ?_
  refine lv_iand (pc := 6) F.1 F.2.1 d_Ds_mode_6 ?_
  exact Ki (pc := 7) F hr hlk w (by exact Eq.symm (rfl)) d_Ds_mode_7
def f_Ds_rowsOfMode_r4 (σ : Sg) (r1 : Int32) : Int32 := if r1 = 0 then (((((σ 6 8) >>> ((4 : Int32) &&& 31)) &&& 7) + 1)) else if r1 = 1 then (1) else if r1 = 2 then (4) else if r1 = 3 then (1) else if r1 = 4 then (2) else (1)
def f_Ds_rowsOfMode (σ : Sg) : Int32 := let r1 := f_Ds_mode σ; let v2 := (f_Ds_rowsOfMode_r4 σ r1); v2
set_option maxHeartbeats 1000000 in
set_option maxRecDepth 100000 in
theorem c_Ds_rowsOfMode (l : Launch) (D : va_G) (cI : ClassId) (ad : Nat → Nat) (σ : Sg) : Met l y_Ds_rowsOfMode (Cond.code y_Ds_rowsOfMode b_Ds_rowsOfMode 1 (some .int) :: al) { frames := 1, cells := 0, slots := 0, locals := 20 } (Px D cI (wC cI ad) (AC ad) σ [.ref (ad 6)]) (va_Qi (fun r u => r = f_Ds_rowsOfMode σ  ∧ u = σ) (Bx D cI (wC cI ad) (AC ad)) (AC ad)) 0 0 (AC ad) := by
  refine Mx l (by decide) (Nat.le_of_ble_eq_true rfl) ?_
  intro p e s m below meth c ls F w hr hlk hl
  have F : CallFix p m c b_Ds_rowsOfMode 1 s _ al "PictureMachine$Display" := F
  have hl : lv_has ls 1 [(0, .ref (ad 6))] := hl
  have hcs : (0 : Nat) ≤ 0 ∧ (0 : Nat) ≤ 0 := ⟨Nat.le_refl _, Nat.le_refl _⟩
  refine lv_aload_n (pc := 0) F.1 F.2.1 d_Ds_rowsOfMode_0 rfl (lv_at hl 0 rfl) ?_
  refine Kvi (pc := 1) (As := []) (rest := []) F w (c_Ds_mode l D cI ad σ) 6 rfl rfl k_Ds_mode m_349 (Nat.le_of_ble_eq_true rfl) (Nat.le_of_ble_eq_true rfl) ⟨rfl, rfl⟩ rfl hl.1 rfl (Nat.le_of_ble_eq_true rfl) d_Ds_rowsOfMode_1 hcs (fun r1 H locs e_r1 w => ?_)
  refine cutW (α := Int32) (fun x H locs ls => x = f_Ds_rowsOfMode_r4 σ r1 ∧ Wx D cI (wC cI ad) (AC ad) (AC ad) s s.heap H locs σ ∧ lv_has ls 1 [(0, .ref (ad 6))]) (fun x ls => F0 m 63 ls [.int x]) ?_ (fun k4 => ?_)
  · rintro v2 H locs ls ⟨ex, w, hl⟩
    have e_v2 := ex
    have w : Wx D cI (wC cI ad) (AC ad) (AC ad) s s.heap H locs σ := w
    have hl : lv_has ls 1 [(0, .ref (ad 6))] := hl
    show W _ _ _ _ _ _ _ _ _ _ _ _ _ _ _ (F0 m 63 ls [.int v2])
    exact Ki (pc := 63) F hr hlk w (by rw [e_v2, e_r1]; exact Eq.symm (rfl)) d_Ds_rowsOfMode_63
  · by_cases h4_0 : r1 = 0
    · refine lv_tableIn (pc := 4) F.1 F.2.1 d_Ds_rowsOfMode_4 (tgt := 40) (by rw [h4_0]; decide) (by rw [h4_0]; decide) (by rw [h4_0]; rfl) (by decide) ?_
      refine lv_aload_n (pc := 40) F.1 F.2.1 d_Ds_rowsOfMode_40 rfl (lv_at hl 0 rfl) ?_
      refine gC6_8 (pc := 41) F w (F.2.2.2.2 _ m_165) d_Ds_rowsOfMode_41 ?_
      refine lv_iconst (pc := 44) (v := 4) F.1 F.2.1 d_Ds_rowsOfMode_44 (by decide) ?_
      refine lv_ishr (pc := 45) F.1 F.2.1 d_Ds_rowsOfMode_45 ?_
      refine lv_bipush (pc := 46) (v := 7) F.1 F.2.1 d_Ds_rowsOfMode_46 (by decide) ?_
      refine lv_iand (pc := 48) F.1 F.2.1 d_Ds_rowsOfMode_48 ?_
      refine lv_iconst (pc := 49) (v := 1) F.1 F.2.1 d_Ds_rowsOfMode_49 (by decide) ?_
      refine lv_iadd (pc := 50) F.1 F.2.1 d_Ds_rowsOfMode_50 ?_
      refine lv_goto (pc := 51) F.1 F.2.1 d_Ds_rowsOfMode_51 (tgt := 63) (by decide) ?_
      exact k4 ((((σ 6 8) >>> ((4 : Int32) &&& 31)) &&& 7) + 1) _ _ _ ⟨(by exact Eq.symm (Eq.trans (if_pos h4_0) (rfl))), w, lv_sub hl [0] rfl⟩
    by_cases h4_1 : r1 = 1
    · refine lv_tableIn (pc := 4) F.1 F.2.1 d_Ds_rowsOfMode_4 (tgt := 62) (by rw [h4_1]; decide) (by rw [h4_1]; decide) (by rw [h4_1]; rfl) (by decide) ?_
      refine lv_iconst (pc := 62) (v := 1) F.1 F.2.1 d_Ds_rowsOfMode_62 (by decide) ?_
      exact k4 1 _ _ _ ⟨(by exact Eq.symm (Eq.trans (if_neg h4_0) (Eq.trans (if_pos h4_1) (rfl)))), w, lv_sub hl [0] rfl⟩
    by_cases h4_2 : r1 = 2
    · refine lv_tableIn (pc := 4) F.1 F.2.1 d_Ds_rowsOfMode_4 (tgt := 54) (by rw [h4_2]; decide) (by rw [h4_2]; decide) (by rw [h4_2]; rfl) (by decide) ?_
      refine lv_iconst (pc := 54) (v := 4) F.1 F.2.1 d_Ds_rowsOfMode_54 (by decide) ?_
      refine lv_goto (pc := 55) F.1 F.2.1 d_Ds_rowsOfMode_55 (tgt := 63) (by decide) ?_
      exact k4 4 _ _ _ ⟨(by exact Eq.symm (Eq.trans (if_neg h4_0) (Eq.trans (if_neg h4_1) (Eq.trans (if_pos h4_2) (rfl))))), w, lv_sub hl [0] rfl⟩
    by_cases h4_3 : r1 = 3
    · refine lv_tableIn (pc := 4) F.1 F.2.1 d_Ds_rowsOfMode_4 (tgt := 62) (by rw [h4_3]; decide) (by rw [h4_3]; decide) (by rw [h4_3]; rfl) (by decide) ?_
      refine lv_iconst (pc := 62) (v := 1) F.1 F.2.1 d_Ds_rowsOfMode_62 (by decide) ?_
      exact k4 1 _ _ _ ⟨(by exact Eq.symm (Eq.trans (if_neg h4_0) (Eq.trans (if_neg h4_1) (Eq.trans (if_neg h4_2) (Eq.trans (if_pos h4_3) (rfl)))))), w, lv_sub hl [0] rfl⟩
    by_cases h4_4 : r1 = 4
    · refine lv_tableIn (pc := 4) F.1 F.2.1 d_Ds_rowsOfMode_4 (tgt := 58) (by rw [h4_4]; decide) (by rw [h4_4]; decide) (by rw [h4_4]; rfl) (by decide) ?_
      refine lv_iconst (pc := 58) (v := 2) F.1 F.2.1 d_Ds_rowsOfMode_58 (by decide) ?_
      refine lv_goto (pc := 59) F.1 F.2.1 d_Ds_rowsOfMode_59 (tgt := 63) (by decide) ?_
      exact k4 2 _ _ _ ⟨(by exact Eq.symm (Eq.trans (if_neg h4_0) (Eq.trans (if_neg h4_1) (Eq.trans (if_neg h4_2) (Eq.trans (if_neg h4_3) (Eq.trans (if_pos h4_4) (rfl))))))), w, lv_sub hl [0] rfl⟩
    refine lv_tableOut (pc := 4) F.1 F.2.1 d_Ds_rowsOfMode_4 (tgt := 62) (by have q_h4_0 := lv_neT h4_0 (a := 0) rfl; have q_h4_1 := lv_neT h4_1 (a := 1) rfl; have q_h4_2 := lv_neT h4_2 (a := 2) rfl; have q_h4_3 := lv_neT h4_3 (a := 3) rfl; have q_h4_4 := lv_neT h4_4 (a := 4) rfl; omega) (by decide) ?_
    refine lv_iconst (pc := 62) (v := 1) F.1 F.2.1 d_Ds_rowsOfMode_62 (by decide) ?_
    exact k4 1 _ _ _ ⟨(by exact Eq.symm (Eq.trans (if_neg h4_0) (Eq.trans (if_neg h4_1) (Eq.trans (if_neg h4_2) (Eq.trans (if_neg h4_3) (Eq.trans (if_neg h4_4) (rfl))))))), w, lv_sub hl [0] rfl⟩
def f_Ds_modeHasData_r5 (σ : Sg) (r1 : Int32) : Int32 := if r1 < 2 then (0) else (let r2 := f_Ds_mode σ; if 4 < r2 then (0) else (1))
def f_Ds_modeHasData (σ : Sg) : Int32 := let r1 := f_Ds_mode σ; let v3 := (f_Ds_modeHasData_r5 σ r1); v3
theorem z_f_Ds_modeHasData_r5_0 (σ : Sg) (r1 : Int32) : (f_Ds_modeHasData_r5 σ r1) = 0 ∨ (f_Ds_modeHasData_r5 σ r1) = 1 := by unfold f_Ds_modeHasData_r5; (try dsimp only); (repeat' split) <;> first | exact Or.inl rfl | exact Or.inr rfl
theorem z_Ds_modeHasData (σ : Sg) : (f_Ds_modeHasData σ ) = 0 ∨ (f_Ds_modeHasData σ ) = 1 := by unfold f_Ds_modeHasData; (try dsimp only); (repeat' split) <;> first | exact Or.inl rfl | exact Or.inr rfl | apply z_f_Ds_modeHasData_r5_0
set_option maxHeartbeats 1000000 in
set_option maxRecDepth 100000 in
theorem c_Ds_modeHasData (l : Launch) (D : va_G) (cI : ClassId) (ad : Nat → Nat) (σ : Sg) : Met l y_Ds_modeHasData (Cond.code y_Ds_modeHasData b_Ds_modeHasData 1 (some .boolean) :: al) { frames := 1, cells := 0, slots := 0, locals := 20 } (Px D cI (wC cI ad) (AC ad) σ [.ref (ad 6)]) (va_Qi (fun r u => r = f_Ds_modeHasData σ  ∧ u = σ) (Bx D cI (wC cI ad) (AC ad)) (AC ad)) 0 0 (AC ad) := by
  refine Mx l (by decide) (Nat.le_of_ble_eq_true rfl) ?_
  intro p e s m below meth c ls F w hr hlk hl
  have F : CallFix p m c b_Ds_modeHasData 1 s _ al "PictureMachine$Display" := F
  have hl : lv_has ls 1 [(0, .ref (ad 6))] := hl
  have hcs : (0 : Nat) ≤ 0 ∧ (0 : Nat) ≤ 0 := ⟨Nat.le_refl _, Nat.le_refl _⟩
  refine lv_aload_n (pc := 0) F.1 F.2.1 d_Ds_modeHasData_0 rfl (lv_at hl 0 rfl) ?_
  refine Kvi (pc := 1) (As := []) (rest := []) F w (c_Ds_mode l D cI ad σ) 6 rfl rfl k_Ds_mode m_349 (Nat.le_of_ble_eq_true rfl) (Nat.le_of_ble_eq_true rfl) ⟨rfl, rfl⟩ rfl hl.1 rfl (Nat.le_of_ble_eq_true rfl) d_Ds_modeHasData_1 hcs (fun r1 H locs e_r1 w => ?_)
  refine lv_iconst (pc := 4) (v := 2) F.1 F.2.1 d_Ds_modeHasData_4 (by decide) ?_
  refine cutW (α := Int32) (fun x H locs ls => x = f_Ds_modeHasData_r5 σ r1 ∧ Wx D cI (wC cI ad) (AC ad) (AC ad) s s.heap H locs σ ∧ lv_has ls 1 [(0, .ref (ad 6))]) (fun x ls => F0 m 21 ls [.int x]) ?_ (fun k5 => ?_)
  · rintro v3 H locs ls ⟨ex, w, hl⟩
    have e_v3 := ex
    have w : Wx D cI (wC cI ad) (AC ad) (AC ad) s s.heap H locs σ := w
    have hl : lv_has ls 1 [(0, .ref (ad 6))] := hl
    show W _ _ _ _ _ _ _ _ _ _ _ _ _ _ _ (F0 m 21 ls [.int v3])
    exact Kz (pc := 21) F hr hlk w (e_v3 ▸ z_f_Ds_modeHasData_r5_0 σ r1) (by rw [e_v3, e_r1]; exact Eq.symm (rfl)) d_Ds_modeHasData_21
  · refine lv_icmp_lt (pc := 5) F.1 F.2.1 d_Ds_modeHasData_5 (tgt := 20) (by decide) (fun h5 => ?_) (fun h5 => ?_)
    · refine lv_iconst (pc := 20) (v := 0) F.1 F.2.1 d_Ds_modeHasData_20 (by decide) ?_
      exact k5 0 _ _ _ ⟨(by exact Eq.symm (Eq.trans (if_pos h5) (rfl))), w, lv_sub hl [0] rfl⟩
    · refine lv_aload_n (pc := 8) F.1 F.2.1 d_Ds_modeHasData_8 rfl (lv_at hl 0 rfl) ?_
      refine Kvi (pc := 9) (As := []) (rest := []) F w (c_Ds_mode l D cI ad σ) 6 rfl rfl k_Ds_mode m_349 (Nat.le_of_ble_eq_true rfl) (Nat.le_of_ble_eq_true rfl) ⟨rfl, rfl⟩ rfl hl.1 rfl (Nat.le_of_ble_eq_true rfl) d_Ds_modeHasData_9 hcs (fun r2 H locs e_r2 w => ?_)
      refine lv_iconst (pc := 12) (v := 4) F.1 F.2.1 d_Ds_modeHasData_12 (by decide) ?_
      refine lv_icmp_gt (pc := 13) F.1 F.2.1 d_Ds_modeHasData_13 (tgt := 20) (by decide) (fun h13 => ?_) (fun h13 => ?_)
      · refine lv_iconst (pc := 20) (v := 0) F.1 F.2.1 d_Ds_modeHasData_20 (by decide) ?_
        exact k5 0 _ _ _ ⟨(by rw [e_r2] at h13; exact Eq.symm (Eq.trans (if_neg h5) (Eq.trans (if_pos h13) (rfl)))), w, lv_sub hl [0] rfl⟩
      · refine lv_iconst (pc := 16) (v := 1) F.1 F.2.1 d_Ds_modeHasData_16 (by decide) ?_
        refine lv_goto (pc := 17) F.1 F.2.1 d_Ds_modeHasData_17 (tgt := 21) (by decide) ?_
        exact k5 1 _ _ _ ⟨(by rw [e_r2] at h13; exact Eq.symm (Eq.trans (if_neg h5) (Eq.trans (if_neg h13) (rfl)))), w, lv_sub hl [0] rfl⟩
def f_Ds_beginModeLine_r43 (s7 : Sg) (r8 : Int32) : Int32 := if r8 = 1 then (1) else (let r9 := f_Ds_modeHasData s7; if r9 = 0 then (0) else (if ((s7 6 8) &&& 64) = 0 then (0) else (1)))
def f_Ds_beginModeLine (σ : Sg) : Int32 × Sg := let r1 := f_Ds_hasRow σ; if r1 = 0 then (if (σ 6 11) = 0 then (let r2 := (f_Ds_nextOfList σ).1; let s3 := (f_Ds_nextOfList σ).2; let s4 := sf s3 6 8 r2; let r5 := f_Ds_rowsOfMode s4; let s6 := sf s4 6 9 r5; let s7 := sf s6 6 10 0; let r8 := f_Ds_mode s7; let v10 := (f_Ds_beginModeLine_r43 s7 r8); let s11 := sf s7 6 12 v10; (1, s11)) else ((0, σ))) else ((0, σ))
theorem z_f_Ds_beginModeLine_r43_0 (s7 : Sg) (r8 : Int32) : (f_Ds_beginModeLine_r43 s7 r8) = 0 ∨ (f_Ds_beginModeLine_r43 s7 r8) = 1 := by unfold f_Ds_beginModeLine_r43; (try dsimp only); (repeat' split) <;> first | exact Or.inl rfl | exact Or.inr rfl | apply z_Ds_hasRow | apply z_Ds_modeHasData
theorem z_Ds_beginModeLine (σ : Sg) : (f_Ds_beginModeLine σ ).1 = 0 ∨ (f_Ds_beginModeLine σ ).1 = 1 := by unfold f_Ds_beginModeLine; (try dsimp only); (repeat' split) <;> first | exact Or.inl rfl | exact Or.inr rfl | apply z_f_Ds_beginModeLine_r43_0 | apply z_Ds_hasRow | apply z_Ds_modeHasData
set_option maxHeartbeats 1000000 in
set_option maxRecDepth 100000 in
theorem c_Ds_beginModeLine (l : Launch) (D : va_G) (cI : ClassId) (ad : Nat → Nat) (σ : Sg) : Met l y_Ds_beginModeLine (Cond.code y_Ds_beginModeLine b_Ds_beginModeLine 1 (some .boolean) :: al) { frames := 2, cells := 0, slots := 0, locals := 43 } (Px D cI (wC cI ad) (AC ad) σ [.ref (ad 6)]) (va_Qi (fun r u => (r, u) = f_Ds_beginModeLine σ ) (Bx D cI (wC cI ad) (AC ad)) (AC ad)) 0 0 (AC ad) := by
  refine Mx l (by decide) (Nat.le_of_ble_eq_true rfl) ?_
  intro p e s m below meth c ls F w hr hlk hl
  have F : CallFix p m c b_Ds_beginModeLine 1 s _ al "PictureMachine$Display" := F
  have hl : lv_has ls 1 [(0, .ref (ad 6))] := hl
  have hcs : (0 : Nat) ≤ 0 ∧ (0 : Nat) ≤ 0 := ⟨Nat.le_refl _, Nat.le_refl _⟩
  refine lv_aload_n (pc := 0) F.1 F.2.1 d_Ds_beginModeLine_0 rfl (lv_at hl 0 rfl) ?_
  refine Kvi (pc := 1) (As := []) (rest := []) F w (c_Ds_hasRow l D cI ad σ) 6 rfl rfl k_Ds_hasRow m_345 (Nat.le_of_ble_eq_true rfl) (Nat.le_of_ble_eq_true rfl) ⟨rfl, rfl⟩ rfl hl.1 rfl (Nat.le_of_ble_eq_true rfl) d_Ds_beginModeLine_1 hcs (fun r1 H locs e_r1 w => ?_)
  refine lv_if_ne (pc := 4) F.1 F.2.1 d_Ds_beginModeLine_4 (tgt := 14) (by decide) (fun h4 => ?_) (fun h4 => ?_)
  · refine lv_iconst (pc := 14) (v := 0) F.1 F.2.1 d_Ds_beginModeLine_14 (by decide) ?_
    exact Rz (pc := 15) F hr hlk w (Or.inl rfl) (by rw [e_r1] at h4; exact Eq.symm (Eq.trans (if_neg h4) (rfl))) d_Ds_beginModeLine_15
  · refine lv_aload_n (pc := 7) F.1 F.2.1 d_Ds_beginModeLine_7 rfl (lv_at hl 0 rfl) ?_
    refine gC6_11 (pc := 8) F w (F.2.2.2.2 _ m_168) d_Ds_beginModeLine_8 ?_
    refine lv_if_eq (pc := 11) F.1 F.2.1 d_Ds_beginModeLine_11 (tgt := 16) (by decide) (fun h11 => ?_) (fun h11 => ?_)
    · refine lv_aload_n (pc := 16) F.1 F.2.1 d_Ds_beginModeLine_16 rfl (lv_at hl 0 rfl) ?_
      refine lv_aload_n (pc := 17) F.1 F.2.1 d_Ds_beginModeLine_17 rfl (lv_at hl 0 rfl) ?_
      refine Cvi (pc := 18) (As := []) (rest := [.ref (ad 6)]) F w (c_Ds_nextOfList l D cI ad σ) 6 rfl rfl k_Ds_nextOfList m_579 (Nat.le_of_ble_eq_true rfl) (Nat.le_of_ble_eq_true rfl) ⟨rfl, rfl⟩ rfl hl.1 rfl (Nat.le_of_ble_eq_true rfl) d_Ds_beginModeLine_18 hcs (fun r2 s3 H locs e_r2 e_s3 w => ?_)
      refine pC6_8 (pc := 21) F w (F.2.2.2.2 _ m_165) d_Ds_beginModeLine_21 (fun H locs s4 e_s4 w => ?_)
      refine lv_aload_n (pc := 24) F.1 F.2.1 d_Ds_beginModeLine_24 rfl (lv_at hl 0 rfl) ?_
      refine lv_aload_n (pc := 25) F.1 F.2.1 d_Ds_beginModeLine_25 rfl (lv_at hl 0 rfl) ?_
      refine Kvi (pc := 26) (As := []) (rest := [.ref (ad 6)]) F w (c_Ds_rowsOfMode l D cI ad s4) 6 rfl rfl k_Ds_rowsOfMode m_586 (Nat.le_of_ble_eq_true rfl) (Nat.le_of_ble_eq_true rfl) ⟨rfl, rfl⟩ rfl hl.1 rfl (Nat.le_of_ble_eq_true rfl) d_Ds_beginModeLine_26 hcs (fun r5 H locs e_r5 w => ?_)
      refine pC6_9 (pc := 29) F w (F.2.2.2.2 _ m_166) d_Ds_beginModeLine_29 (fun H locs s6 e_s6 w => ?_)
      refine lv_aload_n (pc := 32) F.1 F.2.1 d_Ds_beginModeLine_32 rfl (lv_at hl 0 rfl) ?_
      refine lv_iconst (pc := 33) (v := 0) F.1 F.2.1 d_Ds_beginModeLine_33 (by decide) ?_
      refine pC6_10 (pc := 34) F w (F.2.2.2.2 _ m_167) d_Ds_beginModeLine_34 (fun H locs s7 e_s7 w => ?_)
      refine lv_aload_n (pc := 37) F.1 F.2.1 d_Ds_beginModeLine_37 rfl (lv_at hl 0 rfl) ?_
      refine lv_aload_n (pc := 38) F.1 F.2.1 d_Ds_beginModeLine_38 rfl (lv_at hl 0 rfl) ?_
      refine Kvi (pc := 39) (As := []) (rest := [.ref (ad 6)]) F w (c_Ds_mode l D cI ad s7) 6 rfl rfl k_Ds_mode m_349 (Nat.le_of_ble_eq_true rfl) (Nat.le_of_ble_eq_true rfl) ⟨rfl, rfl⟩ rfl hl.1 rfl (Nat.le_of_ble_eq_true rfl) d_Ds_beginModeLine_39 hcs (fun r8 H locs e_r8 w => ?_)
      refine lv_iconst (pc := 42) (v := 1) F.1 F.2.1 d_Ds_beginModeLine_42 (by decide) ?_
      refine cutW (α := Int32) (fun x H locs ls => x = f_Ds_beginModeLine_r43 s7 r8 ∧ Wx D cI (wC cI ad) (AC ad) (AC ad) s s.heap H locs s7 ∧ lv_has ls 1 [(0, .ref (ad 6))]) (fun x ls => F0 m 68 ls [.int x, .ref (ad 6)]) ?_ (fun k43 => ?_)
      · rintro v10 H locs ls ⟨ex, w, hl⟩
        have e_v10 := ex
        have w : Wx D cI (wC cI ad) (AC ad) (AC ad) s s.heap H locs s7 := w
        have hl : lv_has ls 1 [(0, .ref (ad 6))] := hl
        show W _ _ _ _ _ _ _ _ _ _ _ _ _ _ _ (F0 m 68 ls [.int v10, .ref (ad 6)])
        refine pC6_12 (pc := 68) F w (e_v10 ▸ z_f_Ds_beginModeLine_r43_0 s7 r8) (F.2.2.2.2 _ m_170) d_Ds_beginModeLine_68 (fun H locs s11 e_s11 w => ?_)
        refine lv_iconst (pc := 71) (v := 1) F.1 F.2.1 d_Ds_beginModeLine_71 (by decide) ?_
        exact Rz (pc := 72) F hr hlk w (Or.inr rfl) (by rw [e_r1] at h4; rw [e_s11, e_v10, e_r8, e_s7, e_s6, e_r5, e_s4, e_s3, e_r2]; exact Eq.symm (Eq.trans (if_pos h4) (Eq.trans (if_pos h11) (rfl)))) d_Ds_beginModeLine_72
      · refine lv_icmp_eq (pc := 43) F.1 F.2.1 d_Ds_beginModeLine_43 (tgt := 63) (by decide) (fun h43 => ?_) (fun h43 => ?_)
        · refine lv_iconst (pc := 63) (v := 1) F.1 F.2.1 d_Ds_beginModeLine_63 (by decide) ?_
          refine lv_goto (pc := 64) F.1 F.2.1 d_Ds_beginModeLine_64 (tgt := 68) (by decide) ?_
          exact k43 1 _ _ _ ⟨(by exact Eq.symm (Eq.trans (if_pos h43) (rfl))), w, lv_sub hl [0] rfl⟩
        · refine lv_aload_n (pc := 46) F.1 F.2.1 d_Ds_beginModeLine_46 rfl (lv_at hl 0 rfl) ?_
          refine Kvi (pc := 47) (As := []) (rest := [.ref (ad 6)]) F w (c_Ds_modeHasData l D cI ad s7) 6 rfl rfl k_Ds_modeHasData m_590 (Nat.le_of_ble_eq_true rfl) (Nat.le_of_ble_eq_true rfl) ⟨rfl, rfl⟩ rfl hl.1 rfl (Nat.le_of_ble_eq_true rfl) d_Ds_beginModeLine_47 hcs (fun r9 H locs e_r9 w => ?_)
          refine lv_if_eq (pc := 50) F.1 F.2.1 d_Ds_beginModeLine_50 (tgt := 67) (by decide) (fun h50 => ?_) (fun h50 => ?_)
          · refine lv_iconst (pc := 67) (v := 0) F.1 F.2.1 d_Ds_beginModeLine_67 (by decide) ?_
            exact k43 0 _ _ _ ⟨(by rw [e_r9] at h50; exact Eq.symm (Eq.trans (if_neg h43) (Eq.trans (if_pos h50) (rfl)))), w, lv_sub hl [0] rfl⟩
          · refine lv_aload_n (pc := 53) F.1 F.2.1 d_Ds_beginModeLine_53 rfl (lv_at hl 0 rfl) ?_
            refine gC6_8 (pc := 54) F w (F.2.2.2.2 _ m_165) d_Ds_beginModeLine_54 ?_
            refine lv_bipush (pc := 57) (v := 64) F.1 F.2.1 d_Ds_beginModeLine_57 (by decide) ?_
            refine lv_iand (pc := 59) F.1 F.2.1 d_Ds_beginModeLine_59 ?_
            refine lv_if_eq (pc := 60) F.1 F.2.1 d_Ds_beginModeLine_60 (tgt := 67) (by decide) (fun h60 => ?_) (fun h60 => ?_)
            · refine lv_iconst (pc := 67) (v := 0) F.1 F.2.1 d_Ds_beginModeLine_67 (by decide) ?_
              exact k43 0 _ _ _ ⟨(by rw [e_r9] at h50; exact Eq.symm (Eq.trans (if_neg h43) (Eq.trans (if_neg h50) (Eq.trans (if_pos h60) (rfl))))), w, lv_sub hl [0] rfl⟩
            · refine lv_iconst (pc := 63) (v := 1) F.1 F.2.1 d_Ds_beginModeLine_63 (by decide) ?_
              refine lv_goto (pc := 64) F.1 F.2.1 d_Ds_beginModeLine_64 (tgt := 68) (by decide) ?_
              exact k43 1 _ _ _ ⟨(by rw [e_r9] at h50; exact Eq.symm (Eq.trans (if_neg h43) (Eq.trans (if_neg h50) (Eq.trans (if_neg h60) (rfl))))), w, lv_sub hl [0] rfl⟩
    · refine lv_iconst (pc := 14) (v := 0) F.1 F.2.1 d_Ds_beginModeLine_14 (by decide) ?_
      exact Rz (pc := 15) F hr hlk w (Or.inl rfl) (by rw [e_r1] at h4; exact Eq.symm (Eq.trans (if_pos h4) (Eq.trans (if_neg h11) (rfl)))) d_Ds_beginModeLine_15
