section LAW4
variable {p : Program} {l : Launch} {e : Env} {R : Room} {s : State} {m : MethodId} {args : Array Value} {below : List Frame} {meth : Method} {c : Code} {H : Heap} {locs : List Loc} {cc : ByteArray} {pc nL : Nat} {ls : Array Slot} {own : String} {D : va_G} {cI cL : ClassId} {ad : Nat → Nat} {σ u : Sg}
theorem RiO {o : Nat} {g : Nat → Int64} (F : CallFix p m c cc nL s args al own) (hr : meth.sig.returnType = some .int) (hlk : meth.locks = false) (hK : va_K D vwCl [(cI, .int)] s) (hP : va_P D vwCl (wC cI ad u) H) (hD : va_D (AC ad) (wC cI ad u)) (hN : NW s) (hPo : va_P D vwCl (oW cL o g) H) (hS : va_S (AO ad o) s.heap H locs) {v : Int32} {f : Int32 × Sg × (Nat → Int64)} (hf : (v, u, g) = f) (hdg : decode cc pc = .ok (.ireturn, 1)) :
    W p l e R s m args below meth c H locs 1 6 (MQ below (va_Qi (fun r u => (r, u) = f) (BO D cI cL ad o) (AO ad o)) args s 1 6 (AO ad o)) (F0 m pc ls [.int v]) :=
  W.iret F.1 F.2.1 hr (fun t ht hW => ⟨⟨v, (u, g), rfl, hf, ⟨by rw [ht]; exact hP, va_K.moved hW.alike hK, hD, NW.warm hW hN⟩, by rw [ht]; exact hPo⟩, hS.F ht⟩) hS.2.2 hdg hlk
theorem S.gr {A : Nat → Prop} {H0 H1 : Heap} (g : Gr H0 H1) : va_S A H0 H1 [] := ⟨g.1, fun q h1 _ => g.2 q h1, fun _ h => by cases h⟩
end LAW4
def fL_peek (σ : Sg) (g : Nat → Int64) (x1 : Int32) : Int32 × Sg × (Nat → Int64) := if f_Pm_isMemory x1 = 0 then (1, σ, g) else (0, (f_Pm_peek σ x1).2, vp_updL g 0 (f_Pm_peek σ x1).1.toInt64)
theorem c_La_peek (l : Launch) (htr : l.stackTraces = false) (D : va_G) (cI cL : ClassId) (ad : Nat → Nat) (o : Nat) (σ : Sg) (g : Nat → Int64) (x1 : Int32) : Met l y_La_peek (Cond.codeWith y_La_peek b_La_peek 4 (some .int) [(0, 9, 12, 13)] :: al) { frames := 8, cells := 1, slots := 6, locals := 149 } (va_Pc [.ref (ad 0), .int x1, .ref o] (BLo D cI cL ad o σ g)) (va_Qi (fun r u => (r, u) = fL_peek σ g x1) (BO D cI cL ad o) (AO ad o)) 1 6 (AO ad o) := by
  refine ML l (by decide) (Nat.le_of_ble_eq_true rfl) ?_
  intro p e s m below meth c ls z F hB hz hz4 hr hlk hl
  obtain ⟨⟨⟨hP, hK, hD, hN⟩, hZ⟩, hPo, hKo, ho⟩ := hB
  have F : CallFix p m c b_La_peek 4 s _ al "PictureMachineLaw" := F
  have hl : lv_has ls 4 [(0, .ref (ad 0)), (1, .int x1), (2, .ref o)] := hl
  have w : Wx D cI (wC cI ad) (AC ad) (AC ad) s s.heap s.heap [] σ := ⟨hK, hP, hD, va_S.rf, hN, fun _ h => h⟩
  have hcs : (0 : Nat) ≤ 1 ∧ (0 : Nat) ≤ 6 := ⟨Nat.zero_le _, Nat.zero_le _⟩
  refine lv_aload_n (pc := 0) F.1 F.2.1 d_La_peek_0 rfl (lv_at hl 2 rfl) ?_
  refine lv_iconst (pc := 1) (v := 0) F.1 F.2.1 d_La_peek_1 (by decide) ?_
  refine lv_aload_n (pc := 2) F.1 F.2.1 d_La_peek_2 rfl (lv_at hl 0 rfl) ?_
  refine lv_iload_n (pc := 3) F.1 F.2.1 d_La_peek_3 rfl (lv_at hl 1 rfl) ?_
  by_cases hv : f_Pm_isMemory x1 = 0
  · refine thL (pc := 4) (As := [.int x1]) (rest := [.int 0, .ref o]) F w hZ (t_Pm_peek l htr (AC ad) ad x1 hv) k_Pm_peek m_443 (Nat.le_of_ble_eq_true rfl) (Nat.le_of_ble_eq_true rfl) rfl rfl ⟨Nat.le_refl _, Nat.le_refl _⟩ rfl hl.1 rfl (Nat.le_of_ble_eq_true rfl) d_La_peek_4 hz hz4 (by decide) (by decide) m_360 (fun x H gr => ?_)
    refine lv_astore_n (pc := 12) F.1 F.2.1 d_La_peek_12 rfl hl (by decide) rfl (fun ls hl => ?_)
    refine lv_iconst (pc := 13) (v := 1) F.1 F.2.1 d_La_peek_13 (by decide) ?_
    exact RiO (pc := 14) F hr hlk hK (gr.P hP) hD hN (gr.P hPo) (S.gr gr) (by exact Eq.symm (if_pos hv)) d_La_peek_14
  · refine CviX (pc := 4) (As := [.int x1]) (rest := [.int 0, .ref o]) F w (c_Pm_peek l D cI ad σ x1 hv) 0 rfl rfl k_Pm_peek m_443 (Nat.le_of_ble_eq_true rfl) (Nat.le_of_ble_eq_true rfl) ⟨rfl, rfl⟩ rfl hl.1 rfl (Nat.le_of_ble_eq_true rfl) d_La_peek_4 hcs (fun r u H locs e_r e_u w hk => ?_)
    have hPo : va_P D vwCl (oW cL o g) H := hPo.kept (fun k q hq => hk q.1 (hPo k q hq).lt (by
      have hk1 : k < 1 := (List.getElem?_eq_some_iff.mp hq).1
      have hk0 : k = 0 := by omega
      subst hk0
      cases hq
      exact ho))
    refine lv_i2l (pc := 7) (v := r.toInt64) F.1 F.2.1 d_La_peek_7 rfl ?_
    refine putO (pc := 8) F w hPo hKo ho d_La_peek_8 (fun H locs hK hP hD hPo hS => ?_)
    refine lv_goto (pc := 9) F.1 F.2.1 d_La_peek_9 (tgt := 15) (by decide) ?_
    refine lv_iconst (pc := 15) (v := 0) F.1 F.2.1 d_La_peek_15 (by decide) ?_
    refine W.widen (k := 1) (n := 6) (Nat.zero_le _) (Nat.zero_le _) ?_
    exact RiO (pc := 16) F hr hlk hK hP hD hN hPo hS (by rw [e_u, e_r]; exact Eq.symm (if_neg hv)) d_La_peek_16
def fL_sector (σ : Sg) (g : Nat → Int64) (x1 x2 : Int32) : Int32 × Sg × (Nat → Int64) := if f_Pm_isPlaceOnDisk x1 x2 = 0 then (1, σ, g) else (0, (f_Pm_sector σ x1 x2).2, vp_updL g 0 (f_Pm_sector σ x1 x2).1.toInt64)
theorem c_La_sector (l : Launch) (htr : l.stackTraces = false) (D : va_G) (cI cL : ClassId) (ad : Nat → Nat) (o : Nat) (σ : Sg) (g : Nat → Int64) (x1 x2 : Int32) : Met l y_La_sector (Cond.codeWith y_La_sector b_La_sector 5 (some .int) [(0, 10, 13, 13)] :: al) { frames := 8, cells := 1, slots := 6, locals := 150 } (va_Pc [.ref (ad 0), .int x1, .int x2, .ref o] (BLo D cI cL ad o σ g)) (va_Qi (fun r u => (r, u) = fL_sector σ g x1 x2) (BO D cI cL ad o) (AO ad o)) 1 6 (AO ad o) := by
  refine ML l (by decide) (Nat.le_of_ble_eq_true rfl) ?_
  intro p e s m below meth c ls z F hB hz hz4 hr hlk hl
  obtain ⟨⟨⟨hP, hK, hD, hN⟩, hZ⟩, hPo, hKo, ho⟩ := hB
  have F : CallFix p m c b_La_sector 5 s _ al "PictureMachineLaw" := F
  have hl : lv_has ls 5 [(0, .ref (ad 0)), (1, .int x1), (2, .int x2), (3, .ref o)] := hl
  have w : Wx D cI (wC cI ad) (AC ad) (AC ad) s s.heap s.heap [] σ := ⟨hK, hP, hD, va_S.rf, hN, fun _ h => h⟩
  have hcs : (0 : Nat) ≤ 1 ∧ (0 : Nat) ≤ 6 := ⟨Nat.zero_le _, Nat.zero_le _⟩
  refine lv_aload_n (pc := 0) F.1 F.2.1 d_La_sector_0 rfl (lv_at hl 3 rfl) ?_
  refine lv_iconst (pc := 1) (v := 0) F.1 F.2.1 d_La_sector_1 (by decide) ?_
  refine lv_aload_n (pc := 2) F.1 F.2.1 d_La_sector_2 rfl (lv_at hl 0 rfl) ?_
  refine lv_iload_n (pc := 3) F.1 F.2.1 d_La_sector_3 rfl (lv_at hl 1 rfl) ?_
  refine lv_iload_n (pc := 4) F.1 F.2.1 d_La_sector_4 rfl (lv_at hl 2 rfl) ?_
  by_cases hv : f_Pm_isPlaceOnDisk x1 x2 = 0
  · refine thL (pc := 5) (As := [.int x1, .int x2]) (rest := [.int 0, .ref o]) F w hZ (t_Pm_sector l htr (AC ad) ad x1 x2 hv) k_Pm_sector m_513 (Nat.le_of_ble_eq_true rfl) (Nat.le_of_ble_eq_true rfl) rfl rfl ⟨Nat.le_refl _, Nat.le_refl _⟩ rfl hl.1 rfl (Nat.le_of_ble_eq_true rfl) d_La_sector_5 hz hz4 (by decide) (by decide) m_360 (fun x H gr => ?_)
    refine lv_astore (pc := 13) F.1 F.2.1 d_La_sector_13 hl (by decide) rfl (fun ls hl => ?_)
    refine lv_iconst (pc := 15) (v := 1) F.1 F.2.1 d_La_sector_15 (by decide) ?_
    exact RiO (pc := 16) F hr hlk hK (gr.P hP) hD hN (gr.P hPo) (S.gr gr) (by exact Eq.symm (if_pos hv)) d_La_sector_16
  · refine CviX (pc := 5) (As := [.int x1, .int x2]) (rest := [.int 0, .ref o]) F w (c_Pm_sector l D cI ad σ x1 x2 hv) 0 rfl rfl k_Pm_sector m_513 (Nat.le_of_ble_eq_true rfl) (Nat.le_of_ble_eq_true rfl) ⟨rfl, rfl⟩ rfl hl.1 rfl (Nat.le_of_ble_eq_true rfl) d_La_sector_5 hcs (fun r u H locs e_r e_u w hk => ?_)
    have hPo : va_P D vwCl (oW cL o g) H := hPo.kept (fun k q hq => hk q.1 (hPo k q hq).lt (by
      have hk1 : k < 1 := (List.getElem?_eq_some_iff.mp hq).1
      have hk0 : k = 0 := by omega
      subst hk0
      cases hq
      exact ho))
    refine lv_i2l (pc := 8) (v := r.toInt64) F.1 F.2.1 d_La_sector_8 rfl ?_
    refine putO (pc := 9) F w hPo hKo ho d_La_sector_9 (fun H locs hK hP hD hPo hS => ?_)
    refine lv_goto (pc := 10) F.1 F.2.1 d_La_sector_10 (tgt := 17) (by decide) ?_
    refine lv_iconst (pc := 17) (v := 0) F.1 F.2.1 d_La_sector_17 (by decide) ?_
    refine W.widen (k := 1) (n := 6) (Nat.zero_le _) (Nat.zero_le _) ?_
    exact RiO (pc := 18) F hr hlk hK hP hD hN hPo hS (by rw [e_u, e_r]; exact Eq.symm (if_neg hv)) d_La_sector_18
def fL_run (σ : Sg) (g : Nat → Int64) (x1 : Int32) : Int32 × Sg × (Nat → Int64) := if f_Pm_run_r1 x1 = 0 then (1, σ, g) else (0, (f_Pm_run σ x1).2, vp_updL g 0 (f_Pm_run σ x1).1.toInt64)
theorem c_La_run (l : Launch) (htr : l.stackTraces = false) (D : va_G) (cI cL : ClassId) (ad : Nat → Nat) (o : Nat) (σ : Sg) (g : Nat → Int64) (x1 : Int32) (hO : ∀ j, j < x1.toNatClampNeg → OkC (it_Pm_run_23 σ j).2) : Met l y_La_run (Cond.codeWith y_La_run b_La_run 4 (some .int) [(0, 9, 12, 13)] :: al) { frames := 8, cells := 1, slots := 6, locals := 217 } (va_Pc [.ref (ad 0), .int x1, .ref o] (BLo D cI cL ad o σ g)) (va_Qi (fun r u => (r, u) = fL_run σ g x1) (BO D cI cL ad o) (AO ad o)) 1 6 (AO ad o) := by
  refine ML l (by decide) (Nat.le_of_ble_eq_true rfl) ?_
  intro p e s m below meth c ls z F hB hz hz4 hr hlk hl
  obtain ⟨⟨⟨hP, hK, hD, hN⟩, hZ⟩, hPo, hKo, ho⟩ := hB
  have F : CallFix p m c b_La_run 4 s _ al "PictureMachineLaw" := F
  have hl : lv_has ls 4 [(0, .ref (ad 0)), (1, .int x1), (2, .ref o)] := hl
  have w : Wx D cI (wC cI ad) (AC ad) (AC ad) s s.heap s.heap [] σ := ⟨hK, hP, hD, va_S.rf, hN, fun _ h => h⟩
  have hcs : (0 : Nat) ≤ 1 ∧ (0 : Nat) ≤ 6 := ⟨Nat.zero_le _, Nat.zero_le _⟩
  refine lv_aload_n (pc := 0) F.1 F.2.1 d_La_run_0 rfl (lv_at hl 2 rfl) ?_
  refine lv_iconst (pc := 1) (v := 0) F.1 F.2.1 d_La_run_1 (by decide) ?_
  refine lv_aload_n (pc := 2) F.1 F.2.1 d_La_run_2 rfl (lv_at hl 0 rfl) ?_
  refine lv_iload_n (pc := 3) F.1 F.2.1 d_La_run_3 rfl (lv_at hl 1 rfl) ?_
  by_cases hv : f_Pm_run_r1 x1 = 0
  · refine thL (pc := 4) (As := [.int x1]) (rest := [.int 0, .ref o]) F w hZ (t_Pm_run l htr (AC ad) ad x1 hv) k_Pm_run m_531 (Nat.le_of_ble_eq_true rfl) (Nat.le_of_ble_eq_true rfl) rfl rfl ⟨Nat.le_refl _, Nat.le_refl _⟩ rfl hl.1 rfl (Nat.le_of_ble_eq_true rfl) d_La_run_4 hz hz4 (by decide) (by decide) m_360 (fun x H gr => ?_)
    refine lv_astore_n (pc := 12) F.1 F.2.1 d_La_run_12 rfl hl (by decide) rfl (fun ls hl => ?_)
    refine lv_iconst (pc := 13) (v := 1) F.1 F.2.1 d_La_run_13 (by decide) ?_
    exact RiO (pc := 14) F hr hlk hK (gr.P hP) hD hN (gr.P hPo) (S.gr gr) (by exact Eq.symm (if_pos hv)) d_La_run_14
  · refine CviX (pc := 4) (As := [.int x1]) (rest := [.int 0, .ref o]) F w (c_Pm_run l D cI ad σ x1 hO hv) 0 rfl rfl k_Pm_run m_531 (Nat.le_of_ble_eq_true rfl) (Nat.le_of_ble_eq_true rfl) ⟨rfl, rfl⟩ rfl hl.1 rfl (Nat.le_of_ble_eq_true rfl) d_La_run_4 hcs (fun r u H locs e_r e_u w hk => ?_)
    have hPo : va_P D vwCl (oW cL o g) H := hPo.kept (fun k q hq => hk q.1 (hPo k q hq).lt (by
      have hk1 : k < 1 := (List.getElem?_eq_some_iff.mp hq).1
      have hk0 : k = 0 := by omega
      subst hk0
      cases hq
      exact ho))
    refine lv_i2l (pc := 7) (v := r.toInt64) F.1 F.2.1 d_La_run_7 rfl ?_
    refine putO (pc := 8) F w hPo hKo ho d_La_run_8 (fun H locs hK hP hD hPo hS => ?_)
    refine lv_goto (pc := 9) F.1 F.2.1 d_La_run_9 (tgt := 15) (by decide) ?_
    refine lv_iconst (pc := 15) (v := 0) F.1 F.2.1 d_La_run_15 (by decide) ?_
    refine W.widen (k := 1) (n := 6) (Nat.zero_le _) (Nat.zero_le _) ?_
    exact RiO (pc := 16) F hr hlk hK hP hD hN hPo hS (by rw [e_u, e_r]; exact Eq.symm (if_neg hv)) d_La_run_16
def fL_dot (σ : Sg) (g : Nat → Int64) (x1 x2 : Int32) : Int32 × Sg × (Nat → Int64) := if f_Pm_isShownLine x1 = 0 ∨ x2 < 0 ∨ ¬ x2 < 32 then (1, σ, g) else (0, (f_Pm_dot σ x1 x2).2, vp_updL g 0 (f_Pm_dot σ x1 x2).1.toInt64)
theorem c_La_dot (l : Launch) (htr : l.stackTraces = false) (D : va_G) (cI cL : ClassId) (ad : Nat → Nat) (o : Nat) (σ : Sg) (g : Nat → Int64) (x1 x2 : Int32) : Met l y_La_dot (Cond.codeWith y_La_dot b_La_dot 5 (some .int) [(0, 10, 13, 40)] :: al) { frames := 8, cells := 1, slots := 6, locals := 150 } (va_Pc [.ref (ad 0), .int x1, .int x2, .ref o] (BLo D cI cL ad o σ g)) (va_Qi (fun r u => (r, u) = fL_dot σ g x1 x2) (BO D cI cL ad o) (AO ad o)) 1 6 (AO ad o) := by
  refine ML l (by decide) (Nat.le_of_ble_eq_true rfl) ?_
  intro p e s m below meth c ls z F hB hz hz4 hr hlk hl
  obtain ⟨⟨⟨hP, hK, hD, hN⟩, hZ⟩, hPo, hKo, ho⟩ := hB
  have F : CallFix p m c b_La_dot 5 s _ al "PictureMachineLaw" := F
  have hl : lv_has ls 5 [(0, .ref (ad 0)), (1, .int x1), (2, .int x2), (3, .ref o)] := hl
  have w : Wx D cI (wC cI ad) (AC ad) (AC ad) s s.heap s.heap [] σ := ⟨hK, hP, hD, va_S.rf, hN, fun _ h => h⟩
  have hcs : (0 : Nat) ≤ 1 ∧ (0 : Nat) ≤ 6 := ⟨Nat.zero_le _, Nat.zero_le _⟩
  refine lv_aload_n (pc := 0) F.1 F.2.1 d_La_dot_0 rfl (lv_at hl 3 rfl) ?_
  refine lv_iconst (pc := 1) (v := 0) F.1 F.2.1 d_La_dot_1 (by decide) ?_
  refine lv_aload_n (pc := 2) F.1 F.2.1 d_La_dot_2 rfl (lv_at hl 0 rfl) ?_
  refine lv_iload_n (pc := 3) F.1 F.2.1 d_La_dot_3 rfl (lv_at hl 1 rfl) ?_
  refine lv_iload_n (pc := 4) F.1 F.2.1 d_La_dot_4 rfl (lv_at hl 2 rfl) ?_
  by_cases hv : f_Pm_isShownLine x1 = 0 ∨ x2 < 0 ∨ ¬ x2 < 32
  · refine thL (pc := 5) (As := [.int x1, .int x2]) (rest := [.int 0, .ref o]) F w hZ (t_Pm_dot l htr (AC ad) ad x1 x2 hv) k_Pm_dot m_746 (Nat.le_of_ble_eq_true rfl) (Nat.le_of_ble_eq_true rfl) rfl rfl ⟨Nat.le_refl _, Nat.le_refl _⟩ rfl hl.1 rfl (Nat.le_of_ble_eq_true rfl) d_La_dot_5 hz hz4 (by decide) (by decide) m_745 (fun x H gr => ?_)
    refine lv_astore (pc := 13) F.1 F.2.1 d_La_dot_13 hl (by decide) rfl (fun ls hl => ?_)
    refine lv_iconst (pc := 15) (v := 1) F.1 F.2.1 d_La_dot_15 (by decide) ?_
    exact RiO (pc := 16) F hr hlk hK (gr.P hP) hD hN (gr.P hPo) (S.gr gr) (by exact Eq.symm (if_pos hv)) d_La_dot_16
  · refine CviX (pc := 5) (As := [.int x1, .int x2]) (rest := [.int 0, .ref o]) F w (c_Pm_dot l D cI ad σ x1 x2 ⟨fun h => hv (Or.inl h), fun h => hv (Or.inr (Or.inl h)), Decidable.not_not.mp (fun h => hv (Or.inr (Or.inr h)))⟩) 0 rfl rfl k_Pm_dot m_746 (Nat.le_of_ble_eq_true rfl) (Nat.le_of_ble_eq_true rfl) ⟨rfl, rfl⟩ rfl hl.1 rfl (Nat.le_of_ble_eq_true rfl) d_La_dot_5 hcs (fun r u H locs e_r e_u w hk => ?_)
    have hPo : va_P D vwCl (oW cL o g) H := hPo.kept (fun k q hq => hk q.1 (hPo k q hq).lt (by
      have hk1 : k < 1 := (List.getElem?_eq_some_iff.mp hq).1
      have hk0 : k = 0 := by omega
      subst hk0
      cases hq
      exact ho))
    refine lv_i2l (pc := 8) (v := r.toInt64) F.1 F.2.1 d_La_dot_8 rfl ?_
    refine putO (pc := 9) F w hPo hKo ho d_La_dot_9 (fun H locs hK hP hD hPo hS => ?_)
    refine lv_goto (pc := 10) F.1 F.2.1 d_La_dot_10 (tgt := 17) (by decide) ?_
    refine lv_iconst (pc := 17) (v := 0) F.1 F.2.1 d_La_dot_17 (by decide) ?_
    refine W.widen (k := 1) (n := 6) (Nat.zero_le _) (Nat.zero_le _) ?_
    exact RiO (pc := 18) F hr hlk hK hP hD hN hPo hS (by rw [e_u, e_r]; exact Eq.symm (if_neg hv)) d_La_dot_18
