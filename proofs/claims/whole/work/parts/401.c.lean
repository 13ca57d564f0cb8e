def f_Mo_sent_r74 (s3 : Sg) (r4 : Int32) : Int32 := if r4 = (s3 8 (8 : Int32).toNatClampNeg) then (1) else (0)
def bd_Mo_sent_85 (s3 : Sg) (s8 : Sg) (j85 : Nat) : Sg := let s9 := sf s8 7 (((8 * (s8 0 44)) - 8) + (0 + nI j85)).toNatClampNeg (s8 8 (0 + nI j85).toNatClampNeg); s9
def it_Mo_sent_85 (s3 : Sg) : Nat → Sg := itr (fun j85 x => bd_Mo_sent_85 s3 x j85) s3
def f_Mo_sent_r74_2 (s13 : Sg) (r14 : Int32) : Int32 := if r14 = (s13 8 (8 : Int32).toNatClampNeg) then (1) else (0)
def bd_Mo_sent_85_2 (s13 : Sg) (s18 : Sg) (j85 : Nat) : Sg := let s19 := sf s18 7 (((8 * (s18 0 44)) - 8) + (0 + nI j85)).toNatClampNeg (s18 8 (0 + nI j85).toNatClampNeg); s19
def it_Mo_sent_85_2 (s13 : Sg) : Nat → Sg := itr (fun j85 x => bd_Mo_sent_85_2 s13 x j85) s13
def f_Mo_sent_r24 (s2 : Sg) : Sg := if (s2 0 44) = 0 then (if (s2 0 43) = 4 then (let s23 := sf s2 0 43 0; let s24 := f_Mo_command s23; s24) else (if (s2 0 43) = 9 then (let s13 := sf s2 0 43 0; let r14 := f_Mo_sumOf s13 8; let v15 := (f_Mo_sent_r74_2 s13 r14); if v15 = 0 then (let s16 := sf s13 0 44 0; let s17 := f_Mo_answer s16 78; s17) else (let s18 := (it_Mo_sent_85_2 s13 8); let s20 := sf s18 0 44 0; let s21 := f_Mo_answer s20 65; let s22 := f_Mo_answer s21 67; s22)) else (s2))) else (if (s2 0 43) = 9 then (let s3 := sf s2 0 43 0; let r4 := f_Mo_sumOf s3 8; let v5 := (f_Mo_sent_r74 s3 r4); if v5 = 0 then (let s6 := sf s3 0 44 0; let s7 := f_Mo_answer s6 78; s7) else (let s8 := (it_Mo_sent_85 s3 8); let s10 := sf s8 0 44 0; let s11 := f_Mo_answer s10 65; let s12 := f_Mo_answer s11 67; s12)) else (s2))
def f_Mo_sent (σ : Sg) (x1 : Int32) : Sg := let s1 := sf σ 8 (σ 0 43).toNatClampNeg x1; let s2 := sf s1 0 43 ((s1 0 43) + 1); let s25 := (f_Mo_sent_r24 s2); s25
theorem z_f_Mo_sent_r74_0 (s3 : Sg) (r4 : Int32) : (f_Mo_sent_r74 s3 r4) = 0 ∨ (f_Mo_sent_r74 s3 r4) = 1 := by unfold f_Mo_sent_r74; (try dsimp only); (repeat' split) <;> first | exact Or.inl rfl | exact Or.inr rfl
theorem z_f_Mo_sent_r74_2_0 (s13 : Sg) (r14 : Int32) : (f_Mo_sent_r74_2 s13 r14) = 0 ∨ (f_Mo_sent_r74_2 s13 r14) = 1 := by unfold f_Mo_sent_r74_2; (try dsimp only); (repeat' split) <;> first | exact Or.inl rfl | exact Or.inr rfl | apply z_f_Mo_sent_r74_0
theorem sn_01 (s3 : Sg) (j : Nat) : (it_Mo_sent_85 s3 j) 0 = s3 0 := itr_inv (f := fun j x => bd_Mo_sent_85 s3 x j) (fun x : Sg => x 0 = s3 0) rfl (fun _ _ h => h) j
theorem sn_02 (s3 : Sg) (j : Nat) : (it_Mo_sent_85_2 s3 j) 0 = s3 0 := itr_inv (f := fun j x => bd_Mo_sent_85_2 s3 x j) (fun x : Sg => x 0 = s3 0) rfl (fun _ _ h => h) j
theorem JM.t0 {σ : Sg} (h : JM σ) (hg : σ 0 43 = 0) : JM (sf σ 0 44 0) := ⟨h.1, (⟨by decide, by decide⟩ : bt2 0 0 8), h.2.2.1, h.2.2.2.1, h.2.2.2.2.1, h.2.2.2.2.2.1, h.2.2.2.2.2.2.1, h.2.2.2.2.2.2.2.1, h.2.2.2.2.2.2.2.2.1, h.2.2.2.2.2.2.2.2.2.1, fun _ => by
  show bt2 0 (σ 0 43) 3
  rw [hg]
  exact ⟨by decide, by decide⟩⟩
theorem JM.g0 {σ u : Sg} {k : Nat} {x y : Int32} (h : JM σ) (e : u = sf (sf (sf σ 8 k x) 0 43 y) 0 43 0) : JM u := by
  rw [e]
  exact ⟨(⟨by decide, by decide⟩ : bt2 0 0 8), h.2.1, h.2.2.1, h.2.2.2.1, h.2.2.2.2.1, h.2.2.2.2.2.1, h.2.2.2.2.2.2.1, h.2.2.2.2.2.2.2.1, h.2.2.2.2.2.2.2.2.1, h.2.2.2.2.2.2.2.2.2.1, fun _ => (⟨by decide, by decide⟩ : bt2 0 0 3)⟩
set_option maxHeartbeats 1000000 in
set_option maxRecDepth 100000 in
theorem c_Mo_sent (l : Launch) (D : va_G) (cI : ClassId) (am : Nat → Nat) (σ : Sg) (x1 : Int32) (hI : JM σ) : Met l y_Mo_sent (Cond.code y_Mo_sent b_Mo_sent 4 none :: al) { frames := 3, cells := 0, slots := 0, locals := 67 } (Px D cI (wM cI am) (AM am) σ [.ref (am 0), .int x1]) (va_Qv (fun u => u = f_Mo_sent σ x1) (Bx D cI (wM cI am) (AM am)) (AM am)) 0 0 (AM am) := by
  refine Mx l (by decide) (Nat.le_of_ble_eq_true rfl) ?_
  intro p e s m below meth c ls F w hr hlk hl
  have F : CallFix p m c b_Mo_sent 4 s _ al "PictureMachineModel" := F
  have hl : lv_has ls 4 [(0, .ref (am 0)), (1, .int x1)] := hl
  have hcs : (0 : Nat) ≤ 0 ∧ (0 : Nat) ≤ 0 := ⟨Nat.le_refl _, Nat.le_refl _⟩
  refine lv_aload_n (pc := 0) F.1 F.2.1 d_Mo_sent_0 rfl (lv_at hl 0 rfl) ?_
  refine gM0_42 (pc := 1) F w (F.2.2.2.2 _ m_817) d_Mo_sent_1 ?_
  refine lv_aload_n (pc := 4) F.1 F.2.1 d_Mo_sent_4 rfl (lv_at hl 0 rfl) ?_
  refine gM0_43 (pc := 5) F w (F.2.2.2.2 _ m_818) d_Mo_sent_5 ?_
  refine lv_iload_n (pc := 8) F.1 F.2.1 d_Mo_sent_8 rfl (lv_at hl 1 rfl) ?_
  refine aM8 (pc := 9) F w (bt_in hI.1 (by decide) (by decide)) d_Mo_sent_9 (fun H locs s1 e_s1 w => ?_)
  have iJM_s1 : JM s1 := by rw [e_s1]; exact hI
  refine lv_aload_n (pc := 10) F.1 F.2.1 d_Mo_sent_10 rfl (lv_at hl 0 rfl) ?_
  refine lv_dup (pc := 11) F.1 F.2.1 d_Mo_sent_11 rfl ?_
  refine gM0_43 (pc := 12) F w (F.2.2.2.2 _ m_818) d_Mo_sent_12 ?_
  refine lv_iconst (pc := 15) (v := 1) F.1 F.2.1 d_Mo_sent_15 (by decide) ?_
  refine lv_iadd (pc := 16) F.1 F.2.1 d_Mo_sent_16 ?_
  refine pM0_43 (pc := 17) F w (F.2.2.2.2 _ m_818) d_Mo_sent_17 (fun H locs s2 e_s2 w => ?_)
  refine lv_aload_n (pc := 20) F.1 F.2.1 d_Mo_sent_20 rfl (lv_at hl 0 rfl) ?_
  refine gM0_44 (pc := 21) F w (F.2.2.2.2 _ m_819) d_Mo_sent_21 ?_
  refine cutW (α := Sg) (fun x H locs ls => x = f_Mo_sent_r24 s2 ∧ Wx D cI (wM cI am) (AM am) (AM am) s s.heap H locs x ∧ lv_has ls 4 [(0, .ref (am 0)), (1, .int x1)]) (fun x ls => F0 m 154 ls []) ?_ (fun k24 => ?_)
  · rintro s25 H locs ls ⟨ex, w, hl⟩
    have e_s25 := ex
    have w : Wx D cI (wM cI am) (AM am) (AM am) s s.heap H locs s25 := w
    have hl : lv_has ls 4 [(0, .ref (am 0)), (1, .int x1)] := hl
    show W _ _ _ _ _ _ _ _ _ _ _ _ _ _ _ (F0 m 154 ls [])
    exact Rv (pc := 154) F hr hlk w (by rw [e_s25, e_s2, e_s1]; exact Eq.symm (rfl)) d_Mo_sent_154
  · refine lv_if_ne (pc := 24) F.1 F.2.1 d_Mo_sent_24 (tgt := 47) (by decide) (fun h24 => ?_) (fun h24 => ?_)
    · refine lv_aload_n (pc := 47) F.1 F.2.1 d_Mo_sent_47 rfl (lv_at hl 0 rfl) ?_
      refine gM0_43 (pc := 48) F w (F.2.2.2.2 _ m_818) d_Mo_sent_48 ?_
      refine lv_bipush (pc := 51) (v := 9) F.1 F.2.1 d_Mo_sent_51 (by decide) ?_
      refine lv_icmp_ne (pc := 53) F.1 F.2.1 d_Mo_sent_53 (tgt := 154) (by decide) (fun h53 => ?_) (fun h53 => ?_)
      · exact k24 s2 _ _ _ ⟨(by exact Eq.symm (Eq.trans (if_neg h24) (Eq.trans (if_neg h53) (rfl)))), w, lv_sub hl [0, 1] rfl⟩
      · refine lv_aload_n (pc := 56) F.1 F.2.1 d_Mo_sent_56 rfl (lv_at hl 0 rfl) ?_
        refine lv_iconst (pc := 57) (v := 0) F.1 F.2.1 d_Mo_sent_57 (by decide) ?_
        refine pM0_43 (pc := 58) F w (F.2.2.2.2 _ m_818) d_Mo_sent_58 (fun H locs s3 e_s3 w => ?_)
        have iJM_s3 : JM s3 := hI.g0 (by rw [e_s3, e_s2, e_s1])
        refine lv_aload_n (pc := 61) F.1 F.2.1 d_Mo_sent_61 rfl (lv_at hl 0 rfl) ?_
        refine lv_bipush (pc := 62) (v := 8) F.1 F.2.1 d_Mo_sent_62 (by decide) ?_
        refine Kvi (pc := 64) (As := [.int 8]) (rest := []) F w (c_Mo_sumOf l D cI am s3 8 (⟨by decide, by decide⟩)) 0 rfl rfl k_Mo_sumOf m_1050 (Nat.le_of_ble_eq_true rfl) (Nat.le_of_ble_eq_true rfl) ⟨rfl, rfl⟩ rfl hl.1 rfl (Nat.le_of_ble_eq_true rfl) d_Mo_sent_64 hcs (fun r4 H locs e_r4 w => ?_)
        refine lv_aload_n (pc := 67) F.1 F.2.1 d_Mo_sent_67 rfl (lv_at hl 0 rfl) ?_
        refine gM0_42 (pc := 68) F w (F.2.2.2.2 _ m_817) d_Mo_sent_68 ?_
        refine lv_bipush (pc := 71) (v := 8) F.1 F.2.1 d_Mo_sent_71 (by decide) ?_
        refine lM8 (pc := 73) F w (by unfold vp_in; decide) d_Mo_sent_73 ?_
        refine cutW (α := Int32) (fun x H locs ls => x = f_Mo_sent_r74 s3 r4 ∧ Wx D cI (wM cI am) (AM am) (AM am) s s.heap H locs s3 ∧ lv_has ls 4 [(0, .ref (am 0)), (1, .int x1)]) (fun x ls => F0 m 82 ls [.int x]) ?_ (fun k74 => ?_)
        · rintro v5 H locs ls ⟨ex, w, hl⟩
          have e_v5 := ex
          have w : Wx D cI (wM cI am) (AM am) (AM am) s s.heap H locs s3 := w
          have hl : lv_has ls 4 [(0, .ref (am 0)), (1, .int x1)] := hl
          show W _ _ _ _ _ _ _ _ _ _ _ _ _ _ _ (F0 m 82 ls [.int v5])
          refine lv_istore_n (pc := 82) F.1 F.2.1 d_Mo_sent_82 rfl hl (by decide) rfl (fun ls hl => ?_)
          have hl : lv_has ls 4 [(2, .int v5), (0, .ref (am 0)), (1, .int x1)] := hl
          refine lv_iconst (pc := 83) (v := 0) F.1 F.2.1 d_Mo_sent_83 (by decide) ?_
          refine lv_istore_n (pc := 84) F.1 F.2.1 d_Mo_sent_84 rfl hl (by decide) rfl (fun ls hl => ?_)
          have hl : lv_has ls 4 [(3, .int 0), (2, .int v5), (0, .ref (am 0)), (1, .int x1)] := hl
          by_cases hs85 : v5 = 0
          · refine lv_iload_n (pc := 85) F.1 F.2.1 d_Mo_sent_85 rfl (lv_at hl 0 rfl) ?_
            refine lv_bipush (pc := 86) (v := 8) F.1 F.2.1 d_Mo_sent_86 (by decide) ?_
            refine lv_icmp_ge (pc := 88) F.1 F.2.1 d_Mo_sent_88 (tgt := 124) (by decide) (fun q => absurd q (by decide)) (fun _ => ?_)
            refine lv_iload_n (pc := 91) F.1 F.2.1 d_Mo_sent_91 rfl (lv_at hl 1 rfl) ?_
            refine lv_if_eq (pc := 92) F.1 F.2.1 d_Mo_sent_92 (tgt := 124) (by decide) (fun _ => ?_) (fun q => absurd hs85 q)
            refine lv_aload_n (pc := 124) F.1 F.2.1 d_Mo_sent_124 rfl (lv_at hl 2 rfl) ?_
            refine lv_iconst (pc := 125) (v := 0) F.1 F.2.1 d_Mo_sent_125 (by decide) ?_
            refine pM0_44 (pc := 126) F w (F.2.2.2.2 _ m_819) d_Mo_sent_126 (fun H locs s6 e_s6 w => ?_)
            have iJM_s6 : JM s6 := by rw [e_s6]; exact JM.t0 iJM_s3 (congrFun (congrFun e_s3 0) 43)
            refine lv_aload_n (pc := 129) F.1 F.2.1 d_Mo_sent_129 rfl (lv_at hl 2 rfl) ?_
            refine lv_iload_n (pc := 130) F.1 F.2.1 d_Mo_sent_130 rfl (lv_at hl 1 rfl) ?_
            refine lv_if_eq (pc := 131) F.1 F.2.1 d_Mo_sent_131 (tgt := 139) (by decide) (fun _ => ?_) (fun q => absurd hs85 q)
            refine lv_bipush (pc := 139) (v := 78) F.1 F.2.1 d_Mo_sent_139 (by decide) ?_
            refine Cvv (pc := 141) (As := [.int 78]) (rest := []) F w (c_Mo_answer l D cI am s6 78 iJM_s6) 0 rfl rfl k_Mo_answer m_1057 (Nat.le_of_ble_eq_true rfl) (Nat.le_of_ble_eq_true rfl) ⟨rfl, rfl⟩ rfl hl.1 rfl (Nat.le_of_ble_eq_true rfl) d_Mo_sent_141 hcs (fun s7 H locs e_s7 w => ?_)
            have iJM_s7 : JM s7 := by rw [e_s7]; exact iJM_Mo_answer iJM_s6 78
            refine lv_iload_n (pc := 144) F.1 F.2.1 d_Mo_sent_144 rfl (lv_at hl 1 rfl) ?_
            refine lv_if_eq (pc := 145) F.1 F.2.1 d_Mo_sent_145 (tgt := 154) (by decide) (fun _ => ?_) (fun q => absurd hs85 q)
            exact k24 s7 _ _ _ ⟨(by rw [e_v5, e_r4, e_s3] at hs85; rw [e_s7, e_s6, e_s3]; exact Eq.symm (Eq.trans (if_neg h24) (Eq.trans (if_pos h53) (Eq.trans (if_pos hs85) (rfl))))), w, lv_sub hl [2, 3] rfl⟩
          · refine loopW (α := Sg) 8 (fun j85 x H locs ls => x = it_Mo_sent_85 s3 j85 ∧ Wx D cI (wM cI am) (AM am) (AM am) s s.heap H locs x ∧ lv_has ls 4 [(0, .ref (am 0)), (1, .int x1), (2, .int v5), (3, .int (0 + nI j85))] ∧ JM x) (fun _ ls => F0 m 85 ls []) ?_ ?_ 0 s3 _ _ _ (Nat.zero_le _) ⟨rfl, w, by rw [ci_0]; exact lv_sub hl [2, 3, 1, 0] rfl, iJM_s3⟩
            · rintro j85 s8 H locs ls hj85 ⟨ex, w, hl, iJM_s8⟩ nx85
              have e_s8 := ex
              have w : Wx D cI (wM cI am) (AM am) (AM am) s s.heap H locs s8 := w
              have iJM_s8 : JM s8 := iJM_s8
              have hl : lv_has ls 4 [(0, .ref (am 0)), (1, .int x1), (2, .int v5), (3, .int (0 + nI j85))] := hl
              have hc85_0 : ¬ (8 ≤ (0 + nI j85)) := lp_lt hj85 (by decide) (by decide)
              refine lv_iload_n (pc := 85) F.1 F.2.1 d_Mo_sent_85 rfl (lv_at hl 3 rfl) ?_
              refine lv_bipush (pc := 86) (v := 8) F.1 F.2.1 d_Mo_sent_86 (by decide) ?_
              refine lv_icmp_ge (pc := 88) F.1 F.2.1 d_Mo_sent_88 (tgt := 124) (by decide) (fun q => absurd q hc85_0) (fun _ => ?_)
              refine lv_iload_n (pc := 91) F.1 F.2.1 d_Mo_sent_91 rfl (lv_at hl 2 rfl) ?_
              refine lv_if_eq (pc := 92) F.1 F.2.1 d_Mo_sent_92 (tgt := 124) (by decide) (fun q => absurd q hs85) (fun _ => ?_)
              refine lv_aload_n (pc := 95) F.1 F.2.1 d_Mo_sent_95 rfl (lv_at hl 0 rfl) ?_
              refine gM0_41 (pc := 96) F w (F.2.2.2.2 _ m_816) d_Mo_sent_96 ?_
              refine lv_bipush (pc := 99) (v := 8) F.1 F.2.1 d_Mo_sent_99 (by decide) ?_
              refine lv_aload_n (pc := 101) F.1 F.2.1 d_Mo_sent_101 rfl (lv_at hl 0 rfl) ?_
              refine gM0_44 (pc := 102) F w (F.2.2.2.2 _ m_819) d_Mo_sent_102 ?_
              refine lv_imul (pc := 105) F.1 F.2.1 d_Mo_sent_105 ?_
              refine lv_bipush (pc := 106) (v := 8) F.1 F.2.1 d_Mo_sent_106 (by decide) ?_
              refine lv_isub (pc := 108) F.1 F.2.1 d_Mo_sent_108 ?_
              refine lv_iload_n (pc := 109) F.1 F.2.1 d_Mo_sent_109 rfl (lv_at hl 3 rfl) ?_
              refine lv_iadd (pc := 110) F.1 F.2.1 d_Mo_sent_110 ?_
              refine lv_aload_n (pc := 111) F.1 F.2.1 d_Mo_sent_111 rfl (lv_at hl 0 rfl) ?_
              refine gM0_42 (pc := 112) F w (F.2.2.2.2 _ m_817) d_Mo_sent_112 ?_
              refine lv_iload_n (pc := 115) F.1 F.2.1 d_Mo_sent_115 rfl (lv_at hl 3 rfl) ?_
              refine lM8 (pc := 116) F w (lp_inL hj85 (by decide)) d_Mo_sent_116 ?_
              refine aM7 (pc := 117) F w (by rw [show s8 0 44 = σ 0 44 from (congrFun (congrFun e_s8 0) 44).trans ((congrFun (sn_01 s3 _) 44).trans (by rw [e_s3, e_s2, e_s1]; rfl))]; exact sn_in hI.2.1 hI.2.2.2.2.2.2.2.2.2.2 (by rw [e_s2, e_s1] at h53; exact h53) hj85) d_Mo_sent_117 (fun H locs s9 e_s9 w => ?_)
              have iJM_s9 : JM s9 := by rw [e_s9]; exact iJM_s8
              refine lv_iinc (pc := 118) (k := 3) (v := ((0 + nI j85) + 1)) F.1 F.2.1 d_Mo_sent_118 hl rfl (by first | rfl | decide) (by decide) rfl (fun ls hl => ?_)
              have hl : lv_has ls 4 [(3, .int ((0 + nI j85) + 1)), (0, .ref (am 0)), (1, .int x1), (2, .int v5)] := hl
              refine lv_goto (pc := 121) F.1 F.2.1 d_Mo_sent_121 (tgt := 85) (by decide) ?_
              exact nx85 s9 _ _ _ ⟨(by rw [e_s9, e_s8]; exact Eq.symm (rfl)), w, by rw [← ci_s]; exact lv_sub hl [1, 2, 3, 0] rfl, iJM_s9⟩
            · rintro s8 H locs ls ⟨ex, w, hl, iJM_s8⟩
              have e_s8 := ex
              have w : Wx D cI (wM cI am) (AM am) (AM am) s s.heap H locs s8 := w
              have iJM_s8 : JM s8 := iJM_s8
              have hl : lv_has ls 4 [(0, .ref (am 0)), (1, .int x1), (2, .int v5), (3, .int (0 + nI 8))] := hl
              have hx85_0 : 8 ≤ (0 + nI 8) := lp_ge (by decide)
              refine lv_iload_n (pc := 85) F.1 F.2.1 d_Mo_sent_85 rfl (lv_at hl 3 rfl) ?_
              refine lv_bipush (pc := 86) (v := 8) F.1 F.2.1 d_Mo_sent_86 (by decide) ?_
              refine lv_icmp_ge (pc := 88) F.1 F.2.1 d_Mo_sent_88 (tgt := 124) (by decide) (fun _ => ?_) (fun q => absurd hx85_0 q)
              refine lv_aload_n (pc := 124) F.1 F.2.1 d_Mo_sent_124 rfl (lv_at hl 0 rfl) ?_
              refine lv_iconst (pc := 125) (v := 0) F.1 F.2.1 d_Mo_sent_125 (by decide) ?_
              refine pM0_44 (pc := 126) F w (F.2.2.2.2 _ m_819) d_Mo_sent_126 (fun H locs s10 e_s10 w => ?_)
              have iJM_s10 : JM s10 := by rw [e_s10]; exact JM.t0 iJM_s8 ((congrFun (congrFun e_s8 0) 43).trans ((congrFun (sn_01 s3 8) 43).trans (congrFun (congrFun e_s3 0) 43)))
              refine lv_aload_n (pc := 129) F.1 F.2.1 d_Mo_sent_129 rfl (lv_at hl 0 rfl) ?_
              refine lv_iload_n (pc := 130) F.1 F.2.1 d_Mo_sent_130 rfl (lv_at hl 2 rfl) ?_
              refine lv_if_eq (pc := 131) F.1 F.2.1 d_Mo_sent_131 (tgt := 139) (by decide) (fun q => absurd q hs85) (fun _ => ?_)
              refine lv_bipush (pc := 134) (v := 65) F.1 F.2.1 d_Mo_sent_134 (by decide) ?_
              refine lv_goto (pc := 136) F.1 F.2.1 d_Mo_sent_136 (tgt := 141) (by decide) ?_
              refine Cvv (pc := 141) (As := [.int 65]) (rest := []) F w (c_Mo_answer l D cI am s10 65 iJM_s10) 0 rfl rfl k_Mo_answer m_1057 (Nat.le_of_ble_eq_true rfl) (Nat.le_of_ble_eq_true rfl) ⟨rfl, rfl⟩ rfl hl.1 rfl (Nat.le_of_ble_eq_true rfl) d_Mo_sent_141 hcs (fun s11 H locs e_s11 w => ?_)
              have iJM_s11 : JM s11 := by rw [e_s11]; exact iJM_Mo_answer iJM_s10 65
              refine lv_iload_n (pc := 144) F.1 F.2.1 d_Mo_sent_144 rfl (lv_at hl 2 rfl) ?_
              refine lv_if_eq (pc := 145) F.1 F.2.1 d_Mo_sent_145 (tgt := 154) (by decide) (fun q => absurd q hs85) (fun _ => ?_)
              refine lv_aload_n (pc := 148) F.1 F.2.1 d_Mo_sent_148 rfl (lv_at hl 0 rfl) ?_
              refine lv_bipush (pc := 149) (v := 67) F.1 F.2.1 d_Mo_sent_149 (by decide) ?_
              refine Cvv (pc := 151) (As := [.int 67]) (rest := []) F w (c_Mo_answer l D cI am s11 67 iJM_s11) 0 rfl rfl k_Mo_answer m_1057 (Nat.le_of_ble_eq_true rfl) (Nat.le_of_ble_eq_true rfl) ⟨rfl, rfl⟩ rfl hl.1 rfl (Nat.le_of_ble_eq_true rfl) d_Mo_sent_151 hcs (fun s12 H locs e_s12 w => ?_)
              have iJM_s12 : JM s12 := by rw [e_s12]; exact iJM_Mo_answer iJM_s11 67
              exact k24 s12 _ _ _ ⟨(by rw [e_v5, e_r4, e_s3] at hs85; rw [e_s12, e_s11, e_s10, e_s8, e_s3]; exact Eq.symm (Eq.trans (if_neg h24) (Eq.trans (if_pos h53) (Eq.trans (if_neg hs85) (rfl))))), w, lv_sub hl [0, 1] rfl⟩
        · refine lv_icmp_ne (pc := 74) F.1 F.2.1 d_Mo_sent_74 (tgt := 81) (by decide) (fun h74 => ?_) (fun h74 => ?_)
          · refine lv_iconst (pc := 81) (v := 0) F.1 F.2.1 d_Mo_sent_81 (by decide) ?_
            exact k74 0 _ _ _ ⟨(by exact Eq.symm (Eq.trans (if_neg h74) (rfl))), w, lv_sub hl [0, 1] rfl⟩
          · refine lv_iconst (pc := 77) (v := 1) F.1 F.2.1 d_Mo_sent_77 (by decide) ?_
            refine lv_goto (pc := 78) F.1 F.2.1 d_Mo_sent_78 (tgt := 82) (by decide) ?_
            exact k74 1 _ _ _ ⟨(by exact Eq.symm (Eq.trans (if_pos h74) (rfl))), w, lv_sub hl [0, 1] rfl⟩
    · refine lv_aload_n (pc := 27) F.1 F.2.1 d_Mo_sent_27 rfl (lv_at hl 0 rfl) ?_
      refine gM0_43 (pc := 28) F w (F.2.2.2.2 _ m_818) d_Mo_sent_28 ?_
      refine lv_iconst (pc := 31) (v := 4) F.1 F.2.1 d_Mo_sent_31 (by decide) ?_
      refine lv_icmp_ne (pc := 32) F.1 F.2.1 d_Mo_sent_32 (tgt := 47) (by decide) (fun h32 => ?_) (fun h32 => ?_)
      · refine lv_aload_n (pc := 47) F.1 F.2.1 d_Mo_sent_47 rfl (lv_at hl 0 rfl) ?_
        refine gM0_43 (pc := 48) F w (F.2.2.2.2 _ m_818) d_Mo_sent_48 ?_
        refine lv_bipush (pc := 51) (v := 9) F.1 F.2.1 d_Mo_sent_51 (by decide) ?_
        refine lv_icmp_ne (pc := 53) F.1 F.2.1 d_Mo_sent_53 (tgt := 154) (by decide) (fun h53 => ?_) (fun h53 => ?_)
        · exact k24 s2 _ _ _ ⟨(by exact Eq.symm (Eq.trans (if_pos h24) (Eq.trans (if_neg h32) (Eq.trans (if_neg h53) (rfl))))), w, lv_sub hl [0, 1] rfl⟩
        · refine lv_aload_n (pc := 56) F.1 F.2.1 d_Mo_sent_56 rfl (lv_at hl 0 rfl) ?_
          refine lv_iconst (pc := 57) (v := 0) F.1 F.2.1 d_Mo_sent_57 (by decide) ?_
          refine pM0_43 (pc := 58) F w (F.2.2.2.2 _ m_818) d_Mo_sent_58 (fun H locs s13 e_s13 w => ?_)
          have iJM_s13 : JM s13 := hI.g0 (by rw [e_s13, e_s2, e_s1])
          refine lv_aload_n (pc := 61) F.1 F.2.1 d_Mo_sent_61 rfl (lv_at hl 0 rfl) ?_
          refine lv_bipush (pc := 62) (v := 8) F.1 F.2.1 d_Mo_sent_62 (by decide) ?_
          refine Kvi (pc := 64) (As := [.int 8]) (rest := []) F w (c_Mo_sumOf l D cI am s13 8 (⟨by decide, by decide⟩)) 0 rfl rfl k_Mo_sumOf m_1050 (Nat.le_of_ble_eq_true rfl) (Nat.le_of_ble_eq_true rfl) ⟨rfl, rfl⟩ rfl hl.1 rfl (Nat.le_of_ble_eq_true rfl) d_Mo_sent_64 hcs (fun r14 H locs e_r14 w => ?_)
          refine lv_aload_n (pc := 67) F.1 F.2.1 d_Mo_sent_67 rfl (lv_at hl 0 rfl) ?_
          refine gM0_42 (pc := 68) F w (F.2.2.2.2 _ m_817) d_Mo_sent_68 ?_
          refine lv_bipush (pc := 71) (v := 8) F.1 F.2.1 d_Mo_sent_71 (by decide) ?_
          refine lM8 (pc := 73) F w (by unfold vp_in; decide) d_Mo_sent_73 ?_
          refine cutW (α := Int32) (fun x H locs ls => x = f_Mo_sent_r74_2 s13 r14 ∧ Wx D cI (wM cI am) (AM am) (AM am) s s.heap H locs s13 ∧ lv_has ls 4 [(0, .ref (am 0)), (1, .int x1)]) (fun x ls => F0 m 82 ls [.int x]) ?_ (fun k74 => ?_)
          · rintro v15 H locs ls ⟨ex, w, hl⟩
            have e_v15 := ex
            have w : Wx D cI (wM cI am) (AM am) (AM am) s s.heap H locs s13 := w
            have hl : lv_has ls 4 [(0, .ref (am 0)), (1, .int x1)] := hl
            show W _ _ _ _ _ _ _ _ _ _ _ _ _ _ _ (F0 m 82 ls [.int v15])
            refine lv_istore_n (pc := 82) F.1 F.2.1 d_Mo_sent_82 rfl hl (by decide) rfl (fun ls hl => ?_)
            have hl : lv_has ls 4 [(2, .int v15), (0, .ref (am 0)), (1, .int x1)] := hl
            refine lv_iconst (pc := 83) (v := 0) F.1 F.2.1 d_Mo_sent_83 (by decide) ?_
            refine lv_istore_n (pc := 84) F.1 F.2.1 d_Mo_sent_84 rfl hl (by decide) rfl (fun ls hl => ?_)
            have hl : lv_has ls 4 [(3, .int 0), (2, .int v15), (0, .ref (am 0)), (1, .int x1)] := hl
            by_cases hs85 : v15 = 0
            · refine lv_iload_n (pc := 85) F.1 F.2.1 d_Mo_sent_85 rfl (lv_at hl 0 rfl) ?_
              refine lv_bipush (pc := 86) (v := 8) F.1 F.2.1 d_Mo_sent_86 (by decide) ?_
              refine lv_icmp_ge (pc := 88) F.1 F.2.1 d_Mo_sent_88 (tgt := 124) (by decide) (fun q => absurd q (by decide)) (fun _ => ?_)
              refine lv_iload_n (pc := 91) F.1 F.2.1 d_Mo_sent_91 rfl (lv_at hl 1 rfl) ?_
              refine lv_if_eq (pc := 92) F.1 F.2.1 d_Mo_sent_92 (tgt := 124) (by decide) (fun _ => ?_) (fun q => absurd hs85 q)
              refine lv_aload_n (pc := 124) F.1 F.2.1 d_Mo_sent_124 rfl (lv_at hl 2 rfl) ?_
              refine lv_iconst (pc := 125) (v := 0) F.1 F.2.1 d_Mo_sent_125 (by decide) ?_
              refine pM0_44 (pc := 126) F w (F.2.2.2.2 _ m_819) d_Mo_sent_126 (fun H locs s16 e_s16 w => ?_)
              have iJM_s16 : JM s16 := by rw [e_s16]; exact JM.t0 iJM_s13 (congrFun (congrFun e_s13 0) 43)
              refine lv_aload_n (pc := 129) F.1 F.2.1 d_Mo_sent_129 rfl (lv_at hl 2 rfl) ?_
              refine lv_iload_n (pc := 130) F.1 F.2.1 d_Mo_sent_130 rfl (lv_at hl 1 rfl) ?_
              refine lv_if_eq (pc := 131) F.1 F.2.1 d_Mo_sent_131 (tgt := 139) (by decide) (fun _ => ?_) (fun q => absurd hs85 q)
              refine lv_bipush (pc := 139) (v := 78) F.1 F.2.1 d_Mo_sent_139 (by decide) ?_
              refine Cvv (pc := 141) (As := [.int 78]) (rest := []) F w (c_Mo_answer l D cI am s16 78 iJM_s16) 0 rfl rfl k_Mo_answer m_1057 (Nat.le_of_ble_eq_true rfl) (Nat.le_of_ble_eq_true rfl) ⟨rfl, rfl⟩ rfl hl.1 rfl (Nat.le_of_ble_eq_true rfl) d_Mo_sent_141 hcs (fun s17 H locs e_s17 w => ?_)
              have iJM_s17 : JM s17 := by rw [e_s17]; exact iJM_Mo_answer iJM_s16 78
              refine lv_iload_n (pc := 144) F.1 F.2.1 d_Mo_sent_144 rfl (lv_at hl 1 rfl) ?_
              refine lv_if_eq (pc := 145) F.1 F.2.1 d_Mo_sent_145 (tgt := 154) (by decide) (fun _ => ?_) (fun q => absurd hs85 q)
              exact k24 s17 _ _ _ ⟨(by rw [e_v15, e_r14, e_s13] at hs85; rw [e_s17, e_s16, e_s13]; exact Eq.symm (Eq.trans (if_pos h24) (Eq.trans (if_neg h32) (Eq.trans (if_pos h53) (Eq.trans (if_pos hs85) (rfl)))))), w, lv_sub hl [2, 3] rfl⟩
            · refine loopW (α := Sg) 8 (fun j85 x H locs ls => x = it_Mo_sent_85_2 s13 j85 ∧ Wx D cI (wM cI am) (AM am) (AM am) s s.heap H locs x ∧ lv_has ls 4 [(0, .ref (am 0)), (1, .int x1), (2, .int v15), (3, .int (0 + nI j85))] ∧ JM x) (fun _ ls => F0 m 85 ls []) ?_ ?_ 0 s13 _ _ _ (Nat.zero_le _) ⟨rfl, w, by rw [ci_0]; exact lv_sub hl [2, 3, 1, 0] rfl, iJM_s13⟩
              · rintro j85 s18 H locs ls hj85 ⟨ex, w, hl, iJM_s18⟩ nx85
                have e_s18 := ex
                have w : Wx D cI (wM cI am) (AM am) (AM am) s s.heap H locs s18 := w
                have iJM_s18 : JM s18 := iJM_s18
                have hl : lv_has ls 4 [(0, .ref (am 0)), (1, .int x1), (2, .int v15), (3, .int (0 + nI j85))] := hl
                have hc85_0 : ¬ (8 ≤ (0 + nI j85)) := lp_lt hj85 (by decide) (by decide)
                refine lv_iload_n (pc := 85) F.1 F.2.1 d_Mo_sent_85 rfl (lv_at hl 3 rfl) ?_
                refine lv_bipush (pc := 86) (v := 8) F.1 F.2.1 d_Mo_sent_86 (by decide) ?_
                refine lv_icmp_ge (pc := 88) F.1 F.2.1 d_Mo_sent_88 (tgt := 124) (by decide) (fun q => absurd q hc85_0) (fun _ => ?_)
                refine lv_iload_n (pc := 91) F.1 F.2.1 d_Mo_sent_91 rfl (lv_at hl 2 rfl) ?_
                refine lv_if_eq (pc := 92) F.1 F.2.1 d_Mo_sent_92 (tgt := 124) (by decide) (fun q => absurd q hs85) (fun _ => ?_)
                refine lv_aload_n (pc := 95) F.1 F.2.1 d_Mo_sent_95 rfl (lv_at hl 0 rfl) ?_
                refine gM0_41 (pc := 96) F w (F.2.2.2.2 _ m_816) d_Mo_sent_96 ?_
                refine lv_bipush (pc := 99) (v := 8) F.1 F.2.1 d_Mo_sent_99 (by decide) ?_
                refine lv_aload_n (pc := 101) F.1 F.2.1 d_Mo_sent_101 rfl (lv_at hl 0 rfl) ?_
                refine gM0_44 (pc := 102) F w (F.2.2.2.2 _ m_819) d_Mo_sent_102 ?_
                refine lv_imul (pc := 105) F.1 F.2.1 d_Mo_sent_105 ?_
                refine lv_bipush (pc := 106) (v := 8) F.1 F.2.1 d_Mo_sent_106 (by decide) ?_
                refine lv_isub (pc := 108) F.1 F.2.1 d_Mo_sent_108 ?_
                refine lv_iload_n (pc := 109) F.1 F.2.1 d_Mo_sent_109 rfl (lv_at hl 3 rfl) ?_
                refine lv_iadd (pc := 110) F.1 F.2.1 d_Mo_sent_110 ?_
                refine lv_aload_n (pc := 111) F.1 F.2.1 d_Mo_sent_111 rfl (lv_at hl 0 rfl) ?_
                refine gM0_42 (pc := 112) F w (F.2.2.2.2 _ m_817) d_Mo_sent_112 ?_
                refine lv_iload_n (pc := 115) F.1 F.2.1 d_Mo_sent_115 rfl (lv_at hl 3 rfl) ?_
                refine lM8 (pc := 116) F w (lp_inL hj85 (by decide)) d_Mo_sent_116 ?_
                refine aM7 (pc := 117) F w (by rw [show s18 0 44 = σ 0 44 from (congrFun (congrFun e_s18 0) 44).trans ((congrFun (sn_02 s13 _) 44).trans (by rw [e_s13, e_s2, e_s1]; rfl))]; exact sn_in hI.2.1 hI.2.2.2.2.2.2.2.2.2.2 (by rw [e_s2, e_s1] at h53; exact h53) hj85) d_Mo_sent_117 (fun H locs s19 e_s19 w => ?_)
                have iJM_s19 : JM s19 := by rw [e_s19]; exact iJM_s18
                refine lv_iinc (pc := 118) (k := 3) (v := ((0 + nI j85) + 1)) F.1 F.2.1 d_Mo_sent_118 hl rfl (by first | rfl | decide) (by decide) rfl (fun ls hl => ?_)
                have hl : lv_has ls 4 [(3, .int ((0 + nI j85) + 1)), (0, .ref (am 0)), (1, .int x1), (2, .int v15)] := hl
                refine lv_goto (pc := 121) F.1 F.2.1 d_Mo_sent_121 (tgt := 85) (by decide) ?_
                exact nx85 s19 _ _ _ ⟨(by rw [e_s19, e_s18]; exact Eq.symm (rfl)), w, by rw [← ci_s]; exact lv_sub hl [1, 2, 3, 0] rfl, iJM_s19⟩
              · rintro s18 H locs ls ⟨ex, w, hl, iJM_s18⟩
                have e_s18 := ex
                have w : Wx D cI (wM cI am) (AM am) (AM am) s s.heap H locs s18 := w
                have iJM_s18 : JM s18 := iJM_s18
                have hl : lv_has ls 4 [(0, .ref (am 0)), (1, .int x1), (2, .int v15), (3, .int (0 + nI 8))] := hl
                have hx85_0 : 8 ≤ (0 + nI 8) := lp_ge (by decide)
                refine lv_iload_n (pc := 85) F.1 F.2.1 d_Mo_sent_85 rfl (lv_at hl 3 rfl) ?_
                refine lv_bipush (pc := 86) (v := 8) F.1 F.2.1 d_Mo_sent_86 (by decide) ?_
                refine lv_icmp_ge (pc := 88) F.1 F.2.1 d_Mo_sent_88 (tgt := 124) (by decide) (fun _ => ?_) (fun q => absurd hx85_0 q)
                refine lv_aload_n (pc := 124) F.1 F.2.1 d_Mo_sent_124 rfl (lv_at hl 0 rfl) ?_
                refine lv_iconst (pc := 125) (v := 0) F.1 F.2.1 d_Mo_sent_125 (by decide) ?_
                refine pM0_44 (pc := 126) F w (F.2.2.2.2 _ m_819) d_Mo_sent_126 (fun H locs s20 e_s20 w => ?_)
                have iJM_s20 : JM s20 := by rw [e_s20]; exact JM.t0 iJM_s18 ((congrFun (congrFun e_s18 0) 43).trans ((congrFun (sn_02 s13 8) 43).trans (congrFun (congrFun e_s13 0) 43)))
                refine lv_aload_n (pc := 129) F.1 F.2.1 d_Mo_sent_129 rfl (lv_at hl 0 rfl) ?_
                refine lv_iload_n (pc := 130) F.1 F.2.1 d_Mo_sent_130 rfl (lv_at hl 2 rfl) ?_
                refine lv_if_eq (pc := 131) F.1 F.2.1 d_Mo_sent_131 (tgt := 139) (by decide) (fun q => absurd q hs85) (fun _ => ?_)
                refine lv_bipush (pc := 134) (v := 65) F.1 F.2.1 d_Mo_sent_134 (by decide) ?_
                refine lv_goto (pc := 136) F.1 F.2.1 d_Mo_sent_136 (tgt := 141) (by decide) ?_
                refine Cvv (pc := 141) (As := [.int 65]) (rest := []) F w (c_Mo_answer l D cI am s20 65 iJM_s20) 0 rfl rfl k_Mo_answer m_1057 (Nat.le_of_ble_eq_true rfl) (Nat.le_of_ble_eq_true rfl) ⟨rfl, rfl⟩ rfl hl.1 rfl (Nat.le_of_ble_eq_true rfl) d_Mo_sent_141 hcs (fun s21 H locs e_s21 w => ?_)
                have iJM_s21 : JM s21 := by rw [e_s21]; exact iJM_Mo_answer iJM_s20 65
                refine lv_iload_n (pc := 144) F.1 F.2.1 d_Mo_sent_144 rfl (lv_at hl 2 rfl) ?_
                refine lv_if_eq (pc := 145) F.1 F.2.1 d_Mo_sent_145 (tgt := 154) (by decide) (fun q => absurd q hs85) (fun _ => ?_)
                refine lv_aload_n (pc := 148) F.1 F.2.1 d_Mo_sent_148 rfl (lv_at hl 0 rfl) ?_
                refine lv_bipush (pc := 149) (v := 67) F.1 F.2.1 d_Mo_sent_149 (by decide) ?_
                refine Cvv (pc := 151) (As := [.int 67]) (rest := []) F w (c_Mo_answer l D cI am s21 67 iJM_s21) 0 rfl rfl k_Mo_answer m_1057 (Nat.le_of_ble_eq_true rfl) (Nat.le_of_ble_eq_true rfl) ⟨rfl, rfl⟩ rfl hl.1 rfl (Nat.le_of_ble_eq_true rfl) d_Mo_sent_151 hcs (fun s22 H locs e_s22 w => ?_)
                have iJM_s22 : JM s22 := by rw [e_s22]; exact iJM_Mo_answer iJM_s21 67
                exact k24 s22 _ _ _ ⟨(by rw [e_v15, e_r14, e_s13] at hs85; rw [e_s22, e_s21, e_s20, e_s18, e_s13]; exact Eq.symm (Eq.trans (if_pos h24) (Eq.trans (if_neg h32) (Eq.trans (if_pos h53) (Eq.trans (if_neg hs85) (rfl)))))), w, lv_sub hl [0, 1] rfl⟩
          · refine lv_icmp_ne (pc := 74) F.1 F.2.1 d_Mo_sent_74 (tgt := 81) (by decide) (fun h74 => ?_) (fun h74 => ?_)
            · refine lv_iconst (pc := 81) (v := 0) F.1 F.2.1 d_Mo_sent_81 (by decide) ?_
              exact k74 0 _ _ _ ⟨(by exact Eq.symm (Eq.trans (if_neg h74) (rfl))), w, lv_sub hl [0, 1] rfl⟩
            · refine lv_iconst (pc := 77) (v := 1) F.1 F.2.1 d_Mo_sent_77 (by decide) ?_
              refine lv_goto (pc := 78) F.1 F.2.1 d_Mo_sent_78 (tgt := 82) (by decide) ?_
              exact k74 1 _ _ _ ⟨(by exact Eq.symm (Eq.trans (if_pos h74) (rfl))), w, lv_sub hl [0, 1] rfl⟩
      · refine lv_aload_n (pc := 35) F.1 F.2.1 d_Mo_sent_35 rfl (lv_at hl 0 rfl) ?_
        refine lv_iconst (pc := 36) (v := 0) F.1 F.2.1 d_Mo_sent_36 (by decide) ?_
        refine pM0_43 (pc := 37) F w (F.2.2.2.2 _ m_818) d_Mo_sent_37 (fun H locs s23 e_s23 w => ?_)
        have iJM_s23 : JM s23 := hI.g0 (by rw [e_s23, e_s2, e_s1])
        refine lv_aload_n (pc := 40) F.1 F.2.1 d_Mo_sent_40 rfl (lv_at hl 0 rfl) ?_
        refine Cvv (pc := 41) (As := []) (rest := []) F w (c_Mo_command l D cI am s23 iJM_s23) 0 rfl rfl k_Mo_command m_1046 (Nat.le_of_ble_eq_true rfl) (Nat.le_of_ble_eq_true rfl) ⟨rfl, rfl⟩ rfl hl.1 rfl (Nat.le_of_ble_eq_true rfl) d_Mo_sent_41 hcs (fun s24 H locs e_s24 w => ?_)
        refine lv_goto (pc := 44) F.1 F.2.1 d_Mo_sent_44 (tgt := 154) (by decide) ?_
        exact k24 s24 _ _ _ ⟨(by rw [e_s24, e_s23]; exact Eq.symm (Eq.trans (if_pos h24) (Eq.trans (if_pos h32) (rfl)))), w, lv_sub hl [0, 1] rfl⟩
def f_Mo_change_r9 (x1 : Int32) (s1 : Sg) : Sg := if x1 = 5 then (let s2 := sf s1 0 15 1; s2) else (s1)
def f_Mo_change_r20 (x1 : Int32) (s3 : Sg) : Sg := if x1 = 7 then (let s4 := sf s3 0 33 0; s4) else (s3)
def f_Mo_change_r31 (x1 : Int32) (s5 : Sg) : Sg := if x1 = 18 then (let s6 := sf s5 5 (0 : Int32).toNatClampNeg 0; let s7 := sf s6 5 (1 : Int32).toNatClampNeg 0; let s8 := sf s7 0 35 0; s8) else (s5)
def f_Mo_change_r56 (x1 : Int32) (s9 : Sg) : Sg := if x1 = 22 then (let s10 := sf s9 0 38 (s9 2 (21 : Int32).toNatClampNeg); let s11 := sf s10 0 39 0; s11) else (s9)
def f_Mo_change_r78 (x1 : Int32) (x2 : Int32) (s12 : Sg) : Sg := if x1 = 23 then (let s13 := f_Mo_sent s12 x2; s13) else (s12)
def f_Mo_change (σ : Sg) (x1 : Int32) (x2 : Int32) : Sg := let s1 := sf σ 2 x1.toNatClampNeg x2; let s3 := (f_Mo_change_r9 x1 s1); let s5 := (f_Mo_change_r20 x1 s3); let s9 := (f_Mo_change_r31 x1 s5); let s12 := (f_Mo_change_r56 x1 s9); let s14 := (f_Mo_change_r78 x1 x2 s12); s14
set_option maxHeartbeats 1000000 in
set_option maxRecDepth 100000 in
theorem c_Mo_change (l : Launch) (D : va_G) (cI : ClassId) (am : Nat → Nat) (σ : Sg) (x1 : Int32) (x2 : Int32) (hI : JM σ) (hq : vp_in x1 32) : Met l y_Mo_change (Cond.code y_Mo_change b_Mo_change 3 none :: al) { frames := 4, cells := 0, slots := 0, locals := 90 } (Px D cI (wM cI am) (AM am) σ [.ref (am 0), .int x1, .int x2]) (va_Qv (fun u => u = f_Mo_change σ x1 x2) (Bx D cI (wM cI am) (AM am)) (AM am)) 0 0 (AM am) := by
  refine Mx l (by decide) (Nat.le_of_ble_eq_true rfl) ?_
  intro p e s m below meth c ls F w hr hlk hl
  have F : CallFix p m c b_Mo_change 3 s _ al "PictureMachineModel" := F
  have hl : lv_has ls 3 [(0, .ref (am 0)), (1, .int x1), (2, .int x2)] := hl
  have hcs : (0 : Nat) ≤ 0 ∧ (0 : Nat) ≤ 0 := ⟨Nat.le_refl _, Nat.le_refl _⟩
  refine lv_aload_n (pc := 0) F.1 F.2.1 d_Mo_change_0 rfl (lv_at hl 0 rfl) ?_
  refine gM0_2 (pc := 1) F w (F.2.2.2.2 _ m_777) d_Mo_change_1 ?_
  refine lv_iload_n (pc := 4) F.1 F.2.1 d_Mo_change_4 rfl (lv_at hl 1 rfl) ?_
  refine lv_iload_n (pc := 5) F.1 F.2.1 d_Mo_change_5 rfl (lv_at hl 2 rfl) ?_
  refine aM2 (pc := 6) F w (hq) d_Mo_change_6 (fun H locs s1 e_s1 w => ?_)
  have iJM_s1 : JM s1 := by rw [e_s1]; exact hI
  refine lv_iload_n (pc := 7) F.1 F.2.1 d_Mo_change_7 rfl (lv_at hl 1 rfl) ?_
  refine lv_iconst (pc := 8) (v := 5) F.1 F.2.1 d_Mo_change_8 (by decide) ?_
  refine cutW (α := Sg) (fun x H locs ls => x = f_Mo_change_r9 x1 s1 ∧ Wx D cI (wM cI am) (AM am) (AM am) s s.heap H locs x ∧ lv_has ls 3 [(0, .ref (am 0)), (1, .int x1), (2, .int x2)] ∧ JM x) (fun x ls => F0 m 17 ls []) ?_ (fun k9 => ?_)
  · rintro s3 H locs ls ⟨ex, w, hl, iJM_s3⟩
    have e_s3 := ex
    have w : Wx D cI (wM cI am) (AM am) (AM am) s s.heap H locs s3 := w
    have iJM_s3 : JM s3 := iJM_s3
    have hl : lv_has ls 3 [(0, .ref (am 0)), (1, .int x1), (2, .int x2)] := hl
    show W _ _ _ _ _ _ _ _ _ _ _ _ _ _ _ (F0 m 17 ls [])
    refine lv_iload_n (pc := 17) F.1 F.2.1 d_Mo_change_17 rfl (lv_at hl 1 rfl) ?_
    refine lv_bipush (pc := 18) (v := 7) F.1 F.2.1 d_Mo_change_18 (by decide) ?_
    refine cutW (α := Sg) (fun x H locs ls => x = f_Mo_change_r20 x1 s3 ∧ Wx D cI (wM cI am) (AM am) (AM am) s s.heap H locs x ∧ lv_has ls 3 [(0, .ref (am 0)), (1, .int x1), (2, .int x2)] ∧ JM x) (fun x ls => F0 m 28 ls []) ?_ (fun k20 => ?_)
    · rintro s5 H locs ls ⟨ex, w, hl, iJM_s5⟩
      have e_s5 := ex
      have w : Wx D cI (wM cI am) (AM am) (AM am) s s.heap H locs s5 := w
      have iJM_s5 : JM s5 := iJM_s5
      have hl : lv_has ls 3 [(0, .ref (am 0)), (1, .int x1), (2, .int x2)] := hl
      show W _ _ _ _ _ _ _ _ _ _ _ _ _ _ _ (F0 m 28 ls [])
      refine lv_iload_n (pc := 28) F.1 F.2.1 d_Mo_change_28 rfl (lv_at hl 1 rfl) ?_
      refine lv_bipush (pc := 29) (v := 18) F.1 F.2.1 d_Mo_change_29 (by decide) ?_
      refine cutW (α := Sg) (fun x H locs ls => x = f_Mo_change_r31 x1 s5 ∧ Wx D cI (wM cI am) (AM am) (AM am) s s.heap H locs x ∧ lv_has ls 3 [(0, .ref (am 0)), (1, .int x1), (2, .int x2)] ∧ JM x) (fun x ls => F0 m 53 ls []) ?_ (fun k31 => ?_)
      · rintro s9 H locs ls ⟨ex, w, hl, iJM_s9⟩
        have e_s9 := ex
        have w : Wx D cI (wM cI am) (AM am) (AM am) s s.heap H locs s9 := w
        have iJM_s9 : JM s9 := iJM_s9
        have hl : lv_has ls 3 [(0, .ref (am 0)), (1, .int x1), (2, .int x2)] := hl
        show W _ _ _ _ _ _ _ _ _ _ _ _ _ _ _ (F0 m 53 ls [])
        refine lv_iload_n (pc := 53) F.1 F.2.1 d_Mo_change_53 rfl (lv_at hl 1 rfl) ?_
        refine lv_bipush (pc := 54) (v := 22) F.1 F.2.1 d_Mo_change_54 (by decide) ?_
        refine cutW (α := Sg) (fun x H locs ls => x = f_Mo_change_r56 x1 s9 ∧ Wx D cI (wM cI am) (AM am) (AM am) s s.heap H locs x ∧ lv_has ls 3 [(0, .ref (am 0)), (1, .int x1), (2, .int x2)] ∧ JM x) (fun x ls => F0 m 75 ls []) ?_ (fun k56 => ?_)
        · rintro s12 H locs ls ⟨ex, w, hl, iJM_s12⟩
          have e_s12 := ex
          have w : Wx D cI (wM cI am) (AM am) (AM am) s s.heap H locs s12 := w
          have iJM_s12 : JM s12 := iJM_s12
          have hl : lv_has ls 3 [(0, .ref (am 0)), (1, .int x1), (2, .int x2)] := hl
          show W _ _ _ _ _ _ _ _ _ _ _ _ _ _ _ (F0 m 75 ls [])
          refine lv_iload_n (pc := 75) F.1 F.2.1 d_Mo_change_75 rfl (lv_at hl 1 rfl) ?_
          refine lv_bipush (pc := 76) (v := 23) F.1 F.2.1 d_Mo_change_76 (by decide) ?_
          refine cutW (α := Sg) (fun x H locs ls => x = f_Mo_change_r78 x1 x2 s12 ∧ Wx D cI (wM cI am) (AM am) (AM am) s s.heap H locs x ∧ lv_has ls 3 [(0, .ref (am 0)), (1, .int x1), (2, .int x2)]) (fun x ls => F0 m 86 ls []) ?_ (fun k78 => ?_)
          · rintro s14 H locs ls ⟨ex, w, hl⟩
            have e_s14 := ex
            have w : Wx D cI (wM cI am) (AM am) (AM am) s s.heap H locs s14 := w
            have hl : lv_has ls 3 [(0, .ref (am 0)), (1, .int x1), (2, .int x2)] := hl
            show W _ _ _ _ _ _ _ _ _ _ _ _ _ _ _ (F0 m 86 ls [])
            exact Rv (pc := 86) F hr hlk w (by rw [e_s14, e_s12, e_s9, e_s5, e_s3, e_s1]; exact Eq.symm (rfl)) d_Mo_change_86
          · refine lv_icmp_ne (pc := 78) F.1 F.2.1 d_Mo_change_78 (tgt := 86) (by decide) (fun h78 => ?_) (fun h78 => ?_)
            · exact k78 s12 _ _ _ ⟨(by exact Eq.symm (Eq.trans (if_neg h78) (rfl))), w, lv_sub hl [0, 1, 2] rfl⟩
            · refine lv_aload_n (pc := 81) F.1 F.2.1 d_Mo_change_81 rfl (lv_at hl 0 rfl) ?_
              refine lv_iload_n (pc := 82) F.1 F.2.1 d_Mo_change_82 rfl (lv_at hl 2 rfl) ?_
              refine Cvv (pc := 83) (As := [.int x2]) (rest := []) F w (c_Mo_sent l D cI am s12 x2 iJM_s12) 0 rfl rfl k_Mo_sent m_1042 (Nat.le_of_ble_eq_true rfl) (Nat.le_of_ble_eq_true rfl) ⟨rfl, rfl⟩ rfl hl.1 rfl (Nat.le_of_ble_eq_true rfl) d_Mo_change_83 hcs (fun s13 H locs e_s13 w => ?_)
              exact k78 s13 _ _ _ ⟨(by rw [e_s13]; exact Eq.symm (Eq.trans (if_pos h78) (rfl))), w, lv_sub hl [0, 1, 2] rfl⟩
        · refine lv_icmp_ne (pc := 56) F.1 F.2.1 d_Mo_change_56 (tgt := 75) (by decide) (fun h56 => ?_) (fun h56 => ?_)
          · exact k56 s9 _ _ _ ⟨(by exact Eq.symm (Eq.trans (if_neg h56) (rfl))), w, lv_sub hl [0, 1, 2] rfl, iJM_s9⟩
          · refine lv_aload_n (pc := 59) F.1 F.2.1 d_Mo_change_59 rfl (lv_at hl 0 rfl) ?_
            refine lv_aload_n (pc := 60) F.1 F.2.1 d_Mo_change_60 rfl (lv_at hl 0 rfl) ?_
            refine gM0_2 (pc := 61) F w (F.2.2.2.2 _ m_777) d_Mo_change_61 ?_
            refine lv_bipush (pc := 64) (v := 21) F.1 F.2.1 d_Mo_change_64 (by decide) ?_
            refine lM2 (pc := 66) F w (by unfold vp_in; decide) d_Mo_change_66 ?_
            refine pM0_38 (pc := 67) F w (F.2.2.2.2 _ m_813) d_Mo_change_67 (fun H locs s10 e_s10 w => ?_)
            have iJM_s10 : JM s10 := by rw [e_s10]; exact iJM_s9
            refine lv_aload_n (pc := 70) F.1 F.2.1 d_Mo_change_70 rfl (lv_at hl 0 rfl) ?_
            refine lv_iconst (pc := 71) (v := 0) F.1 F.2.1 d_Mo_change_71 (by decide) ?_
            refine pM0_39 (pc := 72) F w (F.2.2.2.2 _ m_814) d_Mo_change_72 (fun H locs s11 e_s11 w => ?_)
            have iJM_s11 : JM s11 := by rw [e_s11]; exact iJM_s10
            exact k56 s11 _ _ _ ⟨(by rw [e_s11, e_s10]; exact Eq.symm (Eq.trans (if_pos h56) (rfl))), w, lv_sub hl [0, 1, 2] rfl, iJM_s11⟩
      · refine lv_icmp_ne (pc := 31) F.1 F.2.1 d_Mo_change_31 (tgt := 53) (by decide) (fun h31 => ?_) (fun h31 => ?_)
        · exact k31 s5 _ _ _ ⟨(by exact Eq.symm (Eq.trans (if_neg h31) (rfl))), w, lv_sub hl [0, 1, 2] rfl, iJM_s5⟩
        · refine lv_aload_n (pc := 34) F.1 F.2.1 d_Mo_change_34 rfl (lv_at hl 0 rfl) ?_
          refine gM0_34 (pc := 35) F w (F.2.2.2.2 _ m_809) d_Mo_change_35 ?_
          refine lv_iconst (pc := 38) (v := 0) F.1 F.2.1 d_Mo_change_38 (by decide) ?_
          refine lv_iconst (pc := 39) (v := 0) F.1 F.2.1 d_Mo_change_39 (by decide) ?_
          refine aM5 (pc := 40) F w (by unfold vp_in; decide) d_Mo_change_40 (fun H locs s6 e_s6 w => ?_)
          have iJM_s6 : JM s6 := by rw [e_s6]; exact iJM_s5
          refine lv_aload_n (pc := 41) F.1 F.2.1 d_Mo_change_41 rfl (lv_at hl 0 rfl) ?_
          refine gM0_34 (pc := 42) F w (F.2.2.2.2 _ m_809) d_Mo_change_42 ?_
          refine lv_iconst (pc := 45) (v := 1) F.1 F.2.1 d_Mo_change_45 (by decide) ?_
          refine lv_iconst (pc := 46) (v := 0) F.1 F.2.1 d_Mo_change_46 (by decide) ?_
          refine aM5 (pc := 47) F w (by unfold vp_in; decide) d_Mo_change_47 (fun H locs s7 e_s7 w => ?_)
          have iJM_s7 : JM s7 := by rw [e_s7]; exact iJM_s6
          refine lv_aload_n (pc := 48) F.1 F.2.1 d_Mo_change_48 rfl (lv_at hl 0 rfl) ?_
          refine lv_iconst (pc := 49) (v := 0) F.1 F.2.1 d_Mo_change_49 (by decide) ?_
          refine pM0_35 (pc := 50) F w (F.2.2.2.2 _ m_810) d_Mo_change_50 (fun H locs s8 e_s8 w => ?_)
          have iJM_s8 : JM s8 := by rw [e_s8]; exact iJM_s7
          exact k31 s8 _ _ _ ⟨(by rw [e_s8, e_s7, e_s6]; exact Eq.symm (Eq.trans (if_pos h31) (rfl))), w, lv_sub hl [0, 1, 2] rfl, iJM_s8⟩
    · refine lv_icmp_ne (pc := 20) F.1 F.2.1 d_Mo_change_20 (tgt := 28) (by decide) (fun h20 => ?_) (fun h20 => ?_)
      · exact k20 s3 _ _ _ ⟨(by exact Eq.symm (Eq.trans (if_neg h20) (rfl))), w, lv_sub hl [0, 1, 2] rfl, iJM_s3⟩
      · refine lv_aload_n (pc := 23) F.1 F.2.1 d_Mo_change_23 rfl (lv_at hl 0 rfl) ?_
        refine lv_iconst (pc := 24) (v := 0) F.1 F.2.1 d_Mo_change_24 (by decide) ?_
        refine pM0_33 (pc := 25) F w (F.2.2.2.2 _ m_808) d_Mo_change_25 (fun H locs s4 e_s4 w => ?_)
        have iJM_s4 : JM s4 := by rw [e_s4]; exact iJM_s3
        exact k20 s4 _ _ _ ⟨(by rw [e_s4]; exact Eq.symm (Eq.trans (if_pos h20) (rfl))), w, lv_sub hl [0, 1, 2] rfl, iJM_s4⟩
  · refine lv_icmp_ne (pc := 9) F.1 F.2.1 d_Mo_change_9 (tgt := 17) (by decide) (fun h9 => ?_) (fun h9 => ?_)
    · exact k9 s1 _ _ _ ⟨(by exact Eq.symm (Eq.trans (if_neg h9) (rfl))), w, lv_sub hl [0, 1, 2] rfl, iJM_s1⟩
    · refine lv_aload_n (pc := 12) F.1 F.2.1 d_Mo_change_12 rfl (lv_at hl 0 rfl) ?_
      refine lv_iconst (pc := 13) (v := 1) F.1 F.2.1 d_Mo_change_13 (by decide) ?_
      refine pM0_15 (pc := 14) F w (Or.inr rfl) (F.2.2.2.2 _ m_790) d_Mo_change_14 (fun H locs s2 e_s2 w => ?_)
      have iJM_s2 : JM s2 := by rw [e_s2]; exact iJM_s1
      exact k9 s2 _ _ _ ⟨(by rw [e_s2]; exact Eq.symm (Eq.trans (if_pos h9) (rfl))), w, lv_sub hl [0, 1, 2] rfl, iJM_s2⟩
def f_Mo_store_r10 (σ : Sg) (x1 : Int32) (x2 : Int32) : Sg := if 768 ≤ (x1 &&& 1023) then (if 800 ≤ (x1 &&& 1023) then (σ) else (let s1 := f_Mo_change σ ((x1 &&& 1023) - 768) x2; s1)) else (let s2 := sf σ 1 (x1 &&& 1023).toNatClampNeg x2; s2)
def f_Mo_store (σ : Sg) (x1 : Int32) (x2 : Int32) : Sg := let s3 := (f_Mo_store_r10 σ x1 x2); s3
set_option maxHeartbeats 1000000 in
set_option maxRecDepth 100000 in
theorem c_Mo_store (l : Launch) (D : va_G) (cI : ClassId) (am : Nat → Nat) (σ : Sg) (x1 : Int32) (x2 : Int32) (hI : JM σ) : Met l y_Mo_store (Cond.code y_Mo_store b_Mo_store 4 none :: al) { frames := 5, cells := 0, slots := 0, locals := 112 } (Px D cI (wM cI am) (AM am) σ [.ref (am 0), .int x1, .int x2]) (va_Qv (fun u => u = f_Mo_store σ x1 x2) (Bx D cI (wM cI am) (AM am)) (AM am)) 0 0 (AM am) := by
  refine Mx l (by decide) (Nat.le_of_ble_eq_true rfl) ?_
  intro p e s m below meth c ls F w hr hlk hl
  have F : CallFix p m c b_Mo_store 4 s _ al "PictureMachineModel" := F
  have hl : lv_has ls 4 [(0, .ref (am 0)), (1, .int x1), (2, .int x2)] := hl
  have hcs : (0 : Nat) ≤ 0 ∧ (0 : Nat) ≤ 0 := ⟨Nat.le_refl _, Nat.le_refl _⟩
  refine lv_iload_n (pc := 0) F.1 F.2.1 d_Mo_store_0 rfl (lv_at hl 1 rfl) ?_
  refine lv_sipush (pc := 1) (v := 1023) F.1 F.2.1 d_Mo_store_1 (by decide) ?_
  refine lv_iand (pc := 4) F.1 F.2.1 d_Mo_store_4 ?_
  refine lv_istore_n (pc := 5) F.1 F.2.1 d_Mo_store_5 rfl hl (by decide) rfl (fun ls hl => ?_)
  have hl : lv_has ls 4 [(3, .int (x1 &&& 1023)), (0, .ref (am 0)), (1, .int x1), (2, .int x2)] := hl
  refine lv_iload_n (pc := 6) F.1 F.2.1 d_Mo_store_6 rfl (lv_at hl 0 rfl) ?_
  refine lv_sipush (pc := 7) (v := 768) F.1 F.2.1 d_Mo_store_7 (by decide) ?_
  refine cutW (α := Sg) (fun x H locs ls => x = f_Mo_store_r10 σ x1 x2 ∧ Wx D cI (wM cI am) (AM am) (AM am) s s.heap H locs x ∧ lv_has ls 4 [(0, .ref (am 0)), (1, .int x1), (2, .int x2), (3, .int (x1 &&& 1023))]) (fun x ls => F0 m 40 ls []) ?_ (fun k10 => ?_)
  · rintro s3 H locs ls ⟨ex, w, hl⟩
    have e_s3 := ex
    have w : Wx D cI (wM cI am) (AM am) (AM am) s s.heap H locs s3 := w
    have hl : lv_has ls 4 [(0, .ref (am 0)), (1, .int x1), (2, .int x2), (3, .int (x1 &&& 1023))] := hl
    show W _ _ _ _ _ _ _ _ _ _ _ _ _ _ _ (F0 m 40 ls [])
    exact Rv (pc := 40) F hr hlk w (by rw [e_s3]; exact Eq.symm (rfl)) d_Mo_store_40
  · refine lv_icmp_ge (pc := 10) F.1 F.2.1 d_Mo_store_10 (tgt := 23) (by decide) (fun h10 => ?_) (fun h10 => ?_)
    · refine lv_iload_n (pc := 23) F.1 F.2.1 d_Mo_store_23 rfl (lv_at hl 0 rfl) ?_
      refine lv_sipush (pc := 24) (v := 800) F.1 F.2.1 d_Mo_store_24 (by decide) ?_
      refine lv_icmp_ge (pc := 27) F.1 F.2.1 d_Mo_store_27 (tgt := 40) (by decide) (fun h27 => ?_) (fun h27 => ?_)
      · exact k10 σ _ _ _ ⟨(by exact Eq.symm (Eq.trans (if_pos h10) (Eq.trans (if_pos h27) (rfl)))), w, lv_sub hl [1, 2, 3, 0] rfl⟩
      · refine lv_aload_n (pc := 30) F.1 F.2.1 d_Mo_store_30 rfl (lv_at hl 1 rfl) ?_
        refine lv_iload_n (pc := 31) F.1 F.2.1 d_Mo_store_31 rfl (lv_at hl 0 rfl) ?_
        refine lv_sipush (pc := 32) (v := 768) F.1 F.2.1 d_Mo_store_32 (by decide) ?_
        refine lv_isub (pc := 35) F.1 F.2.1 d_Mo_store_35 ?_
        refine lv_iload_n (pc := 36) F.1 F.2.1 d_Mo_store_36 rfl (lv_at hl 3 rfl) ?_
        refine Cvv (pc := 37) (As := [.int ((x1 &&& 1023) - 768), .int x2]) (rest := []) F w (c_Mo_change l D cI am σ ((x1 &&& 1023) - 768) x2 hI (by first | exact in32c (by assumption) (by assumption) | exact in32c (by assumption) (Int32.not_le.mpr (by assumption)))) 0 rfl rfl k_Mo_change m_1038 (Nat.le_of_ble_eq_true rfl) (Nat.le_of_ble_eq_true rfl) ⟨rfl, rfl⟩ rfl hl.1 rfl (Nat.le_of_ble_eq_true rfl) d_Mo_store_37 hcs (fun s1 H locs e_s1 w => ?_)
        exact k10 s1 _ _ _ ⟨(by rw [e_s1]; exact Eq.symm (Eq.trans (if_pos h10) (Eq.trans (if_neg h27) (rfl)))), w, lv_sub hl [1, 2, 3, 0] rfl⟩
    · refine lv_aload_n (pc := 13) F.1 F.2.1 d_Mo_store_13 rfl (lv_at hl 1 rfl) ?_
      refine gM0_1 (pc := 14) F w (F.2.2.2.2 _ m_776) d_Mo_store_14 ?_
      refine lv_iload_n (pc := 17) F.1 F.2.1 d_Mo_store_17 rfl (lv_at hl 0 rfl) ?_
      refine lv_iload_n (pc := 18) F.1 F.2.1 d_Mo_store_18 rfl (lv_at hl 3 rfl) ?_
      refine aM1 (pc := 19) F w (by first | exact in768 (by assumption) | exact in768' (by assumption)) d_Mo_store_19 (fun H locs s2 e_s2 w => ?_)
      have iJM_s2 : JM s2 := by rw [e_s2]; exact hI
      refine lv_goto (pc := 20) F.1 F.2.1 d_Mo_store_20 (tgt := 40) (by decide) ?_
      exact k10 s2 _ _ _ ⟨(by rw [e_s2]; exact Eq.symm (Eq.trans (if_neg h10) (rfl))), w, lv_sub hl [1, 2, 3, 0] rfl⟩
def bd_Mo_deliver_42 (s3 : Sg) (s4 : Sg) (j42 : Nat) : Sg := let s5 := sf s4 9 (0 + nI j42).toNatClampNeg (s4 9 ((0 + nI j42) + 1).toNatClampNeg); s5
def it_Mo_deliver_42 (s3 : Sg) : Nat → Sg := itr (fun j42 x => bd_Mo_deliver_42 s3 x j42) s3
def f_Mo_deliver (σ : Sg) : Sg := if (σ 0 47) = 0 then (if (σ 0 46) = 0 then (σ) else (let s1 := sf σ 0 47 1; let s2 := sf s1 0 48 (s1 9 (0 : Int32).toNatClampNeg); let s3 := sf s2 0 46 ((s2 0 46) - 1); let s4 := (it_Mo_deliver_42 s3 ((s3 0 46).toNatClampNeg)); s4)) else (σ)
theorem dl_0 (s3 : Sg) (j : Nat) : (it_Mo_deliver_42 s3 j) 0 = s3 0 := itr_inv (f := fun j x => bd_Mo_deliver_42 s3 x j) (fun x : Sg => x 0 = s3 0) rfl (fun _ _ h => h) j
set_option maxHeartbeats 1000000 in
set_option maxRecDepth 100000 in
theorem c_Mo_deliver (l : Launch) (D : va_G) (cI : ClassId) (am : Nat → Nat) (σ : Sg) (hI : JM σ) : Met l y_Mo_deliver (Cond.code y_Mo_deliver b_Mo_deliver 2 none :: al) { frames := 0, cells := 0, slots := 0, locals := 0 } (Px D cI (wM cI am) (AM am) σ [.ref (am 0)]) (va_Qv (fun u => u = f_Mo_deliver σ ) (Bx D cI (wM cI am) (AM am)) (AM am)) 0 0 (AM am) := by
  refine Mx l (by decide) (Nat.le_of_ble_eq_true rfl) ?_
  intro p e s m below meth c ls F w hr hlk hl
  have F : CallFix p m c b_Mo_deliver 2 s _ al "PictureMachineModel" := F
  have hl : lv_has ls 2 [(0, .ref (am 0))] := hl
  refine lv_aload_n (pc := 0) F.1 F.2.1 d_Mo_deliver_0 rfl (lv_at hl 0 rfl) ?_
  refine gM0_47 (pc := 1) F w (F.2.2.2.2 _ m_822) d_Mo_deliver_1 ?_
  refine lv_if_ne (pc := 4) F.1 F.2.1 d_Mo_deliver_4 (tgt := 14) (by decide) (fun h4 => ?_) (fun h4 => ?_)
  · exact Rv (pc := 14) F hr hlk w (by exact Eq.symm (Eq.trans (if_neg h4) (rfl))) d_Mo_deliver_14
  · refine lv_aload_n (pc := 7) F.1 F.2.1 d_Mo_deliver_7 rfl (lv_at hl 0 rfl) ?_
    refine gM0_46 (pc := 8) F w (F.2.2.2.2 _ m_821) d_Mo_deliver_8 ?_
    refine lv_if_ne (pc := 11) F.1 F.2.1 d_Mo_deliver_11 (tgt := 15) (by decide) (fun h11 => ?_) (fun h11 => ?_)
    · refine lv_aload_n (pc := 15) F.1 F.2.1 d_Mo_deliver_15 rfl (lv_at hl 0 rfl) ?_
      refine lv_iconst (pc := 16) (v := 1) F.1 F.2.1 d_Mo_deliver_16 (by decide) ?_
      refine pM0_47 (pc := 17) F w (Or.inr rfl) (F.2.2.2.2 _ m_822) d_Mo_deliver_17 (fun H locs s1 e_s1 w => ?_)
      have iJM_s1 : JM s1 := by rw [e_s1]; exact hI
      refine lv_aload_n (pc := 20) F.1 F.2.1 d_Mo_deliver_20 rfl (lv_at hl 0 rfl) ?_
      refine lv_aload_n (pc := 21) F.1 F.2.1 d_Mo_deliver_21 rfl (lv_at hl 0 rfl) ?_
      refine gM0_45 (pc := 22) F w (F.2.2.2.2 _ m_820) d_Mo_deliver_22 ?_
      refine lv_iconst (pc := 25) (v := 0) F.1 F.2.1 d_Mo_deliver_25 (by decide) ?_
      refine lM9 (pc := 26) F w (by unfold vp_in; decide) d_Mo_deliver_26 ?_
      refine pM0_48 (pc := 27) F w (F.2.2.2.2 _ m_823) d_Mo_deliver_27 (fun H locs s2 e_s2 w => ?_)
      have iJM_s2 : JM s2 := by rw [e_s2]; exact iJM_s1
      refine lv_aload_n (pc := 30) F.1 F.2.1 d_Mo_deliver_30 rfl (lv_at hl 0 rfl) ?_
      refine lv_dup (pc := 31) F.1 F.2.1 d_Mo_deliver_31 rfl ?_
      refine gM0_46 (pc := 32) F w (F.2.2.2.2 _ m_821) d_Mo_deliver_32 ?_
      refine lv_iconst (pc := 35) (v := 1) F.1 F.2.1 d_Mo_deliver_35 (by decide) ?_
      refine lv_isub (pc := 36) F.1 F.2.1 d_Mo_deliver_36 ?_
      refine pM0_46 (pc := 37) F w (F.2.2.2.2 _ m_821) d_Mo_deliver_37 (fun H locs s3 e_s3 w => ?_)
      refine lv_iconst (pc := 40) (v := 0) F.1 F.2.1 d_Mo_deliver_40 (by decide) ?_
      refine lv_istore_n (pc := 41) F.1 F.2.1 d_Mo_deliver_41 rfl hl (by decide) rfl (fun ls hl => ?_)
      have hl : lv_has ls 2 [(1, .int 0), (0, .ref (am 0))] := hl
      have hd0 : bt2 0 (s3 0 46) 39 := by rw [e_s3, e_s2, e_s1]; exact dv_0 hI.2.2.1 (by assumption)
      refine loopW (α := Sg) ((s3 0 46).toNatClampNeg) (fun j42 x H locs ls => x = it_Mo_deliver_42 s3 j42 ∧ Wx D cI (wM cI am) (AM am) (AM am) s s.heap H locs x ∧ lv_has ls 2 [(0, .ref (am 0)), (1, .int (0 + nI j42))]) (fun _ ls => F0 m 42 ls []) ?_ ?_ 0 s3 _ _ _ (Nat.zero_le _) ⟨rfl, w, by rw [ci_0]; exact lv_sub hl [1, 0] rfl⟩
      · rintro j42 s4 H locs ls hj42 ⟨ex, w, hl⟩ nx42
        have e_s4 := ex
        have w : Wx D cI (wM cI am) (AM am) (AM am) s s.heap H locs s4 := w
        have hl : lv_has ls 2 [(0, .ref (am 0)), (1, .int (0 + nI j42))] := hl
        have hc42_0 : ¬ ((s4 0 46) ≤ (0 + nI j42)) := (by rw [(show s4 0 46 = s3 0 46 by rw [e_s4]; exact congrFun (dl_0 s3 _) 46)]; exact lp_lt hj42 (nI_cl hd0.1).symm (cl_lt _))
        refine lv_iload_n (pc := 42) F.1 F.2.1 d_Mo_deliver_42 rfl (lv_at hl 1 rfl) ?_
        refine lv_aload_n (pc := 43) F.1 F.2.1 d_Mo_deliver_43 rfl (lv_at hl 0 rfl) ?_
        refine gM0_46 (pc := 44) F w (F.2.2.2.2 _ m_821) d_Mo_deliver_44 ?_
        refine lv_icmp_ge (pc := 47) F.1 F.2.1 d_Mo_deliver_47 (tgt := 70) (by decide) (fun q => absurd q hc42_0) (fun _ => ?_)
        refine lv_aload_n (pc := 50) F.1 F.2.1 d_Mo_deliver_50 rfl (lv_at hl 0 rfl) ?_
        refine gM0_45 (pc := 51) F w (F.2.2.2.2 _ m_820) d_Mo_deliver_51 ?_
        refine lv_iload_n (pc := 54) F.1 F.2.1 d_Mo_deliver_54 rfl (lv_at hl 1 rfl) ?_
        refine lv_aload_n (pc := 55) F.1 F.2.1 d_Mo_deliver_55 rfl (lv_at hl 0 rfl) ?_
        refine gM0_45 (pc := 56) F w (F.2.2.2.2 _ m_820) d_Mo_deliver_56 ?_
        refine lv_iload_n (pc := 59) F.1 F.2.1 d_Mo_deliver_59 rfl (lv_at hl 1 rfl) ?_
        refine lv_iconst (pc := 60) (v := 1) F.1 F.2.1 d_Mo_deliver_60 (by decide) ?_
        refine lv_iadd (pc := 61) F.1 F.2.1 d_Mo_deliver_61 ?_
        refine lM9 (pc := 62) F w ((dv_in hd0 hj42).1) d_Mo_deliver_62 ?_
        refine aM9 (pc := 63) F w ((dv_in hd0 hj42).2) d_Mo_deliver_63 (fun H locs s5 e_s5 w => ?_)
        refine lv_iinc (pc := 64) (k := 1) (v := ((0 + nI j42) + 1)) F.1 F.2.1 d_Mo_deliver_64 hl rfl (by first | rfl | decide) (by decide) rfl (fun ls hl => ?_)
        have hl : lv_has ls 2 [(1, .int ((0 + nI j42) + 1)), (0, .ref (am 0))] := hl
        refine lv_goto (pc := 67) F.1 F.2.1 d_Mo_deliver_67 (tgt := 42) (by decide) ?_
        exact nx42 s5 _ _ _ ⟨(by rw [e_s5, e_s4]; exact Eq.symm (rfl)), w, by rw [← ci_s]; exact lv_sub hl [1, 0] rfl⟩
      · rintro s4 H locs ls ⟨ex, w, hl⟩
        have e_s4 := ex
        have w : Wx D cI (wM cI am) (AM am) (AM am) s s.heap H locs s4 := w
        have hl : lv_has ls 2 [(0, .ref (am 0)), (1, .int (0 + nI ((s3 0 46).toNatClampNeg)))] := hl
        have hx42_0 : (s4 0 46) ≤ (0 + nI ((s3 0 46).toNatClampNeg)) := (by rw [(show s4 0 46 = s3 0 46 by rw [e_s4]; exact congrFun (dl_0 s3 _) 46)]; exact lp_ge (nI_cl hd0.1).symm)
        refine lv_iload_n (pc := 42) F.1 F.2.1 d_Mo_deliver_42 rfl (lv_at hl 1 rfl) ?_
        refine lv_aload_n (pc := 43) F.1 F.2.1 d_Mo_deliver_43 rfl (lv_at hl 0 rfl) ?_
        refine gM0_46 (pc := 44) F w (F.2.2.2.2 _ m_821) d_Mo_deliver_44 ?_
        refine lv_icmp_ge (pc := 47) F.1 F.2.1 d_Mo_deliver_47 (tgt := 70) (by decide) (fun _ => ?_) (fun q => absurd hx42_0 q)
        exact Rv (pc := 70) F hr hlk w (by rw [e_s4, e_s3, e_s2, e_s1]; exact Eq.symm (Eq.trans (if_pos h4) (Eq.trans (if_neg h11) (rfl)))) d_Mo_deliver_70
    · exact Rv (pc := 14) F hr hlk w (by exact Eq.symm (Eq.trans (if_pos h4) (Eq.trans (if_pos h11) (rfl)))) d_Mo_deliver_14
def f_Mo_coded  (x1 : Int32) (x2 : Int32) (x3 : Int32) : Int32 := (((100 * x1) + (10 * x2)) + x3)
set_option maxHeartbeats 1000000 in
set_option maxRecDepth 100000 in
theorem c_Mo_coded (l : Launch)  (x1 : Int32) (x2 : Int32) (x3 : Int32) : Met l y_Mo_coded (Cond.code y_Mo_coded b_Mo_coded 3 (some .int) :: al) { frames := 0, cells := 0, slots := 0, locals := 0 } (PU [.int x1, .int x2, .int x3]) (QU (f_Mo_coded x1 x2 x3)) 0 0 (fun _ => False) := by
  refine Mu l (by decide) (Nat.le_of_ble_eq_true rfl) ?_
  intro p e s m below meth c ls F hr hlk hl
  have F : CallFix p m c b_Mo_coded 3 s _ al "PictureMachineModel" := F
  generalize hH : s.heap = H
  generalize hlo : ([] : List Loc) = locs
  have w : (H = s.heap ∧ locs = []) := ⟨hH.symm, hlo.symm⟩
  have hl : lv_has ls 3 [(0, .int x1), (1, .int x2), (2, .int x3)] := hl
  refine lv_bipush (pc := 0) (v := 100) F.1 F.2.1 d_Mo_coded_0 (by decide) ?_
  refine lv_iload_n (pc := 2) F.1 F.2.1 d_Mo_coded_2 rfl (lv_at hl 0 rfl) ?_
  refine lv_imul (pc := 3) F.1 F.2.1 d_Mo_coded_3 ?_
  refine lv_bipush (pc := 4) (v := 10) F.1 F.2.1 d_Mo_coded_4 (by decide) ?_
  refine lv_iload_n (pc := 6) F.1 F.2.1 d_Mo_coded_6 rfl (lv_at hl 1 rfl) ?_
  refine lv_imul (pc := 7) F.1 F.2.1 d_Mo_coded_7 ?_
  refine lv_iadd (pc := 8) F.1 F.2.1 d_Mo_coded_8 ?_
  refine lv_iload_n (pc := 9) F.1 F.2.1 d_Mo_coded_9 rfl (lv_at hl 2 rfl) ?_
  refine lv_iadd (pc := 10) F.1 F.2.1 d_Mo_coded_10 ?_
  exact Ui (pc := 11) F w hr hlk (by exact Eq.symm (rfl)) d_Mo_coded_11
def f_Mo_single  (x1 : Int32) : Int32 := if x1 = 16 then (let r1 := f_Mo_coded 25 1 2; r1) else if x1 = 24 then (let r2 := f_Mo_coded 23 0 2; r2) else if x1 = 32 then (let r3 := f_Mo_coded 27 3 6; r3) else if x1 = 48 then (let r4 := f_Mo_coded 25 1 2; r4) else if x1 = 56 then (let r5 := f_Mo_coded 24 0 2; r5) else if x1 = 64 then (let r6 := f_Mo_coded 29 0 6; r6) else if x1 = 72 then (let r7 := f_Mo_coded 21 0 3; r7) else if x1 = 76 then (let r8 := f_Mo_coded 26 3 3; r8) else if x1 = 96 then (let r9 := f_Mo_coded 28 0 6; r9) else if x1 = 104 then (let r10 := f_Mo_coded 22 0 4; r10) else if x1 = 136 then (let r11 := f_Mo_coded 16 0 2; r11) else if x1 = 138 then (let r12 := f_Mo_coded 20 0 2; r12) else if x1 = 144 then (let r13 := f_Mo_coded 25 1 2; r13) else if x1 = 170 then (let r14 := f_Mo_coded 19 0 2; r14) else if x1 = 176 then (let r15 := f_Mo_coded 25 1 2; r15) else if x1 = 200 then (let r16 := f_Mo_coded 15 0 2; r16) else if x1 = 202 then (let r17 := f_Mo_coded 14 0 2; r17) else if x1 = 208 then (let r18 := f_Mo_coded 25 1 2; r18) else if x1 = 232 then (let r19 := f_Mo_coded 13 0 2; r19) else if x1 = 234 then (let r20 := f_Mo_coded 30 0 2; r20) else if x1 = 240 then (let r21 := f_Mo_coded 25 1 2; r21) else (2)
set_option maxHeartbeats 1000000 in
set_option maxRecDepth 100000 in
theorem c_Mo_single (l : Launch)  (x1 : Int32) : Met l y_Mo_single (Cond.code y_Mo_single b_Mo_single 1 (some .int) :: al) { frames := 1, cells := 0, slots := 0, locals := 22 } (PU [.int x1]) (QU (f_Mo_single x1)) 0 0 (fun _ => False) := by
  refine Mu l (by decide) (Nat.le_of_ble_eq_true rfl) ?_
  intro p e s m below meth c ls F hr hlk hl
  have F : CallFix p m c b_Mo_single 1 s _ al "PictureMachineModel" := F
  generalize hH : s.heap = H
  generalize hlo : ([] : List Loc) = locs
  have w : (H = s.heap ∧ locs = []) := ⟨hH.symm, hlo.symm⟩
  have hl : lv_has ls 1 [(0, .int x1)] := hl
  have hcs : (0 : Nat) ≤ 0 ∧ (0 : Nat) ≤ 0 := ⟨Nat.le_refl _, Nat.le_refl _⟩
  refine lv_iload_n (pc := 0) F.1 F.2.1 d_Mo_single_0 rfl (lv_at hl 0 rfl) ?_
  by_cases h1_16 : x1 = 16
  · refine lv_lookup (pc := 1) F.1 F.2.1 d_Mo_single_1 (by decide) (off := 259) (tgt := 260) (by rw [h1_16]; decide) (by decide) ?_
    refine lv_bipush (pc := 260) (v := 25) F.1 F.2.1 d_Mo_single_260 (by decide) ?_
    refine lv_iconst (pc := 262) (v := 1) F.1 F.2.1 d_Mo_single_262 (by decide) ?_
    refine lv_iconst (pc := 263) (v := 2) F.1 F.2.1 d_Mo_single_263 (by decide) ?_
    refine Usi (pc := 264) (As := [.int 25, .int 1, .int 2]) (rest := []) F (c_Mo_coded l 25 1 2) k_Mo_coded m_996 (Nat.le_of_ble_eq_true rfl) (Nat.le_of_ble_eq_true rfl) ⟨rfl, rfl⟩ rfl hl.1 rfl (Nat.le_of_ble_eq_true rfl) d_Mo_single_264 hcs (fun r1 e_r1 => ?_)
    exact Ui (pc := 267) F w hr hlk (by rw [e_r1]; exact Eq.symm (Eq.trans (if_pos h1_16) (rfl))) d_Mo_single_267
  by_cases h1_24 : x1 = 24
  · refine lv_lookup (pc := 1) F.1 F.2.1 d_Mo_single_1 (by decide) (off := 243) (tgt := 244) (by rw [h1_24]; decide) (by decide) ?_
    refine lv_bipush (pc := 244) (v := 23) F.1 F.2.1 d_Mo_single_244 (by decide) ?_
    refine lv_iconst (pc := 246) (v := 0) F.1 F.2.1 d_Mo_single_246 (by decide) ?_
    refine lv_iconst (pc := 247) (v := 2) F.1 F.2.1 d_Mo_single_247 (by decide) ?_
    refine Usi (pc := 248) (As := [.int 23, .int 0, .int 2]) (rest := []) F (c_Mo_coded l 23 0 2) k_Mo_coded m_996 (Nat.le_of_ble_eq_true rfl) (Nat.le_of_ble_eq_true rfl) ⟨rfl, rfl⟩ rfl hl.1 rfl (Nat.le_of_ble_eq_true rfl) d_Mo_single_248 hcs (fun r2 e_r2 => ?_)
    exact Ui (pc := 251) F w hr hlk (by rw [e_r2]; exact Eq.symm (Eq.trans (if_neg h1_16) (Eq.trans (if_pos h1_24) (rfl)))) d_Mo_single_251
  by_cases h1_32 : x1 = 32
  · refine lv_lookup (pc := 1) F.1 F.2.1 d_Mo_single_1 (by decide) (off := 275) (tgt := 276) (by rw [h1_32]; decide) (by decide) ?_
    refine lv_bipush (pc := 276) (v := 27) F.1 F.2.1 d_Mo_single_276 (by decide) ?_
    refine lv_iconst (pc := 278) (v := 3) F.1 F.2.1 d_Mo_single_278 (by decide) ?_
    refine lv_bipush (pc := 279) (v := 6) F.1 F.2.1 d_Mo_single_279 (by decide) ?_
    refine Usi (pc := 281) (As := [.int 27, .int 3, .int 6]) (rest := []) F (c_Mo_coded l 27 3 6) k_Mo_coded m_996 (Nat.le_of_ble_eq_true rfl) (Nat.le_of_ble_eq_true rfl) ⟨rfl, rfl⟩ rfl hl.1 rfl (Nat.le_of_ble_eq_true rfl) d_Mo_single_281 hcs (fun r3 e_r3 => ?_)
    exact Ui (pc := 284) F w hr hlk (by rw [e_r3]; exact Eq.symm (Eq.trans (if_neg h1_16) (Eq.trans (if_neg h1_24) (Eq.trans (if_pos h1_32) (rfl))))) d_Mo_single_284
  by_cases h1_48 : x1 = 48
  · refine lv_lookup (pc := 1) F.1 F.2.1 d_Mo_single_1 (by decide) (off := 259) (tgt := 260) (by rw [h1_48]; decide) (by decide) ?_
    refine lv_bipush (pc := 260) (v := 25) F.1 F.2.1 d_Mo_single_260 (by decide) ?_
    refine lv_iconst (pc := 262) (v := 1) F.1 F.2.1 d_Mo_single_262 (by decide) ?_
    refine lv_iconst (pc := 263) (v := 2) F.1 F.2.1 d_Mo_single_263 (by decide) ?_
    refine Usi (pc := 264) (As := [.int 25, .int 1, .int 2]) (rest := []) F (c_Mo_coded l 25 1 2) k_Mo_coded m_996 (Nat.le_of_ble_eq_true rfl) (Nat.le_of_ble_eq_true rfl) ⟨rfl, rfl⟩ rfl hl.1 rfl (Nat.le_of_ble_eq_true rfl) d_Mo_single_264 hcs (fun r4 e_r4 => ?_)
    exact Ui (pc := 267) F w hr hlk (by rw [e_r4]; exact Eq.symm (Eq.trans (if_neg h1_16) (Eq.trans (if_neg h1_24) (Eq.trans (if_neg h1_32) (Eq.trans (if_pos h1_48) (rfl)))))) d_Mo_single_267
  by_cases h1_56 : x1 = 56
  · refine lv_lookup (pc := 1) F.1 F.2.1 d_Mo_single_1 (by decide) (off := 251) (tgt := 252) (by rw [h1_56]; decide) (by decide) ?_
    refine lv_bipush (pc := 252) (v := 24) F.1 F.2.1 d_Mo_single_252 (by decide) ?_
    refine lv_iconst (pc := 254) (v := 0) F.1 F.2.1 d_Mo_single_254 (by decide) ?_
    refine lv_iconst (pc := 255) (v := 2) F.1 F.2.1 d_Mo_single_255 (by decide) ?_
    refine Usi (pc := 256) (As := [.int 24, .int 0, .int 2]) (rest := []) F (c_Mo_coded l 24 0 2) k_Mo_coded m_996 (Nat.le_of_ble_eq_true rfl) (Nat.le_of_ble_eq_true rfl) ⟨rfl, rfl⟩ rfl hl.1 rfl (Nat.le_of_ble_eq_true rfl) d_Mo_single_256 hcs (fun r5 e_r5 => ?_)
    exact Ui (pc := 259) F w hr hlk (by rw [e_r5]; exact Eq.symm (Eq.trans (if_neg h1_16) (Eq.trans (if_neg h1_24) (Eq.trans (if_neg h1_32) (Eq.trans (if_neg h1_48) (Eq.trans (if_pos h1_56) (rfl))))))) d_Mo_single_259
  by_cases h1_64 : x1 = 64
  · refine lv_lookup (pc := 1) F.1 F.2.1 d_Mo_single_1 (by decide) (off := 293) (tgt := 294) (by rw [h1_64]; decide) (by decide) ?_
    refine lv_bipush (pc := 294) (v := 29) F.1 F.2.1 d_Mo_single_294 (by decide) ?_
    refine lv_iconst (pc := 296) (v := 0) F.1 F.2.1 d_Mo_single_296 (by decide) ?_
    refine lv_bipush (pc := 297) (v := 6) F.1 F.2.1 d_Mo_single_297 (by decide) ?_
    refine Usi (pc := 299) (As := [.int 29, .int 0, .int 6]) (rest := []) F (c_Mo_coded l 29 0 6) k_Mo_coded m_996 (Nat.le_of_ble_eq_true rfl) (Nat.le_of_ble_eq_true rfl) ⟨rfl, rfl⟩ rfl hl.1 rfl (Nat.le_of_ble_eq_true rfl) d_Mo_single_299 hcs (fun r6 e_r6 => ?_)
    exact Ui (pc := 302) F w hr hlk (by rw [e_r6]; exact Eq.symm (Eq.trans (if_neg h1_16) (Eq.trans (if_neg h1_24) (Eq.trans (if_neg h1_32) (Eq.trans (if_neg h1_48) (Eq.trans (if_neg h1_56) (Eq.trans (if_pos h1_64) (rfl)))))))) d_Mo_single_302
  by_cases h1_72 : x1 = 72
  · refine lv_lookup (pc := 1) F.1 F.2.1 d_Mo_single_1 (by decide) (off := 227) (tgt := 228) (by rw [h1_72]; decide) (by decide) ?_
    refine lv_bipush (pc := 228) (v := 21) F.1 F.2.1 d_Mo_single_228 (by decide) ?_
    refine lv_iconst (pc := 230) (v := 0) F.1 F.2.1 d_Mo_single_230 (by decide) ?_
    refine lv_iconst (pc := 231) (v := 3) F.1 F.2.1 d_Mo_single_231 (by decide) ?_
    refine Usi (pc := 232) (As := [.int 21, .int 0, .int 3]) (rest := []) F (c_Mo_coded l 21 0 3) k_Mo_coded m_996 (Nat.le_of_ble_eq_true rfl) (Nat.le_of_ble_eq_true rfl) ⟨rfl, rfl⟩ rfl hl.1 rfl (Nat.le_of_ble_eq_true rfl) d_Mo_single_232 hcs (fun r7 e_r7 => ?_)
    exact Ui (pc := 235) F w hr hlk (by rw [e_r7]; exact Eq.symm (Eq.trans (if_neg h1_16) (Eq.trans (if_neg h1_24) (Eq.trans (if_neg h1_32) (Eq.trans (if_neg h1_48) (Eq.trans (if_neg h1_56) (Eq.trans (if_neg h1_64) (Eq.trans (if_pos h1_72) (rfl))))))))) d_Mo_single_235
  by_cases h1_76 : x1 = 76
  · refine lv_lookup (pc := 1) F.1 F.2.1 d_Mo_single_1 (by decide) (off := 267) (tgt := 268) (by rw [h1_76]; decide) (by decide) ?_
    refine lv_bipush (pc := 268) (v := 26) F.1 F.2.1 d_Mo_single_268 (by decide) ?_
    refine lv_iconst (pc := 270) (v := 3) F.1 F.2.1 d_Mo_single_270 (by decide) ?_
    refine lv_iconst (pc := 271) (v := 3) F.1 F.2.1 d_Mo_single_271 (by decide) ?_
    refine Usi (pc := 272) (As := [.int 26, .int 3, .int 3]) (rest := []) F (c_Mo_coded l 26 3 3) k_Mo_coded m_996 (Nat.le_of_ble_eq_true rfl) (Nat.le_of_ble_eq_true rfl) ⟨rfl, rfl⟩ rfl hl.1 rfl (Nat.le_of_ble_eq_true rfl) d_Mo_single_272 hcs (fun r8 e_r8 => ?_)
    exact Ui (pc := 275) F w hr hlk (by rw [e_r8]; exact Eq.symm (Eq.trans (if_neg h1_16) (Eq.trans (if_neg h1_24) (Eq.trans (if_neg h1_32) (Eq.trans (if_neg h1_48) (Eq.trans (if_neg h1_56) (Eq.trans (if_neg h1_64) (Eq.trans (if_neg h1_72) (Eq.trans (if_pos h1_76) (rfl)))))))))) d_Mo_single_275
  by_cases h1_96 : x1 = 96
  · refine lv_lookup (pc := 1) F.1 F.2.1 d_Mo_single_1 (by decide) (off := 284) (tgt := 285) (by rw [h1_96]; decide) (by decide) ?_
    refine lv_bipush (pc := 285) (v := 28) F.1 F.2.1 d_Mo_single_285 (by decide) ?_
    refine lv_iconst (pc := 287) (v := 0) F.1 F.2.1 d_Mo_single_287 (by decide) ?_
    refine lv_bipush (pc := 288) (v := 6) F.1 F.2.1 d_Mo_single_288 (by decide) ?_
    refine Usi (pc := 290) (As := [.int 28, .int 0, .int 6]) (rest := []) F (c_Mo_coded l 28 0 6) k_Mo_coded m_996 (Nat.le_of_ble_eq_true rfl) (Nat.le_of_ble_eq_true rfl) ⟨rfl, rfl⟩ rfl hl.1 rfl (Nat.le_of_ble_eq_true rfl) d_Mo_single_290 hcs (fun r9 e_r9 => ?_)
    exact Ui (pc := 293) F w hr hlk (by rw [e_r9]; exact Eq.symm (Eq.trans (if_neg h1_16) (Eq.trans (if_neg h1_24) (Eq.trans (if_neg h1_32) (Eq.trans (if_neg h1_48) (Eq.trans (if_neg h1_56) (Eq.trans (if_neg h1_64) (Eq.trans (if_neg h1_72) (Eq.trans (if_neg h1_76) (Eq.trans (if_pos h1_96) (rfl))))))))))) d_Mo_single_293
  by_cases h1_104 : x1 = 104
  · refine lv_lookup (pc := 1) F.1 F.2.1 d_Mo_single_1 (by decide) (off := 235) (tgt := 236) (by rw [h1_104]; decide) (by decide) ?_
    refine lv_bipush (pc := 236) (v := 22) F.1 F.2.1 d_Mo_single_236 (by decide) ?_
    refine lv_iconst (pc := 238) (v := 0) F.1 F.2.1 d_Mo_single_238 (by decide) ?_
    refine lv_iconst (pc := 239) (v := 4) F.1 F.2.1 d_Mo_single_239 (by decide) ?_
    refine Usi (pc := 240) (As := [.int 22, .int 0, .int 4]) (rest := []) F (c_Mo_coded l 22 0 4) k_Mo_coded m_996 (Nat.le_of_ble_eq_true rfl) (Nat.le_of_ble_eq_true rfl) ⟨rfl, rfl⟩ rfl hl.1 rfl (Nat.le_of_ble_eq_true rfl) d_Mo_single_240 hcs (fun r10 e_r10 => ?_)
    exact Ui (pc := 243) F w hr hlk (by rw [e_r10]; exact Eq.symm (Eq.trans (if_neg h1_16) (Eq.trans (if_neg h1_24) (Eq.trans (if_neg h1_32) (Eq.trans (if_neg h1_48) (Eq.trans (if_neg h1_56) (Eq.trans (if_neg h1_64) (Eq.trans (if_neg h1_72) (Eq.trans (if_neg h1_76) (Eq.trans (if_neg h1_96) (Eq.trans (if_pos h1_104) (rfl)))))))))))) d_Mo_single_243
  by_cases h1_136 : x1 = 136
  · refine lv_lookup (pc := 1) F.1 F.2.1 d_Mo_single_1 (by decide) (off := 203) (tgt := 204) (by rw [h1_136]; decide) (by decide) ?_
    refine lv_bipush (pc := 204) (v := 16) F.1 F.2.1 d_Mo_single_204 (by decide) ?_
    refine lv_iconst (pc := 206) (v := 0) F.1 F.2.1 d_Mo_single_206 (by decide) ?_
    refine lv_iconst (pc := 207) (v := 2) F.1 F.2.1 d_Mo_single_207 (by decide) ?_
    refine Usi (pc := 208) (As := [.int 16, .int 0, .int 2]) (rest := []) F (c_Mo_coded l 16 0 2) k_Mo_coded m_996 (Nat.le_of_ble_eq_true rfl) (Nat.le_of_ble_eq_true rfl) ⟨rfl, rfl⟩ rfl hl.1 rfl (Nat.le_of_ble_eq_true rfl) d_Mo_single_208 hcs (fun r11 e_r11 => ?_)
    exact Ui (pc := 211) F w hr hlk (by rw [e_r11]; exact Eq.symm (Eq.trans (if_neg h1_16) (Eq.trans (if_neg h1_24) (Eq.trans (if_neg h1_32) (Eq.trans (if_neg h1_48) (Eq.trans (if_neg h1_56) (Eq.trans (if_neg h1_64) (Eq.trans (if_neg h1_72) (Eq.trans (if_neg h1_76) (Eq.trans (if_neg h1_96) (Eq.trans (if_neg h1_104) (Eq.trans (if_pos h1_136) (rfl))))))))))))) d_Mo_single_211
  by_cases h1_138 : x1 = 138
  · refine lv_lookup (pc := 1) F.1 F.2.1 d_Mo_single_1 (by decide) (off := 219) (tgt := 220) (by rw [h1_138]; decide) (by decide) ?_
    refine lv_bipush (pc := 220) (v := 20) F.1 F.2.1 d_Mo_single_220 (by decide) ?_
    refine lv_iconst (pc := 222) (v := 0) F.1 F.2.1 d_Mo_single_222 (by decide) ?_
    refine lv_iconst (pc := 223) (v := 2) F.1 F.2.1 d_Mo_single_223 (by decide) ?_
    refine Usi (pc := 224) (As := [.int 20, .int 0, .int 2]) (rest := []) F (c_Mo_coded l 20 0 2) k_Mo_coded m_996 (Nat.le_of_ble_eq_true rfl) (Nat.le_of_ble_eq_true rfl) ⟨rfl, rfl⟩ rfl hl.1 rfl (Nat.le_of_ble_eq_true rfl) d_Mo_single_224 hcs (fun r12 e_r12 => ?_)
    exact Ui (pc := 227) F w hr hlk (by rw [e_r12]; exact Eq.symm (Eq.trans (if_neg h1_16) (Eq.trans (if_neg h1_24) (Eq.trans (if_neg h1_32) (Eq.trans (if_neg h1_48) (Eq.trans (if_neg h1_56) (Eq.trans (if_neg h1_64) (Eq.trans (if_neg h1_72) (Eq.trans (if_neg h1_76) (Eq.trans (if_neg h1_96) (Eq.trans (if_neg h1_104) (Eq.trans (if_neg h1_136) (Eq.trans (if_pos h1_138) (rfl)))))))))))))) d_Mo_single_227
  by_cases h1_144 : x1 = 144
  · refine lv_lookup (pc := 1) F.1 F.2.1 d_Mo_single_1 (by decide) (off := 259) (tgt := 260) (by rw [h1_144]; decide) (by decide) ?_
    refine lv_bipush (pc := 260) (v := 25) F.1 F.2.1 d_Mo_single_260 (by decide) ?_
    refine lv_iconst (pc := 262) (v := 1) F.1 F.2.1 d_Mo_single_262 (by decide) ?_
    refine lv_iconst (pc := 263) (v := 2) F.1 F.2.1 d_Mo_single_263 (by decide) ?_
    refine Usi (pc := 264) (As := [.int 25, .int 1, .int 2]) (rest := []) F (c_Mo_coded l 25 1 2) k_Mo_coded m_996 (Nat.le_of_ble_eq_true rfl) (Nat.le_of_ble_eq_true rfl) ⟨rfl, rfl⟩ rfl hl.1 rfl (Nat.le_of_ble_eq_true rfl) d_Mo_single_264 hcs (fun r13 e_r13 => ?_)
    exact Ui (pc := 267) F w hr hlk (by rw [e_r13]; exact Eq.symm (Eq.trans (if_neg h1_16) (Eq.trans (if_neg h1_24) (Eq.trans (if_neg h1_32) (Eq.trans (if_neg h1_48) (Eq.trans (if_neg h1_56) (Eq.trans (if_neg h1_64) (Eq.trans (if_neg h1_72) (Eq.trans (if_neg h1_76) (Eq.trans (if_neg h1_96) (Eq.trans (if_neg h1_104) (Eq.trans (if_neg h1_136) (Eq.trans (if_neg h1_138) (Eq.trans (if_pos h1_144) (rfl))))))))))))))) d_Mo_single_267
  by_cases h1_170 : x1 = 170
  · refine lv_lookup (pc := 1) F.1 F.2.1 d_Mo_single_1 (by decide) (off := 211) (tgt := 212) (by rw [h1_170]; decide) (by decide) ?_
    refine lv_bipush (pc := 212) (v := 19) F.1 F.2.1 d_Mo_single_212 (by decide) ?_
    refine lv_iconst (pc := 214) (v := 0) F.1 F.2.1 d_Mo_single_214 (by decide) ?_
    refine lv_iconst (pc := 215) (v := 2) F.1 F.2.1 d_Mo_single_215 (by decide) ?_
    refine Usi (pc := 216) (As := [.int 19, .int 0, .int 2]) (rest := []) F (c_Mo_coded l 19 0 2) k_Mo_coded m_996 (Nat.le_of_ble_eq_true rfl) (Nat.le_of_ble_eq_true rfl) ⟨rfl, rfl⟩ rfl hl.1 rfl (Nat.le_of_ble_eq_true rfl) d_Mo_single_216 hcs (fun r14 e_r14 => ?_)
    exact Ui (pc := 219) F w hr hlk (by rw [e_r14]; exact Eq.symm (Eq.trans (if_neg h1_16) (Eq.trans (if_neg h1_24) (Eq.trans (if_neg h1_32) (Eq.trans (if_neg h1_48) (Eq.trans (if_neg h1_56) (Eq.trans (if_neg h1_64) (Eq.trans (if_neg h1_72) (Eq.trans (if_neg h1_76) (Eq.trans (if_neg h1_96) (Eq.trans (if_neg h1_104) (Eq.trans (if_neg h1_136) (Eq.trans (if_neg h1_138) (Eq.trans (if_neg h1_144) (Eq.trans (if_pos h1_170) (rfl)))))))))))))))) d_Mo_single_219
  by_cases h1_176 : x1 = 176
  · refine lv_lookup (pc := 1) F.1 F.2.1 d_Mo_single_1 (by decide) (off := 259) (tgt := 260) (by rw [h1_176]; decide) (by decide) ?_
    refine lv_bipush (pc := 260) (v := 25) F.1 F.2.1 d_Mo_single_260 (by decide) ?_
    refine lv_iconst (pc := 262) (v := 1) F.1 F.2.1 d_Mo_single_262 (by decide) ?_
    refine lv_iconst (pc := 263) (v := 2) F.1 F.2.1 d_Mo_single_263 (by decide) ?_
    refine Usi (pc := 264) (As := [.int 25, .int 1, .int 2]) (rest := []) F (c_Mo_coded l 25 1 2) k_Mo_coded m_996 (Nat.le_of_ble_eq_true rfl) (Nat.le_of_ble_eq_true rfl) ⟨rfl, rfl⟩ rfl hl.1 rfl (Nat.le_of_ble_eq_true rfl) d_Mo_single_264 hcs (fun r15 e_r15 => ?_)
    exact Ui (pc := 267) F w hr hlk (by rw [e_r15]; exact Eq.symm (Eq.trans (if_neg h1_16) (Eq.trans (if_neg h1_24) (Eq.trans (if_neg h1_32) (Eq.trans (if_neg h1_48) (Eq.trans (if_neg h1_56) (Eq.trans (if_neg h1_64) (Eq.trans (if_neg h1_72) (Eq.trans (if_neg h1_76) (Eq.trans (if_neg h1_96) (Eq.trans (if_neg h1_104) (Eq.trans (if_neg h1_136) (Eq.trans (if_neg h1_138) (Eq.trans (if_neg h1_144) (Eq.trans (if_neg h1_170) (Eq.trans (if_pos h1_176) (rfl))))))))))))))))) d_Mo_single_267
  by_cases h1_200 : x1 = 200
  · refine lv_lookup (pc := 1) F.1 F.2.1 d_Mo_single_1 (by decide) (off := 195) (tgt := 196) (by rw [h1_200]; decide) (by decide) ?_
    refine lv_bipush (pc := 196) (v := 15) F.1 F.2.1 d_Mo_single_196 (by decide) ?_
    refine lv_iconst (pc := 198) (v := 0) F.1 F.2.1 d_Mo_single_198 (by decide) ?_
    refine lv_iconst (pc := 199) (v := 2) F.1 F.2.1 d_Mo_single_199 (by decide) ?_
    refine Usi (pc := 200) (As := [.int 15, .int 0, .int 2]) (rest := []) F (c_Mo_coded l 15 0 2) k_Mo_coded m_996 (Nat.le_of_ble_eq_true rfl) (Nat.le_of_ble_eq_true rfl) ⟨rfl, rfl⟩ rfl hl.1 rfl (Nat.le_of_ble_eq_true rfl) d_Mo_single_200 hcs (fun r16 e_r16 => ?_)
    exact Ui (pc := 203) F w hr hlk (by rw [e_r16]; exact Eq.symm (Eq.trans (if_neg h1_16) (Eq.trans (if_neg h1_24) (Eq.trans (if_neg h1_32) (Eq.trans (if_neg h1_48) (Eq.trans (if_neg h1_56) (Eq.trans (if_neg h1_64) (Eq.trans (if_neg h1_72) (Eq.trans (if_neg h1_76) (Eq.trans (if_neg h1_96) (Eq.trans (if_neg h1_104) (Eq.trans (if_neg h1_136) (Eq.trans (if_neg h1_138) (Eq.trans (if_neg h1_144) (Eq.trans (if_neg h1_170) (Eq.trans (if_neg h1_176) (Eq.trans (if_pos h1_200) (rfl)))))))))))))))))) d_Mo_single_203
  by_cases h1_202 : x1 = 202
  · refine lv_lookup (pc := 1) F.1 F.2.1 d_Mo_single_1 (by decide) (off := 187) (tgt := 188) (by rw [h1_202]; decide) (by decide) ?_
    refine lv_bipush (pc := 188) (v := 14) F.1 F.2.1 d_Mo_single_188 (by decide) ?_
    refine lv_iconst (pc := 190) (v := 0) F.1 F.2.1 d_Mo_single_190 (by decide) ?_
    refine lv_iconst (pc := 191) (v := 2) F.1 F.2.1 d_Mo_single_191 (by decide) ?_
    refine Usi (pc := 192) (As := [.int 14, .int 0, .int 2]) (rest := []) F (c_Mo_coded l 14 0 2) k_Mo_coded m_996 (Nat.le_of_ble_eq_true rfl) (Nat.le_of_ble_eq_true rfl) ⟨rfl, rfl⟩ rfl hl.1 rfl (Nat.le_of_ble_eq_true rfl) d_Mo_single_192 hcs (fun r17 e_r17 => ?_)
    exact Ui (pc := 195) F w hr hlk (by rw [e_r17]; exact Eq.symm (Eq.trans (if_neg h1_16) (Eq.trans (if_neg h1_24) (Eq.trans (if_neg h1_32) (Eq.trans (if_neg h1_48) (Eq.trans (if_neg h1_56) (Eq.trans (if_neg h1_64) (Eq.trans (if_neg h1_72) (Eq.trans (if_neg h1_76) (Eq.trans (if_neg h1_96) (Eq.trans (if_neg h1_104) (Eq.trans (if_neg h1_136) (Eq.trans (if_neg h1_138) (Eq.trans (if_neg h1_144) (Eq.trans (if_neg h1_170) (Eq.trans (if_neg h1_176) (Eq.trans (if_neg h1_200) (Eq.trans (if_pos h1_202) (rfl))))))))))))))))))) d_Mo_single_195
  by_cases h1_208 : x1 = 208
  · refine lv_lookup (pc := 1) F.1 F.2.1 d_Mo_single_1 (by decide) (off := 259) (tgt := 260) (by rw [h1_208]; decide) (by decide) ?_
    refine lv_bipush (pc := 260) (v := 25) F.1 F.2.1 d_Mo_single_260 (by decide) ?_
    refine lv_iconst (pc := 262) (v := 1) F.1 F.2.1 d_Mo_single_262 (by decide) ?_
    refine lv_iconst (pc := 263) (v := 2) F.1 F.2.1 d_Mo_single_263 (by decide) ?_
    refine Usi (pc := 264) (As := [.int 25, .int 1, .int 2]) (rest := []) F (c_Mo_coded l 25 1 2) k_Mo_coded m_996 (Nat.le_of_ble_eq_true rfl) (Nat.le_of_ble_eq_true rfl) ⟨rfl, rfl⟩ rfl hl.1 rfl (Nat.le_of_ble_eq_true rfl) d_Mo_single_264 hcs (fun r18 e_r18 => ?_)
    exact Ui (pc := 267) F w hr hlk (by rw [e_r18]; exact Eq.symm (Eq.trans (if_neg h1_16) (Eq.trans (if_neg h1_24) (Eq.trans (if_neg h1_32) (Eq.trans (if_neg h1_48) (Eq.trans (if_neg h1_56) (Eq.trans (if_neg h1_64) (Eq.trans (if_neg h1_72) (Eq.trans (if_neg h1_76) (Eq.trans (if_neg h1_96) (Eq.trans (if_neg h1_104) (Eq.trans (if_neg h1_136) (Eq.trans (if_neg h1_138) (Eq.trans (if_neg h1_144) (Eq.trans (if_neg h1_170) (Eq.trans (if_neg h1_176) (Eq.trans (if_neg h1_200) (Eq.trans (if_neg h1_202) (Eq.trans (if_pos h1_208) (rfl)))))))))))))))))))) d_Mo_single_267
  by_cases h1_232 : x1 = 232
  · refine lv_lookup (pc := 1) F.1 F.2.1 d_Mo_single_1 (by decide) (off := 179) (tgt := 180) (by rw [h1_232]; decide) (by decide) ?_
    refine lv_bipush (pc := 180) (v := 13) F.1 F.2.1 d_Mo_single_180 (by decide) ?_
    refine lv_iconst (pc := 182) (v := 0) F.1 F.2.1 d_Mo_single_182 (by decide) ?_
    refine lv_iconst (pc := 183) (v := 2) F.1 F.2.1 d_Mo_single_183 (by decide) ?_
    refine Usi (pc := 184) (As := [.int 13, .int 0, .int 2]) (rest := []) F (c_Mo_coded l 13 0 2) k_Mo_coded m_996 (Nat.le_of_ble_eq_true rfl) (Nat.le_of_ble_eq_true rfl) ⟨rfl, rfl⟩ rfl hl.1 rfl (Nat.le_of_ble_eq_true rfl) d_Mo_single_184 hcs (fun r19 e_r19 => ?_)
    exact Ui (pc := 187) F w hr hlk (by rw [e_r19]; exact Eq.symm (Eq.trans (if_neg h1_16) (Eq.trans (if_neg h1_24) (Eq.trans (if_neg h1_32) (Eq.trans (if_neg h1_48) (Eq.trans (if_neg h1_56) (Eq.trans (if_neg h1_64) (Eq.trans (if_neg h1_72) (Eq.trans (if_neg h1_76) (Eq.trans (if_neg h1_96) (Eq.trans (if_neg h1_104) (Eq.trans (if_neg h1_136) (Eq.trans (if_neg h1_138) (Eq.trans (if_neg h1_144) (Eq.trans (if_neg h1_170) (Eq.trans (if_neg h1_176) (Eq.trans (if_neg h1_200) (Eq.trans (if_neg h1_202) (Eq.trans (if_neg h1_208) (Eq.trans (if_pos h1_232) (rfl))))))))))))))))))))) d_Mo_single_187
  by_cases h1_234 : x1 = 234
  · refine lv_lookup (pc := 1) F.1 F.2.1 d_Mo_single_1 (by decide) (off := 302) (tgt := 303) (by rw [h1_234]; decide) (by decide) ?_
    refine lv_bipush (pc := 303) (v := 30) F.1 F.2.1 d_Mo_single_303 (by decide) ?_
    refine lv_iconst (pc := 305) (v := 0) F.1 F.2.1 d_Mo_single_305 (by decide) ?_
    refine lv_iconst (pc := 306) (v := 2) F.1 F.2.1 d_Mo_single_306 (by decide) ?_
    refine Usi (pc := 307) (As := [.int 30, .int 0, .int 2]) (rest := []) F (c_Mo_coded l 30 0 2) k_Mo_coded m_996 (Nat.le_of_ble_eq_true rfl) (Nat.le_of_ble_eq_true rfl) ⟨rfl, rfl⟩ rfl hl.1 rfl (Nat.le_of_ble_eq_true rfl) d_Mo_single_307 hcs (fun r20 e_r20 => ?_)
    exact Ui (pc := 310) F w hr hlk (by rw [e_r20]; exact Eq.symm (Eq.trans (if_neg h1_16) (Eq.trans (if_neg h1_24) (Eq.trans (if_neg h1_32) (Eq.trans (if_neg h1_48) (Eq.trans (if_neg h1_56) (Eq.trans (if_neg h1_64) (Eq.trans (if_neg h1_72) (Eq.trans (if_neg h1_76) (Eq.trans (if_neg h1_96) (Eq.trans (if_neg h1_104) (Eq.trans (if_neg h1_136) (Eq.trans (if_neg h1_138) (Eq.trans (if_neg h1_144) (Eq.trans (if_neg h1_170) (Eq.trans (if_neg h1_176) (Eq.trans (if_neg h1_200) (Eq.trans (if_neg h1_202) (Eq.trans (if_neg h1_208) (Eq.trans (if_neg h1_232) (Eq.trans (if_pos h1_234) (rfl)))))))))))))))))))))) d_Mo_single_310
  by_cases h1_240 : x1 = 240
  · refine lv_lookup (pc := 1) F.1 F.2.1 d_Mo_single_1 (by decide) (off := 259) (tgt := 260) (by rw [h1_240]; decide) (by decide) ?_
    refine lv_bipush (pc := 260) (v := 25) F.1 F.2.1 d_Mo_single_260 (by decide) ?_
    refine lv_iconst (pc := 262) (v := 1) F.1 F.2.1 d_Mo_single_262 (by decide) ?_
    refine lv_iconst (pc := 263) (v := 2) F.1 F.2.1 d_Mo_single_263 (by decide) ?_
    refine Usi (pc := 264) (As := [.int 25, .int 1, .int 2]) (rest := []) F (c_Mo_coded l 25 1 2) k_Mo_coded m_996 (Nat.le_of_ble_eq_true rfl) (Nat.le_of_ble_eq_true rfl) ⟨rfl, rfl⟩ rfl hl.1 rfl (Nat.le_of_ble_eq_true rfl) d_Mo_single_264 hcs (fun r21 e_r21 => ?_)
    exact Ui (pc := 267) F w hr hlk (by rw [e_r21]; exact Eq.symm (Eq.trans (if_neg h1_16) (Eq.trans (if_neg h1_24) (Eq.trans (if_neg h1_32) (Eq.trans (if_neg h1_48) (Eq.trans (if_neg h1_56) (Eq.trans (if_neg h1_64) (Eq.trans (if_neg h1_72) (Eq.trans (if_neg h1_76) (Eq.trans (if_neg h1_96) (Eq.trans (if_neg h1_104) (Eq.trans (if_neg h1_136) (Eq.trans (if_neg h1_138) (Eq.trans (if_neg h1_144) (Eq.trans (if_neg h1_170) (Eq.trans (if_neg h1_176) (Eq.trans (if_neg h1_200) (Eq.trans (if_neg h1_202) (Eq.trans (if_neg h1_208) (Eq.trans (if_neg h1_232) (Eq.trans (if_neg h1_234) (Eq.trans (if_pos h1_240) (rfl))))))))))))))))))))))) d_Mo_single_267
  refine lv_lookup (pc := 1) F.1 F.2.1 d_Mo_single_1 (by decide) (off := 310) (tgt := 311) ((lv_osw h1_16 rfl).trans ((lv_osw h1_24 rfl).trans ((lv_osw h1_32 rfl).trans ((lv_osw h1_48 rfl).trans ((lv_osw h1_56 rfl).trans ((lv_osw h1_64 rfl).trans ((lv_osw h1_72 rfl).trans ((lv_osw h1_76 rfl).trans ((lv_osw h1_96 rfl).trans ((lv_osw h1_104 rfl).trans ((lv_osw h1_136 rfl).trans ((lv_osw h1_138 rfl).trans ((lv_osw h1_144 rfl).trans ((lv_osw h1_170 rfl).trans ((lv_osw h1_176 rfl).trans ((lv_osw h1_200 rfl).trans ((lv_osw h1_202 rfl).trans ((lv_osw h1_208 rfl).trans ((lv_osw h1_232 rfl).trans ((lv_osw h1_234 rfl).trans ((lv_osw h1_240 rfl).trans (rfl)))))))))))))))))))))) (by decide) ?_
  refine lv_iconst (pc := 311) (v := 2) F.1 F.2.1 d_Mo_single_311 (by decide) ?_
  exact Ui (pc := 312) F w hr hlk (by exact Eq.symm (Eq.trans (if_neg h1_16) (Eq.trans (if_neg h1_24) (Eq.trans (if_neg h1_32) (Eq.trans (if_neg h1_48) (Eq.trans (if_neg h1_56) (Eq.trans (if_neg h1_64) (Eq.trans (if_neg h1_72) (Eq.trans (if_neg h1_76) (Eq.trans (if_neg h1_96) (Eq.trans (if_neg h1_104) (Eq.trans (if_neg h1_136) (Eq.trans (if_neg h1_138) (Eq.trans (if_neg h1_144) (Eq.trans (if_neg h1_170) (Eq.trans (if_neg h1_176) (Eq.trans (if_neg h1_200) (Eq.trans (if_neg h1_202) (Eq.trans (if_neg h1_208) (Eq.trans (if_neg h1_232) (Eq.trans (if_neg h1_234) (Eq.trans (if_neg h1_240) (rfl))))))))))))))))))))))) d_Mo_single_312
def f_Mo_meaning  (x1 : Int32) : Int32 := if x1 = 9 then (let r1 := f_Mo_coded 9 1 2; r1) else if x1 = 41 then (let r2 := f_Mo_coded 8 1 2; r2) else if x1 = 73 then (let r3 := f_Mo_coded 10 1 2; r3) else if x1 = 101 then (let r4 := f_Mo_coded 6 2 3; r4) else if x1 = 105 then (let r5 := f_Mo_coded 6 1 2; r5) else if x1 = 133 then (let r6 := f_Mo_coded 4 2 3; r6) else if x1 = 141 then (let r7 := f_Mo_coded 4 3 4; r7) else if x1 = 142 then (let r8 := f_Mo_coded 5 3 4; r8) else if x1 = 157 then (let r9 := f_Mo_coded 4 4 5; r9) else if x1 = 160 then (let r10 := f_Mo_coded 3 1 2; r10) else if x1 = 162 then (let r11 := f_Mo_coded 2 1 2; r11) else if x1 = 165 then (let r12 := f_Mo_coded 1 2 3; r12) else if x1 = 166 then (let r13 := f_Mo_coded 2 2 3; r13) else if x1 = 169 then (let r14 := f_Mo_coded 1 1 2; r14) else if x1 = 173 then (let r15 := f_Mo_coded 1 3 4; r15) else if x1 = 189 then (let r16 := f_Mo_coded 1 4 4; r16) else if x1 = 197 then (let r17 := f_Mo_coded 11 2 3; r17) else if x1 = 198 then (let r18 := f_Mo_coded 18 2 5; r18) else if x1 = 201 then (let r19 := f_Mo_coded 11 1 2; r19) else if x1 = 224 then (let r20 := f_Mo_coded 12 1 2; r20) else if x1 = 230 then (let r21 := f_Mo_coded 17 2 5; r21) else if x1 = 233 then (let r22 := f_Mo_coded 7 1 2; r22) else (let r23 := f_Mo_single x1; r23)
set_option maxHeartbeats 1000000 in
set_option maxRecDepth 100000 in
theorem c_Mo_meaning (l : Launch)  (x1 : Int32) : Met l y_Mo_meaning (Cond.code y_Mo_meaning b_Mo_meaning 1 (some .int) :: al) { frames := 2, cells := 0, slots := 0, locals := 42 } (PU [.int x1]) (QU (f_Mo_meaning x1)) 0 0 (fun _ => False) := by
  refine Mu l (by decide) (Nat.le_of_ble_eq_true rfl) ?_
  intro p e s m below meth c ls F hr hlk hl
  have F : CallFix p m c b_Mo_meaning 1 s _ al "PictureMachineModel" := F
  generalize hH : s.heap = H
  generalize hlo : ([] : List Loc) = locs
  have w : (H = s.heap ∧ locs = []) := ⟨hH.symm, hlo.symm⟩
  have hl : lv_has ls 1 [(0, .int x1)] := hl
  have hcs : (0 : Nat) ≤ 0 ∧ (0 : Nat) ≤ 0 := ⟨Nat.le_refl _, Nat.le_refl _⟩
  refine lv_iload_n (pc := 0) F.1 F.2.1 d_Mo_meaning_0 rfl (lv_at hl 0 rfl) ?_
  by_cases h1_9 : x1 = 9
  · refine lv_lookup (pc := 1) F.1 F.2.1 d_Mo_meaning_1 (by decide) (off := 296) (tgt := 297) (by rw [h1_9]; decide) (by decide) ?_
    refine lv_bipush (pc := 297) (v := 9) F.1 F.2.1 d_Mo_meaning_297 (by decide) ?_
    refine lv_iconst (pc := 299) (v := 1) F.1 F.2.1 d_Mo_meaning_299 (by decide) ?_
    refine lv_iconst (pc := 300) (v := 2) F.1 F.2.1 d_Mo_meaning_300 (by decide) ?_
    refine Usi (pc := 301) (As := [.int 9, .int 1, .int 2]) (rest := []) F (c_Mo_coded l 9 1 2) k_Mo_coded m_996 (Nat.le_of_ble_eq_true rfl) (Nat.le_of_ble_eq_true rfl) ⟨rfl, rfl⟩ rfl hl.1 rfl (Nat.le_of_ble_eq_true rfl) d_Mo_meaning_301 hcs (fun r1 e_r1 => ?_)
    exact Ui (pc := 304) F w hr hlk (by rw [e_r1]; exact Eq.symm (Eq.trans (if_pos h1_9) (rfl))) d_Mo_meaning_304
  by_cases h1_41 : x1 = 41
  · refine lv_lookup (pc := 1) F.1 F.2.1 d_Mo_meaning_1 (by decide) (off := 288) (tgt := 289) (by rw [h1_41]; decide) (by decide) ?_
    refine lv_bipush (pc := 289) (v := 8) F.1 F.2.1 d_Mo_meaning_289 (by decide) ?_
    refine lv_iconst (pc := 291) (v := 1) F.1 F.2.1 d_Mo_meaning_291 (by decide) ?_
    refine lv_iconst (pc := 292) (v := 2) F.1 F.2.1 d_Mo_meaning_292 (by decide) ?_
    refine Usi (pc := 293) (As := [.int 8, .int 1, .int 2]) (rest := []) F (c_Mo_coded l 8 1 2) k_Mo_coded m_996 (Nat.le_of_ble_eq_true rfl) (Nat.le_of_ble_eq_true rfl) ⟨rfl, rfl⟩ rfl hl.1 rfl (Nat.le_of_ble_eq_true rfl) d_Mo_meaning_293 hcs (fun r2 e_r2 => ?_)
    exact Ui (pc := 296) F w hr hlk (by rw [e_r2]; exact Eq.symm (Eq.trans (if_neg h1_9) (Eq.trans (if_pos h1_41) (rfl)))) d_Mo_meaning_296
  by_cases h1_73 : x1 = 73
  · refine lv_lookup (pc := 1) F.1 F.2.1 d_Mo_meaning_1 (by decide) (off := 304) (tgt := 305) (by rw [h1_73]; decide) (by decide) ?_
    refine lv_bipush (pc := 305) (v := 10) F.1 F.2.1 d_Mo_meaning_305 (by decide) ?_
    refine lv_iconst (pc := 307) (v := 1) F.1 F.2.1 d_Mo_meaning_307 (by decide) ?_
    refine lv_iconst (pc := 308) (v := 2) F.1 F.2.1 d_Mo_meaning_308 (by decide) ?_
    refine Usi (pc := 309) (As := [.int 10, .int 1, .int 2]) (rest := []) F (c_Mo_coded l 10 1 2) k_Mo_coded m_996 (Nat.le_of_ble_eq_true rfl) (Nat.le_of_ble_eq_true rfl) ⟨rfl, rfl⟩ rfl hl.1 rfl (Nat.le_of_ble_eq_true rfl) d_Mo_meaning_309 hcs (fun r3 e_r3 => ?_)
    exact Ui (pc := 312) F w hr hlk (by rw [e_r3]; exact Eq.symm (Eq.trans (if_neg h1_9) (Eq.trans (if_neg h1_41) (Eq.trans (if_pos h1_73) (rfl))))) d_Mo_meaning_312
  by_cases h1_101 : x1 = 101
  · refine lv_lookup (pc := 1) F.1 F.2.1 d_Mo_meaning_1 (by decide) (off := 272) (tgt := 273) (by rw [h1_101]; decide) (by decide) ?_
    refine lv_bipush (pc := 273) (v := 6) F.1 F.2.1 d_Mo_meaning_273 (by decide) ?_
    refine lv_iconst (pc := 275) (v := 2) F.1 F.2.1 d_Mo_meaning_275 (by decide) ?_
    refine lv_iconst (pc := 276) (v := 3) F.1 F.2.1 d_Mo_meaning_276 (by decide) ?_
    refine Usi (pc := 277) (As := [.int 6, .int 2, .int 3]) (rest := []) F (c_Mo_coded l 6 2 3) k_Mo_coded m_996 (Nat.le_of_ble_eq_true rfl) (Nat.le_of_ble_eq_true rfl) ⟨rfl, rfl⟩ rfl hl.1 rfl (Nat.le_of_ble_eq_true rfl) d_Mo_meaning_277 hcs (fun r4 e_r4 => ?_)
    exact Ui (pc := 280) F w hr hlk (by rw [e_r4]; exact Eq.symm (Eq.trans (if_neg h1_9) (Eq.trans (if_neg h1_41) (Eq.trans (if_neg h1_73) (Eq.trans (if_pos h1_101) (rfl)))))) d_Mo_meaning_280
  by_cases h1_105 : x1 = 105
  · refine lv_lookup (pc := 1) F.1 F.2.1 d_Mo_meaning_1 (by decide) (off := 264) (tgt := 265) (by rw [h1_105]; decide) (by decide) ?_
    refine lv_bipush (pc := 265) (v := 6) F.1 F.2.1 d_Mo_meaning_265 (by decide) ?_
    refine lv_iconst (pc := 267) (v := 1) F.1 F.2.1 d_Mo_meaning_267 (by decide) ?_
    refine lv_iconst (pc := 268) (v := 2) F.1 F.2.1 d_Mo_meaning_268 (by decide) ?_
    refine Usi (pc := 269) (As := [.int 6, .int 1, .int 2]) (rest := []) F (c_Mo_coded l 6 1 2) k_Mo_coded m_996 (Nat.le_of_ble_eq_true rfl) (Nat.le_of_ble_eq_true rfl) ⟨rfl, rfl⟩ rfl hl.1 rfl (Nat.le_of_ble_eq_true rfl) d_Mo_meaning_269 hcs (fun r5 e_r5 => ?_)
    exact Ui (pc := 272) F w hr hlk (by rw [e_r5]; exact Eq.symm (Eq.trans (if_neg h1_9) (Eq.trans (if_neg h1_41) (Eq.trans (if_neg h1_73) (Eq.trans (if_neg h1_101) (Eq.trans (if_pos h1_105) (rfl))))))) d_Mo_meaning_272
  by_cases h1_133 : x1 = 133
  · refine lv_lookup (pc := 1) F.1 F.2.1 d_Mo_meaning_1 (by decide) (off := 236) (tgt := 237) (by rw [h1_133]; decide) (by decide) ?_
    refine lv_iconst (pc := 237) (v := 4) F.1 F.2.1 d_Mo_meaning_237 (by decide) ?_
    refine lv_iconst (pc := 238) (v := 2) F.1 F.2.1 d_Mo_meaning_238 (by decide) ?_
    refine lv_iconst (pc := 239) (v := 3) F.1 F.2.1 d_Mo_meaning_239 (by decide) ?_
    refine Usi (pc := 240) (As := [.int 4, .int 2, .int 3]) (rest := []) F (c_Mo_coded l 4 2 3) k_Mo_coded m_996 (Nat.le_of_ble_eq_true rfl) (Nat.le_of_ble_eq_true rfl) ⟨rfl, rfl⟩ rfl hl.1 rfl (Nat.le_of_ble_eq_true rfl) d_Mo_meaning_240 hcs (fun r6 e_r6 => ?_)
    exact Ui (pc := 243) F w hr hlk (by rw [e_r6]; exact Eq.symm (Eq.trans (if_neg h1_9) (Eq.trans (if_neg h1_41) (Eq.trans (if_neg h1_73) (Eq.trans (if_neg h1_101) (Eq.trans (if_neg h1_105) (Eq.trans (if_pos h1_133) (rfl)))))))) d_Mo_meaning_243
  by_cases h1_141 : x1 = 141
  · refine lv_lookup (pc := 1) F.1 F.2.1 d_Mo_meaning_1 (by decide) (off := 243) (tgt := 244) (by rw [h1_141]; decide) (by decide) ?_
    refine lv_iconst (pc := 244) (v := 4) F.1 F.2.1 d_Mo_meaning_244 (by decide) ?_
    refine lv_iconst (pc := 245) (v := 3) F.1 F.2.1 d_Mo_meaning_245 (by decide) ?_
    refine lv_iconst (pc := 246) (v := 4) F.1 F.2.1 d_Mo_meaning_246 (by decide) ?_
    refine Usi (pc := 247) (As := [.int 4, .int 3, .int 4]) (rest := []) F (c_Mo_coded l 4 3 4) k_Mo_coded m_996 (Nat.le_of_ble_eq_true rfl) (Nat.le_of_ble_eq_true rfl) ⟨rfl, rfl⟩ rfl hl.1 rfl (Nat.le_of_ble_eq_true rfl) d_Mo_meaning_247 hcs (fun r7 e_r7 => ?_)
    exact Ui (pc := 250) F w hr hlk (by rw [e_r7]; exact Eq.symm (Eq.trans (if_neg h1_9) (Eq.trans (if_neg h1_41) (Eq.trans (if_neg h1_73) (Eq.trans (if_neg h1_101) (Eq.trans (if_neg h1_105) (Eq.trans (if_neg h1_133) (Eq.trans (if_pos h1_141) (rfl))))))))) d_Mo_meaning_250
  by_cases h1_142 : x1 = 142
  · refine lv_lookup (pc := 1) F.1 F.2.1 d_Mo_meaning_1 (by decide) (off := 257) (tgt := 258) (by rw [h1_142]; decide) (by decide) ?_
    refine lv_iconst (pc := 258) (v := 5) F.1 F.2.1 d_Mo_meaning_258 (by decide) ?_
    refine lv_iconst (pc := 259) (v := 3) F.1 F.2.1 d_Mo_meaning_259 (by decide) ?_
    refine lv_iconst (pc := 260) (v := 4) F.1 F.2.1 d_Mo_meaning_260 (by decide) ?_
    refine Usi (pc := 261) (As := [.int 5, .int 3, .int 4]) (rest := []) F (c_Mo_coded l 5 3 4) k_Mo_coded m_996 (Nat.le_of_ble_eq_true rfl) (Nat.le_of_ble_eq_true rfl) ⟨rfl, rfl⟩ rfl hl.1 rfl (Nat.le_of_ble_eq_true rfl) d_Mo_meaning_261 hcs (fun r8 e_r8 => ?_)
    exact Ui (pc := 264) F w hr hlk (by rw [e_r8]; exact Eq.symm (Eq.trans (if_neg h1_9) (Eq.trans (if_neg h1_41) (Eq.trans (if_neg h1_73) (Eq.trans (if_neg h1_101) (Eq.trans (if_neg h1_105) (Eq.trans (if_neg h1_133) (Eq.trans (if_neg h1_141) (Eq.trans (if_pos h1_142) (rfl)))))))))) d_Mo_meaning_264
  by_cases h1_157 : x1 = 157
  · refine lv_lookup (pc := 1) F.1 F.2.1 d_Mo_meaning_1 (by decide) (off := 250) (tgt := 251) (by rw [h1_157]; decide) (by decide) ?_
    refine lv_iconst (pc := 251) (v := 4) F.1 F.2.1 d_Mo_meaning_251 (by decide) ?_
    refine lv_iconst (pc := 252) (v := 4) F.1 F.2.1 d_Mo_meaning_252 (by decide) ?_
    refine lv_iconst (pc := 253) (v := 5) F.1 F.2.1 d_Mo_meaning_253 (by decide) ?_
    refine Usi (pc := 254) (As := [.int 4, .int 4, .int 5]) (rest := []) F (c_Mo_coded l 4 4 5) k_Mo_coded m_996 (Nat.le_of_ble_eq_true rfl) (Nat.le_of_ble_eq_true rfl) ⟨rfl, rfl⟩ rfl hl.1 rfl (Nat.le_of_ble_eq_true rfl) d_Mo_meaning_254 hcs (fun r9 e_r9 => ?_)
    exact Ui (pc := 257) F w hr hlk (by rw [e_r9]; exact Eq.symm (Eq.trans (if_neg h1_9) (Eq.trans (if_neg h1_41) (Eq.trans (if_neg h1_73) (Eq.trans (if_neg h1_101) (Eq.trans (if_neg h1_105) (Eq.trans (if_neg h1_133) (Eq.trans (if_neg h1_141) (Eq.trans (if_neg h1_142) (Eq.trans (if_pos h1_157) (rfl))))))))))) d_Mo_meaning_257
  by_cases h1_160 : x1 = 160
  · refine lv_lookup (pc := 1) F.1 F.2.1 d_Mo_meaning_1 (by decide) (off := 229) (tgt := 230) (by rw [h1_160]; decide) (by decide) ?_
    refine lv_iconst (pc := 230) (v := 3) F.1 F.2.1 d_Mo_meaning_230 (by decide) ?_
    refine lv_iconst (pc := 231) (v := 1) F.1 F.2.1 d_Mo_meaning_231 (by decide) ?_
    refine lv_iconst (pc := 232) (v := 2) F.1 F.2.1 d_Mo_meaning_232 (by decide) ?_
    refine Usi (pc := 233) (As := [.int 3, .int 1, .int 2]) (rest := []) F (c_Mo_coded l 3 1 2) k_Mo_coded m_996 (Nat.le_of_ble_eq_true rfl) (Nat.le_of_ble_eq_true rfl) ⟨rfl, rfl⟩ rfl hl.1 rfl (Nat.le_of_ble_eq_true rfl) d_Mo_meaning_233 hcs (fun r10 e_r10 => ?_)
    exact Ui (pc := 236) F w hr hlk (by rw [e_r10]; exact Eq.symm (Eq.trans (if_neg h1_9) (Eq.trans (if_neg h1_41) (Eq.trans (if_neg h1_73) (Eq.trans (if_neg h1_101) (Eq.trans (if_neg h1_105) (Eq.trans (if_neg h1_133) (Eq.trans (if_neg h1_141) (Eq.trans (if_neg h1_142) (Eq.trans (if_neg h1_157) (Eq.trans (if_pos h1_160) (rfl)))))))))))) d_Mo_meaning_236
  by_cases h1_162 : x1 = 162
  · refine lv_lookup (pc := 1) F.1 F.2.1 d_Mo_meaning_1 (by decide) (off := 215) (tgt := 216) (by rw [h1_162]; decide) (by decide) ?_
    refine lv_iconst (pc := 216) (v := 2) F.1 F.2.1 d_Mo_meaning_216 (by decide) ?_
    refine lv_iconst (pc := 217) (v := 1) F.1 F.2.1 d_Mo_meaning_217 (by decide) ?_
    refine lv_iconst (pc := 218) (v := 2) F.1 F.2.1 d_Mo_meaning_218 (by decide) ?_
    refine Usi (pc := 219) (As := [.int 2, .int 1, .int 2]) (rest := []) F (c_Mo_coded l 2 1 2) k_Mo_coded m_996 (Nat.le_of_ble_eq_true rfl) (Nat.le_of_ble_eq_true rfl) ⟨rfl, rfl⟩ rfl hl.1 rfl (Nat.le_of_ble_eq_true rfl) d_Mo_meaning_219 hcs (fun r11 e_r11 => ?_)
    exact Ui (pc := 222) F w hr hlk (by rw [e_r11]; exact Eq.symm (Eq.trans (if_neg h1_9) (Eq.trans (if_neg h1_41) (Eq.trans (if_neg h1_73) (Eq.trans (if_neg h1_101) (Eq.trans (if_neg h1_105) (Eq.trans (if_neg h1_133) (Eq.trans (if_neg h1_141) (Eq.trans (if_neg h1_142) (Eq.trans (if_neg h1_157) (Eq.trans (if_neg h1_160) (Eq.trans (if_pos h1_162) (rfl))))))))))))) d_Mo_meaning_222
  by_cases h1_165 : x1 = 165
  · refine lv_lookup (pc := 1) F.1 F.2.1 d_Mo_meaning_1 (by decide) (off := 194) (tgt := 195) (by rw [h1_165]; decide) (by decide) ?_
    refine lv_iconst (pc := 195) (v := 1) F.1 F.2.1 d_Mo_meaning_195 (by decide) ?_
    refine lv_iconst (pc := 196) (v := 2) F.1 F.2.1 d_Mo_meaning_196 (by decide) ?_
    refine lv_iconst (pc := 197) (v := 3) F.1 F.2.1 d_Mo_meaning_197 (by decide) ?_
    refine Usi (pc := 198) (As := [.int 1, .int 2, .int 3]) (rest := []) F (c_Mo_coded l 1 2 3) k_Mo_coded m_996 (Nat.le_of_ble_eq_true rfl) (Nat.le_of_ble_eq_true rfl) ⟨rfl, rfl⟩ rfl hl.1 rfl (Nat.le_of_ble_eq_true rfl) d_Mo_meaning_198 hcs (fun r12 e_r12 => ?_)
    exact Ui (pc := 201) F w hr hlk (by rw [e_r12]; exact Eq.symm (Eq.trans (if_neg h1_9) (Eq.trans (if_neg h1_41) (Eq.trans (if_neg h1_73) (Eq.trans (if_neg h1_101) (Eq.trans (if_neg h1_105) (Eq.trans (if_neg h1_133) (Eq.trans (if_neg h1_141) (Eq.trans (if_neg h1_142) (Eq.trans (if_neg h1_157) (Eq.trans (if_neg h1_160) (Eq.trans (if_neg h1_162) (Eq.trans (if_pos h1_165) (rfl)))))))))))))) d_Mo_meaning_201
  by_cases h1_166 : x1 = 166
  · refine lv_lookup (pc := 1) F.1 F.2.1 d_Mo_meaning_1 (by decide) (off := 222) (tgt := 223) (by rw [h1_166]; decide) (by decide) ?_
    refine lv_iconst (pc := 223) (v := 2) F.1 F.2.1 d_Mo_meaning_223 (by decide) ?_
    refine lv_iconst (pc := 224) (v := 2) F.1 F.2.1 d_Mo_meaning_224 (by decide) ?_
    refine lv_iconst (pc := 225) (v := 3) F.1 F.2.1 d_Mo_meaning_225 (by decide) ?_
    refine Usi (pc := 226) (As := [.int 2, .int 2, .int 3]) (rest := []) F (c_Mo_coded l 2 2 3) k_Mo_coded m_996 (Nat.le_of_ble_eq_true rfl) (Nat.le_of_ble_eq_true rfl) ⟨rfl, rfl⟩ rfl hl.1 rfl (Nat.le_of_ble_eq_true rfl) d_Mo_meaning_226 hcs (fun r13 e_r13 => ?_)
    exact Ui (pc := 229) F w hr hlk (by rw [e_r13]; exact Eq.symm (Eq.trans (if_neg h1_9) (Eq.trans (if_neg h1_41) (Eq.trans (if_neg h1_73) (Eq.trans (if_neg h1_101) (Eq.trans (if_neg h1_105) (Eq.trans (if_neg h1_133) (Eq.trans (if_neg h1_141) (Eq.trans (if_neg h1_142) (Eq.trans (if_neg h1_157) (Eq.trans (if_neg h1_160) (Eq.trans (if_neg h1_162) (Eq.trans (if_neg h1_165) (Eq.trans (if_pos h1_166) (rfl))))))))))))))) d_Mo_meaning_229
  by_cases h1_169 : x1 = 169
  · refine lv_lookup (pc := 1) F.1 F.2.1 d_Mo_meaning_1 (by decide) (off := 187) (tgt := 188) (by rw [h1_169]; decide) (by decide) ?_
    refine lv_iconst (pc := 188) (v := 1) F.1 F.2.1 d_Mo_meaning_188 (by decide) ?_
    refine lv_iconst (pc := 189) (v := 1) F.1 F.2.1 d_Mo_meaning_189 (by decide) ?_
    refine lv_iconst (pc := 190) (v := 2) F.1 F.2.1 d_Mo_meaning_190 (by decide) ?_
    refine Usi (pc := 191) (As := [.int 1, .int 1, .int 2]) (rest := []) F (c_Mo_coded l 1 1 2) k_Mo_coded m_996 (Nat.le_of_ble_eq_true rfl) (Nat.le_of_ble_eq_true rfl) ⟨rfl, rfl⟩ rfl hl.1 rfl (Nat.le_of_ble_eq_true rfl) d_Mo_meaning_191 hcs (fun r14 e_r14 => ?_)
    exact Ui (pc := 194) F w hr hlk (by rw [e_r14]; exact Eq.symm (Eq.trans (if_neg h1_9) (Eq.trans (if_neg h1_41) (Eq.trans (if_neg h1_73) (Eq.trans (if_neg h1_101) (Eq.trans (if_neg h1_105) (Eq.trans (if_neg h1_133) (Eq.trans (if_neg h1_141) (Eq.trans (if_neg h1_142) (Eq.trans (if_neg h1_157) (Eq.trans (if_neg h1_160) (Eq.trans (if_neg h1_162) (Eq.trans (if_neg h1_165) (Eq.trans (if_neg h1_166) (Eq.trans (if_pos h1_169) (rfl)))))))))))))))) d_Mo_meaning_194
  by_cases h1_173 : x1 = 173
  · refine lv_lookup (pc := 1) F.1 F.2.1 d_Mo_meaning_1 (by decide) (off := 201) (tgt := 202) (by rw [h1_173]; decide) (by decide) ?_
    refine lv_iconst (pc := 202) (v := 1) F.1 F.2.1 d_Mo_meaning_202 (by decide) ?_
    refine lv_iconst (pc := 203) (v := 3) F.1 F.2.1 d_Mo_meaning_203 (by decide) ?_
    refine lv_iconst (pc := 204) (v := 4) F.1 F.2.1 d_Mo_meaning_204 (by decide) ?_
    refine Usi (pc := 205) (As := [.int 1, .int 3, .int 4]) (rest := []) F (c_Mo_coded l 1 3 4) k_Mo_coded m_996 (Nat.le_of_ble_eq_true rfl) (Nat.le_of_ble_eq_true rfl) ⟨rfl, rfl⟩ rfl hl.1 rfl (Nat.le_of_ble_eq_true rfl) d_Mo_meaning_205 hcs (fun r15 e_r15 => ?_)
    exact Ui (pc := 208) F w hr hlk (by rw [e_r15]; exact Eq.symm (Eq.trans (if_neg h1_9) (Eq.trans (if_neg h1_41) (Eq.trans (if_neg h1_73) (Eq.trans (if_neg h1_101) (Eq.trans (if_neg h1_105) (Eq.trans (if_neg h1_133) (Eq.trans (if_neg h1_141) (Eq.trans (if_neg h1_142) (Eq.trans (if_neg h1_157) (Eq.trans (if_neg h1_160) (Eq.trans (if_neg h1_162) (Eq.trans (if_neg h1_165) (Eq.trans (if_neg h1_166) (Eq.trans (if_neg h1_169) (Eq.trans (if_pos h1_173) (rfl))))))))))))))))) d_Mo_meaning_208
  by_cases h1_189 : x1 = 189
  · refine lv_lookup (pc := 1) F.1 F.2.1 d_Mo_meaning_1 (by decide) (off := 208) (tgt := 209) (by rw [h1_189]; decide) (by decide) ?_
    refine lv_iconst (pc := 209) (v := 1) F.1 F.2.1 d_Mo_meaning_209 (by decide) ?_
    refine lv_iconst (pc := 210) (v := 4) F.1 F.2.1 d_Mo_meaning_210 (by decide) ?_
    refine lv_iconst (pc := 211) (v := 4) F.1 F.2.1 d_Mo_meaning_211 (by decide) ?_
    refine Usi (pc := 212) (As := [.int 1, .int 4, .int 4]) (rest := []) F (c_Mo_coded l 1 4 4) k_Mo_coded m_996 (Nat.le_of_ble_eq_true rfl) (Nat.le_of_ble_eq_true rfl) ⟨rfl, rfl⟩ rfl hl.1 rfl (Nat.le_of_ble_eq_true rfl) d_Mo_meaning_212 hcs (fun r16 e_r16 => ?_)
    exact Ui (pc := 215) F w hr hlk (by rw [e_r16]; exact Eq.symm (Eq.trans (if_neg h1_9) (Eq.trans (if_neg h1_41) (Eq.trans (if_neg h1_73) (Eq.trans (if_neg h1_101) (Eq.trans (if_neg h1_105) (Eq.trans (if_neg h1_133) (Eq.trans (if_neg h1_141) (Eq.trans (if_neg h1_142) (Eq.trans (if_neg h1_157) (Eq.trans (if_neg h1_160) (Eq.trans (if_neg h1_162) (Eq.trans (if_neg h1_165) (Eq.trans (if_neg h1_166) (Eq.trans (if_neg h1_169) (Eq.trans (if_neg h1_173) (Eq.trans (if_pos h1_189) (rfl)))))))))))))))))) d_Mo_meaning_215
  by_cases h1_197 : x1 = 197
  · refine lv_lookup (pc := 1) F.1 F.2.1 d_Mo_meaning_1 (by decide) (off := 320) (tgt := 321) (by rw [h1_197]; decide) (by decide) ?_
    refine lv_bipush (pc := 321) (v := 11) F.1 F.2.1 d_Mo_meaning_321 (by decide) ?_
    refine lv_iconst (pc := 323) (v := 2) F.1 F.2.1 d_Mo_meaning_323 (by decide) ?_
    refine lv_iconst (pc := 324) (v := 3) F.1 F.2.1 d_Mo_meaning_324 (by decide) ?_
    refine Usi (pc := 325) (As := [.int 11, .int 2, .int 3]) (rest := []) F (c_Mo_coded l 11 2 3) k_Mo_coded m_996 (Nat.le_of_ble_eq_true rfl) (Nat.le_of_ble_eq_true rfl) ⟨rfl, rfl⟩ rfl hl.1 rfl (Nat.le_of_ble_eq_true rfl) d_Mo_meaning_325 hcs (fun r17 e_r17 => ?_)
    exact Ui (pc := 328) F w hr hlk (by rw [e_r17]; exact Eq.symm (Eq.trans (if_neg h1_9) (Eq.trans (if_neg h1_41) (Eq.trans (if_neg h1_73) (Eq.trans (if_neg h1_101) (Eq.trans (if_neg h1_105) (Eq.trans (if_neg h1_133) (Eq.trans (if_neg h1_141) (Eq.trans (if_neg h1_142) (Eq.trans (if_neg h1_157) (Eq.trans (if_neg h1_160) (Eq.trans (if_neg h1_162) (Eq.trans (if_neg h1_165) (Eq.trans (if_neg h1_166) (Eq.trans (if_neg h1_169) (Eq.trans (if_neg h1_173) (Eq.trans (if_neg h1_189) (Eq.trans (if_pos h1_197) (rfl))))))))))))))))))) d_Mo_meaning_328
  by_cases h1_198 : x1 = 198
  · refine lv_lookup (pc := 1) F.1 F.2.1 d_Mo_meaning_1 (by decide) (off := 344) (tgt := 345) (by rw [h1_198]; decide) (by decide) ?_
    refine lv_bipush (pc := 345) (v := 18) F.1 F.2.1 d_Mo_meaning_345 (by decide) ?_
    refine lv_iconst (pc := 347) (v := 2) F.1 F.2.1 d_Mo_meaning_347 (by decide) ?_
    refine lv_iconst (pc := 348) (v := 5) F.1 F.2.1 d_Mo_meaning_348 (by decide) ?_
    refine Usi (pc := 349) (As := [.int 18, .int 2, .int 5]) (rest := []) F (c_Mo_coded l 18 2 5) k_Mo_coded m_996 (Nat.le_of_ble_eq_true rfl) (Nat.le_of_ble_eq_true rfl) ⟨rfl, rfl⟩ rfl hl.1 rfl (Nat.le_of_ble_eq_true rfl) d_Mo_meaning_349 hcs (fun r18 e_r18 => ?_)
    exact Ui (pc := 352) F w hr hlk (by rw [e_r18]; exact Eq.symm (Eq.trans (if_neg h1_9) (Eq.trans (if_neg h1_41) (Eq.trans (if_neg h1_73) (Eq.trans (if_neg h1_101) (Eq.trans (if_neg h1_105) (Eq.trans (if_neg h1_133) (Eq.trans (if_neg h1_141) (Eq.trans (if_neg h1_142) (Eq.trans (if_neg h1_157) (Eq.trans (if_neg h1_160) (Eq.trans (if_neg h1_162) (Eq.trans (if_neg h1_165) (Eq.trans (if_neg h1_166) (Eq.trans (if_neg h1_169) (Eq.trans (if_neg h1_173) (Eq.trans (if_neg h1_189) (Eq.trans (if_neg h1_197) (Eq.trans (if_pos h1_198) (rfl)))))))))))))))))))) d_Mo_meaning_352
  by_cases h1_201 : x1 = 201
  · refine lv_lookup (pc := 1) F.1 F.2.1 d_Mo_meaning_1 (by decide) (off := 312) (tgt := 313) (by rw [h1_201]; decide) (by decide) ?_
    refine lv_bipush (pc := 313) (v := 11) F.1 F.2.1 d_Mo_meaning_313 (by decide) ?_
    refine lv_iconst (pc := 315) (v := 1) F.1 F.2.1 d_Mo_meaning_315 (by decide) ?_
    refine lv_iconst (pc := 316) (v := 2) F.1 F.2.1 d_Mo_meaning_316 (by decide) ?_
    refine Usi (pc := 317) (As := [.int 11, .int 1, .int 2]) (rest := []) F (c_Mo_coded l 11 1 2) k_Mo_coded m_996 (Nat.le_of_ble_eq_true rfl) (Nat.le_of_ble_eq_true rfl) ⟨rfl, rfl⟩ rfl hl.1 rfl (Nat.le_of_ble_eq_true rfl) d_Mo_meaning_317 hcs (fun r19 e_r19 => ?_)
    exact Ui (pc := 320) F w hr hlk (by rw [e_r19]; exact Eq.symm (Eq.trans (if_neg h1_9) (Eq.trans (if_neg h1_41) (Eq.trans (if_neg h1_73) (Eq.trans (if_neg h1_101) (Eq.trans (if_neg h1_105) (Eq.trans (if_neg h1_133) (Eq.trans (if_neg h1_141) (Eq.trans (if_neg h1_142) (Eq.trans (if_neg h1_157) (Eq.trans (if_neg h1_160) (Eq.trans (if_neg h1_162) (Eq.trans (if_neg h1_165) (Eq.trans (if_neg h1_166) (Eq.trans (if_neg h1_169) (Eq.trans (if_neg h1_173) (Eq.trans (if_neg h1_189) (Eq.trans (if_neg h1_197) (Eq.trans (if_neg h1_198) (Eq.trans (if_pos h1_201) (rfl))))))))))))))))))))) d_Mo_meaning_320
  by_cases h1_224 : x1 = 224
  · refine lv_lookup (pc := 1) F.1 F.2.1 d_Mo_meaning_1 (by decide) (off := 328) (tgt := 329) (by rw [h1_224]; decide) (by decide) ?_
    refine lv_bipush (pc := 329) (v := 12) F.1 F.2.1 d_Mo_meaning_329 (by decide) ?_
    refine lv_iconst (pc := 331) (v := 1) F.1 F.2.1 d_Mo_meaning_331 (by decide) ?_
    refine lv_iconst (pc := 332) (v := 2) F.1 F.2.1 d_Mo_meaning_332 (by decide) ?_
    refine Usi (pc := 333) (As := [.int 12, .int 1, .int 2]) (rest := []) F (c_Mo_coded l 12 1 2) k_Mo_coded m_996 (Nat.le_of_ble_eq_true rfl) (Nat.le_of_ble_eq_true rfl) ⟨rfl, rfl⟩ rfl hl.1 rfl (Nat.le_of_ble_eq_true rfl) d_Mo_meaning_333 hcs (fun r20 e_r20 => ?_)
    exact Ui (pc := 336) F w hr hlk (by rw [e_r20]; exact Eq.symm (Eq.trans (if_neg h1_9) (Eq.trans (if_neg h1_41) (Eq.trans (if_neg h1_73) (Eq.trans (if_neg h1_101) (Eq.trans (if_neg h1_105) (Eq.trans (if_neg h1_133) (Eq.trans (if_neg h1_141) (Eq.trans (if_neg h1_142) (Eq.trans (if_neg h1_157) (Eq.trans (if_neg h1_160) (Eq.trans (if_neg h1_162) (Eq.trans (if_neg h1_165) (Eq.trans (if_neg h1_166) (Eq.trans (if_neg h1_169) (Eq.trans (if_neg h1_173) (Eq.trans (if_neg h1_189) (Eq.trans (if_neg h1_197) (Eq.trans (if_neg h1_198) (Eq.trans (if_neg h1_201) (Eq.trans (if_pos h1_224) (rfl)))))))))))))))))))))) d_Mo_meaning_336
  by_cases h1_230 : x1 = 230
  · refine lv_lookup (pc := 1) F.1 F.2.1 d_Mo_meaning_1 (by decide) (off := 336) (tgt := 337) (by rw [h1_230]; decide) (by decide) ?_
    refine lv_bipush (pc := 337) (v := 17) F.1 F.2.1 d_Mo_meaning_337 (by decide) ?_
    refine lv_iconst (pc := 339) (v := 2) F.1 F.2.1 d_Mo_meaning_339 (by decide) ?_
    refine lv_iconst (pc := 340) (v := 5) F.1 F.2.1 d_Mo_meaning_340 (by decide) ?_
    refine Usi (pc := 341) (As := [.int 17, .int 2, .int 5]) (rest := []) F (c_Mo_coded l 17 2 5) k_Mo_coded m_996 (Nat.le_of_ble_eq_true rfl) (Nat.le_of_ble_eq_true rfl) ⟨rfl, rfl⟩ rfl hl.1 rfl (Nat.le_of_ble_eq_true rfl) d_Mo_meaning_341 hcs (fun r21 e_r21 => ?_)
    exact Ui (pc := 344) F w hr hlk (by rw [e_r21]; exact Eq.symm (Eq.trans (if_neg h1_9) (Eq.trans (if_neg h1_41) (Eq.trans (if_neg h1_73) (Eq.trans (if_neg h1_101) (Eq.trans (if_neg h1_105) (Eq.trans (if_neg h1_133) (Eq.trans (if_neg h1_141) (Eq.trans (if_neg h1_142) (Eq.trans (if_neg h1_157) (Eq.trans (if_neg h1_160) (Eq.trans (if_neg h1_162) (Eq.trans (if_neg h1_165) (Eq.trans (if_neg h1_166) (Eq.trans (if_neg h1_169) (Eq.trans (if_neg h1_173) (Eq.trans (if_neg h1_189) (Eq.trans (if_neg h1_197) (Eq.trans (if_neg h1_198) (Eq.trans (if_neg h1_201) (Eq.trans (if_neg h1_224) (Eq.trans (if_pos h1_230) (rfl))))))))))))))))))))))) d_Mo_meaning_344
  by_cases h1_233 : x1 = 233
  · refine lv_lookup (pc := 1) F.1 F.2.1 d_Mo_meaning_1 (by decide) (off := 280) (tgt := 281) (by rw [h1_233]; decide) (by decide) ?_
    refine lv_bipush (pc := 281) (v := 7) F.1 F.2.1 d_Mo_meaning_281 (by decide) ?_
    refine lv_iconst (pc := 283) (v := 1) F.1 F.2.1 d_Mo_meaning_283 (by decide) ?_
    refine lv_iconst (pc := 284) (v := 2) F.1 F.2.1 d_Mo_meaning_284 (by decide) ?_
    refine Usi (pc := 285) (As := [.int 7, .int 1, .int 2]) (rest := []) F (c_Mo_coded l 7 1 2) k_Mo_coded m_996 (Nat.le_of_ble_eq_true rfl) (Nat.le_of_ble_eq_true rfl) ⟨rfl, rfl⟩ rfl hl.1 rfl (Nat.le_of_ble_eq_true rfl) d_Mo_meaning_285 hcs (fun r22 e_r22 => ?_)
    exact Ui (pc := 288) F w hr hlk (by rw [e_r22]; exact Eq.symm (Eq.trans (if_neg h1_9) (Eq.trans (if_neg h1_41) (Eq.trans (if_neg h1_73) (Eq.trans (if_neg h1_101) (Eq.trans (if_neg h1_105) (Eq.trans (if_neg h1_133) (Eq.trans (if_neg h1_141) (Eq.trans (if_neg h1_142) (Eq.trans (if_neg h1_157) (Eq.trans (if_neg h1_160) (Eq.trans (if_neg h1_162) (Eq.trans (if_neg h1_165) (Eq.trans (if_neg h1_166) (Eq.trans (if_neg h1_169) (Eq.trans (if_neg h1_173) (Eq.trans (if_neg h1_189) (Eq.trans (if_neg h1_197) (Eq.trans (if_neg h1_198) (Eq.trans (if_neg h1_201) (Eq.trans (if_neg h1_224) (Eq.trans (if_neg h1_230) (Eq.trans (if_pos h1_233) (rfl)))))))))))))))))))))))) d_Mo_meaning_288
  refine lv_lookup (pc := 1) F.1 F.2.1 d_Mo_meaning_1 (by decide) (off := 352) (tgt := 353) ((lv_osw h1_9 rfl).trans ((lv_osw h1_41 rfl).trans ((lv_osw h1_73 rfl).trans ((lv_osw h1_101 rfl).trans ((lv_osw h1_105 rfl).trans ((lv_osw h1_133 rfl).trans ((lv_osw h1_141 rfl).trans ((lv_osw h1_142 rfl).trans ((lv_osw h1_157 rfl).trans ((lv_osw h1_160 rfl).trans ((lv_osw h1_162 rfl).trans ((lv_osw h1_165 rfl).trans ((lv_osw h1_166 rfl).trans ((lv_osw h1_169 rfl).trans ((lv_osw h1_173 rfl).trans ((lv_osw h1_189 rfl).trans ((lv_osw h1_197 rfl).trans ((lv_osw h1_198 rfl).trans ((lv_osw h1_201 rfl).trans ((lv_osw h1_224 rfl).trans ((lv_osw h1_230 rfl).trans ((lv_osw h1_233 rfl).trans (rfl))))))))))))))))))))))) (by decide) ?_
  refine lv_iload_n (pc := 353) F.1 F.2.1 d_Mo_meaning_353 rfl (lv_at hl 0 rfl) ?_
  refine Usi (pc := 354) (As := [.int x1]) (rest := []) F (c_Mo_single l x1) k_Mo_single m_999 (Nat.le_of_ble_eq_true rfl) (Nat.le_of_ble_eq_true rfl) ⟨rfl, rfl⟩ rfl hl.1 rfl (Nat.le_of_ble_eq_true rfl) d_Mo_meaning_354 hcs (fun r23 e_r23 => ?_)
  exact Ui (pc := 357) F w hr hlk (by rw [e_r23]; exact Eq.symm (Eq.trans (if_neg h1_9) (Eq.trans (if_neg h1_41) (Eq.trans (if_neg h1_73) (Eq.trans (if_neg h1_101) (Eq.trans (if_neg h1_105) (Eq.trans (if_neg h1_133) (Eq.trans (if_neg h1_141) (Eq.trans (if_neg h1_142) (Eq.trans (if_neg h1_157) (Eq.trans (if_neg h1_160) (Eq.trans (if_neg h1_162) (Eq.trans (if_neg h1_165) (Eq.trans (if_neg h1_166) (Eq.trans (if_neg h1_169) (Eq.trans (if_neg h1_173) (Eq.trans (if_neg h1_189) (Eq.trans (if_neg h1_197) (Eq.trans (if_neg h1_198) (Eq.trans (if_neg h1_201) (Eq.trans (if_neg h1_224) (Eq.trans (if_neg h1_230) (Eq.trans (if_neg h1_233) (rfl)))))))))))))))))))))))) d_Mo_meaning_357
def P17 (m : Int32) : Prop := (m / 100 = 17 → m = 1725) ∧ (m / 100 = 18 → m = 1825)
theorem p17_ite {c : Prop} [Decidable c] {a b : Int32} (ha : P17 a) (hb : P17 b) : P17 (if c then a else b) := by
  split
  · exact ha
  · exact hb
set_option maxRecDepth 10000 in
theorem p17 (c : Int32) : P17 (f_Mo_meaning c) := by
  unfold f_Mo_meaning f_Mo_single
  repeat' (refine p17_ite ?_ ?_)
  all_goals (unfold P17; decide)
theorem mean_17 {c : Int32} (h : f_Mo_meaning c / 100 = 17) : f_Mo_meaning c = 1725 := (p17 c).1 h
theorem mean_18 {c : Int32} (h : f_Mo_meaning c / 100 = 18) : f_Mo_meaning c = 1825 := (p17 c).2 h
