def f_Pr_perform_r986 (s1 : Sg) : Int32 := if (s1 9 6) = 0 then (1) else (0)
def f_Pr_perform_r945 (s1 : Sg) : Int32 := if (s1 9 8) = 0 then (1) else (0)
def f_Pr_perform_r915 (s1 : Sg) : Int32 := if (s1 9 7) = 0 then (1) else (0)
def f_Pr_perform_r18 (s1 : Sg) : Sg := if (s1 9 11) = 9 then (let r2 := (f_Pr_nextByte s1).1; let s3 := (f_Pr_nextByte s1).2; let r4 := (f_Pr_result s3 ((s1 9 2) ||| r2)).1; let s5 := (f_Pr_result s3 ((s1 9 2) ||| r2)).2; let s6 := sf s5 9 2 r4; s6) else if (s1 9 11) = 16 then (let v7 := (f_Pr_perform_r986 s1); let s8 := f_Pr_branchIf s1 v7; s8) else if (s1 9 11) = 24 then (let s9 := sf s1 9 8 0; s9) else if (s1 9 11) = 32 then (let r10 := (f_Pr_nextAddress s1).1; let s11 := (f_Pr_nextAddress s1).2; let s12 := f_Pr_callPart s11 r10; s12) else if (s1 9 11) = 41 then (let r13 := (f_Pr_nextByte s1).1; let s14 := (f_Pr_nextByte s1).2; let r15 := (f_Pr_result s14 ((s1 9 2) &&& r13)).1; let s16 := (f_Pr_result s14 ((s1 9 2) &&& r13)).2; let s17 := sf s16 9 2 r15; s17) else if (s1 9 11) = 48 then (let s18 := f_Pr_branchIf s1 (s1 9 6); s18) else if (s1 9 11) = 56 then (let s19 := sf s1 9 8 1; s19) else if (s1 9 11) = 64 then (let s20 := f_Pr_returnFromNmi s1; s20) else if (s1 9 11) = 72 then (let s21 := f_Pr_push s1 (s1 9 2); s21) else if (s1 9 11) = 73 then (let r22 := (f_Pr_nextByte s1).1; let s23 := (f_Pr_nextByte s1).2; let r24 := (f_Pr_result s23 ((s1 9 2) ^^^ r22)).1; let s25 := (f_Pr_result s23 ((s1 9 2) ^^^ r22)).2; let s26 := sf s25 9 2 r24; s26) else if (s1 9 11) = 76 then (let r27 := (f_Pr_nextAddress s1).1; let s28 := (f_Pr_nextAddress s1).2; let s29 := sf s28 9 1 (r27 &&& 1023); s29) else if (s1 9 11) = 96 then (let r30 := (f_Pr_pullPlace s1).1; let s31 := (f_Pr_pullPlace s1).2; let s32 := sf s31 9 1 ((r30 + 1) &&& 1023); s32) else if (s1 9 11) = 101 then (let r33 := (f_Pr_nextByte s1).1; let s34 := (f_Pr_nextByte s1).2; let r35 := (f_Bd_load s34 r33).1; let s36 := (f_Bd_load s34 r33).2; let s37 := f_Pr_add s36 r35; s37) else if (s1 9 11) = 104 then (let r38 := (f_Pr_pull s1).1; let s39 := (f_Pr_pull s1).2; let r40 := (f_Pr_result s39 r38).1; let s41 := (f_Pr_result s39 r38).2; let s42 := sf s41 9 2 r40; s42) else if (s1 9 11) = 105 then (let r43 := (f_Pr_nextByte s1).1; let s44 := (f_Pr_nextByte s1).2; let s45 := f_Pr_add s44 r43; s45) else if (s1 9 11) = 133 then (let r46 := (f_Pr_nextByte s1).1; let s47 := (f_Pr_nextByte s1).2; let s48 := f_Bd_store s47 r46 (s47 9 2); s48) else if (s1 9 11) = 136 then (let r49 := (f_Pr_result s1 ((s1 9 4) - 1)).1; let s50 := (f_Pr_result s1 ((s1 9 4) - 1)).2; let s51 := sf s50 9 4 r49; s51) else if (s1 9 11) = 138 then (let r52 := (f_Pr_result s1 (s1 9 3)).1; let s53 := (f_Pr_result s1 (s1 9 3)).2; let s54 := sf s53 9 2 r52; s54) else if (s1 9 11) = 141 then (let r55 := (f_Pr_nextAddress s1).1; let s56 := (f_Pr_nextAddress s1).2; let s57 := f_Bd_store s56 r55 (s56 9 2); s57) else if (s1 9 11) = 142 then (let r58 := (f_Pr_nextAddress s1).1; let s59 := (f_Pr_nextAddress s1).2; let s60 := f_Bd_store s59 r58 (s59 9 3); s60) else if (s1 9 11) = 144 then (let v61 := (f_Pr_perform_r945 s1); let s62 := f_Pr_branchIf s1 v61; s62) else if (s1 9 11) = 157 then (let r63 := (f_Pr_nextAddress s1).1; let s64 := (f_Pr_nextAddress s1).2; let s65 := f_Bd_store s64 (r63 + (s64 9 3)) (s64 9 2); s65) else if (s1 9 11) = 160 then (let r66 := (f_Pr_nextByte s1).1; let s67 := (f_Pr_nextByte s1).2; let r68 := (f_Pr_result s67 r66).1; let s69 := (f_Pr_result s67 r66).2; let s70 := sf s69 9 4 r68; s70) else if (s1 9 11) = 162 then (let r71 := (f_Pr_nextByte s1).1; let s72 := (f_Pr_nextByte s1).2; let r73 := (f_Pr_result s72 r71).1; let s74 := (f_Pr_result s72 r71).2; let s75 := sf s74 9 3 r73; s75) else if (s1 9 11) = 165 then (let r76 := (f_Pr_nextByte s1).1; let s77 := (f_Pr_nextByte s1).2; let r78 := (f_Bd_load s77 r76).1; let s79 := (f_Bd_load s77 r76).2; let r80 := (f_Pr_result s79 r78).1; let s81 := (f_Pr_result s79 r78).2; let s82 := sf s81 9 2 r80; s82) else if (s1 9 11) = 166 then (let r83 := (f_Pr_nextByte s1).1; let s84 := (f_Pr_nextByte s1).2; let r85 := (f_Bd_load s84 r83).1; let s86 := (f_Bd_load s84 r83).2; let r87 := (f_Pr_result s86 r85).1; let s88 := (f_Pr_result s86 r85).2; let s89 := sf s88 9 3 r87; s89) else if (s1 9 11) = 169 then (let r90 := (f_Pr_nextByte s1).1; let s91 := (f_Pr_nextByte s1).2; let r92 := (f_Pr_result s91 r90).1; let s93 := (f_Pr_result s91 r90).2; let s94 := sf s93 9 2 r92; s94) else if (s1 9 11) = 170 then (let r95 := (f_Pr_result s1 (s1 9 2)).1; let s96 := (f_Pr_result s1 (s1 9 2)).2; let s97 := sf s96 9 3 r95; s97) else if (s1 9 11) = 173 then (let r98 := (f_Pr_nextAddress s1).1; let s99 := (f_Pr_nextAddress s1).2; let r100 := (f_Bd_load s99 r98).1; let s101 := (f_Bd_load s99 r98).2; let r102 := (f_Pr_result s101 r100).1; let s103 := (f_Pr_result s101 r100).2; let s104 := sf s103 9 2 r102; s104) else if (s1 9 11) = 176 then (let s105 := f_Pr_branchIf s1 (s1 9 8); s105) else if (s1 9 11) = 189 then (let r106 := (f_Pr_nextAddress s1).1; let s107 := (f_Pr_nextAddress s1).2; let r108 := (f_Bd_load s107 (r106 + (s107 9 3))).1; let s109 := (f_Bd_load s107 (r106 + (s107 9 3))).2; let r110 := (f_Pr_result s109 r108).1; let s111 := (f_Pr_result s109 r108).2; let s112 := sf s111 9 2 r110; s112) else if (s1 9 11) = 197 then (let r113 := (f_Pr_nextByte s1).1; let s114 := (f_Pr_nextByte s1).2; let r115 := (f_Bd_load s114 r113).1; let s116 := (f_Bd_load s114 r113).2; let s117 := f_Pr_compare s116 (s1 9 2) r115; s117) else if (s1 9 11) = 198 then (let r118 := (f_Pr_nextByte s1).1; let s119 := (f_Pr_nextByte s1).2; let s120 := f_Pr_change s119 r118 (-1); s120) else if (s1 9 11) = 200 then (let r121 := (f_Pr_result s1 ((s1 9 4) + 1)).1; let s122 := (f_Pr_result s1 ((s1 9 4) + 1)).2; let s123 := sf s122 9 4 r121; s123) else if (s1 9 11) = 201 then (let r124 := (f_Pr_nextByte s1).1; let s125 := (f_Pr_nextByte s1).2; let s126 := f_Pr_compare s125 (s1 9 2) r124; s126) else if (s1 9 11) = 202 then (let r127 := (f_Pr_result s1 ((s1 9 3) - 1)).1; let s128 := (f_Pr_result s1 ((s1 9 3) - 1)).2; let s129 := sf s128 9 3 r127; s129) else if (s1 9 11) = 208 then (let v130 := (f_Pr_perform_r915 s1); let s131 := f_Pr_branchIf s1 v130; s131) else if (s1 9 11) = 224 then (let r132 := (f_Pr_nextByte s1).1; let s133 := (f_Pr_nextByte s1).2; let s134 := f_Pr_compare s133 (s1 9 3) r132; s134) else if (s1 9 11) = 230 then (let r135 := (f_Pr_nextByte s1).1; let s136 := (f_Pr_nextByte s1).2; let s137 := f_Pr_change s136 r135 1; s137) else if (s1 9 11) = 232 then (let r138 := (f_Pr_result s1 ((s1 9 3) + 1)).1; let s139 := (f_Pr_result s1 ((s1 9 3) + 1)).2; let s140 := sf s139 9 3 r138; s140) else if (s1 9 11) = 233 then (let r141 := (f_Pr_nextByte s1).1; let s142 := (f_Pr_nextByte s1).2; let s143 := f_Pr_add s142 (255 - r141); s143) else if (s1 9 11) = 234 then (s1) else if (s1 9 11) = 240 then (let s144 := f_Pr_branchIf s1 (s1 9 7); s144) else (let s145 := f_Pr_jam s1; s145)
def f_Pr_perform (σ : Sg) : Sg := let s1 := sf σ 9 1 (((σ 9 1) + 1) &&& 1023); let s146 := (f_Pr_perform_r18 s1); s146
theorem z_f_Pr_perform_r986_0 (s1 : Sg) : (f_Pr_perform_r986 s1) = 0 ∨ (f_Pr_perform_r986 s1) = 1 := by unfold f_Pr_perform_r986; (try dsimp only); (repeat' split) <;> first | exact Or.inl rfl | exact Or.inr rfl
theorem z_f_Pr_perform_r945_0 (s1 : Sg) : (f_Pr_perform_r945 s1) = 0 ∨ (f_Pr_perform_r945 s1) = 1 := by unfold f_Pr_perform_r945; (try dsimp only); (repeat' split) <;> first | exact Or.inl rfl | exact Or.inr rfl | apply z_f_Pr_perform_r986_0
theorem z_f_Pr_perform_r915_0 (s1 : Sg) : (f_Pr_perform_r915 s1) = 0 ∨ (f_Pr_perform_r915 s1) = 1 := by unfold f_Pr_perform_r915; (try dsimp only); (repeat' split) <;> first | exact Or.inl rfl | exact Or.inr rfl | apply z_f_Pr_perform_r945_0 | apply z_f_Pr_perform_r986_0
set_option maxHeartbeats 1000000 in
set_option maxRecDepth 100000 in
theorem c_Pr_perform (l : Launch) (D : va_G) (cI : ClassId) (ad : Nat → Nat) (σ : Sg) (hI : IC σ) : Met l y_Pr_perform (Cond.code y_Pr_perform b_Pr_perform 1 none :: al) { frames := 4, cells := 0, slots := 0, locals := 130 } (Px D cI (wC cI ad) (AC ad) σ [.ref (ad 9)]) (va_Qv (fun u => u = f_Pr_perform σ ) (Bx D cI (wC cI ad) (AC ad)) (AC ad)) 0 0 (AC ad) := by
  refine Mx l (by decide) (Nat.le_of_ble_eq_true rfl) ?_
  intro p e s m below meth c ls F w hr hlk hl
  have F : CallFix p m c b_Pr_perform 1 s _ al "PictureMachine$Processor" := F
  have hl : lv_has ls 1 [(0, .ref (ad 9))] := hl
  have hcs : (0 : Nat) ≤ 0 ∧ (0 : Nat) ≤ 0 := ⟨Nat.le_refl _, Nat.le_refl _⟩
  refine lv_aload_n (pc := 0) F.1 F.2.1 d_Pr_perform_0 rfl (lv_at hl 0 rfl) ?_
  refine lv_aload_n (pc := 1) F.1 F.2.1 d_Pr_perform_1 rfl (lv_at hl 0 rfl) ?_
  refine gC9_1 (pc := 2) F w (F.2.2.2.2 _ m_273) d_Pr_perform_2 ?_
  refine lv_iconst (pc := 5) (v := 1) F.1 F.2.1 d_Pr_perform_5 (by decide) ?_
  refine lv_iadd (pc := 6) F.1 F.2.1 d_Pr_perform_6 ?_
  refine lv_sipush (pc := 7) (v := 1023) F.1 F.2.1 d_Pr_perform_7 (by decide) ?_
  refine lv_iand (pc := 10) F.1 F.2.1 d_Pr_perform_10 ?_
  refine pC9_1 (pc := 11) F w (F.2.2.2.2 _ m_273) d_Pr_perform_11 (fun H locs s1 e_s1 w => ?_)
  have iIC_s1 : IC s1 := by rw [e_s1]; exact hI
  refine lv_aload_n (pc := 14) F.1 F.2.1 d_Pr_perform_14 rfl (lv_at hl 0 rfl) ?_
  refine gC9_11 (pc := 15) F w (F.2.2.2.2 _ m_289) d_Pr_perform_15 ?_
  refine cutW (α := Sg) (fun x H locs ls => x = f_Pr_perform_r18 s1 ∧ Wx D cI (wC cI ad) (AC ad) (AC ad) s s.heap H locs x ∧ lv_has ls 1 [(0, .ref (ad 9))]) (fun x ls => F0 m 1054 ls []) ?_ (fun k18 => ?_)
  · rintro s146 H locs ls ⟨ex, w, hl⟩
    have e_s146 := ex
    have w : Wx D cI (wC cI ad) (AC ad) (AC ad) s s.heap H locs s146 := w
    have hl : lv_has ls 1 [(0, .ref (ad 9))] := hl
    show W _ _ _ _ _ _ _ _ _ _ _ _ _ _ _ (F0 m 1054 ls [])
    exact Rv (pc := 1054) F hr hlk w (by rw [e_s146, e_s1]; exact Eq.symm (rfl)) d_Pr_perform_1054
  · by_cases h18_9 : (s1 9 11) = 9
    · refine lv_lookup (pc := 18) F.1 F.2.1 d_Pr_perform_18 (by decide) (off := 633) (tgt := 651) (by rw [h18_9]; decide) (by decide) ?_
      refine lv_aload_n (pc := 651) F.1 F.2.1 d_Pr_perform_651 rfl (lv_at hl 0 rfl) ?_
      refine lv_aload_n (pc := 652) F.1 F.2.1 d_Pr_perform_652 rfl (lv_at hl 0 rfl) ?_
      refine lv_aload_n (pc := 653) F.1 F.2.1 d_Pr_perform_653 rfl (lv_at hl 0 rfl) ?_
      refine gC9_2 (pc := 654) F w (F.2.2.2.2 _ m_275) d_Pr_perform_654 ?_
      refine lv_aload_n (pc := 657) F.1 F.2.1 d_Pr_perform_657 rfl (lv_at hl 0 rfl) ?_
      refine Cvi (pc := 658) (As := []) (rest := [.int (s1 9 2), .ref (ad 9), .ref (ad 9)]) F w (c_Pr_nextByte l D cI ad s1) 9 rfl rfl k_Pr_nextByte m_649 (Nat.le_of_ble_eq_true rfl) (Nat.le_of_ble_eq_true rfl) ⟨rfl, rfl⟩ rfl hl.1 rfl (Nat.le_of_ble_eq_true rfl) d_Pr_perform_658 hcs (fun r2 s3 H locs e_r2 e_s3 w => ?_)
      have iIC_s3 : IC s3 := by rw [e_s3]; exact iIC_Pr_nextByte iIC_s1 
      refine lv_ior (pc := 661) F.1 F.2.1 d_Pr_perform_661 ?_
      refine Cvi (pc := 662) (As := [.int ((s1 9 2) ||| r2)]) (rest := [.ref (ad 9)]) F w (c_Pr_result l D cI ad s3 ((s1 9 2) ||| r2)) 9 rfl rfl k_Pr_result m_653 (Nat.le_of_ble_eq_true rfl) (Nat.le_of_ble_eq_true rfl) ⟨rfl, rfl⟩ rfl hl.1 rfl (Nat.le_of_ble_eq_true rfl) d_Pr_perform_662 hcs (fun r4 s5 H locs e_r4 e_s5 w => ?_)
      refine pC9_2 (pc := 665) F w (F.2.2.2.2 _ m_275) d_Pr_perform_665 (fun H locs s6 e_s6 w => ?_)
      refine lv_goto (pc := 668) F.1 F.2.1 d_Pr_perform_668 (tgt := 1054) (by decide) ?_
      exact k18 s6 _ _ _ ⟨(by rw [e_s6, e_s5, e_r4, e_s3, e_r2]; exact Eq.symm (Eq.trans (if_pos h18_9) (rfl))), w, lv_sub hl [0] rfl⟩
    by_cases h18_16 : (s1 9 11) = 16
    · refine lv_lookup (pc := 18) F.1 F.2.1 d_Pr_perform_18 (by decide) (off := 963) (tgt := 981) (by rw [h18_16]; decide) (by decide) ?_
      refine lv_aload_n (pc := 981) F.1 F.2.1 d_Pr_perform_981 rfl (lv_at hl 0 rfl) ?_
      refine lv_aload_n (pc := 982) F.1 F.2.1 d_Pr_perform_982 rfl (lv_at hl 0 rfl) ?_
      refine gC9_6 (pc := 983) F w (F.2.2.2.2 _ m_283) d_Pr_perform_983 ?_
      refine cutW (α := Int32) (fun x H locs ls => x = f_Pr_perform_r986 s1 ∧ Wx D cI (wC cI ad) (AC ad) (AC ad) s s.heap H locs s1 ∧ lv_has ls 1 [(0, .ref (ad 9))]) (fun x ls => F0 m 994 ls [.int x, .ref (ad 9)]) ?_ (fun k986 => ?_)
      · rintro v7 H locs ls ⟨ex, w, hl⟩
        have e_v7 := ex
        have w : Wx D cI (wC cI ad) (AC ad) (AC ad) s s.heap H locs s1 := w
        have hl : lv_has ls 1 [(0, .ref (ad 9))] := hl
        show W _ _ _ _ _ _ _ _ _ _ _ _ _ _ _ (F0 m 994 ls [.int v7, .ref (ad 9)])
        refine Cvv (pc := 994) (As := [.int v7]) (rest := []) F w (c_Pr_branchIf l D cI ad s1 v7) 9 rfl rfl k_Pr_branchIf m_678 (Nat.le_of_ble_eq_true rfl) (Nat.le_of_ble_eq_true rfl) ⟨rfl, rfl⟩ rfl hl.1 rfl (Nat.le_of_ble_eq_true rfl) d_Pr_perform_994 hcs (fun s8 H locs e_s8 w => ?_)
        refine lv_goto (pc := 997) F.1 F.2.1 d_Pr_perform_997 (tgt := 1054) (by decide) ?_
        exact k18 s8 _ _ _ ⟨(by rw [e_s8, e_v7]; exact Eq.symm (Eq.trans (if_neg h18_9) (Eq.trans (if_pos h18_16) (rfl)))), w, lv_sub hl [0] rfl⟩
      · refine lv_if_ne (pc := 986) F.1 F.2.1 d_Pr_perform_986 (tgt := 993) (by decide) (fun h986 => ?_) (fun h986 => ?_)
        · refine lv_iconst (pc := 993) (v := 0) F.1 F.2.1 d_Pr_perform_993 (by decide) ?_
          exact k986 0 _ _ _ ⟨(by exact Eq.symm (Eq.trans (if_neg h986) (rfl))), w, lv_sub hl [0] rfl⟩
        · refine lv_iconst (pc := 989) (v := 1) F.1 F.2.1 d_Pr_perform_989 (by decide) ?_
          refine lv_goto (pc := 990) F.1 F.2.1 d_Pr_perform_990 (tgt := 994) (by decide) ?_
          exact k986 1 _ _ _ ⟨(by exact Eq.symm (Eq.trans (if_pos h986) (rfl))), w, lv_sub hl [0] rfl⟩
    by_cases h18_24 : (s1 9 11) = 24
    · refine lv_lookup (pc := 18) F.1 F.2.1 d_Pr_perform_18 (by decide) (off := 873) (tgt := 891) (by rw [h18_24]; decide) (by decide) ?_
      refine lv_aload_n (pc := 891) F.1 F.2.1 d_Pr_perform_891 rfl (lv_at hl 0 rfl) ?_
      refine lv_iconst (pc := 892) (v := 0) F.1 F.2.1 d_Pr_perform_892 (by decide) ?_
      refine pC9_8 (pc := 893) F w (Or.inl rfl) (F.2.2.2.2 _ m_285) d_Pr_perform_893 (fun H locs s9 e_s9 w => ?_)
      have iIC_s9 : IC s9 := by rw [e_s9]; exact iIC_s1
      refine lv_goto (pc := 896) F.1 F.2.1 d_Pr_perform_896 (tgt := 1054) (by decide) ?_
      exact k18 s9 _ _ _ ⟨(by rw [e_s9]; exact Eq.symm (Eq.trans (if_neg h18_9) (Eq.trans (if_neg h18_16) (Eq.trans (if_pos h18_24) (rfl))))), w, lv_sub hl [0] rfl⟩
    by_cases h18_32 : (s1 9 11) = 32
    · refine lv_lookup (pc := 18) F.1 F.2.1 d_Pr_perform_18 (by decide) (off := 997) (tgt := 1015) (by rw [h18_32]; decide) (by decide) ?_
      refine lv_aload_n (pc := 1015) F.1 F.2.1 d_Pr_perform_1015 rfl (lv_at hl 0 rfl) ?_
      refine lv_aload_n (pc := 1016) F.1 F.2.1 d_Pr_perform_1016 rfl (lv_at hl 0 rfl) ?_
      refine Cvi (pc := 1017) (As := []) (rest := [.ref (ad 9)]) F w (c_Pr_nextAddress l D cI ad s1) 9 rfl rfl k_Pr_nextAddress m_657 (Nat.le_of_ble_eq_true rfl) (Nat.le_of_ble_eq_true rfl) ⟨rfl, rfl⟩ rfl hl.1 rfl (Nat.le_of_ble_eq_true rfl) d_Pr_perform_1017 hcs (fun r10 s11 H locs e_r10 e_s11 w => ?_)
      have iIC_s11 : IC s11 := by rw [e_s11]; exact iIC_Pr_nextAddress iIC_s1 
      refine Cvv (pc := 1020) (As := [.int r10]) (rest := []) F w (c_Pr_callPart l D cI ad s11 r10) 9 rfl rfl k_Pr_callPart m_682 (Nat.le_of_ble_eq_true rfl) (Nat.le_of_ble_eq_true rfl) ⟨rfl, rfl⟩ rfl hl.1 rfl (Nat.le_of_ble_eq_true rfl) d_Pr_perform_1020 hcs (fun s12 H locs e_s12 w => ?_)
      refine lv_goto (pc := 1023) F.1 F.2.1 d_Pr_perform_1023 (tgt := 1054) (by decide) ?_
      exact k18 s12 _ _ _ ⟨(by rw [e_s12, e_s11, e_r10]; exact Eq.symm (Eq.trans (if_neg h18_9) (Eq.trans (if_neg h18_16) (Eq.trans (if_neg h18_24) (Eq.trans (if_pos h18_32) (rfl)))))), w, lv_sub hl [0] rfl⟩
    by_cases h18_41 : (s1 9 11) = 41
    · refine lv_lookup (pc := 18) F.1 F.2.1 d_Pr_perform_18 (by decide) (off := 613) (tgt := 631) (by rw [h18_41]; decide) (by decide) ?_
      refine lv_aload_n (pc := 631) F.1 F.2.1 d_Pr_perform_631 rfl (lv_at hl 0 rfl) ?_
      refine lv_aload_n (pc := 632) F.1 F.2.1 d_Pr_perform_632 rfl (lv_at hl 0 rfl) ?_
      refine lv_aload_n (pc := 633) F.1 F.2.1 d_Pr_perform_633 rfl (lv_at hl 0 rfl) ?_
      refine gC9_2 (pc := 634) F w (F.2.2.2.2 _ m_275) d_Pr_perform_634 ?_
      refine lv_aload_n (pc := 637) F.1 F.2.1 d_Pr_perform_637 rfl (lv_at hl 0 rfl) ?_
      refine Cvi (pc := 638) (As := []) (rest := [.int (s1 9 2), .ref (ad 9), .ref (ad 9)]) F w (c_Pr_nextByte l D cI ad s1) 9 rfl rfl k_Pr_nextByte m_649 (Nat.le_of_ble_eq_true rfl) (Nat.le_of_ble_eq_true rfl) ⟨rfl, rfl⟩ rfl hl.1 rfl (Nat.le_of_ble_eq_true rfl) d_Pr_perform_638 hcs (fun r13 s14 H locs e_r13 e_s14 w => ?_)
      have iIC_s14 : IC s14 := by rw [e_s14]; exact iIC_Pr_nextByte iIC_s1 
      refine lv_iand (pc := 641) F.1 F.2.1 d_Pr_perform_641 ?_
      refine Cvi (pc := 642) (As := [.int ((s1 9 2) &&& r13)]) (rest := [.ref (ad 9)]) F w (c_Pr_result l D cI ad s14 ((s1 9 2) &&& r13)) 9 rfl rfl k_Pr_result m_653 (Nat.le_of_ble_eq_true rfl) (Nat.le_of_ble_eq_true rfl) ⟨rfl, rfl⟩ rfl hl.1 rfl (Nat.le_of_ble_eq_true rfl) d_Pr_perform_642 hcs (fun r15 s16 H locs e_r15 e_s16 w => ?_)
      refine pC9_2 (pc := 645) F w (F.2.2.2.2 _ m_275) d_Pr_perform_645 (fun H locs s17 e_s17 w => ?_)
      refine lv_goto (pc := 648) F.1 F.2.1 d_Pr_perform_648 (tgt := 1054) (by decide) ?_
      exact k18 s17 _ _ _ ⟨(by rw [e_s17, e_s16, e_r15, e_s14, e_r13]; exact Eq.symm (Eq.trans (if_neg h18_9) (Eq.trans (if_neg h18_16) (Eq.trans (if_neg h18_24) (Eq.trans (if_neg h18_32) (Eq.trans (if_pos h18_41) (rfl))))))), w, lv_sub hl [0] rfl⟩
    by_cases h18_48 : (s1 9 11) = 48
    · refine lv_lookup (pc := 18) F.1 F.2.1 d_Pr_perform_18 (by decide) (off := 952) (tgt := 970) (by rw [h18_48]; decide) (by decide) ?_
      refine lv_aload_n (pc := 970) F.1 F.2.1 d_Pr_perform_970 rfl (lv_at hl 0 rfl) ?_
      refine lv_aload_n (pc := 971) F.1 F.2.1 d_Pr_perform_971 rfl (lv_at hl 0 rfl) ?_
      refine gC9_6 (pc := 972) F w (F.2.2.2.2 _ m_283) d_Pr_perform_972 ?_
      refine Cvv (pc := 975) (As := [.int (s1 9 6)]) (rest := []) F w (c_Pr_branchIf l D cI ad s1 (s1 9 6)) 9 rfl rfl k_Pr_branchIf m_678 (Nat.le_of_ble_eq_true rfl) (Nat.le_of_ble_eq_true rfl) ⟨rfl, rfl⟩ rfl hl.1 rfl (Nat.le_of_ble_eq_true rfl) d_Pr_perform_975 hcs (fun s18 H locs e_s18 w => ?_)
      refine lv_goto (pc := 978) F.1 F.2.1 d_Pr_perform_978 (tgt := 1054) (by decide) ?_
      exact k18 s18 _ _ _ ⟨(by rw [e_s18]; exact Eq.symm (Eq.trans (if_neg h18_9) (Eq.trans (if_neg h18_16) (Eq.trans (if_neg h18_24) (Eq.trans (if_neg h18_32) (Eq.trans (if_neg h18_41) (Eq.trans (if_pos h18_48) (rfl)))))))), w, lv_sub hl [0] rfl⟩
    by_cases h18_56 : (s1 9 11) = 56
    · refine lv_lookup (pc := 18) F.1 F.2.1 d_Pr_perform_18 (by decide) (off := 881) (tgt := 899) (by rw [h18_56]; decide) (by decide) ?_
      refine lv_aload_n (pc := 899) F.1 F.2.1 d_Pr_perform_899 rfl (lv_at hl 0 rfl) ?_
      refine lv_iconst (pc := 900) (v := 1) F.1 F.2.1 d_Pr_perform_900 (by decide) ?_
      refine pC9_8 (pc := 901) F w (Or.inr rfl) (F.2.2.2.2 _ m_285) d_Pr_perform_901 (fun H locs s19 e_s19 w => ?_)
      have iIC_s19 : IC s19 := by rw [e_s19]; exact iIC_s1
      refine lv_goto (pc := 904) F.1 F.2.1 d_Pr_perform_904 (tgt := 1054) (by decide) ?_
      exact k18 s19 _ _ _ ⟨(by rw [e_s19]; exact Eq.symm (Eq.trans (if_neg h18_9) (Eq.trans (if_neg h18_16) (Eq.trans (if_neg h18_24) (Eq.trans (if_neg h18_32) (Eq.trans (if_neg h18_41) (Eq.trans (if_neg h18_48) (Eq.trans (if_pos h18_56) (rfl))))))))), w, lv_sub hl [0] rfl⟩
    by_cases h18_64 : (s1 9 11) = 64
    · refine lv_lookup (pc := 18) F.1 F.2.1 d_Pr_perform_18 (by decide) (off := 1025) (tgt := 1043) (by rw [h18_64]; decide) (by decide) ?_
      refine lv_aload_n (pc := 1043) F.1 F.2.1 d_Pr_perform_1043 rfl (lv_at hl 0 rfl) ?_
      refine Cvv (pc := 1044) (As := []) (rest := []) F w (c_Pr_returnFromNmi l D cI ad s1) 9 rfl rfl k_Pr_returnFromNmi m_690 (Nat.le_of_ble_eq_true rfl) (Nat.le_of_ble_eq_true rfl) ⟨rfl, rfl⟩ rfl hl.1 rfl (Nat.le_of_ble_eq_true rfl) d_Pr_perform_1044 hcs (fun s20 H locs e_s20 w => ?_)
      refine lv_goto (pc := 1047) F.1 F.2.1 d_Pr_perform_1047 (tgt := 1054) (by decide) ?_
      exact k18 s20 _ _ _ ⟨(by rw [e_s20]; exact Eq.symm (Eq.trans (if_neg h18_9) (Eq.trans (if_neg h18_16) (Eq.trans (if_neg h18_24) (Eq.trans (if_neg h18_32) (Eq.trans (if_neg h18_41) (Eq.trans (if_neg h18_48) (Eq.trans (if_neg h18_56) (Eq.trans (if_pos h18_64) (rfl)))))))))), w, lv_sub hl [0] rfl⟩
    by_cases h18_72 : (s1 9 11) = 72
    · refine lv_lookup (pc := 18) F.1 F.2.1 d_Pr_perform_18 (by decide) (off := 847) (tgt := 865) (by rw [h18_72]; decide) (by decide) ?_
      refine lv_aload_n (pc := 865) F.1 F.2.1 d_Pr_perform_865 rfl (lv_at hl 0 rfl) ?_
      refine lv_aload_n (pc := 866) F.1 F.2.1 d_Pr_perform_866 rfl (lv_at hl 0 rfl) ?_
      refine gC9_2 (pc := 867) F w (F.2.2.2.2 _ m_275) d_Pr_perform_867 ?_
      refine Cvv (pc := 870) (As := [.int (s1 9 2)]) (rest := []) F w (c_Pr_push l D cI ad s1 (s1 9 2)) 9 rfl rfl k_Pr_push m_638 (Nat.le_of_ble_eq_true rfl) (Nat.le_of_ble_eq_true rfl) ⟨rfl, rfl⟩ rfl hl.1 rfl (Nat.le_of_ble_eq_true rfl) d_Pr_perform_870 hcs (fun s21 H locs e_s21 w => ?_)
      refine lv_goto (pc := 873) F.1 F.2.1 d_Pr_perform_873 (tgt := 1054) (by decide) ?_
      exact k18 s21 _ _ _ ⟨(by rw [e_s21]; exact Eq.symm (Eq.trans (if_neg h18_9) (Eq.trans (if_neg h18_16) (Eq.trans (if_neg h18_24) (Eq.trans (if_neg h18_32) (Eq.trans (if_neg h18_41) (Eq.trans (if_neg h18_48) (Eq.trans (if_neg h18_56) (Eq.trans (if_neg h18_64) (Eq.trans (if_pos h18_72) (rfl))))))))))), w, lv_sub hl [0] rfl⟩
    by_cases h18_73 : (s1 9 11) = 73
    · refine lv_lookup (pc := 18) F.1 F.2.1 d_Pr_perform_18 (by decide) (off := 653) (tgt := 671) (by rw [h18_73]; decide) (by decide) ?_
      refine lv_aload_n (pc := 671) F.1 F.2.1 d_Pr_perform_671 rfl (lv_at hl 0 rfl) ?_
      refine lv_aload_n (pc := 672) F.1 F.2.1 d_Pr_perform_672 rfl (lv_at hl 0 rfl) ?_
      refine lv_aload_n (pc := 673) F.1 F.2.1 d_Pr_perform_673 rfl (lv_at hl 0 rfl) ?_
      refine gC9_2 (pc := 674) F w (F.2.2.2.2 _ m_275) d_Pr_perform_674 ?_
      refine lv_aload_n (pc := 677) F.1 F.2.1 d_Pr_perform_677 rfl (lv_at hl 0 rfl) ?_
      refine Cvi (pc := 678) (As := []) (rest := [.int (s1 9 2), .ref (ad 9), .ref (ad 9)]) F w (c_Pr_nextByte l D cI ad s1) 9 rfl rfl k_Pr_nextByte m_649 (Nat.le_of_ble_eq_true rfl) (Nat.le_of_ble_eq_true rfl) ⟨rfl, rfl⟩ rfl hl.1 rfl (Nat.le_of_ble_eq_true rfl) d_Pr_perform_678 hcs (fun r22 s23 H locs e_r22 e_s23 w => ?_)
      have iIC_s23 : IC s23 := by rw [e_s23]; exact iIC_Pr_nextByte iIC_s1 
      refine lv_ixor (pc := 681) F.1 F.2.1 d_Pr_perform_681 ?_
      refine Cvi (pc := 682) (As := [.int ((s1 9 2) ^^^ r22)]) (rest := [.ref (ad 9)]) F w (c_Pr_result l D cI ad s23 ((s1 9 2) ^^^ r22)) 9 rfl rfl k_Pr_result m_653 (Nat.le_of_ble_eq_true rfl) (Nat.le_of_ble_eq_true rfl) ⟨rfl, rfl⟩ rfl hl.1 rfl (Nat.le_of_ble_eq_true rfl) d_Pr_perform_682 hcs (fun r24 s25 H locs e_r24 e_s25 w => ?_)
      refine pC9_2 (pc := 685) F w (F.2.2.2.2 _ m_275) d_Pr_perform_685 (fun H locs s26 e_s26 w => ?_)
      refine lv_goto (pc := 688) F.1 F.2.1 d_Pr_perform_688 (tgt := 1054) (by decide) ?_
      exact k18 s26 _ _ _ ⟨(by rw [e_s26, e_s25, e_r24, e_s23, e_r22]; exact Eq.symm (Eq.trans (if_neg h18_9) (Eq.trans (if_neg h18_16) (Eq.trans (if_neg h18_24) (Eq.trans (if_neg h18_32) (Eq.trans (if_neg h18_41) (Eq.trans (if_neg h18_48) (Eq.trans (if_neg h18_56) (Eq.trans (if_neg h18_64) (Eq.trans (if_neg h18_72) (Eq.trans (if_pos h18_73) (rfl)))))))))))), w, lv_sub hl [0] rfl⟩
    by_cases h18_76 : (s1 9 11) = 76
    · refine lv_lookup (pc := 18) F.1 F.2.1 d_Pr_perform_18 (by decide) (off := 982) (tgt := 1000) (by rw [h18_76]; decide) (by decide) ?_
      refine lv_aload_n (pc := 1000) F.1 F.2.1 d_Pr_perform_1000 rfl (lv_at hl 0 rfl) ?_
      refine lv_aload_n (pc := 1001) F.1 F.2.1 d_Pr_perform_1001 rfl (lv_at hl 0 rfl) ?_
      refine Cvi (pc := 1002) (As := []) (rest := [.ref (ad 9)]) F w (c_Pr_nextAddress l D cI ad s1) 9 rfl rfl k_Pr_nextAddress m_657 (Nat.le_of_ble_eq_true rfl) (Nat.le_of_ble_eq_true rfl) ⟨rfl, rfl⟩ rfl hl.1 rfl (Nat.le_of_ble_eq_true rfl) d_Pr_perform_1002 hcs (fun r27 s28 H locs e_r27 e_s28 w => ?_)
      have iIC_s28 : IC s28 := by rw [e_s28]; exact iIC_Pr_nextAddress iIC_s1 
      refine lv_sipush (pc := 1005) (v := 1023) F.1 F.2.1 d_Pr_perform_1005 (by decide) ?_
      refine lv_iand (pc := 1008) F.1 F.2.1 d_Pr_perform_1008 ?_
      refine pC9_1 (pc := 1009) F w (F.2.2.2.2 _ m_273) d_Pr_perform_1009 (fun H locs s29 e_s29 w => ?_)
      have iIC_s29 : IC s29 := by rw [e_s29]; exact iIC_s28
      refine lv_goto (pc := 1012) F.1 F.2.1 d_Pr_perform_1012 (tgt := 1054) (by decide) ?_
      exact k18 s29 _ _ _ ⟨(by rw [e_s29, e_s28, e_r27]; exact Eq.symm (Eq.trans (if_neg h18_9) (Eq.trans (if_neg h18_16) (Eq.trans (if_neg h18_24) (Eq.trans (if_neg h18_32) (Eq.trans (if_neg h18_41) (Eq.trans (if_neg h18_48) (Eq.trans (if_neg h18_56) (Eq.trans (if_neg h18_64) (Eq.trans (if_neg h18_72) (Eq.trans (if_neg h18_73) (Eq.trans (if_pos h18_76) (rfl))))))))))))), w, lv_sub hl [0] rfl⟩
    by_cases h18_96 : (s1 9 11) = 96
    · refine lv_lookup (pc := 18) F.1 F.2.1 d_Pr_perform_18 (by decide) (off := 1008) (tgt := 1026) (by rw [h18_96]; decide) (by decide) ?_
      refine lv_aload_n (pc := 1026) F.1 F.2.1 d_Pr_perform_1026 rfl (lv_at hl 0 rfl) ?_
      refine lv_aload_n (pc := 1027) F.1 F.2.1 d_Pr_perform_1027 rfl (lv_at hl 0 rfl) ?_
      refine Cvi (pc := 1028) (As := []) (rest := [.ref (ad 9)]) F w (c_Pr_pullPlace l D cI ad s1) 9 rfl rfl k_Pr_pullPlace m_686 (Nat.le_of_ble_eq_true rfl) (Nat.le_of_ble_eq_true rfl) ⟨rfl, rfl⟩ rfl hl.1 rfl (Nat.le_of_ble_eq_true rfl) d_Pr_perform_1028 hcs (fun r30 s31 H locs e_r30 e_s31 w => ?_)
      refine lv_iconst (pc := 1031) (v := 1) F.1 F.2.1 d_Pr_perform_1031 (by decide) ?_
      refine lv_iadd (pc := 1032) F.1 F.2.1 d_Pr_perform_1032 ?_
      refine lv_sipush (pc := 1033) (v := 1023) F.1 F.2.1 d_Pr_perform_1033 (by decide) ?_
      refine lv_iand (pc := 1036) F.1 F.2.1 d_Pr_perform_1036 ?_
      refine pC9_1 (pc := 1037) F w (F.2.2.2.2 _ m_273) d_Pr_perform_1037 (fun H locs s32 e_s32 w => ?_)
      refine lv_goto (pc := 1040) F.1 F.2.1 d_Pr_perform_1040 (tgt := 1054) (by decide) ?_
      exact k18 s32 _ _ _ ⟨(by rw [e_s32, e_s31, e_r30]; exact Eq.symm (Eq.trans (if_neg h18_9) (Eq.trans (if_neg h18_16) (Eq.trans (if_neg h18_24) (Eq.trans (if_neg h18_32) (Eq.trans (if_neg h18_41) (Eq.trans (if_neg h18_48) (Eq.trans (if_neg h18_56) (Eq.trans (if_neg h18_64) (Eq.trans (if_neg h18_72) (Eq.trans (if_neg h18_73) (Eq.trans (if_neg h18_76) (Eq.trans (if_pos h18_96) (rfl)))))))))))))), w, lv_sub hl [0] rfl⟩
    by_cases h18_101 : (s1 9 11) = 101
    · refine lv_lookup (pc := 18) F.1 F.2.1 d_Pr_perform_18 (by decide) (off := 580) (tgt := 598) (by rw [h18_101]; decide) (by decide) ?_
      refine lv_aload_n (pc := 598) F.1 F.2.1 d_Pr_perform_598 rfl (lv_at hl 0 rfl) ?_
      refine lv_aload_n (pc := 599) F.1 F.2.1 d_Pr_perform_599 rfl (lv_at hl 0 rfl) ?_
      refine gC9_0 (pc := 600) F w (F.2.2.2.2 _ m_272) d_Pr_perform_600 ?_
      refine lv_aload_n (pc := 603) F.1 F.2.1 d_Pr_perform_603 rfl (lv_at hl 0 rfl) ?_
      refine Cvi (pc := 604) (As := []) (rest := [.ref (ad 1), .ref (ad 9)]) F w (c_Pr_nextByte l D cI ad s1) 9 rfl rfl k_Pr_nextByte m_649 (Nat.le_of_ble_eq_true rfl) (Nat.le_of_ble_eq_true rfl) ⟨rfl, rfl⟩ rfl hl.1 rfl (Nat.le_of_ble_eq_true rfl) d_Pr_perform_604 hcs (fun r33 s34 H locs e_r33 e_s34 w => ?_)
      have iIC_s34 : IC s34 := by rw [e_s34]; exact iIC_Pr_nextByte iIC_s1 
      refine Cvi (pc := 607) (As := [.int r33]) (rest := [.ref (ad 9)]) F w (c_Bd_load l D cI ad s34 r33) 1 rfl rfl k_Bd_load m_614 (Nat.le_of_ble_eq_true rfl) (Nat.le_of_ble_eq_true rfl) ⟨rfl, rfl⟩ rfl hl.1 rfl (Nat.le_of_ble_eq_true rfl) d_Pr_perform_607 hcs (fun r35 s36 H locs e_r35 e_s36 w => ?_)
      have iIC_s36 : IC s36 := by rw [e_s36]; exact iIC_Bd_load iIC_s34 r33
      refine Cvv (pc := 610) (As := [.int r35]) (rest := []) F w (c_Pr_add l D cI ad s36 r35) 9 rfl rfl k_Pr_add m_662 (Nat.le_of_ble_eq_true rfl) (Nat.le_of_ble_eq_true rfl) ⟨rfl, rfl⟩ rfl hl.1 rfl (Nat.le_of_ble_eq_true rfl) d_Pr_perform_610 hcs (fun s37 H locs e_s37 w => ?_)
      refine lv_goto (pc := 613) F.1 F.2.1 d_Pr_perform_613 (tgt := 1054) (by decide) ?_
      exact k18 s37 _ _ _ ⟨(by rw [e_s37, e_s36, e_r35, e_s34, e_r33]; exact Eq.symm (Eq.trans (if_neg h18_9) (Eq.trans (if_neg h18_16) (Eq.trans (if_neg h18_24) (Eq.trans (if_neg h18_32) (Eq.trans (if_neg h18_41) (Eq.trans (if_neg h18_48) (Eq.trans (if_neg h18_56) (Eq.trans (if_neg h18_64) (Eq.trans (if_neg h18_72) (Eq.trans (if_neg h18_73) (Eq.trans (if_neg h18_76) (Eq.trans (if_neg h18_96) (Eq.trans (if_pos h18_101) (rfl))))))))))))))), w, lv_sub hl [0] rfl⟩
    by_cases h18_104 : (s1 9 11) = 104
    · refine lv_lookup (pc := 18) F.1 F.2.1 d_Pr_perform_18 (by decide) (off := 858) (tgt := 876) (by rw [h18_104]; decide) (by decide) ?_
      refine lv_aload_n (pc := 876) F.1 F.2.1 d_Pr_perform_876 rfl (lv_at hl 0 rfl) ?_
      refine lv_aload_n (pc := 877) F.1 F.2.1 d_Pr_perform_877 rfl (lv_at hl 0 rfl) ?_
      refine lv_aload_n (pc := 878) F.1 F.2.1 d_Pr_perform_878 rfl (lv_at hl 0 rfl) ?_
      refine Cvi (pc := 879) (As := []) (rest := [.ref (ad 9), .ref (ad 9)]) F w (c_Pr_pull l D cI ad s1) 9 rfl rfl k_Pr_pull m_674 (Nat.le_of_ble_eq_true rfl) (Nat.le_of_ble_eq_true rfl) ⟨rfl, rfl⟩ rfl hl.1 rfl (Nat.le_of_ble_eq_true rfl) d_Pr_perform_879 hcs (fun r38 s39 H locs e_r38 e_s39 w => ?_)
      refine Cvi (pc := 882) (As := [.int r38]) (rest := [.ref (ad 9)]) F w (c_Pr_result l D cI ad s39 r38) 9 rfl rfl k_Pr_result m_653 (Nat.le_of_ble_eq_true rfl) (Nat.le_of_ble_eq_true rfl) ⟨rfl, rfl⟩ rfl hl.1 rfl (Nat.le_of_ble_eq_true rfl) d_Pr_perform_882 hcs (fun r40 s41 H locs e_r40 e_s41 w => ?_)
      refine pC9_2 (pc := 885) F w (F.2.2.2.2 _ m_275) d_Pr_perform_885 (fun H locs s42 e_s42 w => ?_)
      refine lv_goto (pc := 888) F.1 F.2.1 d_Pr_perform_888 (tgt := 1054) (by decide) ?_
      exact k18 s42 _ _ _ ⟨(by rw [e_s42, e_s41, e_r40, e_s39, e_r38]; exact Eq.symm (Eq.trans (if_neg h18_9) (Eq.trans (if_neg h18_16) (Eq.trans (if_neg h18_24) (Eq.trans (if_neg h18_32) (Eq.trans (if_neg h18_41) (Eq.trans (if_neg h18_48) (Eq.trans (if_neg h18_56) (Eq.trans (if_neg h18_64) (Eq.trans (if_neg h18_72) (Eq.trans (if_neg h18_73) (Eq.trans (if_neg h18_76) (Eq.trans (if_neg h18_96) (Eq.trans (if_neg h18_101) (Eq.trans (if_pos h18_104) (rfl)))))))))))))))), w, lv_sub hl [0] rfl⟩
    by_cases h18_105 : (s1 9 11) = 105
    · refine lv_lookup (pc := 18) F.1 F.2.1 d_Pr_perform_18 (by decide) (off := 569) (tgt := 587) (by rw [h18_105]; decide) (by decide) ?_
      refine lv_aload_n (pc := 587) F.1 F.2.1 d_Pr_perform_587 rfl (lv_at hl 0 rfl) ?_
      refine lv_aload_n (pc := 588) F.1 F.2.1 d_Pr_perform_588 rfl (lv_at hl 0 rfl) ?_
      refine Cvi (pc := 589) (As := []) (rest := [.ref (ad 9)]) F w (c_Pr_nextByte l D cI ad s1) 9 rfl rfl k_Pr_nextByte m_649 (Nat.le_of_ble_eq_true rfl) (Nat.le_of_ble_eq_true rfl) ⟨rfl, rfl⟩ rfl hl.1 rfl (Nat.le_of_ble_eq_true rfl) d_Pr_perform_589 hcs (fun r43 s44 H locs e_r43 e_s44 w => ?_)
      have iIC_s44 : IC s44 := by rw [e_s44]; exact iIC_Pr_nextByte iIC_s1 
      refine Cvv (pc := 592) (As := [.int r43]) (rest := []) F w (c_Pr_add l D cI ad s44 r43) 9 rfl rfl k_Pr_add m_662 (Nat.le_of_ble_eq_true rfl) (Nat.le_of_ble_eq_true rfl) ⟨rfl, rfl⟩ rfl hl.1 rfl (Nat.le_of_ble_eq_true rfl) d_Pr_perform_592 hcs (fun s45 H locs e_s45 w => ?_)
      refine lv_goto (pc := 595) F.1 F.2.1 d_Pr_perform_595 (tgt := 1054) (by decide) ?_
      exact k18 s45 _ _ _ ⟨(by rw [e_s45, e_s44, e_r43]; exact Eq.symm (Eq.trans (if_neg h18_9) (Eq.trans (if_neg h18_16) (Eq.trans (if_neg h18_24) (Eq.trans (if_neg h18_32) (Eq.trans (if_neg h18_41) (Eq.trans (if_neg h18_48) (Eq.trans (if_neg h18_56) (Eq.trans (if_neg h18_64) (Eq.trans (if_neg h18_72) (Eq.trans (if_neg h18_73) (Eq.trans (if_neg h18_76) (Eq.trans (if_neg h18_96) (Eq.trans (if_neg h18_101) (Eq.trans (if_neg h18_104) (Eq.trans (if_pos h18_105) (rfl))))))))))))))))), w, lv_sub hl [0] rfl⟩
    by_cases h18_133 : (s1 9 11) = 133
    · refine lv_lookup (pc := 18) F.1 F.2.1 d_Pr_perform_18 (by decide) (off := 492) (tgt := 510) (by rw [h18_133]; decide) (by decide) ?_
      refine lv_aload_n (pc := 510) F.1 F.2.1 d_Pr_perform_510 rfl (lv_at hl 0 rfl) ?_
      refine gC9_0 (pc := 511) F w (F.2.2.2.2 _ m_272) d_Pr_perform_511 ?_
      refine lv_aload_n (pc := 514) F.1 F.2.1 d_Pr_perform_514 rfl (lv_at hl 0 rfl) ?_
      refine Cvi (pc := 515) (As := []) (rest := [.ref (ad 1)]) F w (c_Pr_nextByte l D cI ad s1) 9 rfl rfl k_Pr_nextByte m_649 (Nat.le_of_ble_eq_true rfl) (Nat.le_of_ble_eq_true rfl) ⟨rfl, rfl⟩ rfl hl.1 rfl (Nat.le_of_ble_eq_true rfl) d_Pr_perform_515 hcs (fun r46 s47 H locs e_r46 e_s47 w => ?_)
      have iIC_s47 : IC s47 := by rw [e_s47]; exact iIC_Pr_nextByte iIC_s1 
      refine lv_aload_n (pc := 518) F.1 F.2.1 d_Pr_perform_518 rfl (lv_at hl 0 rfl) ?_
      refine gC9_2 (pc := 519) F w (F.2.2.2.2 _ m_275) d_Pr_perform_519 ?_
      refine Cvv (pc := 522) (As := [.int r46, .int (s47 9 2)]) (rest := []) F w (c_Bd_store l D cI ad s47 r46 (s47 9 2) iIC_s47) 1 rfl rfl k_Bd_store m_661 (Nat.le_of_ble_eq_true rfl) (Nat.le_of_ble_eq_true rfl) ⟨rfl, rfl⟩ rfl hl.1 rfl (Nat.le_of_ble_eq_true rfl) d_Pr_perform_522 hcs (fun s48 H locs e_s48 w => ?_)
      refine lv_goto (pc := 525) F.1 F.2.1 d_Pr_perform_525 (tgt := 1054) (by decide) ?_
      exact k18 s48 _ _ _ ⟨(by rw [e_s48, e_s47, e_r46]; exact Eq.symm (Eq.trans (if_neg h18_9) (Eq.trans (if_neg h18_16) (Eq.trans (if_neg h18_24) (Eq.trans (if_neg h18_32) (Eq.trans (if_neg h18_41) (Eq.trans (if_neg h18_48) (Eq.trans (if_neg h18_56) (Eq.trans (if_neg h18_64) (Eq.trans (if_neg h18_72) (Eq.trans (if_neg h18_73) (Eq.trans (if_neg h18_76) (Eq.trans (if_neg h18_96) (Eq.trans (if_neg h18_101) (Eq.trans (if_neg h18_104) (Eq.trans (if_neg h18_105) (Eq.trans (if_pos h18_133) (rfl)))))))))))))))))), w, lv_sub hl [0] rfl⟩
    by_cases h18_136 : (s1 9 11) = 136
    · refine lv_lookup (pc := 18) F.1 F.2.1 d_Pr_perform_18 (by decide) (off := 800) (tgt := 818) (by rw [h18_136]; decide) (by decide) ?_
      refine lv_aload_n (pc := 818) F.1 F.2.1 d_Pr_perform_818 rfl (lv_at hl 0 rfl) ?_
      refine lv_aload_n (pc := 819) F.1 F.2.1 d_Pr_perform_819 rfl (lv_at hl 0 rfl) ?_
      refine lv_aload_n (pc := 820) F.1 F.2.1 d_Pr_perform_820 rfl (lv_at hl 0 rfl) ?_
      refine gC9_4 (pc := 821) F w (F.2.2.2.2 _ m_279) d_Pr_perform_821 ?_
      refine lv_iconst (pc := 824) (v := 1) F.1 F.2.1 d_Pr_perform_824 (by decide) ?_
      refine lv_isub (pc := 825) F.1 F.2.1 d_Pr_perform_825 ?_
      refine Cvi (pc := 826) (As := [.int ((s1 9 4) - 1)]) (rest := [.ref (ad 9)]) F w (c_Pr_result l D cI ad s1 ((s1 9 4) - 1)) 9 rfl rfl k_Pr_result m_653 (Nat.le_of_ble_eq_true rfl) (Nat.le_of_ble_eq_true rfl) ⟨rfl, rfl⟩ rfl hl.1 rfl (Nat.le_of_ble_eq_true rfl) d_Pr_perform_826 hcs (fun r49 s50 H locs e_r49 e_s50 w => ?_)
      refine pC9_4 (pc := 829) F w (F.2.2.2.2 _ m_279) d_Pr_perform_829 (fun H locs s51 e_s51 w => ?_)
      refine lv_goto (pc := 832) F.1 F.2.1 d_Pr_perform_832 (tgt := 1054) (by decide) ?_
      exact k18 s51 _ _ _ ⟨(by rw [e_s51, e_s50, e_r49]; exact Eq.symm (Eq.trans (if_neg h18_9) (Eq.trans (if_neg h18_16) (Eq.trans (if_neg h18_24) (Eq.trans (if_neg h18_32) (Eq.trans (if_neg h18_41) (Eq.trans (if_neg h18_48) (Eq.trans (if_neg h18_56) (Eq.trans (if_neg h18_64) (Eq.trans (if_neg h18_72) (Eq.trans (if_neg h18_73) (Eq.trans (if_neg h18_76) (Eq.trans (if_neg h18_96) (Eq.trans (if_neg h18_101) (Eq.trans (if_neg h18_104) (Eq.trans (if_neg h18_105) (Eq.trans (if_neg h18_133) (Eq.trans (if_pos h18_136) (rfl))))))))))))))))))), w, lv_sub hl [0] rfl⟩
    by_cases h18_138 : (s1 9 11) = 138
    · refine lv_lookup (pc := 18) F.1 F.2.1 d_Pr_perform_18 (by decide) (off := 832) (tgt := 850) (by rw [h18_138]; decide) (by decide) ?_
      refine lv_aload_n (pc := 850) F.1 F.2.1 d_Pr_perform_850 rfl (lv_at hl 0 rfl) ?_
      refine lv_aload_n (pc := 851) F.1 F.2.1 d_Pr_perform_851 rfl (lv_at hl 0 rfl) ?_
      refine lv_aload_n (pc := 852) F.1 F.2.1 d_Pr_perform_852 rfl (lv_at hl 0 rfl) ?_
      refine gC9_3 (pc := 853) F w (F.2.2.2.2 _ m_277) d_Pr_perform_853 ?_
      refine Cvi (pc := 856) (As := [.int (s1 9 3)]) (rest := [.ref (ad 9)]) F w (c_Pr_result l D cI ad s1 (s1 9 3)) 9 rfl rfl k_Pr_result m_653 (Nat.le_of_ble_eq_true rfl) (Nat.le_of_ble_eq_true rfl) ⟨rfl, rfl⟩ rfl hl.1 rfl (Nat.le_of_ble_eq_true rfl) d_Pr_perform_856 hcs (fun r52 s53 H locs e_r52 e_s53 w => ?_)
      refine pC9_2 (pc := 859) F w (F.2.2.2.2 _ m_275) d_Pr_perform_859 (fun H locs s54 e_s54 w => ?_)
      refine lv_goto (pc := 862) F.1 F.2.1 d_Pr_perform_862 (tgt := 1054) (by decide) ?_
      exact k18 s54 _ _ _ ⟨(by rw [e_s54, e_s53, e_r52]; exact Eq.symm (Eq.trans (if_neg h18_9) (Eq.trans (if_neg h18_16) (Eq.trans (if_neg h18_24) (Eq.trans (if_neg h18_32) (Eq.trans (if_neg h18_41) (Eq.trans (if_neg h18_48) (Eq.trans (if_neg h18_56) (Eq.trans (if_neg h18_64) (Eq.trans (if_neg h18_72) (Eq.trans (if_neg h18_73) (Eq.trans (if_neg h18_76) (Eq.trans (if_neg h18_96) (Eq.trans (if_neg h18_101) (Eq.trans (if_neg h18_104) (Eq.trans (if_neg h18_105) (Eq.trans (if_neg h18_133) (Eq.trans (if_neg h18_136) (Eq.trans (if_pos h18_138) (rfl)))))))))))))))))))), w, lv_sub hl [0] rfl⟩
    by_cases h18_141 : (s1 9 11) = 141
    · refine lv_lookup (pc := 18) F.1 F.2.1 d_Pr_perform_18 (by decide) (off := 510) (tgt := 528) (by rw [h18_141]; decide) (by decide) ?_
      refine lv_aload_n (pc := 528) F.1 F.2.1 d_Pr_perform_528 rfl (lv_at hl 0 rfl) ?_
      refine gC9_0 (pc := 529) F w (F.2.2.2.2 _ m_272) d_Pr_perform_529 ?_
      refine lv_aload_n (pc := 532) F.1 F.2.1 d_Pr_perform_532 rfl (lv_at hl 0 rfl) ?_
      refine Cvi (pc := 533) (As := []) (rest := [.ref (ad 1)]) F w (c_Pr_nextAddress l D cI ad s1) 9 rfl rfl k_Pr_nextAddress m_657 (Nat.le_of_ble_eq_true rfl) (Nat.le_of_ble_eq_true rfl) ⟨rfl, rfl⟩ rfl hl.1 rfl (Nat.le_of_ble_eq_true rfl) d_Pr_perform_533 hcs (fun r55 s56 H locs e_r55 e_s56 w => ?_)
      have iIC_s56 : IC s56 := by rw [e_s56]; exact iIC_Pr_nextAddress iIC_s1 
      refine lv_aload_n (pc := 536) F.1 F.2.1 d_Pr_perform_536 rfl (lv_at hl 0 rfl) ?_
      refine gC9_2 (pc := 537) F w (F.2.2.2.2 _ m_275) d_Pr_perform_537 ?_
      refine Cvv (pc := 540) (As := [.int r55, .int (s56 9 2)]) (rest := []) F w (c_Bd_store l D cI ad s56 r55 (s56 9 2) iIC_s56) 1 rfl rfl k_Bd_store m_661 (Nat.le_of_ble_eq_true rfl) (Nat.le_of_ble_eq_true rfl) ⟨rfl, rfl⟩ rfl hl.1 rfl (Nat.le_of_ble_eq_true rfl) d_Pr_perform_540 hcs (fun s57 H locs e_s57 w => ?_)
      refine lv_goto (pc := 543) F.1 F.2.1 d_Pr_perform_543 (tgt := 1054) (by decide) ?_
      exact k18 s57 _ _ _ ⟨(by rw [e_s57, e_s56, e_r55]; exact Eq.symm (Eq.trans (if_neg h18_9) (Eq.trans (if_neg h18_16) (Eq.trans (if_neg h18_24) (Eq.trans (if_neg h18_32) (Eq.trans (if_neg h18_41) (Eq.trans (if_neg h18_48) (Eq.trans (if_neg h18_56) (Eq.trans (if_neg h18_64) (Eq.trans (if_neg h18_72) (Eq.trans (if_neg h18_73) (Eq.trans (if_neg h18_76) (Eq.trans (if_neg h18_96) (Eq.trans (if_neg h18_101) (Eq.trans (if_neg h18_104) (Eq.trans (if_neg h18_105) (Eq.trans (if_neg h18_133) (Eq.trans (if_neg h18_136) (Eq.trans (if_neg h18_138) (Eq.trans (if_pos h18_141) (rfl))))))))))))))))))))), w, lv_sub hl [0] rfl⟩
    by_cases h18_142 : (s1 9 11) = 142
    · refine lv_lookup (pc := 18) F.1 F.2.1 d_Pr_perform_18 (by decide) (off := 551) (tgt := 569) (by rw [h18_142]; decide) (by decide) ?_
      refine lv_aload_n (pc := 569) F.1 F.2.1 d_Pr_perform_569 rfl (lv_at hl 0 rfl) ?_
      refine gC9_0 (pc := 570) F w (F.2.2.2.2 _ m_272) d_Pr_perform_570 ?_
      refine lv_aload_n (pc := 573) F.1 F.2.1 d_Pr_perform_573 rfl (lv_at hl 0 rfl) ?_
      refine Cvi (pc := 574) (As := []) (rest := [.ref (ad 1)]) F w (c_Pr_nextAddress l D cI ad s1) 9 rfl rfl k_Pr_nextAddress m_657 (Nat.le_of_ble_eq_true rfl) (Nat.le_of_ble_eq_true rfl) ⟨rfl, rfl⟩ rfl hl.1 rfl (Nat.le_of_ble_eq_true rfl) d_Pr_perform_574 hcs (fun r58 s59 H locs e_r58 e_s59 w => ?_)
      have iIC_s59 : IC s59 := by rw [e_s59]; exact iIC_Pr_nextAddress iIC_s1 
      refine lv_aload_n (pc := 577) F.1 F.2.1 d_Pr_perform_577 rfl (lv_at hl 0 rfl) ?_
      refine gC9_3 (pc := 578) F w (F.2.2.2.2 _ m_277) d_Pr_perform_578 ?_
      refine Cvv (pc := 581) (As := [.int r58, .int (s59 9 3)]) (rest := []) F w (c_Bd_store l D cI ad s59 r58 (s59 9 3) iIC_s59) 1 rfl rfl k_Bd_store m_661 (Nat.le_of_ble_eq_true rfl) (Nat.le_of_ble_eq_true rfl) ⟨rfl, rfl⟩ rfl hl.1 rfl (Nat.le_of_ble_eq_true rfl) d_Pr_perform_581 hcs (fun s60 H locs e_s60 w => ?_)
      refine lv_goto (pc := 584) F.1 F.2.1 d_Pr_perform_584 (tgt := 1054) (by decide) ?_
      exact k18 s60 _ _ _ ⟨(by rw [e_s60, e_s59, e_r58]; exact Eq.symm (Eq.trans (if_neg h18_9) (Eq.trans (if_neg h18_16) (Eq.trans (if_neg h18_24) (Eq.trans (if_neg h18_32) (Eq.trans (if_neg h18_41) (Eq.trans (if_neg h18_48) (Eq.trans (if_neg h18_56) (Eq.trans (if_neg h18_64) (Eq.trans (if_neg h18_72) (Eq.trans (if_neg h18_73) (Eq.trans (if_neg h18_76) (Eq.trans (if_neg h18_96) (Eq.trans (if_neg h18_101) (Eq.trans (if_neg h18_104) (Eq.trans (if_neg h18_105) (Eq.trans (if_neg h18_133) (Eq.trans (if_neg h18_136) (Eq.trans (if_neg h18_138) (Eq.trans (if_neg h18_141) (Eq.trans (if_pos h18_142) (rfl)))))))))))))))))))))), w, lv_sub hl [0] rfl⟩
    by_cases h18_144 : (s1 9 11) = 144
    · refine lv_lookup (pc := 18) F.1 F.2.1 d_Pr_perform_18 (by decide) (off := 922) (tgt := 940) (by rw [h18_144]; decide) (by decide) ?_
      refine lv_aload_n (pc := 940) F.1 F.2.1 d_Pr_perform_940 rfl (lv_at hl 0 rfl) ?_
      refine lv_aload_n (pc := 941) F.1 F.2.1 d_Pr_perform_941 rfl (lv_at hl 0 rfl) ?_
      refine gC9_8 (pc := 942) F w (F.2.2.2.2 _ m_285) d_Pr_perform_942 ?_
      refine cutW (α := Int32) (fun x H locs ls => x = f_Pr_perform_r945 s1 ∧ Wx D cI (wC cI ad) (AC ad) (AC ad) s s.heap H locs s1 ∧ lv_has ls 1 [(0, .ref (ad 9))]) (fun x ls => F0 m 953 ls [.int x, .ref (ad 9)]) ?_ (fun k945 => ?_)
      · rintro v61 H locs ls ⟨ex, w, hl⟩
        have e_v61 := ex
        have w : Wx D cI (wC cI ad) (AC ad) (AC ad) s s.heap H locs s1 := w
        have hl : lv_has ls 1 [(0, .ref (ad 9))] := hl
        show W _ _ _ _ _ _ _ _ _ _ _ _ _ _ _ (F0 m 953 ls [.int v61, .ref (ad 9)])
        refine Cvv (pc := 953) (As := [.int v61]) (rest := []) F w (c_Pr_branchIf l D cI ad s1 v61) 9 rfl rfl k_Pr_branchIf m_678 (Nat.le_of_ble_eq_true rfl) (Nat.le_of_ble_eq_true rfl) ⟨rfl, rfl⟩ rfl hl.1 rfl (Nat.le_of_ble_eq_true rfl) d_Pr_perform_953 hcs (fun s62 H locs e_s62 w => ?_)
        refine lv_goto (pc := 956) F.1 F.2.1 d_Pr_perform_956 (tgt := 1054) (by decide) ?_
        exact k18 s62 _ _ _ ⟨(by rw [e_s62, e_v61]; exact Eq.symm (Eq.trans (if_neg h18_9) (Eq.trans (if_neg h18_16) (Eq.trans (if_neg h18_24) (Eq.trans (if_neg h18_32) (Eq.trans (if_neg h18_41) (Eq.trans (if_neg h18_48) (Eq.trans (if_neg h18_56) (Eq.trans (if_neg h18_64) (Eq.trans (if_neg h18_72) (Eq.trans (if_neg h18_73) (Eq.trans (if_neg h18_76) (Eq.trans (if_neg h18_96) (Eq.trans (if_neg h18_101) (Eq.trans (if_neg h18_104) (Eq.trans (if_neg h18_105) (Eq.trans (if_neg h18_133) (Eq.trans (if_neg h18_136) (Eq.trans (if_neg h18_138) (Eq.trans (if_neg h18_141) (Eq.trans (if_neg h18_142) (Eq.trans (if_pos h18_144) (rfl))))))))))))))))))))))), w, lv_sub hl [0] rfl⟩
      · refine lv_if_ne (pc := 945) F.1 F.2.1 d_Pr_perform_945 (tgt := 952) (by decide) (fun h945 => ?_) (fun h945 => ?_)
        · refine lv_iconst (pc := 952) (v := 0) F.1 F.2.1 d_Pr_perform_952 (by decide) ?_
          exact k945 0 _ _ _ ⟨(by exact Eq.symm (Eq.trans (if_neg h945) (rfl))), w, lv_sub hl [0] rfl⟩
        · refine lv_iconst (pc := 948) (v := 1) F.1 F.2.1 d_Pr_perform_948 (by decide) ?_
          refine lv_goto (pc := 949) F.1 F.2.1 d_Pr_perform_949 (tgt := 953) (by decide) ?_
          exact k945 1 _ _ _ ⟨(by exact Eq.symm (Eq.trans (if_pos h945) (rfl))), w, lv_sub hl [0] rfl⟩
    by_cases h18_157 : (s1 9 11) = 157
    · refine lv_lookup (pc := 18) F.1 F.2.1 d_Pr_perform_18 (by decide) (off := 528) (tgt := 546) (by rw [h18_157]; decide) (by decide) ?_
      refine lv_aload_n (pc := 546) F.1 F.2.1 d_Pr_perform_546 rfl (lv_at hl 0 rfl) ?_
      refine gC9_0 (pc := 547) F w (F.2.2.2.2 _ m_272) d_Pr_perform_547 ?_
      refine lv_aload_n (pc := 550) F.1 F.2.1 d_Pr_perform_550 rfl (lv_at hl 0 rfl) ?_
      refine Cvi (pc := 551) (As := []) (rest := [.ref (ad 1)]) F w (c_Pr_nextAddress l D cI ad s1) 9 rfl rfl k_Pr_nextAddress m_657 (Nat.le_of_ble_eq_true rfl) (Nat.le_of_ble_eq_true rfl) ⟨rfl, rfl⟩ rfl hl.1 rfl (Nat.le_of_ble_eq_true rfl) d_Pr_perform_551 hcs (fun r63 s64 H locs e_r63 e_s64 w => ?_)
      have iIC_s64 : IC s64 := by rw [e_s64]; exact iIC_Pr_nextAddress iIC_s1 
      refine lv_aload_n (pc := 554) F.1 F.2.1 d_Pr_perform_554 rfl (lv_at hl 0 rfl) ?_
      refine gC9_3 (pc := 555) F w (F.2.2.2.2 _ m_277) d_Pr_perform_555 ?_
      refine lv_iadd (pc := 558) F.1 F.2.1 d_Pr_perform_558 ?_
      refine lv_aload_n (pc := 559) F.1 F.2.1 d_Pr_perform_559 rfl (lv_at hl 0 rfl) ?_
      refine gC9_2 (pc := 560) F w (F.2.2.2.2 _ m_275) d_Pr_perform_560 ?_
      refine Cvv (pc := 563) (As := [.int (r63 + (s64 9 3)), .int (s64 9 2)]) (rest := []) F w (c_Bd_store l D cI ad s64 (r63 + (s64 9 3)) (s64 9 2) iIC_s64) 1 rfl rfl k_Bd_store m_661 (Nat.le_of_ble_eq_true rfl) (Nat.le_of_ble_eq_true rfl) ⟨rfl, rfl⟩ rfl hl.1 rfl (Nat.le_of_ble_eq_true rfl) d_Pr_perform_563 hcs (fun s65 H locs e_s65 w => ?_)
      refine lv_goto (pc := 566) F.1 F.2.1 d_Pr_perform_566 (tgt := 1054) (by decide) ?_
      exact k18 s65 _ _ _ ⟨(by rw [e_s65, e_s64, e_r63]; exact Eq.symm (Eq.trans (if_neg h18_9) (Eq.trans (if_neg h18_16) (Eq.trans (if_neg h18_24) (Eq.trans (if_neg h18_32) (Eq.trans (if_neg h18_41) (Eq.trans (if_neg h18_48) (Eq.trans (if_neg h18_56) (Eq.trans (if_neg h18_64) (Eq.trans (if_neg h18_72) (Eq.trans (if_neg h18_73) (Eq.trans (if_neg h18_76) (Eq.trans (if_neg h18_96) (Eq.trans (if_neg h18_101) (Eq.trans (if_neg h18_104) (Eq.trans (if_neg h18_105) (Eq.trans (if_neg h18_133) (Eq.trans (if_neg h18_136) (Eq.trans (if_neg h18_138) (Eq.trans (if_neg h18_141) (Eq.trans (if_neg h18_142) (Eq.trans (if_neg h18_144) (Eq.trans (if_pos h18_157) (rfl)))))))))))))))))))))))), w, lv_sub hl [0] rfl⟩
    by_cases h18_160 : (s1 9 11) = 160
    · refine lv_lookup (pc := 18) F.1 F.2.1 d_Pr_perform_18 (by decide) (off := 477) (tgt := 495) (by rw [h18_160]; decide) (by decide) ?_
      refine lv_aload_n (pc := 495) F.1 F.2.1 d_Pr_perform_495 rfl (lv_at hl 0 rfl) ?_
      refine lv_aload_n (pc := 496) F.1 F.2.1 d_Pr_perform_496 rfl (lv_at hl 0 rfl) ?_
      refine lv_aload_n (pc := 497) F.1 F.2.1 d_Pr_perform_497 rfl (lv_at hl 0 rfl) ?_
      refine Cvi (pc := 498) (As := []) (rest := [.ref (ad 9), .ref (ad 9)]) F w (c_Pr_nextByte l D cI ad s1) 9 rfl rfl k_Pr_nextByte m_649 (Nat.le_of_ble_eq_true rfl) (Nat.le_of_ble_eq_true rfl) ⟨rfl, rfl⟩ rfl hl.1 rfl (Nat.le_of_ble_eq_true rfl) d_Pr_perform_498 hcs (fun r66 s67 H locs e_r66 e_s67 w => ?_)
      have iIC_s67 : IC s67 := by rw [e_s67]; exact iIC_Pr_nextByte iIC_s1 
      refine Cvi (pc := 501) (As := [.int r66]) (rest := [.ref (ad 9)]) F w (c_Pr_result l D cI ad s67 r66) 9 rfl rfl k_Pr_result m_653 (Nat.le_of_ble_eq_true rfl) (Nat.le_of_ble_eq_true rfl) ⟨rfl, rfl⟩ rfl hl.1 rfl (Nat.le_of_ble_eq_true rfl) d_Pr_perform_501 hcs (fun r68 s69 H locs e_r68 e_s69 w => ?_)
      refine pC9_4 (pc := 504) F w (F.2.2.2.2 _ m_279) d_Pr_perform_504 (fun H locs s70 e_s70 w => ?_)
      refine lv_goto (pc := 507) F.1 F.2.1 d_Pr_perform_507 (tgt := 1054) (by decide) ?_
      exact k18 s70 _ _ _ ⟨(by rw [e_s70, e_s69, e_r68, e_s67, e_r66]; exact Eq.symm (Eq.trans (if_neg h18_9) (Eq.trans (if_neg h18_16) (Eq.trans (if_neg h18_24) (Eq.trans (if_neg h18_32) (Eq.trans (if_neg h18_41) (Eq.trans (if_neg h18_48) (Eq.trans (if_neg h18_56) (Eq.trans (if_neg h18_64) (Eq.trans (if_neg h18_72) (Eq.trans (if_neg h18_73) (Eq.trans (if_neg h18_76) (Eq.trans (if_neg h18_96) (Eq.trans (if_neg h18_101) (Eq.trans (if_neg h18_104) (Eq.trans (if_neg h18_105) (Eq.trans (if_neg h18_133) (Eq.trans (if_neg h18_136) (Eq.trans (if_neg h18_138) (Eq.trans (if_neg h18_141) (Eq.trans (if_neg h18_142) (Eq.trans (if_neg h18_144) (Eq.trans (if_neg h18_157) (Eq.trans (if_pos h18_160) (rfl))))))))))))))))))))))))), w, lv_sub hl [0] rfl⟩
    by_cases h18_162 : (s1 9 11) = 162
    · refine lv_lookup (pc := 18) F.1 F.2.1 d_Pr_perform_18 (by decide) (off := 440) (tgt := 458) (by rw [h18_162]; decide) (by decide) ?_
      refine lv_aload_n (pc := 458) F.1 F.2.1 d_Pr_perform_458 rfl (lv_at hl 0 rfl) ?_
      refine lv_aload_n (pc := 459) F.1 F.2.1 d_Pr_perform_459 rfl (lv_at hl 0 rfl) ?_
      refine lv_aload_n (pc := 460) F.1 F.2.1 d_Pr_perform_460 rfl (lv_at hl 0 rfl) ?_
      refine Cvi (pc := 461) (As := []) (rest := [.ref (ad 9), .ref (ad 9)]) F w (c_Pr_nextByte l D cI ad s1) 9 rfl rfl k_Pr_nextByte m_649 (Nat.le_of_ble_eq_true rfl) (Nat.le_of_ble_eq_true rfl) ⟨rfl, rfl⟩ rfl hl.1 rfl (Nat.le_of_ble_eq_true rfl) d_Pr_perform_461 hcs (fun r71 s72 H locs e_r71 e_s72 w => ?_)
      have iIC_s72 : IC s72 := by rw [e_s72]; exact iIC_Pr_nextByte iIC_s1 
      refine Cvi (pc := 464) (As := [.int r71]) (rest := [.ref (ad 9)]) F w (c_Pr_result l D cI ad s72 r71) 9 rfl rfl k_Pr_result m_653 (Nat.le_of_ble_eq_true rfl) (Nat.le_of_ble_eq_true rfl) ⟨rfl, rfl⟩ rfl hl.1 rfl (Nat.le_of_ble_eq_true rfl) d_Pr_perform_464 hcs (fun r73 s74 H locs e_r73 e_s74 w => ?_)
      refine pC9_3 (pc := 467) F w (F.2.2.2.2 _ m_277) d_Pr_perform_467 (fun H locs s75 e_s75 w => ?_)
      refine lv_goto (pc := 470) F.1 F.2.1 d_Pr_perform_470 (tgt := 1054) (by decide) ?_
      exact k18 s75 _ _ _ ⟨(by rw [e_s75, e_s74, e_r73, e_s72, e_r71]; exact Eq.symm (Eq.trans (if_neg h18_9) (Eq.trans (if_neg h18_16) (Eq.trans (if_neg h18_24) (Eq.trans (if_neg h18_32) (Eq.trans (if_neg h18_41) (Eq.trans (if_neg h18_48) (Eq.trans (if_neg h18_56) (Eq.trans (if_neg h18_64) (Eq.trans (if_neg h18_72) (Eq.trans (if_neg h18_73) (Eq.trans (if_neg h18_76) (Eq.trans (if_neg h18_96) (Eq.trans (if_neg h18_101) (Eq.trans (if_neg h18_104) (Eq.trans (if_neg h18_105) (Eq.trans (if_neg h18_133) (Eq.trans (if_neg h18_136) (Eq.trans (if_neg h18_138) (Eq.trans (if_neg h18_141) (Eq.trans (if_neg h18_142) (Eq.trans (if_neg h18_144) (Eq.trans (if_neg h18_157) (Eq.trans (if_neg h18_160) (Eq.trans (if_pos h18_162) (rfl)))))))))))))))))))))))))), w, lv_sub hl [0] rfl⟩
    by_cases h18_165 : (s1 9 11) = 165
    · refine lv_lookup (pc := 18) F.1 F.2.1 d_Pr_perform_18 (by decide) (off := 369) (tgt := 387) (by rw [h18_165]; decide) (by decide) ?_
      refine lv_aload_n (pc := 387) F.1 F.2.1 d_Pr_perform_387 rfl (lv_at hl 0 rfl) ?_
      refine lv_aload_n (pc := 388) F.1 F.2.1 d_Pr_perform_388 rfl (lv_at hl 0 rfl) ?_
      refine lv_aload_n (pc := 389) F.1 F.2.1 d_Pr_perform_389 rfl (lv_at hl 0 rfl) ?_
      refine gC9_0 (pc := 390) F w (F.2.2.2.2 _ m_272) d_Pr_perform_390 ?_
      refine lv_aload_n (pc := 393) F.1 F.2.1 d_Pr_perform_393 rfl (lv_at hl 0 rfl) ?_
      refine Cvi (pc := 394) (As := []) (rest := [.ref (ad 1), .ref (ad 9), .ref (ad 9)]) F w (c_Pr_nextByte l D cI ad s1) 9 rfl rfl k_Pr_nextByte m_649 (Nat.le_of_ble_eq_true rfl) (Nat.le_of_ble_eq_true rfl) ⟨rfl, rfl⟩ rfl hl.1 rfl (Nat.le_of_ble_eq_true rfl) d_Pr_perform_394 hcs (fun r76 s77 H locs e_r76 e_s77 w => ?_)
      have iIC_s77 : IC s77 := by rw [e_s77]; exact iIC_Pr_nextByte iIC_s1 
      refine Cvi (pc := 397) (As := [.int r76]) (rest := [.ref (ad 9), .ref (ad 9)]) F w (c_Bd_load l D cI ad s77 r76) 1 rfl rfl k_Bd_load m_614 (Nat.le_of_ble_eq_true rfl) (Nat.le_of_ble_eq_true rfl) ⟨rfl, rfl⟩ rfl hl.1 rfl (Nat.le_of_ble_eq_true rfl) d_Pr_perform_397 hcs (fun r78 s79 H locs e_r78 e_s79 w => ?_)
      have iIC_s79 : IC s79 := by rw [e_s79]; exact iIC_Bd_load iIC_s77 r76
      refine Cvi (pc := 400) (As := [.int r78]) (rest := [.ref (ad 9)]) F w (c_Pr_result l D cI ad s79 r78) 9 rfl rfl k_Pr_result m_653 (Nat.le_of_ble_eq_true rfl) (Nat.le_of_ble_eq_true rfl) ⟨rfl, rfl⟩ rfl hl.1 rfl (Nat.le_of_ble_eq_true rfl) d_Pr_perform_400 hcs (fun r80 s81 H locs e_r80 e_s81 w => ?_)
      refine pC9_2 (pc := 403) F w (F.2.2.2.2 _ m_275) d_Pr_perform_403 (fun H locs s82 e_s82 w => ?_)
      refine lv_goto (pc := 406) F.1 F.2.1 d_Pr_perform_406 (tgt := 1054) (by decide) ?_
      exact k18 s82 _ _ _ ⟨(by rw [e_s82, e_s81, e_r80, e_s79, e_r78, e_s77, e_r76]; exact Eq.symm (Eq.trans (if_neg h18_9) (Eq.trans (if_neg h18_16) (Eq.trans (if_neg h18_24) (Eq.trans (if_neg h18_32) (Eq.trans (if_neg h18_41) (Eq.trans (if_neg h18_48) (Eq.trans (if_neg h18_56) (Eq.trans (if_neg h18_64) (Eq.trans (if_neg h18_72) (Eq.trans (if_neg h18_73) (Eq.trans (if_neg h18_76) (Eq.trans (if_neg h18_96) (Eq.trans (if_neg h18_101) (Eq.trans (if_neg h18_104) (Eq.trans (if_neg h18_105) (Eq.trans (if_neg h18_133) (Eq.trans (if_neg h18_136) (Eq.trans (if_neg h18_138) (Eq.trans (if_neg h18_141) (Eq.trans (if_neg h18_142) (Eq.trans (if_neg h18_144) (Eq.trans (if_neg h18_157) (Eq.trans (if_neg h18_160) (Eq.trans (if_neg h18_162) (Eq.trans (if_pos h18_165) (rfl))))))))))))))))))))))))))), w, lv_sub hl [0] rfl⟩
    by_cases h18_166 : (s1 9 11) = 166
    · refine lv_lookup (pc := 18) F.1 F.2.1 d_Pr_perform_18 (by decide) (off := 455) (tgt := 473) (by rw [h18_166]; decide) (by decide) ?_
      refine lv_aload_n (pc := 473) F.1 F.2.1 d_Pr_perform_473 rfl (lv_at hl 0 rfl) ?_
      refine lv_aload_n (pc := 474) F.1 F.2.1 d_Pr_perform_474 rfl (lv_at hl 0 rfl) ?_
      refine lv_aload_n (pc := 475) F.1 F.2.1 d_Pr_perform_475 rfl (lv_at hl 0 rfl) ?_
      refine gC9_0 (pc := 476) F w (F.2.2.2.2 _ m_272) d_Pr_perform_476 ?_
      refine lv_aload_n (pc := 479) F.1 F.2.1 d_Pr_perform_479 rfl (lv_at hl 0 rfl) ?_
      refine Cvi (pc := 480) (As := []) (rest := [.ref (ad 1), .ref (ad 9), .ref (ad 9)]) F w (c_Pr_nextByte l D cI ad s1) 9 rfl rfl k_Pr_nextByte m_649 (Nat.le_of_ble_eq_true rfl) (Nat.le_of_ble_eq_true rfl) ⟨rfl, rfl⟩ rfl hl.1 rfl (Nat.le_of_ble_eq_true rfl) d_Pr_perform_480 hcs (fun r83 s84 H locs e_r83 e_s84 w => ?_)
      have iIC_s84 : IC s84 := by rw [e_s84]; exact iIC_Pr_nextByte iIC_s1 
      refine Cvi (pc := 483) (As := [.int r83]) (rest := [.ref (ad 9), .ref (ad 9)]) F w (c_Bd_load l D cI ad s84 r83) 1 rfl rfl k_Bd_load m_614 (Nat.le_of_ble_eq_true rfl) (Nat.le_of_ble_eq_true rfl) ⟨rfl, rfl⟩ rfl hl.1 rfl (Nat.le_of_ble_eq_true rfl) d_Pr_perform_483 hcs (fun r85 s86 H locs e_r85 e_s86 w => ?_)
      have iIC_s86 : IC s86 := by rw [e_s86]; exact iIC_Bd_load iIC_s84 r83
      refine Cvi (pc := 486) (As := [.int r85]) (rest := [.ref (ad 9)]) F w (c_Pr_result l D cI ad s86 r85) 9 rfl rfl k_Pr_result m_653 (Nat.le_of_ble_eq_true rfl) (Nat.le_of_ble_eq_true rfl) ⟨rfl, rfl⟩ rfl hl.1 rfl (Nat.le_of_ble_eq_true rfl) d_Pr_perform_486 hcs (fun r87 s88 H locs e_r87 e_s88 w => ?_)
      refine pC9_3 (pc := 489) F w (F.2.2.2.2 _ m_277) d_Pr_perform_489 (fun H locs s89 e_s89 w => ?_)
      refine lv_goto (pc := 492) F.1 F.2.1 d_Pr_perform_492 (tgt := 1054) (by decide) ?_
      exact k18 s89 _ _ _ ⟨(by rw [e_s89, e_s88, e_r87, e_s86, e_r85, e_s84, e_r83]; exact Eq.symm (Eq.trans (if_neg h18_9) (Eq.trans (if_neg h18_16) (Eq.trans (if_neg h18_24) (Eq.trans (if_neg h18_32) (Eq.trans (if_neg h18_41) (Eq.trans (if_neg h18_48) (Eq.trans (if_neg h18_56) (Eq.trans (if_neg h18_64) (Eq.trans (if_neg h18_72) (Eq.trans (if_neg h18_73) (Eq.trans (if_neg h18_76) (Eq.trans (if_neg h18_96) (Eq.trans (if_neg h18_101) (Eq.trans (if_neg h18_104) (Eq.trans (if_neg h18_105) (Eq.trans (if_neg h18_133) (Eq.trans (if_neg h18_136) (Eq.trans (if_neg h18_138) (Eq.trans (if_neg h18_141) (Eq.trans (if_neg h18_142) (Eq.trans (if_neg h18_144) (Eq.trans (if_neg h18_157) (Eq.trans (if_neg h18_160) (Eq.trans (if_neg h18_162) (Eq.trans (if_neg h18_165) (Eq.trans (if_pos h18_166) (rfl)))))))))))))))))))))))))))), w, lv_sub hl [0] rfl⟩
    by_cases h18_169 : (s1 9 11) = 169
    · refine lv_lookup (pc := 18) F.1 F.2.1 d_Pr_perform_18 (by decide) (off := 354) (tgt := 372) (by rw [h18_169]; decide) (by decide) ?_
      refine lv_aload_n (pc := 372) F.1 F.2.1 d_Pr_perform_372 rfl (lv_at hl 0 rfl) ?_
      refine lv_aload_n (pc := 373) F.1 F.2.1 d_Pr_perform_373 rfl (lv_at hl 0 rfl) ?_
      refine lv_aload_n (pc := 374) F.1 F.2.1 d_Pr_perform_374 rfl (lv_at hl 0 rfl) ?_
      refine Cvi (pc := 375) (As := []) (rest := [.ref (ad 9), .ref (ad 9)]) F w (c_Pr_nextByte l D cI ad s1) 9 rfl rfl k_Pr_nextByte m_649 (Nat.le_of_ble_eq_true rfl) (Nat.le_of_ble_eq_true rfl) ⟨rfl, rfl⟩ rfl hl.1 rfl (Nat.le_of_ble_eq_true rfl) d_Pr_perform_375 hcs (fun r90 s91 H locs e_r90 e_s91 w => ?_)
      have iIC_s91 : IC s91 := by rw [e_s91]; exact iIC_Pr_nextByte iIC_s1 
      refine Cvi (pc := 378) (As := [.int r90]) (rest := [.ref (ad 9)]) F w (c_Pr_result l D cI ad s91 r90) 9 rfl rfl k_Pr_result m_653 (Nat.le_of_ble_eq_true rfl) (Nat.le_of_ble_eq_true rfl) ⟨rfl, rfl⟩ rfl hl.1 rfl (Nat.le_of_ble_eq_true rfl) d_Pr_perform_378 hcs (fun r92 s93 H locs e_r92 e_s93 w => ?_)
      refine pC9_2 (pc := 381) F w (F.2.2.2.2 _ m_275) d_Pr_perform_381 (fun H locs s94 e_s94 w => ?_)
      refine lv_goto (pc := 384) F.1 F.2.1 d_Pr_perform_384 (tgt := 1054) (by decide) ?_
      exact k18 s94 _ _ _ ⟨(by rw [e_s94, e_s93, e_r92, e_s91, e_r90]; exact Eq.symm (Eq.trans (if_neg h18_9) (Eq.trans (if_neg h18_16) (Eq.trans (if_neg h18_24) (Eq.trans (if_neg h18_32) (Eq.trans (if_neg h18_41) (Eq.trans (if_neg h18_48) (Eq.trans (if_neg h18_56) (Eq.trans (if_neg h18_64) (Eq.trans (if_neg h18_72) (Eq.trans (if_neg h18_73) (Eq.trans (if_neg h18_76) (Eq.trans (if_neg h18_96) (Eq.trans (if_neg h18_101) (Eq.trans (if_neg h18_104) (Eq.trans (if_neg h18_105) (Eq.trans (if_neg h18_133) (Eq.trans (if_neg h18_136) (Eq.trans (if_neg h18_138) (Eq.trans (if_neg h18_141) (Eq.trans (if_neg h18_142) (Eq.trans (if_neg h18_144) (Eq.trans (if_neg h18_157) (Eq.trans (if_neg h18_160) (Eq.trans (if_neg h18_162) (Eq.trans (if_neg h18_165) (Eq.trans (if_neg h18_166) (Eq.trans (if_pos h18_169) (rfl))))))))))))))))))))))))))))), w, lv_sub hl [0] rfl⟩
    by_cases h18_170 : (s1 9 11) = 170
    · refine lv_lookup (pc := 18) F.1 F.2.1 d_Pr_perform_18 (by decide) (off := 817) (tgt := 835) (by rw [h18_170]; decide) (by decide) ?_
      refine lv_aload_n (pc := 835) F.1 F.2.1 d_Pr_perform_835 rfl (lv_at hl 0 rfl) ?_
      refine lv_aload_n (pc := 836) F.1 F.2.1 d_Pr_perform_836 rfl (lv_at hl 0 rfl) ?_
      refine lv_aload_n (pc := 837) F.1 F.2.1 d_Pr_perform_837 rfl (lv_at hl 0 rfl) ?_
      refine gC9_2 (pc := 838) F w (F.2.2.2.2 _ m_275) d_Pr_perform_838 ?_
      refine Cvi (pc := 841) (As := [.int (s1 9 2)]) (rest := [.ref (ad 9)]) F w (c_Pr_result l D cI ad s1 (s1 9 2)) 9 rfl rfl k_Pr_result m_653 (Nat.le_of_ble_eq_true rfl) (Nat.le_of_ble_eq_true rfl) ⟨rfl, rfl⟩ rfl hl.1 rfl (Nat.le_of_ble_eq_true rfl) d_Pr_perform_841 hcs (fun r95 s96 H locs e_r95 e_s96 w => ?_)
      refine pC9_3 (pc := 844) F w (F.2.2.2.2 _ m_277) d_Pr_perform_844 (fun H locs s97 e_s97 w => ?_)
      refine lv_goto (pc := 847) F.1 F.2.1 d_Pr_perform_847 (tgt := 1054) (by decide) ?_
      exact k18 s97 _ _ _ ⟨(by rw [e_s97, e_s96, e_r95]; exact Eq.symm (Eq.trans (if_neg h18_9) (Eq.trans (if_neg h18_16) (Eq.trans (if_neg h18_24) (Eq.trans (if_neg h18_32) (Eq.trans (if_neg h18_41) (Eq.trans (if_neg h18_48) (Eq.trans (if_neg h18_56) (Eq.trans (if_neg h18_64) (Eq.trans (if_neg h18_72) (Eq.trans (if_neg h18_73) (Eq.trans (if_neg h18_76) (Eq.trans (if_neg h18_96) (Eq.trans (if_neg h18_101) (Eq.trans (if_neg h18_104) (Eq.trans (if_neg h18_105) (Eq.trans (if_neg h18_133) (Eq.trans (if_neg h18_136) (Eq.trans (if_neg h18_138) (Eq.trans (if_neg h18_141) (Eq.trans (if_neg h18_142) (Eq.trans (if_neg h18_144) (Eq.trans (if_neg h18_157) (Eq.trans (if_neg h18_160) (Eq.trans (if_neg h18_162) (Eq.trans (if_neg h18_165) (Eq.trans (if_neg h18_166) (Eq.trans (if_neg h18_169) (Eq.trans (if_pos h18_170) (rfl)))))))))))))))))))))))))))))), w, lv_sub hl [0] rfl⟩
    by_cases h18_173 : (s1 9 11) = 173
    · refine lv_lookup (pc := 18) F.1 F.2.1 d_Pr_perform_18 (by decide) (off := 391) (tgt := 409) (by rw [h18_173]; decide) (by decide) ?_
      refine lv_aload_n (pc := 409) F.1 F.2.1 d_Pr_perform_409 rfl (lv_at hl 0 rfl) ?_
      refine lv_aload_n (pc := 410) F.1 F.2.1 d_Pr_perform_410 rfl (lv_at hl 0 rfl) ?_
      refine lv_aload_n (pc := 411) F.1 F.2.1 d_Pr_perform_411 rfl (lv_at hl 0 rfl) ?_
      refine gC9_0 (pc := 412) F w (F.2.2.2.2 _ m_272) d_Pr_perform_412 ?_
      refine lv_aload_n (pc := 415) F.1 F.2.1 d_Pr_perform_415 rfl (lv_at hl 0 rfl) ?_
      refine Cvi (pc := 416) (As := []) (rest := [.ref (ad 1), .ref (ad 9), .ref (ad 9)]) F w (c_Pr_nextAddress l D cI ad s1) 9 rfl rfl k_Pr_nextAddress m_657 (Nat.le_of_ble_eq_true rfl) (Nat.le_of_ble_eq_true rfl) ⟨rfl, rfl⟩ rfl hl.1 rfl (Nat.le_of_ble_eq_true rfl) d_Pr_perform_416 hcs (fun r98 s99 H locs e_r98 e_s99 w => ?_)
      have iIC_s99 : IC s99 := by rw [e_s99]; exact iIC_Pr_nextAddress iIC_s1 
      refine Cvi (pc := 419) (As := [.int r98]) (rest := [.ref (ad 9), .ref (ad 9)]) F w (c_Bd_load l D cI ad s99 r98) 1 rfl rfl k_Bd_load m_614 (Nat.le_of_ble_eq_true rfl) (Nat.le_of_ble_eq_true rfl) ⟨rfl, rfl⟩ rfl hl.1 rfl (Nat.le_of_ble_eq_true rfl) d_Pr_perform_419 hcs (fun r100 s101 H locs e_r100 e_s101 w => ?_)
      have iIC_s101 : IC s101 := by rw [e_s101]; exact iIC_Bd_load iIC_s99 r98
      refine Cvi (pc := 422) (As := [.int r100]) (rest := [.ref (ad 9)]) F w (c_Pr_result l D cI ad s101 r100) 9 rfl rfl k_Pr_result m_653 (Nat.le_of_ble_eq_true rfl) (Nat.le_of_ble_eq_true rfl) ⟨rfl, rfl⟩ rfl hl.1 rfl (Nat.le_of_ble_eq_true rfl) d_Pr_perform_422 hcs (fun r102 s103 H locs e_r102 e_s103 w => ?_)
      refine pC9_2 (pc := 425) F w (F.2.2.2.2 _ m_275) d_Pr_perform_425 (fun H locs s104 e_s104 w => ?_)
      refine lv_goto (pc := 428) F.1 F.2.1 d_Pr_perform_428 (tgt := 1054) (by decide) ?_
      exact k18 s104 _ _ _ ⟨(by rw [e_s104, e_s103, e_r102, e_s101, e_r100, e_s99, e_r98]; exact Eq.symm (Eq.trans (if_neg h18_9) (Eq.trans (if_neg h18_16) (Eq.trans (if_neg h18_24) (Eq.trans (if_neg h18_32) (Eq.trans (if_neg h18_41) (Eq.trans (if_neg h18_48) (Eq.trans (if_neg h18_56) (Eq.trans (if_neg h18_64) (Eq.trans (if_neg h18_72) (Eq.trans (if_neg h18_73) (Eq.trans (if_neg h18_76) (Eq.trans (if_neg h18_96) (Eq.trans (if_neg h18_101) (Eq.trans (if_neg h18_104) (Eq.trans (if_neg h18_105) (Eq.trans (if_neg h18_133) (Eq.trans (if_neg h18_136) (Eq.trans (if_neg h18_138) (Eq.trans (if_neg h18_141) (Eq.trans (if_neg h18_142) (Eq.trans (if_neg h18_144) (Eq.trans (if_neg h18_157) (Eq.trans (if_neg h18_160) (Eq.trans (if_neg h18_162) (Eq.trans (if_neg h18_165) (Eq.trans (if_neg h18_166) (Eq.trans (if_neg h18_169) (Eq.trans (if_neg h18_170) (Eq.trans (if_pos h18_173) (rfl))))))))))))))))))))))))))))))), w, lv_sub hl [0] rfl⟩
    by_cases h18_176 : (s1 9 11) = 176
    · refine lv_lookup (pc := 18) F.1 F.2.1 d_Pr_perform_18 (by decide) (off := 941) (tgt := 959) (by rw [h18_176]; decide) (by decide) ?_
      refine lv_aload_n (pc := 959) F.1 F.2.1 d_Pr_perform_959 rfl (lv_at hl 0 rfl) ?_
      refine lv_aload_n (pc := 960) F.1 F.2.1 d_Pr_perform_960 rfl (lv_at hl 0 rfl) ?_
      refine gC9_8 (pc := 961) F w (F.2.2.2.2 _ m_285) d_Pr_perform_961 ?_
      refine Cvv (pc := 964) (As := [.int (s1 9 8)]) (rest := []) F w (c_Pr_branchIf l D cI ad s1 (s1 9 8)) 9 rfl rfl k_Pr_branchIf m_678 (Nat.le_of_ble_eq_true rfl) (Nat.le_of_ble_eq_true rfl) ⟨rfl, rfl⟩ rfl hl.1 rfl (Nat.le_of_ble_eq_true rfl) d_Pr_perform_964 hcs (fun s105 H locs e_s105 w => ?_)
      refine lv_goto (pc := 967) F.1 F.2.1 d_Pr_perform_967 (tgt := 1054) (by decide) ?_
      exact k18 s105 _ _ _ ⟨(by rw [e_s105]; exact Eq.symm (Eq.trans (if_neg h18_9) (Eq.trans (if_neg h18_16) (Eq.trans (if_neg h18_24) (Eq.trans (if_neg h18_32) (Eq.trans (if_neg h18_41) (Eq.trans (if_neg h18_48) (Eq.trans (if_neg h18_56) (Eq.trans (if_neg h18_64) (Eq.trans (if_neg h18_72) (Eq.trans (if_neg h18_73) (Eq.trans (if_neg h18_76) (Eq.trans (if_neg h18_96) (Eq.trans (if_neg h18_101) (Eq.trans (if_neg h18_104) (Eq.trans (if_neg h18_105) (Eq.trans (if_neg h18_133) (Eq.trans (if_neg h18_136) (Eq.trans (if_neg h18_138) (Eq.trans (if_neg h18_141) (Eq.trans (if_neg h18_142) (Eq.trans (if_neg h18_144) (Eq.trans (if_neg h18_157) (Eq.trans (if_neg h18_160) (Eq.trans (if_neg h18_162) (Eq.trans (if_neg h18_165) (Eq.trans (if_neg h18_166) (Eq.trans (if_neg h18_169) (Eq.trans (if_neg h18_170) (Eq.trans (if_neg h18_173) (Eq.trans (if_pos h18_176) (rfl)))))))))))))))))))))))))))))))), w, lv_sub hl [0] rfl⟩
    by_cases h18_189 : (s1 9 11) = 189
    · refine lv_lookup (pc := 18) F.1 F.2.1 d_Pr_perform_18 (by decide) (off := 413) (tgt := 431) (by rw [h18_189]; decide) (by decide) ?_
      refine lv_aload_n (pc := 431) F.1 F.2.1 d_Pr_perform_431 rfl (lv_at hl 0 rfl) ?_
      refine lv_aload_n (pc := 432) F.1 F.2.1 d_Pr_perform_432 rfl (lv_at hl 0 rfl) ?_
      refine lv_aload_n (pc := 433) F.1 F.2.1 d_Pr_perform_433 rfl (lv_at hl 0 rfl) ?_
      refine gC9_0 (pc := 434) F w (F.2.2.2.2 _ m_272) d_Pr_perform_434 ?_
      refine lv_aload_n (pc := 437) F.1 F.2.1 d_Pr_perform_437 rfl (lv_at hl 0 rfl) ?_
      refine Cvi (pc := 438) (As := []) (rest := [.ref (ad 1), .ref (ad 9), .ref (ad 9)]) F w (c_Pr_nextAddress l D cI ad s1) 9 rfl rfl k_Pr_nextAddress m_657 (Nat.le_of_ble_eq_true rfl) (Nat.le_of_ble_eq_true rfl) ⟨rfl, rfl⟩ rfl hl.1 rfl (Nat.le_of_ble_eq_true rfl) d_Pr_perform_438 hcs (fun r106 s107 H locs e_r106 e_s107 w => ?_)
      have iIC_s107 : IC s107 := by rw [e_s107]; exact iIC_Pr_nextAddress iIC_s1 
      refine lv_aload_n (pc := 441) F.1 F.2.1 d_Pr_perform_441 rfl (lv_at hl 0 rfl) ?_
      refine gC9_3 (pc := 442) F w (F.2.2.2.2 _ m_277) d_Pr_perform_442 ?_
      refine lv_iadd (pc := 445) F.1 F.2.1 d_Pr_perform_445 ?_
      refine Cvi (pc := 446) (As := [.int (r106 + (s107 9 3))]) (rest := [.ref (ad 9), .ref (ad 9)]) F w (c_Bd_load l D cI ad s107 (r106 + (s107 9 3))) 1 rfl rfl k_Bd_load m_614 (Nat.le_of_ble_eq_true rfl) (Nat.le_of_ble_eq_true rfl) ⟨rfl, rfl⟩ rfl hl.1 rfl (Nat.le_of_ble_eq_true rfl) d_Pr_perform_446 hcs (fun r108 s109 H locs e_r108 e_s109 w => ?_)
      have iIC_s109 : IC s109 := by rw [e_s109]; exact iIC_Bd_load iIC_s107 (r106 + (s107 9 3))
      refine Cvi (pc := 449) (As := [.int r108]) (rest := [.ref (ad 9)]) F w (c_Pr_result l D cI ad s109 r108) 9 rfl rfl k_Pr_result m_653 (Nat.le_of_ble_eq_true rfl) (Nat.le_of_ble_eq_true rfl) ⟨rfl, rfl⟩ rfl hl.1 rfl (Nat.le_of_ble_eq_true rfl) d_Pr_perform_449 hcs (fun r110 s111 H locs e_r110 e_s111 w => ?_)
      refine pC9_2 (pc := 452) F w (F.2.2.2.2 _ m_275) d_Pr_perform_452 (fun H locs s112 e_s112 w => ?_)
      refine lv_goto (pc := 455) F.1 F.2.1 d_Pr_perform_455 (tgt := 1054) (by decide) ?_
      exact k18 s112 _ _ _ ⟨(by rw [e_s112, e_s111, e_r110, e_s109, e_r108, e_s107, e_r106]; exact Eq.symm (Eq.trans (if_neg h18_9) (Eq.trans (if_neg h18_16) (Eq.trans (if_neg h18_24) (Eq.trans (if_neg h18_32) (Eq.trans (if_neg h18_41) (Eq.trans (if_neg h18_48) (Eq.trans (if_neg h18_56) (Eq.trans (if_neg h18_64) (Eq.trans (if_neg h18_72) (Eq.trans (if_neg h18_73) (Eq.trans (if_neg h18_76) (Eq.trans (if_neg h18_96) (Eq.trans (if_neg h18_101) (Eq.trans (if_neg h18_104) (Eq.trans (if_neg h18_105) (Eq.trans (if_neg h18_133) (Eq.trans (if_neg h18_136) (Eq.trans (if_neg h18_138) (Eq.trans (if_neg h18_141) (Eq.trans (if_neg h18_142) (Eq.trans (if_neg h18_144) (Eq.trans (if_neg h18_157) (Eq.trans (if_neg h18_160) (Eq.trans (if_neg h18_162) (Eq.trans (if_neg h18_165) (Eq.trans (if_neg h18_166) (Eq.trans (if_neg h18_169) (Eq.trans (if_neg h18_170) (Eq.trans (if_neg h18_173) (Eq.trans (if_neg h18_176) (Eq.trans (if_pos h18_189) (rfl))))))))))))))))))))))))))))))))), w, lv_sub hl [0] rfl⟩
    by_cases h18_197 : (s1 9 11) = 197
    · refine lv_lookup (pc := 18) F.1 F.2.1 d_Pr_perform_18 (by decide) (off := 688) (tgt := 706) (by rw [h18_197]; decide) (by decide) ?_
      refine lv_aload_n (pc := 706) F.1 F.2.1 d_Pr_perform_706 rfl (lv_at hl 0 rfl) ?_
      refine lv_aload_n (pc := 707) F.1 F.2.1 d_Pr_perform_707 rfl (lv_at hl 0 rfl) ?_
      refine gC9_2 (pc := 708) F w (F.2.2.2.2 _ m_275) d_Pr_perform_708 ?_
      refine lv_aload_n (pc := 711) F.1 F.2.1 d_Pr_perform_711 rfl (lv_at hl 0 rfl) ?_
      refine gC9_0 (pc := 712) F w (F.2.2.2.2 _ m_272) d_Pr_perform_712 ?_
      refine lv_aload_n (pc := 715) F.1 F.2.1 d_Pr_perform_715 rfl (lv_at hl 0 rfl) ?_
      refine Cvi (pc := 716) (As := []) (rest := [.ref (ad 1), .int (s1 9 2), .ref (ad 9)]) F w (c_Pr_nextByte l D cI ad s1) 9 rfl rfl k_Pr_nextByte m_649 (Nat.le_of_ble_eq_true rfl) (Nat.le_of_ble_eq_true rfl) ⟨rfl, rfl⟩ rfl hl.1 rfl (Nat.le_of_ble_eq_true rfl) d_Pr_perform_716 hcs (fun r113 s114 H locs e_r113 e_s114 w => ?_)
      have iIC_s114 : IC s114 := by rw [e_s114]; exact iIC_Pr_nextByte iIC_s1 
      refine Cvi (pc := 719) (As := [.int r113]) (rest := [.int (s1 9 2), .ref (ad 9)]) F w (c_Bd_load l D cI ad s114 r113) 1 rfl rfl k_Bd_load m_614 (Nat.le_of_ble_eq_true rfl) (Nat.le_of_ble_eq_true rfl) ⟨rfl, rfl⟩ rfl hl.1 rfl (Nat.le_of_ble_eq_true rfl) d_Pr_perform_719 hcs (fun r115 s116 H locs e_r115 e_s116 w => ?_)
      have iIC_s116 : IC s116 := by rw [e_s116]; exact iIC_Bd_load iIC_s114 r113
      refine Cvv (pc := 722) (As := [.int (s1 9 2), .int r115]) (rest := []) F w (c_Pr_compare l D cI ad s116 (s1 9 2) r115) 9 rfl rfl k_Pr_compare m_666 (Nat.le_of_ble_eq_true rfl) (Nat.le_of_ble_eq_true rfl) ⟨rfl, rfl⟩ rfl hl.1 rfl (Nat.le_of_ble_eq_true rfl) d_Pr_perform_722 hcs (fun s117 H locs e_s117 w => ?_)
      refine lv_goto (pc := 725) F.1 F.2.1 d_Pr_perform_725 (tgt := 1054) (by decide) ?_
      exact k18 s117 _ _ _ ⟨(by rw [e_s117, e_s116, e_r115, e_s114, e_r113]; exact Eq.symm (Eq.trans (if_neg h18_9) (Eq.trans (if_neg h18_16) (Eq.trans (if_neg h18_24) (Eq.trans (if_neg h18_32) (Eq.trans (if_neg h18_41) (Eq.trans (if_neg h18_48) (Eq.trans (if_neg h18_56) (Eq.trans (if_neg h18_64) (Eq.trans (if_neg h18_72) (Eq.trans (if_neg h18_73) (Eq.trans (if_neg h18_76) (Eq.trans (if_neg h18_96) (Eq.trans (if_neg h18_101) (Eq.trans (if_neg h18_104) (Eq.trans (if_neg h18_105) (Eq.trans (if_neg h18_133) (Eq.trans (if_neg h18_136) (Eq.trans (if_neg h18_138) (Eq.trans (if_neg h18_141) (Eq.trans (if_neg h18_142) (Eq.trans (if_neg h18_144) (Eq.trans (if_neg h18_157) (Eq.trans (if_neg h18_160) (Eq.trans (if_neg h18_162) (Eq.trans (if_neg h18_165) (Eq.trans (if_neg h18_166) (Eq.trans (if_neg h18_169) (Eq.trans (if_neg h18_170) (Eq.trans (if_neg h18_173) (Eq.trans (if_neg h18_176) (Eq.trans (if_neg h18_189) (Eq.trans (if_pos h18_197) (rfl)))))))))))))))))))))))))))))))))), w, lv_sub hl [0] rfl⟩
    by_cases h18_198 : (s1 9 11) = 198
    · refine lv_lookup (pc := 18) F.1 F.2.1 d_Pr_perform_18 (by decide) (off := 737) (tgt := 755) (by rw [h18_198]; decide) (by decide) ?_
      refine lv_aload_n (pc := 755) F.1 F.2.1 d_Pr_perform_755 rfl (lv_at hl 0 rfl) ?_
      refine lv_aload_n (pc := 756) F.1 F.2.1 d_Pr_perform_756 rfl (lv_at hl 0 rfl) ?_
      refine Cvi (pc := 757) (As := []) (rest := [.ref (ad 9)]) F w (c_Pr_nextByte l D cI ad s1) 9 rfl rfl k_Pr_nextByte m_649 (Nat.le_of_ble_eq_true rfl) (Nat.le_of_ble_eq_true rfl) ⟨rfl, rfl⟩ rfl hl.1 rfl (Nat.le_of_ble_eq_true rfl) d_Pr_perform_757 hcs (fun r118 s119 H locs e_r118 e_s119 w => ?_)
      have iIC_s119 : IC s119 := by rw [e_s119]; exact iIC_Pr_nextByte iIC_s1 
      refine lv_iconst (pc := 760) (v := (-1)) F.1 F.2.1 d_Pr_perform_760 (by decide) ?_
      refine Cvv (pc := 761) (As := [.int r118, .int (-1)]) (rest := []) F w (c_Pr_change l D cI ad s119 r118 (-1)) 9 rfl rfl k_Pr_change m_670 (Nat.le_of_ble_eq_true rfl) (Nat.le_of_ble_eq_true rfl) ⟨rfl, rfl⟩ rfl hl.1 rfl (Nat.le_of_ble_eq_true rfl) d_Pr_perform_761 hcs (fun s120 H locs e_s120 w => ?_)
      refine lv_goto (pc := 764) F.1 F.2.1 d_Pr_perform_764 (tgt := 1054) (by decide) ?_
      exact k18 s120 _ _ _ ⟨(by rw [e_s120, e_s119, e_r118]; exact Eq.symm (Eq.trans (if_neg h18_9) (Eq.trans (if_neg h18_16) (Eq.trans (if_neg h18_24) (Eq.trans (if_neg h18_32) (Eq.trans (if_neg h18_41) (Eq.trans (if_neg h18_48) (Eq.trans (if_neg h18_56) (Eq.trans (if_neg h18_64) (Eq.trans (if_neg h18_72) (Eq.trans (if_neg h18_73) (Eq.trans (if_neg h18_76) (Eq.trans (if_neg h18_96) (Eq.trans (if_neg h18_101) (Eq.trans (if_neg h18_104) (Eq.trans (if_neg h18_105) (Eq.trans (if_neg h18_133) (Eq.trans (if_neg h18_136) (Eq.trans (if_neg h18_138) (Eq.trans (if_neg h18_141) (Eq.trans (if_neg h18_142) (Eq.trans (if_neg h18_144) (Eq.trans (if_neg h18_157) (Eq.trans (if_neg h18_160) (Eq.trans (if_neg h18_162) (Eq.trans (if_neg h18_165) (Eq.trans (if_neg h18_166) (Eq.trans (if_neg h18_169) (Eq.trans (if_neg h18_170) (Eq.trans (if_neg h18_173) (Eq.trans (if_neg h18_176) (Eq.trans (if_neg h18_189) (Eq.trans (if_neg h18_197) (Eq.trans (if_pos h18_198) (rfl))))))))))))))))))))))))))))))))))), w, lv_sub hl [0] rfl⟩
    by_cases h18_200 : (s1 9 11) = 200
    · refine lv_lookup (pc := 18) F.1 F.2.1 d_Pr_perform_18 (by decide) (off := 783) (tgt := 801) (by rw [h18_200]; decide) (by decide) ?_
      refine lv_aload_n (pc := 801) F.1 F.2.1 d_Pr_perform_801 rfl (lv_at hl 0 rfl) ?_
      refine lv_aload_n (pc := 802) F.1 F.2.1 d_Pr_perform_802 rfl (lv_at hl 0 rfl) ?_
      refine lv_aload_n (pc := 803) F.1 F.2.1 d_Pr_perform_803 rfl (lv_at hl 0 rfl) ?_
      refine gC9_4 (pc := 804) F w (F.2.2.2.2 _ m_279) d_Pr_perform_804 ?_
      refine lv_iconst (pc := 807) (v := 1) F.1 F.2.1 d_Pr_perform_807 (by decide) ?_
      refine lv_iadd (pc := 808) F.1 F.2.1 d_Pr_perform_808 ?_
      refine Cvi (pc := 809) (As := [.int ((s1 9 4) + 1)]) (rest := [.ref (ad 9)]) F w (c_Pr_result l D cI ad s1 ((s1 9 4) + 1)) 9 rfl rfl k_Pr_result m_653 (Nat.le_of_ble_eq_true rfl) (Nat.le_of_ble_eq_true rfl) ⟨rfl, rfl⟩ rfl hl.1 rfl (Nat.le_of_ble_eq_true rfl) d_Pr_perform_809 hcs (fun r121 s122 H locs e_r121 e_s122 w => ?_)
      refine pC9_4 (pc := 812) F w (F.2.2.2.2 _ m_279) d_Pr_perform_812 (fun H locs s123 e_s123 w => ?_)
      refine lv_goto (pc := 815) F.1 F.2.1 d_Pr_perform_815 (tgt := 1054) (by decide) ?_
      exact k18 s123 _ _ _ ⟨(by rw [e_s123, e_s122, e_r121]; exact Eq.symm (Eq.trans (if_neg h18_9) (Eq.trans (if_neg h18_16) (Eq.trans (if_neg h18_24) (Eq.trans (if_neg h18_32) (Eq.trans (if_neg h18_41) (Eq.trans (if_neg h18_48) (Eq.trans (if_neg h18_56) (Eq.trans (if_neg h18_64) (Eq.trans (if_neg h18_72) (Eq.trans (if_neg h18_73) (Eq.trans (if_neg h18_76) (Eq.trans (if_neg h18_96) (Eq.trans (if_neg h18_101) (Eq.trans (if_neg h18_104) (Eq.trans (if_neg h18_105) (Eq.trans (if_neg h18_133) (Eq.trans (if_neg h18_136) (Eq.trans (if_neg h18_138) (Eq.trans (if_neg h18_141) (Eq.trans (if_neg h18_142) (Eq.trans (if_neg h18_144) (Eq.trans (if_neg h18_157) (Eq.trans (if_neg h18_160) (Eq.trans (if_neg h18_162) (Eq.trans (if_neg h18_165) (Eq.trans (if_neg h18_166) (Eq.trans (if_neg h18_169) (Eq.trans (if_neg h18_170) (Eq.trans (if_neg h18_173) (Eq.trans (if_neg h18_176) (Eq.trans (if_neg h18_189) (Eq.trans (if_neg h18_197) (Eq.trans (if_neg h18_198) (Eq.trans (if_pos h18_200) (rfl)))))))))))))))))))))))))))))))))))), w, lv_sub hl [0] rfl⟩
    by_cases h18_201 : (s1 9 11) = 201
    · refine lv_lookup (pc := 18) F.1 F.2.1 d_Pr_perform_18 (by decide) (off := 673) (tgt := 691) (by rw [h18_201]; decide) (by decide) ?_
      refine lv_aload_n (pc := 691) F.1 F.2.1 d_Pr_perform_691 rfl (lv_at hl 0 rfl) ?_
      refine lv_aload_n (pc := 692) F.1 F.2.1 d_Pr_perform_692 rfl (lv_at hl 0 rfl) ?_
      refine gC9_2 (pc := 693) F w (F.2.2.2.2 _ m_275) d_Pr_perform_693 ?_
      refine lv_aload_n (pc := 696) F.1 F.2.1 d_Pr_perform_696 rfl (lv_at hl 0 rfl) ?_
      refine Cvi (pc := 697) (As := []) (rest := [.int (s1 9 2), .ref (ad 9)]) F w (c_Pr_nextByte l D cI ad s1) 9 rfl rfl k_Pr_nextByte m_649 (Nat.le_of_ble_eq_true rfl) (Nat.le_of_ble_eq_true rfl) ⟨rfl, rfl⟩ rfl hl.1 rfl (Nat.le_of_ble_eq_true rfl) d_Pr_perform_697 hcs (fun r124 s125 H locs e_r124 e_s125 w => ?_)
      have iIC_s125 : IC s125 := by rw [e_s125]; exact iIC_Pr_nextByte iIC_s1 
      refine Cvv (pc := 700) (As := [.int (s1 9 2), .int r124]) (rest := []) F w (c_Pr_compare l D cI ad s125 (s1 9 2) r124) 9 rfl rfl k_Pr_compare m_666 (Nat.le_of_ble_eq_true rfl) (Nat.le_of_ble_eq_true rfl) ⟨rfl, rfl⟩ rfl hl.1 rfl (Nat.le_of_ble_eq_true rfl) d_Pr_perform_700 hcs (fun s126 H locs e_s126 w => ?_)
      refine lv_goto (pc := 703) F.1 F.2.1 d_Pr_perform_703 (tgt := 1054) (by decide) ?_
      exact k18 s126 _ _ _ ⟨(by rw [e_s126, e_s125, e_r124]; exact Eq.symm (Eq.trans (if_neg h18_9) (Eq.trans (if_neg h18_16) (Eq.trans (if_neg h18_24) (Eq.trans (if_neg h18_32) (Eq.trans (if_neg h18_41) (Eq.trans (if_neg h18_48) (Eq.trans (if_neg h18_56) (Eq.trans (if_neg h18_64) (Eq.trans (if_neg h18_72) (Eq.trans (if_neg h18_73) (Eq.trans (if_neg h18_76) (Eq.trans (if_neg h18_96) (Eq.trans (if_neg h18_101) (Eq.trans (if_neg h18_104) (Eq.trans (if_neg h18_105) (Eq.trans (if_neg h18_133) (Eq.trans (if_neg h18_136) (Eq.trans (if_neg h18_138) (Eq.trans (if_neg h18_141) (Eq.trans (if_neg h18_142) (Eq.trans (if_neg h18_144) (Eq.trans (if_neg h18_157) (Eq.trans (if_neg h18_160) (Eq.trans (if_neg h18_162) (Eq.trans (if_neg h18_165) (Eq.trans (if_neg h18_166) (Eq.trans (if_neg h18_169) (Eq.trans (if_neg h18_170) (Eq.trans (if_neg h18_173) (Eq.trans (if_neg h18_176) (Eq.trans (if_neg h18_189) (Eq.trans (if_neg h18_197) (Eq.trans (if_neg h18_198) (Eq.trans (if_neg h18_200) (Eq.trans (if_pos h18_201) (rfl))))))))))))))))))))))))))))))))))))), w, lv_sub hl [0] rfl⟩
    by_cases h18_202 : (s1 9 11) = 202
    · refine lv_lookup (pc := 18) F.1 F.2.1 d_Pr_perform_18 (by decide) (off := 766) (tgt := 784) (by rw [h18_202]; decide) (by decide) ?_
      refine lv_aload_n (pc := 784) F.1 F.2.1 d_Pr_perform_784 rfl (lv_at hl 0 rfl) ?_
      refine lv_aload_n (pc := 785) F.1 F.2.1 d_Pr_perform_785 rfl (lv_at hl 0 rfl) ?_
      refine lv_aload_n (pc := 786) F.1 F.2.1 d_Pr_perform_786 rfl (lv_at hl 0 rfl) ?_
      refine gC9_3 (pc := 787) F w (F.2.2.2.2 _ m_277) d_Pr_perform_787 ?_
      refine lv_iconst (pc := 790) (v := 1) F.1 F.2.1 d_Pr_perform_790 (by decide) ?_
      refine lv_isub (pc := 791) F.1 F.2.1 d_Pr_perform_791 ?_
      refine Cvi (pc := 792) (As := [.int ((s1 9 3) - 1)]) (rest := [.ref (ad 9)]) F w (c_Pr_result l D cI ad s1 ((s1 9 3) - 1)) 9 rfl rfl k_Pr_result m_653 (Nat.le_of_ble_eq_true rfl) (Nat.le_of_ble_eq_true rfl) ⟨rfl, rfl⟩ rfl hl.1 rfl (Nat.le_of_ble_eq_true rfl) d_Pr_perform_792 hcs (fun r127 s128 H locs e_r127 e_s128 w => ?_)
      refine pC9_3 (pc := 795) F w (F.2.2.2.2 _ m_277) d_Pr_perform_795 (fun H locs s129 e_s129 w => ?_)
      refine lv_goto (pc := 798) F.1 F.2.1 d_Pr_perform_798 (tgt := 1054) (by decide) ?_
      exact k18 s129 _ _ _ ⟨(by rw [e_s129, e_s128, e_r127]; exact Eq.symm (Eq.trans (if_neg h18_9) (Eq.trans (if_neg h18_16) (Eq.trans (if_neg h18_24) (Eq.trans (if_neg h18_32) (Eq.trans (if_neg h18_41) (Eq.trans (if_neg h18_48) (Eq.trans (if_neg h18_56) (Eq.trans (if_neg h18_64) (Eq.trans (if_neg h18_72) (Eq.trans (if_neg h18_73) (Eq.trans (if_neg h18_76) (Eq.trans (if_neg h18_96) (Eq.trans (if_neg h18_101) (Eq.trans (if_neg h18_104) (Eq.trans (if_neg h18_105) (Eq.trans (if_neg h18_133) (Eq.trans (if_neg h18_136) (Eq.trans (if_neg h18_138) (Eq.trans (if_neg h18_141) (Eq.trans (if_neg h18_142) (Eq.trans (if_neg h18_144) (Eq.trans (if_neg h18_157) (Eq.trans (if_neg h18_160) (Eq.trans (if_neg h18_162) (Eq.trans (if_neg h18_165) (Eq.trans (if_neg h18_166) (Eq.trans (if_neg h18_169) (Eq.trans (if_neg h18_170) (Eq.trans (if_neg h18_173) (Eq.trans (if_neg h18_176) (Eq.trans (if_neg h18_189) (Eq.trans (if_neg h18_197) (Eq.trans (if_neg h18_198) (Eq.trans (if_neg h18_200) (Eq.trans (if_neg h18_201) (Eq.trans (if_pos h18_202) (rfl)))))))))))))))))))))))))))))))))))))), w, lv_sub hl [0] rfl⟩
    by_cases h18_208 : (s1 9 11) = 208
    · refine lv_lookup (pc := 18) F.1 F.2.1 d_Pr_perform_18 (by decide) (off := 892) (tgt := 910) (by rw [h18_208]; decide) (by decide) ?_
      refine lv_aload_n (pc := 910) F.1 F.2.1 d_Pr_perform_910 rfl (lv_at hl 0 rfl) ?_
      refine lv_aload_n (pc := 911) F.1 F.2.1 d_Pr_perform_911 rfl (lv_at hl 0 rfl) ?_
      refine gC9_7 (pc := 912) F w (F.2.2.2.2 _ m_284) d_Pr_perform_912 ?_
      refine cutW (α := Int32) (fun x H locs ls => x = f_Pr_perform_r915 s1 ∧ Wx D cI (wC cI ad) (AC ad) (AC ad) s s.heap H locs s1 ∧ lv_has ls 1 [(0, .ref (ad 9))]) (fun x ls => F0 m 923 ls [.int x, .ref (ad 9)]) ?_ (fun k915 => ?_)
      · rintro v130 H locs ls ⟨ex, w, hl⟩
        have e_v130 := ex
        have w : Wx D cI (wC cI ad) (AC ad) (AC ad) s s.heap H locs s1 := w
        have hl : lv_has ls 1 [(0, .ref (ad 9))] := hl
        show W _ _ _ _ _ _ _ _ _ _ _ _ _ _ _ (F0 m 923 ls [.int v130, .ref (ad 9)])
        refine Cvv (pc := 923) (As := [.int v130]) (rest := []) F w (c_Pr_branchIf l D cI ad s1 v130) 9 rfl rfl k_Pr_branchIf m_678 (Nat.le_of_ble_eq_true rfl) (Nat.le_of_ble_eq_true rfl) ⟨rfl, rfl⟩ rfl hl.1 rfl (Nat.le_of_ble_eq_true rfl) d_Pr_perform_923 hcs (fun s131 H locs e_s131 w => ?_)
        refine lv_goto (pc := 926) F.1 F.2.1 d_Pr_perform_926 (tgt := 1054) (by decide) ?_
        exact k18 s131 _ _ _ ⟨(by rw [e_s131, e_v130]; exact Eq.symm (Eq.trans (if_neg h18_9) (Eq.trans (if_neg h18_16) (Eq.trans (if_neg h18_24) (Eq.trans (if_neg h18_32) (Eq.trans (if_neg h18_41) (Eq.trans (if_neg h18_48) (Eq.trans (if_neg h18_56) (Eq.trans (if_neg h18_64) (Eq.trans (if_neg h18_72) (Eq.trans (if_neg h18_73) (Eq.trans (if_neg h18_76) (Eq.trans (if_neg h18_96) (Eq.trans (if_neg h18_101) (Eq.trans (if_neg h18_104) (Eq.trans (if_neg h18_105) (Eq.trans (if_neg h18_133) (Eq.trans (if_neg h18_136) (Eq.trans (if_neg h18_138) (Eq.trans (if_neg h18_141) (Eq.trans (if_neg h18_142) (Eq.trans (if_neg h18_144) (Eq.trans (if_neg h18_157) (Eq.trans (if_neg h18_160) (Eq.trans (if_neg h18_162) (Eq.trans (if_neg h18_165) (Eq.trans (if_neg h18_166) (Eq.trans (if_neg h18_169) (Eq.trans (if_neg h18_170) (Eq.trans (if_neg h18_173) (Eq.trans (if_neg h18_176) (Eq.trans (if_neg h18_189) (Eq.trans (if_neg h18_197) (Eq.trans (if_neg h18_198) (Eq.trans (if_neg h18_200) (Eq.trans (if_neg h18_201) (Eq.trans (if_neg h18_202) (Eq.trans (if_pos h18_208) (rfl))))))))))))))))))))))))))))))))))))))), w, lv_sub hl [0] rfl⟩
      · refine lv_if_ne (pc := 915) F.1 F.2.1 d_Pr_perform_915 (tgt := 922) (by decide) (fun h915 => ?_) (fun h915 => ?_)
        · refine lv_iconst (pc := 922) (v := 0) F.1 F.2.1 d_Pr_perform_922 (by decide) ?_
          exact k915 0 _ _ _ ⟨(by exact Eq.symm (Eq.trans (if_neg h915) (rfl))), w, lv_sub hl [0] rfl⟩
        · refine lv_iconst (pc := 918) (v := 1) F.1 F.2.1 d_Pr_perform_918 (by decide) ?_
          refine lv_goto (pc := 919) F.1 F.2.1 d_Pr_perform_919 (tgt := 923) (by decide) ?_
          exact k915 1 _ _ _ ⟨(by exact Eq.symm (Eq.trans (if_pos h915) (rfl))), w, lv_sub hl [0] rfl⟩
    by_cases h18_224 : (s1 9 11) = 224
    · refine lv_lookup (pc := 18) F.1 F.2.1 d_Pr_perform_18 (by decide) (off := 710) (tgt := 728) (by rw [h18_224]; decide) (by decide) ?_
      refine lv_aload_n (pc := 728) F.1 F.2.1 d_Pr_perform_728 rfl (lv_at hl 0 rfl) ?_
      refine lv_aload_n (pc := 729) F.1 F.2.1 d_Pr_perform_729 rfl (lv_at hl 0 rfl) ?_
      refine gC9_3 (pc := 730) F w (F.2.2.2.2 _ m_277) d_Pr_perform_730 ?_
      refine lv_aload_n (pc := 733) F.1 F.2.1 d_Pr_perform_733 rfl (lv_at hl 0 rfl) ?_
      refine Cvi (pc := 734) (As := []) (rest := [.int (s1 9 3), .ref (ad 9)]) F w (c_Pr_nextByte l D cI ad s1) 9 rfl rfl k_Pr_nextByte m_649 (Nat.le_of_ble_eq_true rfl) (Nat.le_of_ble_eq_true rfl) ⟨rfl, rfl⟩ rfl hl.1 rfl (Nat.le_of_ble_eq_true rfl) d_Pr_perform_734 hcs (fun r132 s133 H locs e_r132 e_s133 w => ?_)
      have iIC_s133 : IC s133 := by rw [e_s133]; exact iIC_Pr_nextByte iIC_s1 
      refine Cvv (pc := 737) (As := [.int (s1 9 3), .int r132]) (rest := []) F w (c_Pr_compare l D cI ad s133 (s1 9 3) r132) 9 rfl rfl k_Pr_compare m_666 (Nat.le_of_ble_eq_true rfl) (Nat.le_of_ble_eq_true rfl) ⟨rfl, rfl⟩ rfl hl.1 rfl (Nat.le_of_ble_eq_true rfl) d_Pr_perform_737 hcs (fun s134 H locs e_s134 w => ?_)
      refine lv_goto (pc := 740) F.1 F.2.1 d_Pr_perform_740 (tgt := 1054) (by decide) ?_
      exact k18 s134 _ _ _ ⟨(by rw [e_s134, e_s133, e_r132]; exact Eq.symm (Eq.trans (if_neg h18_9) (Eq.trans (if_neg h18_16) (Eq.trans (if_neg h18_24) (Eq.trans (if_neg h18_32) (Eq.trans (if_neg h18_41) (Eq.trans (if_neg h18_48) (Eq.trans (if_neg h18_56) (Eq.trans (if_neg h18_64) (Eq.trans (if_neg h18_72) (Eq.trans (if_neg h18_73) (Eq.trans (if_neg h18_76) (Eq.trans (if_neg h18_96) (Eq.trans (if_neg h18_101) (Eq.trans (if_neg h18_104) (Eq.trans (if_neg h18_105) (Eq.trans (if_neg h18_133) (Eq.trans (if_neg h18_136) (Eq.trans (if_neg h18_138) (Eq.trans (if_neg h18_141) (Eq.trans (if_neg h18_142) (Eq.trans (if_neg h18_144) (Eq.trans (if_neg h18_157) (Eq.trans (if_neg h18_160) (Eq.trans (if_neg h18_162) (Eq.trans (if_neg h18_165) (Eq.trans (if_neg h18_166) (Eq.trans (if_neg h18_169) (Eq.trans (if_neg h18_170) (Eq.trans (if_neg h18_173) (Eq.trans (if_neg h18_176) (Eq.trans (if_neg h18_189) (Eq.trans (if_neg h18_197) (Eq.trans (if_neg h18_198) (Eq.trans (if_neg h18_200) (Eq.trans (if_neg h18_201) (Eq.trans (if_neg h18_202) (Eq.trans (if_neg h18_208) (Eq.trans (if_pos h18_224) (rfl)))))))))))))))))))))))))))))))))))))))), w, lv_sub hl [0] rfl⟩
    by_cases h18_230 : (s1 9 11) = 230
    · refine lv_lookup (pc := 18) F.1 F.2.1 d_Pr_perform_18 (by decide) (off := 725) (tgt := 743) (by rw [h18_230]; decide) (by decide) ?_
      refine lv_aload_n (pc := 743) F.1 F.2.1 d_Pr_perform_743 rfl (lv_at hl 0 rfl) ?_
      refine lv_aload_n (pc := 744) F.1 F.2.1 d_Pr_perform_744 rfl (lv_at hl 0 rfl) ?_
      refine Cvi (pc := 745) (As := []) (rest := [.ref (ad 9)]) F w (c_Pr_nextByte l D cI ad s1) 9 rfl rfl k_Pr_nextByte m_649 (Nat.le_of_ble_eq_true rfl) (Nat.le_of_ble_eq_true rfl) ⟨rfl, rfl⟩ rfl hl.1 rfl (Nat.le_of_ble_eq_true rfl) d_Pr_perform_745 hcs (fun r135 s136 H locs e_r135 e_s136 w => ?_)
      have iIC_s136 : IC s136 := by rw [e_s136]; exact iIC_Pr_nextByte iIC_s1 
      refine lv_iconst (pc := 748) (v := 1) F.1 F.2.1 d_Pr_perform_748 (by decide) ?_
      refine Cvv (pc := 749) (As := [.int r135, .int 1]) (rest := []) F w (c_Pr_change l D cI ad s136 r135 1) 9 rfl rfl k_Pr_change m_670 (Nat.le_of_ble_eq_true rfl) (Nat.le_of_ble_eq_true rfl) ⟨rfl, rfl⟩ rfl hl.1 rfl (Nat.le_of_ble_eq_true rfl) d_Pr_perform_749 hcs (fun s137 H locs e_s137 w => ?_)
      refine lv_goto (pc := 752) F.1 F.2.1 d_Pr_perform_752 (tgt := 1054) (by decide) ?_
      exact k18 s137 _ _ _ ⟨(by rw [e_s137, e_s136, e_r135]; exact Eq.symm (Eq.trans (if_neg h18_9) (Eq.trans (if_neg h18_16) (Eq.trans (if_neg h18_24) (Eq.trans (if_neg h18_32) (Eq.trans (if_neg h18_41) (Eq.trans (if_neg h18_48) (Eq.trans (if_neg h18_56) (Eq.trans (if_neg h18_64) (Eq.trans (if_neg h18_72) (Eq.trans (if_neg h18_73) (Eq.trans (if_neg h18_76) (Eq.trans (if_neg h18_96) (Eq.trans (if_neg h18_101) (Eq.trans (if_neg h18_104) (Eq.trans (if_neg h18_105) (Eq.trans (if_neg h18_133) (Eq.trans (if_neg h18_136) (Eq.trans (if_neg h18_138) (Eq.trans (if_neg h18_141) (Eq.trans (if_neg h18_142) (Eq.trans (if_neg h18_144) (Eq.trans (if_neg h18_157) (Eq.trans (if_neg h18_160) (Eq.trans (if_neg h18_162) (Eq.trans (if_neg h18_165) (Eq.trans (if_neg h18_166) (Eq.trans (if_neg h18_169) (Eq.trans (if_neg h18_170) (Eq.trans (if_neg h18_173) (Eq.trans (if_neg h18_176) (Eq.trans (if_neg h18_189) (Eq.trans (if_neg h18_197) (Eq.trans (if_neg h18_198) (Eq.trans (if_neg h18_200) (Eq.trans (if_neg h18_201) (Eq.trans (if_neg h18_202) (Eq.trans (if_neg h18_208) (Eq.trans (if_neg h18_224) (Eq.trans (if_pos h18_230) (rfl))))))))))))))))))))))))))))))))))))))))), w, lv_sub hl [0] rfl⟩
    by_cases h18_232 : (s1 9 11) = 232
    · refine lv_lookup (pc := 18) F.1 F.2.1 d_Pr_perform_18 (by decide) (off := 749) (tgt := 767) (by rw [h18_232]; decide) (by decide) ?_
      refine lv_aload_n (pc := 767) F.1 F.2.1 d_Pr_perform_767 rfl (lv_at hl 0 rfl) ?_
      refine lv_aload_n (pc := 768) F.1 F.2.1 d_Pr_perform_768 rfl (lv_at hl 0 rfl) ?_
      refine lv_aload_n (pc := 769) F.1 F.2.1 d_Pr_perform_769 rfl (lv_at hl 0 rfl) ?_
      refine gC9_3 (pc := 770) F w (F.2.2.2.2 _ m_277) d_Pr_perform_770 ?_
      refine lv_iconst (pc := 773) (v := 1) F.1 F.2.1 d_Pr_perform_773 (by decide) ?_
      refine lv_iadd (pc := 774) F.1 F.2.1 d_Pr_perform_774 ?_
      refine Cvi (pc := 775) (As := [.int ((s1 9 3) + 1)]) (rest := [.ref (ad 9)]) F w (c_Pr_result l D cI ad s1 ((s1 9 3) + 1)) 9 rfl rfl k_Pr_result m_653 (Nat.le_of_ble_eq_true rfl) (Nat.le_of_ble_eq_true rfl) ⟨rfl, rfl⟩ rfl hl.1 rfl (Nat.le_of_ble_eq_true rfl) d_Pr_perform_775 hcs (fun r138 s139 H locs e_r138 e_s139 w => ?_)
      refine pC9_3 (pc := 778) F w (F.2.2.2.2 _ m_277) d_Pr_perform_778 (fun H locs s140 e_s140 w => ?_)
      refine lv_goto (pc := 781) F.1 F.2.1 d_Pr_perform_781 (tgt := 1054) (by decide) ?_
      exact k18 s140 _ _ _ ⟨(by rw [e_s140, e_s139, e_r138]; exact Eq.symm (Eq.trans (if_neg h18_9) (Eq.trans (if_neg h18_16) (Eq.trans (if_neg h18_24) (Eq.trans (if_neg h18_32) (Eq.trans (if_neg h18_41) (Eq.trans (if_neg h18_48) (Eq.trans (if_neg h18_56) (Eq.trans (if_neg h18_64) (Eq.trans (if_neg h18_72) (Eq.trans (if_neg h18_73) (Eq.trans (if_neg h18_76) (Eq.trans (if_neg h18_96) (Eq.trans (if_neg h18_101) (Eq.trans (if_neg h18_104) (Eq.trans (if_neg h18_105) (Eq.trans (if_neg h18_133) (Eq.trans (if_neg h18_136) (Eq.trans (if_neg h18_138) (Eq.trans (if_neg h18_141) (Eq.trans (if_neg h18_142) (Eq.trans (if_neg h18_144) (Eq.trans (if_neg h18_157) (Eq.trans (if_neg h18_160) (Eq.trans (if_neg h18_162) (Eq.trans (if_neg h18_165) (Eq.trans (if_neg h18_166) (Eq.trans (if_neg h18_169) (Eq.trans (if_neg h18_170) (Eq.trans (if_neg h18_173) (Eq.trans (if_neg h18_176) (Eq.trans (if_neg h18_189) (Eq.trans (if_neg h18_197) (Eq.trans (if_neg h18_198) (Eq.trans (if_neg h18_200) (Eq.trans (if_neg h18_201) (Eq.trans (if_neg h18_202) (Eq.trans (if_neg h18_208) (Eq.trans (if_neg h18_224) (Eq.trans (if_neg h18_230) (Eq.trans (if_pos h18_232) (rfl)))))))))))))))))))))))))))))))))))))))))), w, lv_sub hl [0] rfl⟩
    by_cases h18_233 : (s1 9 11) = 233
    · refine lv_lookup (pc := 18) F.1 F.2.1 d_Pr_perform_18 (by decide) (off := 598) (tgt := 616) (by rw [h18_233]; decide) (by decide) ?_
      refine lv_aload_n (pc := 616) F.1 F.2.1 d_Pr_perform_616 rfl (lv_at hl 0 rfl) ?_
      refine lv_sipush (pc := 617) (v := 255) F.1 F.2.1 d_Pr_perform_617 (by decide) ?_
      refine lv_aload_n (pc := 620) F.1 F.2.1 d_Pr_perform_620 rfl (lv_at hl 0 rfl) ?_
      refine Cvi (pc := 621) (As := []) (rest := [.int 255, .ref (ad 9)]) F w (c_Pr_nextByte l D cI ad s1) 9 rfl rfl k_Pr_nextByte m_649 (Nat.le_of_ble_eq_true rfl) (Nat.le_of_ble_eq_true rfl) ⟨rfl, rfl⟩ rfl hl.1 rfl (Nat.le_of_ble_eq_true rfl) d_Pr_perform_621 hcs (fun r141 s142 H locs e_r141 e_s142 w => ?_)
      have iIC_s142 : IC s142 := by rw [e_s142]; exact iIC_Pr_nextByte iIC_s1 
      refine lv_isub (pc := 624) F.1 F.2.1 d_Pr_perform_624 ?_
      refine Cvv (pc := 625) (As := [.int (255 - r141)]) (rest := []) F w (c_Pr_add l D cI ad s142 (255 - r141)) 9 rfl rfl k_Pr_add m_662 (Nat.le_of_ble_eq_true rfl) (Nat.le_of_ble_eq_true rfl) ⟨rfl, rfl⟩ rfl hl.1 rfl (Nat.le_of_ble_eq_true rfl) d_Pr_perform_625 hcs (fun s143 H locs e_s143 w => ?_)
      refine lv_goto (pc := 628) F.1 F.2.1 d_Pr_perform_628 (tgt := 1054) (by decide) ?_
      exact k18 s143 _ _ _ ⟨(by rw [e_s143, e_s142, e_r141]; exact Eq.symm (Eq.trans (if_neg h18_9) (Eq.trans (if_neg h18_16) (Eq.trans (if_neg h18_24) (Eq.trans (if_neg h18_32) (Eq.trans (if_neg h18_41) (Eq.trans (if_neg h18_48) (Eq.trans (if_neg h18_56) (Eq.trans (if_neg h18_64) (Eq.trans (if_neg h18_72) (Eq.trans (if_neg h18_73) (Eq.trans (if_neg h18_76) (Eq.trans (if_neg h18_96) (Eq.trans (if_neg h18_101) (Eq.trans (if_neg h18_104) (Eq.trans (if_neg h18_105) (Eq.trans (if_neg h18_133) (Eq.trans (if_neg h18_136) (Eq.trans (if_neg h18_138) (Eq.trans (if_neg h18_141) (Eq.trans (if_neg h18_142) (Eq.trans (if_neg h18_144) (Eq.trans (if_neg h18_157) (Eq.trans (if_neg h18_160) (Eq.trans (if_neg h18_162) (Eq.trans (if_neg h18_165) (Eq.trans (if_neg h18_166) (Eq.trans (if_neg h18_169) (Eq.trans (if_neg h18_170) (Eq.trans (if_neg h18_173) (Eq.trans (if_neg h18_176) (Eq.trans (if_neg h18_189) (Eq.trans (if_neg h18_197) (Eq.trans (if_neg h18_198) (Eq.trans (if_neg h18_200) (Eq.trans (if_neg h18_201) (Eq.trans (if_neg h18_202) (Eq.trans (if_neg h18_208) (Eq.trans (if_neg h18_224) (Eq.trans (if_neg h18_230) (Eq.trans (if_neg h18_232) (Eq.trans (if_pos h18_233) (rfl))))))))))))))))))))))))))))))))))))))))))), w, lv_sub hl [0] rfl⟩
    by_cases h18_234 : (s1 9 11) = 234
    · refine lv_lookup (pc := 18) F.1 F.2.1 d_Pr_perform_18 (by decide) (off := 889) (tgt := 907) (by rw [h18_234]; decide) (by decide) ?_
      refine lv_goto (pc := 907) F.1 F.2.1 d_Pr_perform_907 (tgt := 1054) (by decide) ?_
      exact k18 s1 _ _ _ ⟨(by exact Eq.symm (Eq.trans (if_neg h18_9) (Eq.trans (if_neg h18_16) (Eq.trans (if_neg h18_24) (Eq.trans (if_neg h18_32) (Eq.trans (if_neg h18_41) (Eq.trans (if_neg h18_48) (Eq.trans (if_neg h18_56) (Eq.trans (if_neg h18_64) (Eq.trans (if_neg h18_72) (Eq.trans (if_neg h18_73) (Eq.trans (if_neg h18_76) (Eq.trans (if_neg h18_96) (Eq.trans (if_neg h18_101) (Eq.trans (if_neg h18_104) (Eq.trans (if_neg h18_105) (Eq.trans (if_neg h18_133) (Eq.trans (if_neg h18_136) (Eq.trans (if_neg h18_138) (Eq.trans (if_neg h18_141) (Eq.trans (if_neg h18_142) (Eq.trans (if_neg h18_144) (Eq.trans (if_neg h18_157) (Eq.trans (if_neg h18_160) (Eq.trans (if_neg h18_162) (Eq.trans (if_neg h18_165) (Eq.trans (if_neg h18_166) (Eq.trans (if_neg h18_169) (Eq.trans (if_neg h18_170) (Eq.trans (if_neg h18_173) (Eq.trans (if_neg h18_176) (Eq.trans (if_neg h18_189) (Eq.trans (if_neg h18_197) (Eq.trans (if_neg h18_198) (Eq.trans (if_neg h18_200) (Eq.trans (if_neg h18_201) (Eq.trans (if_neg h18_202) (Eq.trans (if_neg h18_208) (Eq.trans (if_neg h18_224) (Eq.trans (if_neg h18_230) (Eq.trans (if_neg h18_232) (Eq.trans (if_neg h18_233) (Eq.trans (if_pos h18_234) (rfl)))))))))))))))))))))))))))))))))))))))))))), w, lv_sub hl [0] rfl⟩
    by_cases h18_240 : (s1 9 11) = 240
    · refine lv_lookup (pc := 18) F.1 F.2.1 d_Pr_perform_18 (by decide) (off := 911) (tgt := 929) (by rw [h18_240]; decide) (by decide) ?_
      refine lv_aload_n (pc := 929) F.1 F.2.1 d_Pr_perform_929 rfl (lv_at hl 0 rfl) ?_
      refine lv_aload_n (pc := 930) F.1 F.2.1 d_Pr_perform_930 rfl (lv_at hl 0 rfl) ?_
      refine gC9_7 (pc := 931) F w (F.2.2.2.2 _ m_284) d_Pr_perform_931 ?_
      refine Cvv (pc := 934) (As := [.int (s1 9 7)]) (rest := []) F w (c_Pr_branchIf l D cI ad s1 (s1 9 7)) 9 rfl rfl k_Pr_branchIf m_678 (Nat.le_of_ble_eq_true rfl) (Nat.le_of_ble_eq_true rfl) ⟨rfl, rfl⟩ rfl hl.1 rfl (Nat.le_of_ble_eq_true rfl) d_Pr_perform_934 hcs (fun s144 H locs e_s144 w => ?_)
      refine lv_goto (pc := 937) F.1 F.2.1 d_Pr_perform_937 (tgt := 1054) (by decide) ?_
      exact k18 s144 _ _ _ ⟨(by rw [e_s144]; exact Eq.symm (Eq.trans (if_neg h18_9) (Eq.trans (if_neg h18_16) (Eq.trans (if_neg h18_24) (Eq.trans (if_neg h18_32) (Eq.trans (if_neg h18_41) (Eq.trans (if_neg h18_48) (Eq.trans (if_neg h18_56) (Eq.trans (if_neg h18_64) (Eq.trans (if_neg h18_72) (Eq.trans (if_neg h18_73) (Eq.trans (if_neg h18_76) (Eq.trans (if_neg h18_96) (Eq.trans (if_neg h18_101) (Eq.trans (if_neg h18_104) (Eq.trans (if_neg h18_105) (Eq.trans (if_neg h18_133) (Eq.trans (if_neg h18_136) (Eq.trans (if_neg h18_138) (Eq.trans (if_neg h18_141) (Eq.trans (if_neg h18_142) (Eq.trans (if_neg h18_144) (Eq.trans (if_neg h18_157) (Eq.trans (if_neg h18_160) (Eq.trans (if_neg h18_162) (Eq.trans (if_neg h18_165) (Eq.trans (if_neg h18_166) (Eq.trans (if_neg h18_169) (Eq.trans (if_neg h18_170) (Eq.trans (if_neg h18_173) (Eq.trans (if_neg h18_176) (Eq.trans (if_neg h18_189) (Eq.trans (if_neg h18_197) (Eq.trans (if_neg h18_198) (Eq.trans (if_neg h18_200) (Eq.trans (if_neg h18_201) (Eq.trans (if_neg h18_202) (Eq.trans (if_neg h18_208) (Eq.trans (if_neg h18_224) (Eq.trans (if_neg h18_230) (Eq.trans (if_neg h18_232) (Eq.trans (if_neg h18_233) (Eq.trans (if_neg h18_234) (Eq.trans (if_pos h18_240) (rfl))))))))))))))))))))))))))))))))))))))))))))), w, lv_sub hl [0] rfl⟩
    refine lv_lookup (pc := 18) F.1 F.2.1 d_Pr_perform_18 (by decide) (off := 1032) (tgt := 1050) ((lv_osw h18_9 rfl).trans ((lv_osw h18_16 rfl).trans ((lv_osw h18_24 rfl).trans ((lv_osw h18_32 rfl).trans ((lv_osw h18_41 rfl).trans ((lv_osw h18_48 rfl).trans ((lv_osw h18_56 rfl).trans ((lv_osw h18_64 rfl).trans ((lv_osw h18_72 rfl).trans ((lv_osw h18_73 rfl).trans ((lv_osw h18_76 rfl).trans ((lv_osw h18_96 rfl).trans ((lv_osw h18_101 rfl).trans ((lv_osw h18_104 rfl).trans ((lv_osw h18_105 rfl).trans ((lv_osw h18_133 rfl).trans ((lv_osw h18_136 rfl).trans ((lv_osw h18_138 rfl).trans ((lv_osw h18_141 rfl).trans ((lv_osw h18_142 rfl).trans ((lv_osw h18_144 rfl).trans ((lv_osw h18_157 rfl).trans ((lv_osw h18_160 rfl).trans ((lv_osw h18_162 rfl).trans ((lv_osw h18_165 rfl).trans ((lv_osw h18_166 rfl).trans ((lv_osw h18_169 rfl).trans ((lv_osw h18_170 rfl).trans ((lv_osw h18_173 rfl).trans ((lv_osw h18_176 rfl).trans ((lv_osw h18_189 rfl).trans ((lv_osw h18_197 rfl).trans ((lv_osw h18_198 rfl).trans ((lv_osw h18_200 rfl).trans ((lv_osw h18_201 rfl).trans ((lv_osw h18_202 rfl).trans ((lv_osw h18_208 rfl).trans ((lv_osw h18_224 rfl).trans ((lv_osw h18_230 rfl).trans ((lv_osw h18_232 rfl).trans ((lv_osw h18_233 rfl).trans ((lv_osw h18_234 rfl).trans ((lv_osw h18_240 rfl).trans (rfl)))))))))))))))))))))))))))))))))))))))))))) (by decide) ?_
    refine lv_aload_n (pc := 1050) F.1 F.2.1 d_Pr_perform_1050 rfl (lv_at hl 0 rfl) ?_
    refine Cvv (pc := 1051) (As := []) (rest := []) F w (c_Pr_jam l D cI ad s1) 9 rfl rfl k_Pr_jam m_694 (Nat.le_of_ble_eq_true rfl) (Nat.le_of_ble_eq_true rfl) ⟨rfl, rfl⟩ rfl hl.1 rfl (Nat.le_of_ble_eq_true rfl) d_Pr_perform_1051 hcs (fun s145 H locs e_s145 w => ?_)
    exact k18 s145 _ _ _ ⟨(by rw [e_s145]; exact Eq.symm (Eq.trans (if_neg h18_9) (Eq.trans (if_neg h18_16) (Eq.trans (if_neg h18_24) (Eq.trans (if_neg h18_32) (Eq.trans (if_neg h18_41) (Eq.trans (if_neg h18_48) (Eq.trans (if_neg h18_56) (Eq.trans (if_neg h18_64) (Eq.trans (if_neg h18_72) (Eq.trans (if_neg h18_73) (Eq.trans (if_neg h18_76) (Eq.trans (if_neg h18_96) (Eq.trans (if_neg h18_101) (Eq.trans (if_neg h18_104) (Eq.trans (if_neg h18_105) (Eq.trans (if_neg h18_133) (Eq.trans (if_neg h18_136) (Eq.trans (if_neg h18_138) (Eq.trans (if_neg h18_141) (Eq.trans (if_neg h18_142) (Eq.trans (if_neg h18_144) (Eq.trans (if_neg h18_157) (Eq.trans (if_neg h18_160) (Eq.trans (if_neg h18_162) (Eq.trans (if_neg h18_165) (Eq.trans (if_neg h18_166) (Eq.trans (if_neg h18_169) (Eq.trans (if_neg h18_170) (Eq.trans (if_neg h18_173) (Eq.trans (if_neg h18_176) (Eq.trans (if_neg h18_189) (Eq.trans (if_neg h18_197) (Eq.trans (if_neg h18_198) (Eq.trans (if_neg h18_200) (Eq.trans (if_neg h18_201) (Eq.trans (if_neg h18_202) (Eq.trans (if_neg h18_208) (Eq.trans (if_neg h18_224) (Eq.trans (if_neg h18_230) (Eq.trans (if_neg h18_232) (Eq.trans (if_neg h18_233) (Eq.trans (if_neg h18_234) (Eq.trans (if_neg h18_240) (rfl))))))))))))))))))))))))))))))))))))))))))))), w, lv_sub hl [0] rfl⟩
def f_Pr_passCycle_r26 (σ : Sg) : Sg := if (σ 9 12) = 0 then (let s1 := f_Pr_begin σ; s1) else (σ)
def f_Pr_passCycle_r56 (s3 : Sg) : Sg := if (s3 9 10) = 0 then (let s4 := f_Pr_perform s3; s4) else (let s5 := f_Pr_enterNmi s3; s5)
def f_Pr_passCycle (σ : Sg) : Int32 × Sg := if (σ 9 9) = 0 then (if (σ 3 0) = 0 then (let s2 := (f_Pr_passCycle_r26 σ); let s3 := sf s2 9 12 ((s2 9 12) - 1); if (s3 9 12) ≤ 0 then (let s6 := (f_Pr_passCycle_r56 s3); (1, s6)) else ((1, s3))) else ((0, σ))) else ((0, σ))
theorem z_Pr_passCycle (σ : Sg) : (f_Pr_passCycle σ ).1 = 0 ∨ (f_Pr_passCycle σ ).1 = 1 := by unfold f_Pr_passCycle; (try dsimp only); (repeat' split) <;> first | exact Or.inl rfl | exact Or.inr rfl
set_option maxHeartbeats 1000000 in
set_option maxRecDepth 100000 in
theorem c_Pr_passCycle (l : Launch) (D : va_G) (cI : ClassId) (ad : Nat → Nat) (σ : Sg) (hI : IC σ) : Met l y_Pr_passCycle (Cond.code y_Pr_passCycle b_Pr_passCycle 1 (some .boolean) :: al) { frames := 5, cells := 0, slots := 0, locals := 150 } (Px D cI (wC cI ad) (AC ad) σ [.ref (ad 9)]) (va_Qi (fun r u => (r, u) = f_Pr_passCycle σ ) (Bx D cI (wC cI ad) (AC ad)) (AC ad)) 0 0 (AC ad) := by
  refine Mx l (by decide) (Nat.le_of_ble_eq_true rfl) ?_
  intro p e s m below meth c ls F w hr hlk hl
  have F : CallFix p m c b_Pr_passCycle 1 s _ al "PictureMachine$Processor" := F
  have hl : lv_has ls 1 [(0, .ref (ad 9))] := hl
  have hcs : (0 : Nat) ≤ 0 ∧ (0 : Nat) ≤ 0 := ⟨Nat.le_refl _, Nat.le_refl _⟩
  refine lv_aload_n (pc := 0) F.1 F.2.1 d_Pr_passCycle_0 rfl (lv_at hl 0 rfl) ?_
  refine gC9_9 (pc := 1) F w (F.2.2.2.2 _ m_286) d_Pr_passCycle_1 ?_
  refine lv_if_ne (pc := 4) F.1 F.2.1 d_Pr_passCycle_4 (tgt := 20) (by decide) (fun h4 => ?_) (fun h4 => ?_)
  · refine lv_iconst (pc := 20) (v := 0) F.1 F.2.1 d_Pr_passCycle_20 (by decide) ?_
    exact Rz (pc := 21) F hr hlk w (Or.inl rfl) (by exact Eq.symm (Eq.trans (if_neg h4) (rfl))) d_Pr_passCycle_21
  · refine lv_aload_n (pc := 7) F.1 F.2.1 d_Pr_passCycle_7 rfl (lv_at hl 0 rfl) ?_
    refine gC9_0 (pc := 8) F w (F.2.2.2.2 _ m_272) d_Pr_passCycle_8 ?_
    refine gNC1_1 (pc := 11) F w m_230 d_Pr_passCycle_11 ?_
    refine gNC3_0 (pc := 14) F w m_59 d_Pr_passCycle_14 ?_
    refine lv_if_eq (pc := 17) F.1 F.2.1 d_Pr_passCycle_17 (tgt := 22) (by decide) (fun h17 => ?_) (fun h17 => ?_)
    · refine lv_aload_n (pc := 22) F.1 F.2.1 d_Pr_passCycle_22 rfl (lv_at hl 0 rfl) ?_
      refine gC9_12 (pc := 23) F w (F.2.2.2.2 _ m_290) d_Pr_passCycle_23 ?_
      refine cutW (α := Sg) (fun x H locs ls => x = f_Pr_passCycle_r26 σ ∧ Wx D cI (wC cI ad) (AC ad) (AC ad) s s.heap H locs x ∧ lv_has ls 1 [(0, .ref (ad 9))] ∧ IC x) (fun x ls => F0 m 33 ls []) ?_ (fun k26 => ?_)
      · rintro s2 H locs ls ⟨ex, w, hl, iIC_s2⟩
        have e_s2 := ex
        have w : Wx D cI (wC cI ad) (AC ad) (AC ad) s s.heap H locs s2 := w
        have iIC_s2 : IC s2 := iIC_s2
        have hl : lv_has ls 1 [(0, .ref (ad 9))] := hl
        show W _ _ _ _ _ _ _ _ _ _ _ _ _ _ _ (F0 m 33 ls [])
        refine lv_aload_n (pc := 33) F.1 F.2.1 d_Pr_passCycle_33 rfl (lv_at hl 0 rfl) ?_
        refine lv_dup (pc := 34) F.1 F.2.1 d_Pr_passCycle_34 rfl ?_
        refine gC9_12 (pc := 35) F w (F.2.2.2.2 _ m_290) d_Pr_passCycle_35 ?_
        refine lv_iconst (pc := 38) (v := 1) F.1 F.2.1 d_Pr_passCycle_38 (by decide) ?_
        refine lv_isub (pc := 39) F.1 F.2.1 d_Pr_passCycle_39 ?_
        refine pC9_12 (pc := 40) F w (F.2.2.2.2 _ m_290) d_Pr_passCycle_40 (fun H locs s3 e_s3 w => ?_)
        have iIC_s3 : IC s3 := by rw [e_s3]; exact iIC_s2
        refine lv_aload_n (pc := 43) F.1 F.2.1 d_Pr_passCycle_43 rfl (lv_at hl 0 rfl) ?_
        refine gC9_12 (pc := 44) F w (F.2.2.2.2 _ m_290) d_Pr_passCycle_44 ?_
        refine lv_if_le (pc := 47) F.1 F.2.1 d_Pr_passCycle_47 (tgt := 52) (by decide) (fun h47 => ?_) (fun h47 => ?_)
        · refine lv_aload_n (pc := 52) F.1 F.2.1 d_Pr_passCycle_52 rfl (lv_at hl 0 rfl) ?_
          refine gC9_10 (pc := 53) F w (F.2.2.2.2 _ m_288) d_Pr_passCycle_53 ?_
          refine cutW (α := Sg) (fun x H locs ls => x = f_Pr_passCycle_r56 s3 ∧ Wx D cI (wC cI ad) (AC ad) (AC ad) s s.heap H locs x ∧ lv_has ls 1 [(0, .ref (ad 9))]) (fun x ls => F0 m 70 ls []) ?_ (fun k56 => ?_)
          · rintro s6 H locs ls ⟨ex, w, hl⟩
            have e_s6 := ex
            have w : Wx D cI (wC cI ad) (AC ad) (AC ad) s s.heap H locs s6 := w
            have hl : lv_has ls 1 [(0, .ref (ad 9))] := hl
            show W _ _ _ _ _ _ _ _ _ _ _ _ _ _ _ (F0 m 70 ls [])
            refine lv_iconst (pc := 70) (v := 1) F.1 F.2.1 d_Pr_passCycle_70 (by decide) ?_
            exact Rz (pc := 71) F hr hlk w (Or.inr rfl) (by rw [e_s3, e_s2] at h47; rw [e_s6, e_s3, e_s2]; exact Eq.symm (Eq.trans (if_pos h4) (Eq.trans (if_pos h17) (Eq.trans (if_pos h47) (rfl))))) d_Pr_passCycle_71
          · refine lv_if_eq (pc := 56) F.1 F.2.1 d_Pr_passCycle_56 (tgt := 66) (by decide) (fun h56 => ?_) (fun h56 => ?_)
            · refine lv_aload_n (pc := 66) F.1 F.2.1 d_Pr_passCycle_66 rfl (lv_at hl 0 rfl) ?_
              refine Cvv (pc := 67) (As := []) (rest := []) F w (c_Pr_perform l D cI ad s3 iIC_s3) 9 rfl rfl k_Pr_perform m_645 (Nat.le_of_ble_eq_true rfl) (Nat.le_of_ble_eq_true rfl) ⟨rfl, rfl⟩ rfl hl.1 rfl (Nat.le_of_ble_eq_true rfl) d_Pr_passCycle_67 hcs (fun s4 H locs e_s4 w => ?_)
              exact k56 s4 _ _ _ ⟨(by rw [e_s4]; exact Eq.symm (Eq.trans (if_pos h56) (rfl))), w, lv_sub hl [0] rfl⟩
            · refine lv_aload_n (pc := 59) F.1 F.2.1 d_Pr_passCycle_59 rfl (lv_at hl 0 rfl) ?_
              refine Cvv (pc := 60) (As := []) (rest := []) F w (c_Pr_enterNmi l D cI ad s3) 9 rfl rfl k_Pr_enterNmi m_630 (Nat.le_of_ble_eq_true rfl) (Nat.le_of_ble_eq_true rfl) ⟨rfl, rfl⟩ rfl hl.1 rfl (Nat.le_of_ble_eq_true rfl) d_Pr_passCycle_60 hcs (fun s5 H locs e_s5 w => ?_)
              refine lv_goto (pc := 63) F.1 F.2.1 d_Pr_passCycle_63 (tgt := 70) (by decide) ?_
              exact k56 s5 _ _ _ ⟨(by rw [e_s5]; exact Eq.symm (Eq.trans (if_neg h56) (rfl))), w, lv_sub hl [0] rfl⟩
        · refine lv_iconst (pc := 50) (v := 1) F.1 F.2.1 d_Pr_passCycle_50 (by decide) ?_
          exact Rz (pc := 51) F hr hlk w (Or.inr rfl) (by rw [e_s3, e_s2] at h47; rw [e_s3, e_s2]; exact Eq.symm (Eq.trans (if_pos h4) (Eq.trans (if_pos h17) (Eq.trans (if_neg h47) (rfl))))) d_Pr_passCycle_51
      · refine lv_if_ne (pc := 26) F.1 F.2.1 d_Pr_passCycle_26 (tgt := 33) (by decide) (fun h26 => ?_) (fun h26 => ?_)
        · exact k26 σ _ _ _ ⟨(by exact Eq.symm (Eq.trans (if_neg h26) (rfl))), w, lv_sub hl [0] rfl, hI⟩
        · refine lv_aload_n (pc := 29) F.1 F.2.1 d_Pr_passCycle_29 rfl (lv_at hl 0 rfl) ?_
          refine Cvv (pc := 30) (As := []) (rest := []) F w (c_Pr_begin l D cI ad σ hI) 9 rfl rfl k_Pr_begin m_610 (Nat.le_of_ble_eq_true rfl) (Nat.le_of_ble_eq_true rfl) ⟨rfl, rfl⟩ rfl hl.1 rfl (Nat.le_of_ble_eq_true rfl) d_Pr_passCycle_30 hcs (fun s1 H locs e_s1 w => ?_)
          have iIC_s1 : IC s1 := by rw [e_s1]; exact iIC_Pr_begin hI 
          exact k26 s1 _ _ _ ⟨(by rw [e_s1]; exact Eq.symm (Eq.trans (if_pos h26) (rfl))), w, lv_sub hl [0] rfl, iIC_s1⟩
    · refine lv_iconst (pc := 20) (v := 0) F.1 F.2.1 d_Pr_passCycle_20 (by decide) ?_
      exact Rz (pc := 21) F hr hlk w (Or.inl rfl) (by exact Eq.symm (Eq.trans (if_pos h4) (Eq.trans (if_neg h17) (rfl)))) d_Pr_passCycle_21
def f_Ch_passCycle_r43 (s2 : Sg) : Sg := if 0 ≤ (s2 5 2) then (s2) else (let s3 := sf s2 5 2 (s2 11 (21 : Int32).toNatClampNeg); let s4 := sf s3 5 3 1; s4)
def f_Ch_passCycle (σ : Sg) : Sg := let s1 := sf σ 5 1 (((σ 5 1) >>> ((1 : Int32) &&& 31)) ||| ((((σ 5 1) ^^^ ((σ 5 1) >>> ((4 : Int32) &&& 31))) &&& 1) <<< ((8 : Int32) &&& 31))); let s2 := sf s1 5 2 ((s1 5 2) - 1); let s5 := (f_Ch_passCycle_r43 s2); s5
set_option maxHeartbeats 1000000 in
set_option maxRecDepth 100000 in
theorem c_Ch_passCycle (l : Launch) (D : va_G) (cI : ClassId) (ad : Nat → Nat) (σ : Sg) : Met l y_Ch_passCycle (Cond.code y_Ch_passCycle b_Ch_passCycle 2 none :: al) { frames := 0, cells := 0, slots := 0, locals := 0 } (Px D cI (wC cI ad) (AC ad) σ [.ref (ad 5)]) (va_Qv (fun u => u = f_Ch_passCycle σ ) (Bx D cI (wC cI ad) (AC ad)) (AC ad)) 0 0 (AC ad) := by
  refine Mx l (by decide) (Nat.le_of_ble_eq_true rfl) ?_
  intro p e s m below meth c ls F w hr hlk hl
  have F : CallFix p m c b_Ch_passCycle 2 s _ al "PictureMachine$Chance" := F
  have hl : lv_has ls 2 [(0, .ref (ad 5))] := hl
  refine lv_aload_n (pc := 0) F.1 F.2.1 d_Ch_passCycle_0 rfl (lv_at hl 0 rfl) ?_
  refine gC5_1 (pc := 1) F w (F.2.2.2.2 _ m_131) d_Ch_passCycle_1 ?_
  refine lv_aload_n (pc := 4) F.1 F.2.1 d_Ch_passCycle_4 rfl (lv_at hl 0 rfl) ?_
  refine gC5_1 (pc := 5) F w (F.2.2.2.2 _ m_131) d_Ch_passCycle_5 ?_
  refine lv_iconst (pc := 8) (v := 4) F.1 F.2.1 d_Ch_passCycle_8 (by decide) ?_
  refine lv_ishr (pc := 9) F.1 F.2.1 d_Ch_passCycle_9 ?_
  refine lv_ixor (pc := 10) F.1 F.2.1 d_Ch_passCycle_10 ?_
  refine lv_iconst (pc := 11) (v := 1) F.1 F.2.1 d_Ch_passCycle_11 (by decide) ?_
  refine lv_iand (pc := 12) F.1 F.2.1 d_Ch_passCycle_12 ?_
  refine lv_istore_n (pc := 13) F.1 F.2.1 d_Ch_passCycle_13 rfl hl (by decide) rfl (fun ls hl => ?_)
  have hl : lv_has ls 2 [(1, .int (((σ 5 1) ^^^ ((σ 5 1) >>> ((4 : Int32) &&& 31))) &&& 1)), (0, .ref (ad 5))] := hl
  refine lv_aload_n (pc := 14) F.1 F.2.1 d_Ch_passCycle_14 rfl (lv_at hl 1 rfl) ?_
  refine lv_aload_n (pc := 15) F.1 F.2.1 d_Ch_passCycle_15 rfl (lv_at hl 1 rfl) ?_
  refine gC5_1 (pc := 16) F w (F.2.2.2.2 _ m_131) d_Ch_passCycle_16 ?_
  refine lv_iconst (pc := 19) (v := 1) F.1 F.2.1 d_Ch_passCycle_19 (by decide) ?_
  refine lv_ishr (pc := 20) F.1 F.2.1 d_Ch_passCycle_20 ?_
  refine lv_iload_n (pc := 21) F.1 F.2.1 d_Ch_passCycle_21 rfl (lv_at hl 0 rfl) ?_
  refine lv_bipush (pc := 22) (v := 8) F.1 F.2.1 d_Ch_passCycle_22 (by decide) ?_
  refine lv_ishl (pc := 24) F.1 F.2.1 d_Ch_passCycle_24 ?_
  refine lv_ior (pc := 25) F.1 F.2.1 d_Ch_passCycle_25 ?_
  refine pC5_1 (pc := 26) F w (F.2.2.2.2 _ m_131) d_Ch_passCycle_26 (fun H locs s1 e_s1 w => ?_)
  refine lv_aload_n (pc := 29) F.1 F.2.1 d_Ch_passCycle_29 rfl (lv_at hl 1 rfl) ?_
  refine lv_dup (pc := 30) F.1 F.2.1 d_Ch_passCycle_30 rfl ?_
  refine gC5_2 (pc := 31) F w (F.2.2.2.2 _ m_134) d_Ch_passCycle_31 ?_
  refine lv_iconst (pc := 34) (v := 1) F.1 F.2.1 d_Ch_passCycle_34 (by decide) ?_
  refine lv_isub (pc := 35) F.1 F.2.1 d_Ch_passCycle_35 ?_
  refine pC5_2 (pc := 36) F w (F.2.2.2.2 _ m_134) d_Ch_passCycle_36 (fun H locs s2 e_s2 w => ?_)
  refine lv_aload_n (pc := 39) F.1 F.2.1 d_Ch_passCycle_39 rfl (lv_at hl 1 rfl) ?_
  refine gC5_2 (pc := 40) F w (F.2.2.2.2 _ m_134) d_Ch_passCycle_40 ?_
  refine cutW (α := Sg) (fun x H locs ls => x = f_Ch_passCycle_r43 s2 ∧ Wx D cI (wC cI ad) (AC ad) (AC ad) s s.heap H locs x ∧ lv_has ls 2 [(0, .ref (ad 5)), (1, .int (((σ 5 1) ^^^ ((σ 5 1) >>> ((4 : Int32) &&& 31))) &&& 1))]) (fun x ls => F0 m 62 ls []) ?_ (fun k43 => ?_)
  · rintro s5 H locs ls ⟨ex, w, hl⟩
    have e_s5 := ex
    have w : Wx D cI (wC cI ad) (AC ad) (AC ad) s s.heap H locs s5 := w
    have hl : lv_has ls 2 [(0, .ref (ad 5)), (1, .int (((σ 5 1) ^^^ ((σ 5 1) >>> ((4 : Int32) &&& 31))) &&& 1))] := hl
    show W _ _ _ _ _ _ _ _ _ _ _ _ _ _ _ (F0 m 62 ls [])
    exact Rv (pc := 62) F hr hlk w (by rw [e_s5, e_s2, e_s1]; exact Eq.symm (rfl)) d_Ch_passCycle_62
  · refine lv_if_ge (pc := 43) F.1 F.2.1 d_Ch_passCycle_43 (tgt := 62) (by decide) (fun h43 => ?_) (fun h43 => ?_)
    · exact k43 s2 _ _ _ ⟨(by exact Eq.symm (Eq.trans (if_pos h43) (rfl))), w, lv_sub hl [1, 0] rfl⟩
    · refine lv_aload_n (pc := 46) F.1 F.2.1 d_Ch_passCycle_46 rfl (lv_at hl 1 rfl) ?_
      refine lv_aload_n (pc := 47) F.1 F.2.1 d_Ch_passCycle_47 rfl (lv_at hl 1 rfl) ?_
      refine gC5_0 (pc := 48) F w (F.2.2.2.2 _ m_130) d_Ch_passCycle_48 ?_
      refine lv_bipush (pc := 51) (v := 21) F.1 F.2.1 d_Ch_passCycle_51 (by decide) ?_
      refine lC11 (pc := 53) F w (by unfold vp_in; decide) d_Ch_passCycle_53 ?_
      refine pC5_2 (pc := 54) F w (F.2.2.2.2 _ m_134) d_Ch_passCycle_54 (fun H locs s3 e_s3 w => ?_)
      refine lv_aload_n (pc := 57) F.1 F.2.1 d_Ch_passCycle_57 rfl (lv_at hl 1 rfl) ?_
      refine lv_iconst (pc := 58) (v := 1) F.1 F.2.1 d_Ch_passCycle_58 (by decide) ?_
      refine pC5_3 (pc := 59) F w (F.2.2.2.2 _ m_136) d_Ch_passCycle_59 (fun H locs s4 e_s4 w => ?_)
      exact k43 s4 _ _ _ ⟨(by rw [e_s4, e_s3]; exact Eq.symm (Eq.trans (if_neg h43) (rfl))), w, lv_sub hl [1, 0] rfl⟩
theorem iIC_Ch_passCycle {σ : Sg} (h : IC σ) : IC (f_Ch_passCycle σ) := by
  unfold f_Ch_passCycle
  show IC (f_Ch_passCycle_r43 _)
  unfold f_Ch_passCycle_r43
  split
  · exact h.same rfl rfl rfl rfl rfl rfl
  · exact h.same rfl rfl rfl rfl rfl rfl
def f_Pc_firstDotOf  (x1 : Int32) : Int32 := ((x1 - 1) * 32)
set_option maxHeartbeats 1000000 in
set_option maxRecDepth 100000 in
theorem c_Pc_firstDotOf (l : Launch)  (x1 : Int32) : Met l y_Pc_firstDotOf (Cond.code y_Pc_firstDotOf b_Pc_firstDotOf 1 (some .int) :: al) { frames := 0, cells := 0, slots := 0, locals := 0 } (PU [.int x1]) (QU (f_Pc_firstDotOf x1)) 0 0 (fun _ => False) := by
  refine Mu l (by decide) (Nat.le_of_ble_eq_true rfl) ?_
  intro p e s m below meth c ls F hr hlk hl
  have F : CallFix p m c b_Pc_firstDotOf 1 s _ al "PictureMachine$Picture" := F
  generalize hH : s.heap = H
  generalize hlo : ([] : List Loc) = locs
  have w : (H = s.heap ∧ locs = []) := ⟨hH.symm, hlo.symm⟩
  have hl : lv_has ls 1 [(0, .int x1)] := hl
  refine lv_iload_n (pc := 0) F.1 F.2.1 d_Pc_firstDotOf_0 rfl (lv_at hl 0 rfl) ?_
  refine lv_iconst (pc := 1) (v := 1) F.1 F.2.1 d_Pc_firstDotOf_1 (by decide) ?_
  refine lv_isub (pc := 2) F.1 F.2.1 d_Pc_firstDotOf_2 ?_
  refine lv_bipush (pc := 3) (v := 32) F.1 F.2.1 d_Pc_firstDotOf_3 (by decide) ?_
  refine lv_imul (pc := 5) F.1 F.2.1 d_Pc_firstDotOf_5 ?_
  exact Ui (pc := 6) F w hr hlk (by exact Eq.symm (rfl)) d_Pc_firstDotOf_6
def f_Ds_shownByte_r28 (σ : Sg) (x1 : Int32) (r4 : Int32) : Int32 := if r4 = 2 then ((σ 13 x1.toNatClampNeg)) else ((σ 12 x1.toNatClampNeg))
def f_Ds_shownByte (σ : Sg) (x1 : Int32) : Int32 := let r1 := f_Ds_isOn σ; if r1 = 0 then (0) else (let r2 := f_Ds_hasRow σ; if r2 = 0 then (0) else (let r3 := f_Ds_modeHasData σ; if r3 = 0 then (0) else (let r4 := f_Ds_mode σ; let v5 := (f_Ds_shownByte_r28 σ x1 r4); v5)))
set_option maxHeartbeats 1000000 in
set_option maxRecDepth 100000 in
theorem c_Ds_shownByte (l : Launch) (D : va_G) (cI : ClassId) (ad : Nat → Nat) (σ : Sg) (x1 : Int32) (hq : vp_in x1 8) : Met l y_Ds_shownByte (Cond.code y_Ds_shownByte b_Ds_shownByte 2 (some .int) :: al) { frames := 2, cells := 0, slots := 0, locals := 40 } (Px D cI (wC cI ad) (AC ad) σ [.ref (ad 6), .int x1]) (va_Qi (fun r u => r = f_Ds_shownByte σ x1 ∧ u = σ) (Bx D cI (wC cI ad) (AC ad)) (AC ad)) 0 0 (AC ad) := by
  refine Mx l (by decide) (Nat.le_of_ble_eq_true rfl) ?_
  intro p e s m below meth c ls F w hr hlk hl
  have F : CallFix p m c b_Ds_shownByte 2 s _ al "PictureMachine$Display" := F
  have hl : lv_has ls 2 [(0, .ref (ad 6)), (1, .int x1)] := hl
  have hcs : (0 : Nat) ≤ 0 ∧ (0 : Nat) ≤ 0 := ⟨Nat.le_refl _, Nat.le_refl _⟩
  refine lv_aload_n (pc := 0) F.1 F.2.1 d_Ds_shownByte_0 rfl (lv_at hl 0 rfl) ?_
  refine Kvi (pc := 1) (As := []) (rest := []) F w (c_Ds_isOn l D cI ad σ) 6 rfl rfl k_Ds_isOn m_563 (Nat.le_of_ble_eq_true rfl) (Nat.le_of_ble_eq_true rfl) ⟨rfl, rfl⟩ rfl hl.1 rfl (Nat.le_of_ble_eq_true rfl) d_Ds_shownByte_1 hcs (fun r1 H locs e_r1 w => ?_)
  refine lv_if_eq (pc := 4) F.1 F.2.1 d_Ds_shownByte_4 (tgt := 21) (by decide) (fun h4 => ?_) (fun h4 => ?_)
  · refine lv_iconst (pc := 21) (v := 0) F.1 F.2.1 d_Ds_shownByte_21 (by decide) ?_
    exact Ki (pc := 22) F hr hlk w (by rw [e_r1] at h4; exact Eq.symm (Eq.trans (if_pos h4) (rfl))) d_Ds_shownByte_22
  · refine lv_aload_n (pc := 7) F.1 F.2.1 d_Ds_shownByte_7 rfl (lv_at hl 0 rfl) ?_
    refine Kvi (pc := 8) (As := []) (rest := []) F w (c_Ds_hasRow l D cI ad σ) 6 rfl rfl k_Ds_hasRow m_345 (Nat.le_of_ble_eq_true rfl) (Nat.le_of_ble_eq_true rfl) ⟨rfl, rfl⟩ rfl hl.1 rfl (Nat.le_of_ble_eq_true rfl) d_Ds_shownByte_8 hcs (fun r2 H locs e_r2 w => ?_)
    refine lv_if_eq (pc := 11) F.1 F.2.1 d_Ds_shownByte_11 (tgt := 21) (by decide) (fun h11 => ?_) (fun h11 => ?_)
    · refine lv_iconst (pc := 21) (v := 0) F.1 F.2.1 d_Ds_shownByte_21 (by decide) ?_
      exact Ki (pc := 22) F hr hlk w (by rw [e_r1] at h4; rw [e_r2] at h11; exact Eq.symm (Eq.trans (if_neg h4) (Eq.trans (if_pos h11) (rfl)))) d_Ds_shownByte_22
    · refine lv_aload_n (pc := 14) F.1 F.2.1 d_Ds_shownByte_14 rfl (lv_at hl 0 rfl) ?_
      refine Kvi (pc := 15) (As := []) (rest := []) F w (c_Ds_modeHasData l D cI ad σ) 6 rfl rfl k_Ds_modeHasData m_590 (Nat.le_of_ble_eq_true rfl) (Nat.le_of_ble_eq_true rfl) ⟨rfl, rfl⟩ rfl hl.1 rfl (Nat.le_of_ble_eq_true rfl) d_Ds_shownByte_15 hcs (fun r3 H locs e_r3 w => ?_)
      refine lv_if_ne (pc := 18) F.1 F.2.1 d_Ds_shownByte_18 (tgt := 23) (by decide) (fun h18 => ?_) (fun h18 => ?_)
      · refine lv_aload_n (pc := 23) F.1 F.2.1 d_Ds_shownByte_23 rfl (lv_at hl 0 rfl) ?_
        refine Kvi (pc := 24) (As := []) (rest := []) F w (c_Ds_mode l D cI ad σ) 6 rfl rfl k_Ds_mode m_349 (Nat.le_of_ble_eq_true rfl) (Nat.le_of_ble_eq_true rfl) ⟨rfl, rfl⟩ rfl hl.1 rfl (Nat.le_of_ble_eq_true rfl) d_Ds_shownByte_24 hcs (fun r4 H locs e_r4 w => ?_)
        refine lv_iconst (pc := 27) (v := 2) F.1 F.2.1 d_Ds_shownByte_27 (by decide) ?_
        refine cutW (α := Int32) (fun x H locs ls => x = f_Ds_shownByte_r28 σ x1 r4 ∧ Wx D cI (wC cI ad) (AC ad) (AC ad) s s.heap H locs σ ∧ lv_has ls 2 [(0, .ref (ad 6)), (1, .int x1)]) (fun x ls => F0 m 46 ls [.int x]) ?_ (fun k28 => ?_)
        · rintro v5 H locs ls ⟨ex, w, hl⟩
          have e_v5 := ex
          have w : Wx D cI (wC cI ad) (AC ad) (AC ad) s s.heap H locs σ := w
          have hl : lv_has ls 2 [(0, .ref (ad 6)), (1, .int x1)] := hl
          show W _ _ _ _ _ _ _ _ _ _ _ _ _ _ _ (F0 m 46 ls [.int v5])
          exact Ki (pc := 46) F hr hlk w (by rw [e_r1] at h4; rw [e_r2] at h11; rw [e_r3] at h18; rw [e_v5, e_r4]; exact Eq.symm (Eq.trans (if_neg h4) (Eq.trans (if_neg h11) (Eq.trans (if_neg h18) (rfl))))) d_Ds_shownByte_46
        · refine lv_icmp_ne (pc := 28) F.1 F.2.1 d_Ds_shownByte_28 (tgt := 40) (by decide) (fun h28 => ?_) (fun h28 => ?_)
          · refine lv_aload_n (pc := 40) F.1 F.2.1 d_Ds_shownByte_40 rfl (lv_at hl 0 rfl) ?_
            refine gC6_3 (pc := 41) F w (F.2.2.2.2 _ m_156) d_Ds_shownByte_41 ?_
            refine lv_iload_n (pc := 44) F.1 F.2.1 d_Ds_shownByte_44 rfl (lv_at hl 1 rfl) ?_
            refine lC12 (pc := 45) F w (hq) d_Ds_shownByte_45 ?_
            exact k28 (σ 12 x1.toNatClampNeg) _ _ _ ⟨(by exact Eq.symm (Eq.trans (if_neg h28) (rfl))), w, lv_sub hl [0, 1] rfl⟩
          · refine lv_aload_n (pc := 31) F.1 F.2.1 d_Ds_shownByte_31 rfl (lv_at hl 0 rfl) ?_
            refine gC6_4 (pc := 32) F w (F.2.2.2.2 _ m_157) d_Ds_shownByte_32 ?_
            refine lv_iload_n (pc := 35) F.1 F.2.1 d_Ds_shownByte_35 rfl (lv_at hl 1 rfl) ?_
            refine lC13 (pc := 36) F w (hq) d_Ds_shownByte_36 ?_
            refine lv_goto (pc := 37) F.1 F.2.1 d_Ds_shownByte_37 (tgt := 46) (by decide) ?_
            exact k28 (σ 13 x1.toNatClampNeg) _ _ _ ⟨(by exact Eq.symm (Eq.trans (if_pos h28) (rfl))), w, lv_sub hl [0, 1] rfl⟩
      · refine lv_iconst (pc := 21) (v := 0) F.1 F.2.1 d_Ds_shownByte_21 (by decide) ?_
        exact Ki (pc := 22) F hr hlk w (by rw [e_r1] at h4; rw [e_r2] at h11; rw [e_r3] at h18; exact Eq.symm (Eq.trans (if_neg h4) (Eq.trans (if_neg h11) (Eq.trans (if_pos h18) (rfl))))) d_Ds_shownByte_22
def f_Pc_covers_r45 (σ : Sg) (x1 : Int32) (x2 : Int32) : Int32 := if (((σ 11 (16 : Int32).toNatClampNeg) >>> (x1 &&& 31)) &&& 1) = 0 then ((x2 - (σ 11 (14 + x1).toNatClampNeg))) else (((x2 - (σ 11 (14 + x1).toNatClampNeg)) / 2))
def f_Pc_covers_r63 (σ : Sg) (x1 : Int32) (v1 : Int32) : Int32 := if 8 ≤ v1 then (0) else (if (((σ 11 (19 + x1).toNatClampNeg) >>> ((7 - v1) &&& 31)) &&& 1) = 0 then (0) else (1))
def f_Pc_covers (σ : Sg) (x1 : Int32) (x2 : Int32) : Int32 := if (σ 11 (19 + x1).toNatClampNeg) = 0 then (0) else (if 0 ≤ (x2 - (σ 11 (14 + x1).toNatClampNeg)) then (let v1 := (f_Pc_covers_r45 σ x1 x2); let v2 := (f_Pc_covers_r63 σ x1 v1); v2) else (0))
theorem z_f_Pc_covers_r63_0 (σ : Sg) (x1 : Int32) (v1 : Int32) : (f_Pc_covers_r63 σ x1 v1) = 0 ∨ (f_Pc_covers_r63 σ x1 v1) = 1 := by unfold f_Pc_covers_r63; (try dsimp only); (repeat' split) <;> first | exact Or.inl rfl | exact Or.inr rfl
theorem z_Pc_covers (σ : Sg) (x1 : Int32) (x2 : Int32) : (f_Pc_covers σ x1 x2) = 0 ∨ (f_Pc_covers σ x1 x2) = 1 := by unfold f_Pc_covers; (try dsimp only); (repeat' split) <;> first | exact Or.inl rfl | exact Or.inr rfl | apply z_f_Pc_covers_r63_0
set_option maxHeartbeats 1000000 in
set_option maxRecDepth 100000 in
theorem c_Pc_covers (l : Launch) (D : va_G) (cI : ClassId) (ad : Nat → Nat) (σ : Sg) (x1 : Int32) (x2 : Int32) (hq : x1 = 0 ∨ x1 = 1) : Met l y_Pc_covers (Cond.code y_Pc_covers b_Pc_covers 6 (some .boolean) :: al) { frames := 0, cells := 0, slots := 0, locals := 0 } (Px D cI (wC cI ad) (AC ad) σ [.ref (ad 7), .int x1, .int x2]) (va_Qi (fun r u => r = f_Pc_covers σ x1 x2 ∧ u = σ) (Bx D cI (wC cI ad) (AC ad)) (AC ad)) 0 0 (AC ad) := by
  refine Mx l (by decide) (Nat.le_of_ble_eq_true rfl) ?_
  intro p e s m below meth c ls F w hr hlk hl
  have F : CallFix p m c b_Pc_covers 6 s _ al "PictureMachine$Picture" := F
  have hl : lv_has ls 6 [(0, .ref (ad 7)), (1, .int x1), (2, .int x2)] := hl
  refine lv_aload_n (pc := 0) F.1 F.2.1 d_Pc_covers_0 rfl (lv_at hl 0 rfl) ?_
  refine gC7_1 (pc := 1) F w (F.2.2.2.2 _ m_208) d_Pc_covers_1 ?_
  refine lv_bipush (pc := 4) (v := 19) F.1 F.2.1 d_Pc_covers_4 (by decide) ?_
  refine lv_iload_n (pc := 6) F.1 F.2.1 d_Pc_covers_6 rfl (lv_at hl 1 rfl) ?_
  refine lv_iadd (pc := 7) F.1 F.2.1 d_Pc_covers_7 ?_
  refine lC11 (pc := 8) F w (by rcases hq with rfl | rfl <;> (unfold vp_in; decide)) d_Pc_covers_8 ?_
  refine lv_istore_n (pc := 9) F.1 F.2.1 d_Pc_covers_9 rfl hl (by decide) rfl (fun ls hl => ?_)
  have hl : lv_has ls 6 [(3, .int (σ 11 (19 + x1).toNatClampNeg)), (0, .ref (ad 7)), (1, .int x1), (2, .int x2)] := hl
  refine lv_iload_n (pc := 10) F.1 F.2.1 d_Pc_covers_10 rfl (lv_at hl 3 rfl) ?_
  refine lv_aload_n (pc := 11) F.1 F.2.1 d_Pc_covers_11 rfl (lv_at hl 1 rfl) ?_
  refine gC7_1 (pc := 12) F w (F.2.2.2.2 _ m_208) d_Pc_covers_12 ?_
  refine lv_bipush (pc := 15) (v := 14) F.1 F.2.1 d_Pc_covers_15 (by decide) ?_
  refine lv_iload_n (pc := 17) F.1 F.2.1 d_Pc_covers_17 rfl (lv_at hl 2 rfl) ?_
  refine lv_iadd (pc := 18) F.1 F.2.1 d_Pc_covers_18 ?_
  refine lC11 (pc := 19) F w (by rcases hq with rfl | rfl <;> (unfold vp_in; decide)) d_Pc_covers_19 ?_
  refine lv_isub (pc := 20) F.1 F.2.1 d_Pc_covers_20 ?_
  refine lv_istore (pc := 21) F.1 F.2.1 d_Pc_covers_21 hl (by decide) rfl (fun ls hl => ?_)
  have hl : lv_has ls 6 [(4, .int (x2 - (σ 11 (14 + x1).toNatClampNeg))), (3, .int (σ 11 (19 + x1).toNatClampNeg)), (0, .ref (ad 7)), (1, .int x1), (2, .int x2)] := hl
  refine lv_iload_n (pc := 23) F.1 F.2.1 d_Pc_covers_23 rfl (lv_at hl 1 rfl) ?_
  refine lv_if_eq (pc := 24) F.1 F.2.1 d_Pc_covers_24 (tgt := 32) (by decide) (fun h24 => ?_) (fun h24 => ?_)
  · refine lv_iconst (pc := 32) (v := 0) F.1 F.2.1 d_Pc_covers_32 (by decide) ?_
    exact Kz (pc := 33) F hr hlk w (Or.inl rfl) (by exact Eq.symm (Eq.trans (if_pos h24) (rfl))) d_Pc_covers_33
  · refine lv_iload (pc := 27) F.1 F.2.1 d_Pc_covers_27 (lv_at hl 0 rfl) ?_
    refine lv_if_ge (pc := 29) F.1 F.2.1 d_Pc_covers_29 (tgt := 34) (by decide) (fun h29 => ?_) (fun h29 => ?_)
    · refine lv_aload_n (pc := 34) F.1 F.2.1 d_Pc_covers_34 rfl (lv_at hl 2 rfl) ?_
      refine gC7_1 (pc := 35) F w (F.2.2.2.2 _ m_208) d_Pc_covers_35 ?_
      refine lv_bipush (pc := 38) (v := 16) F.1 F.2.1 d_Pc_covers_38 (by decide) ?_
      refine lC11 (pc := 40) F w (by unfold vp_in; decide) d_Pc_covers_40 ?_
      refine lv_iload_n (pc := 41) F.1 F.2.1 d_Pc_covers_41 rfl (lv_at hl 3 rfl) ?_
      refine lv_ishr (pc := 42) F.1 F.2.1 d_Pc_covers_42 ?_
      refine lv_iconst (pc := 43) (v := 1) F.1 F.2.1 d_Pc_covers_43 (by decide) ?_
      refine lv_iand (pc := 44) F.1 F.2.1 d_Pc_covers_44 ?_
      refine cutW (α := Int32) (fun x H locs ls => x = f_Pc_covers_r45 σ x1 x2 ∧ Wx D cI (wC cI ad) (AC ad) (AC ad) s s.heap H locs σ ∧ lv_has ls 6 [(0, .ref (ad 7)), (1, .int x1), (2, .int x2), (3, .int (σ 11 (19 + x1).toNatClampNeg)), (4, .int (x2 - (σ 11 (14 + x1).toNatClampNeg)))]) (fun x ls => F0 m 57 ls [.int x]) ?_ (fun k45 => ?_)
      · rintro v1 H locs ls ⟨ex, w, hl⟩
        have e_v1 := ex
        have w : Wx D cI (wC cI ad) (AC ad) (AC ad) s s.heap H locs σ := w
        have hl : lv_has ls 6 [(0, .ref (ad 7)), (1, .int x1), (2, .int x2), (3, .int (σ 11 (19 + x1).toNatClampNeg)), (4, .int (x2 - (σ 11 (14 + x1).toNatClampNeg)))] := hl
        show W _ _ _ _ _ _ _ _ _ _ _ _ _ _ _ (F0 m 57 ls [.int v1])
        refine lv_istore (pc := 57) F.1 F.2.1 d_Pc_covers_57 hl (by decide) rfl (fun ls hl => ?_)
        have hl : lv_has ls 6 [(5, .int v1), (0, .ref (ad 7)), (1, .int x1), (2, .int x2), (3, .int (σ 11 (19 + x1).toNatClampNeg)), (4, .int (x2 - (σ 11 (14 + x1).toNatClampNeg)))] := hl
        refine lv_iload (pc := 59) F.1 F.2.1 d_Pc_covers_59 (lv_at hl 0 rfl) ?_
        refine lv_bipush (pc := 61) (v := 8) F.1 F.2.1 d_Pc_covers_61 (by decide) ?_
        refine cutW (α := Int32) (fun x H locs ls => x = f_Pc_covers_r63 σ x1 v1 ∧ Wx D cI (wC cI ad) (AC ad) (AC ad) s s.heap H locs σ ∧ lv_has ls 6 [(0, .ref (ad 7)), (1, .int x1), (2, .int x2), (3, .int (σ 11 (19 + x1).toNatClampNeg)), (4, .int (x2 - (σ 11 (14 + x1).toNatClampNeg))), (5, .int v1)]) (fun x ls => F0 m 83 ls [.int x]) ?_ (fun k63 => ?_)
        · rintro v2 H locs ls ⟨ex, w, hl⟩
          have e_v2 := ex
          have w : Wx D cI (wC cI ad) (AC ad) (AC ad) s s.heap H locs σ := w
          have hl : lv_has ls 6 [(0, .ref (ad 7)), (1, .int x1), (2, .int x2), (3, .int (σ 11 (19 + x1).toNatClampNeg)), (4, .int (x2 - (σ 11 (14 + x1).toNatClampNeg))), (5, .int v1)] := hl
          show W _ _ _ _ _ _ _ _ _ _ _ _ _ _ _ (F0 m 83 ls [.int v2])
          exact Kz (pc := 83) F hr hlk w (e_v2 ▸ z_f_Pc_covers_r63_0 σ x1 v1) (by rw [e_v2, e_v1]; exact Eq.symm (Eq.trans (if_neg h24) (Eq.trans (if_pos h29) (rfl)))) d_Pc_covers_83
        · refine lv_icmp_ge (pc := 63) F.1 F.2.1 d_Pc_covers_63 (tgt := 82) (by decide) (fun h63 => ?_) (fun h63 => ?_)
          · refine lv_iconst (pc := 82) (v := 0) F.1 F.2.1 d_Pc_covers_82 (by decide) ?_
            exact k63 0 _ _ _ ⟨(by exact Eq.symm (Eq.trans (if_pos h63) (rfl))), w, lv_sub hl [1, 2, 3, 4, 5, 0] rfl⟩
          · refine lv_iload_n (pc := 66) F.1 F.2.1 d_Pc_covers_66 rfl (lv_at hl 4 rfl) ?_
            refine lv_bipush (pc := 67) (v := 7) F.1 F.2.1 d_Pc_covers_67 (by decide) ?_
            refine lv_iload (pc := 69) F.1 F.2.1 d_Pc_covers_69 (lv_at hl 0 rfl) ?_
            refine lv_isub (pc := 71) F.1 F.2.1 d_Pc_covers_71 ?_
            refine lv_ishr (pc := 72) F.1 F.2.1 d_Pc_covers_72 ?_
            refine lv_iconst (pc := 73) (v := 1) F.1 F.2.1 d_Pc_covers_73 (by decide) ?_
            refine lv_iand (pc := 74) F.1 F.2.1 d_Pc_covers_74 ?_
            refine lv_if_eq (pc := 75) F.1 F.2.1 d_Pc_covers_75 (tgt := 82) (by decide) (fun h75 => ?_) (fun h75 => ?_)
            · refine lv_iconst (pc := 82) (v := 0) F.1 F.2.1 d_Pc_covers_82 (by decide) ?_
              exact k63 0 _ _ _ ⟨(by exact Eq.symm (Eq.trans (if_neg h63) (Eq.trans (if_pos h75) (rfl)))), w, lv_sub hl [1, 2, 3, 4, 5, 0] rfl⟩
            · refine lv_iconst (pc := 78) (v := 1) F.1 F.2.1 d_Pc_covers_78 (by decide) ?_
              refine lv_goto (pc := 79) F.1 F.2.1 d_Pc_covers_79 (tgt := 83) (by decide) ?_
              exact k63 1 _ _ _ ⟨(by exact Eq.symm (Eq.trans (if_neg h63) (Eq.trans (if_neg h75) (rfl)))), w, lv_sub hl [1, 2, 3, 4, 5, 0] rfl⟩
      · refine lv_if_eq (pc := 45) F.1 F.2.1 d_Pc_covers_45 (tgt := 55) (by decide) (fun h45 => ?_) (fun h45 => ?_)
        · refine lv_iload (pc := 55) F.1 F.2.1 d_Pc_covers_55 (lv_at hl 0 rfl) ?_
          exact k45 (x2 - (σ 11 (14 + x1).toNatClampNeg)) _ _ _ ⟨(by exact Eq.symm (Eq.trans (if_pos h45) (rfl))), w, lv_sub hl [2, 3, 4, 1, 0] rfl⟩
        · refine lv_iload (pc := 48) F.1 F.2.1 d_Pc_covers_48 (lv_at hl 0 rfl) ?_
          refine lv_iconst (pc := 50) (v := 2) F.1 F.2.1 d_Pc_covers_50 (by decide) ?_
          refine lv_idiv (pc := 51) F.1 F.2.1 d_Pc_covers_51 (by decide) ?_
          refine lv_goto (pc := 52) F.1 F.2.1 d_Pc_covers_52 (tgt := 57) (by decide) ?_
          exact k45 ((x2 - (σ 11 (14 + x1).toNatClampNeg)) / 2) _ _ _ ⟨(by exact Eq.symm (Eq.trans (if_neg h45) (rfl))), w, lv_sub hl [2, 3, 4, 1, 0] rfl⟩
    · refine lv_iconst (pc := 32) (v := 0) F.1 F.2.1 d_Pc_covers_32 (by decide) ?_
      exact Kz (pc := 33) F hr hlk w (Or.inl rfl) (by exact Eq.symm (Eq.trans (if_neg h24) (Eq.trans (if_neg h29) (rfl)))) d_Pc_covers_33
def f_Pc_collide_r1 (σ : Sg) (x1 : Int32) (x2 : Int32) : Sg := if x2 = 0 then (σ) else (let s1 := sf σ 15 x1.toNatClampNeg ((σ 15 x1.toNatClampNeg) ||| ((1 : Int32) <<< (x2 &&& 31))); s1)
def f_Pc_collide (σ : Sg) (x1 : Int32) (x2 : Int32) : Sg := let s2 := (f_Pc_collide_r1 σ x1 x2); s2
set_option maxHeartbeats 1000000 in
set_option maxRecDepth 100000 in
theorem c_Pc_collide (l : Launch) (D : va_G) (cI : ClassId) (ad : Nat → Nat) (σ : Sg) (x1 : Int32) (x2 : Int32) (hq : x1 = 0 ∨ x1 = 1) : Met l y_Pc_collide (Cond.code y_Pc_collide b_Pc_collide 3 none :: al) { frames := 0, cells := 0, slots := 0, locals := 0 } (Px D cI (wC cI ad) (AC ad) σ [.ref (ad 7), .int x1, .int x2]) (va_Qv (fun u => u = f_Pc_collide σ x1 x2) (Bx D cI (wC cI ad) (AC ad)) (AC ad)) 0 0 (AC ad) := by
  refine Mx l (by decide) (Nat.le_of_ble_eq_true rfl) ?_
  intro p e s m below meth c ls F w hr hlk hl
  have F : CallFix p m c b_Pc_collide 3 s _ al "PictureMachine$Picture" := F
  have hl : lv_has ls 3 [(0, .ref (ad 7)), (1, .int x1), (2, .int x2)] := hl
  refine lv_iload_n (pc := 0) F.1 F.2.1 d_Pc_collide_0 rfl (lv_at hl 2 rfl) ?_
  refine cutW (α := Sg) (fun x H locs ls => x = f_Pc_collide_r1 σ x1 x2 ∧ Wx D cI (wC cI ad) (AC ad) (AC ad) s s.heap H locs x ∧ lv_has ls 3 [(0, .ref (ad 7)), (1, .int x1), (2, .int x2)]) (fun x ls => F0 m 16 ls []) ?_ (fun k1 => ?_)
  · rintro s2 H locs ls ⟨ex, w, hl⟩
    have e_s2 := ex
    have w : Wx D cI (wC cI ad) (AC ad) (AC ad) s s.heap H locs s2 := w
    have hl : lv_has ls 3 [(0, .ref (ad 7)), (1, .int x1), (2, .int x2)] := hl
    show W _ _ _ _ _ _ _ _ _ _ _ _ _ _ _ (F0 m 16 ls [])
    exact Rv (pc := 16) F hr hlk w (by rw [e_s2]; exact Eq.symm (rfl)) d_Pc_collide_16
  · refine lv_if_eq (pc := 1) F.1 F.2.1 d_Pc_collide_1 (tgt := 16) (by decide) (fun h1 => ?_) (fun h1 => ?_)
    · exact k1 σ _ _ _ ⟨(by exact Eq.symm (Eq.trans (if_pos h1) (rfl))), w, lv_sub hl [0, 1, 2] rfl⟩
    · refine lv_aload_n (pc := 4) F.1 F.2.1 d_Pc_collide_4 rfl (lv_at hl 0 rfl) ?_
      refine gC7_3 (pc := 5) F w (F.2.2.2.2 _ m_210) d_Pc_collide_5 ?_
      refine lv_iload_n (pc := 8) F.1 F.2.1 d_Pc_collide_8 rfl (lv_at hl 1 rfl) ?_
      refine lv_dup2_11 (pc := 9) F.1 F.2.1 d_Pc_collide_9 rfl rfl ?_
      refine lC15 (pc := 10) F w (by rcases hq with rfl | rfl <;> (unfold vp_in; decide)) d_Pc_collide_10 ?_
      refine lv_iconst (pc := 11) (v := 1) F.1 F.2.1 d_Pc_collide_11 (by decide) ?_
      refine lv_iload_n (pc := 12) F.1 F.2.1 d_Pc_collide_12 rfl (lv_at hl 2 rfl) ?_
      refine lv_ishl (pc := 13) F.1 F.2.1 d_Pc_collide_13 ?_
      refine lv_ior (pc := 14) F.1 F.2.1 d_Pc_collide_14 ?_
      refine aC15 (pc := 15) F w (by rcases hq with rfl | rfl <;> (unfold vp_in; decide)) d_Pc_collide_15 (fun H locs s1 e_s1 w => ?_)
      exact k1 s1 _ _ _ ⟨(by rw [e_s1]; exact Eq.symm (Eq.trans (if_neg h1) (rfl))), w, lv_sub hl [0, 1, 2] rfl⟩
