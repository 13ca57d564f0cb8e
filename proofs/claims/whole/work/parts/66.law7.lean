section LAW7
variable {Rel : Sg → Sg → Prop} {p : Program} {l : Launch} {e : Env} {s : State} {m : MethodId} {below : List Frame} {meth : Method} {c : Code} {H : Heap} {locs : List Loc} {cells slots : Nat} {Q : State → Prop} {ls : Array Slot} {D : va_G} {cI cL : ClassId} {ad am : Nat → Nat} {o : Nat} {A : Nat → Prop} {σ τ : Sg} {g : Nat → Int64} {b L : Nat} {xs : Nat → Int32} {i : Int32}
theorem lc_poke (hR : RelOk Rel) (htr : l.stackTraces = false) (F : CallFix p m c code 7 s #[Value.ref b] al "PictureMachineLaw") (x : FX D cI cL ad am o A s) (hX : va_X b L xs s s.heap) (hb1 : b < s.heap.size) (hb2 : ¬ A b) (h1 : vp_in (i + 1) L) (h2 : vp_in (i + 2) L) (h3 : vp_in (i + 3) L) (hcs : cells + 1 ≤ room_1.cells ∧ slots + 6 ≤ room_1.slots) (w : LW D cI cL ad am o A s H locs σ τ g) (hr : Rel σ τ) (hl : lv_has ls 7 [(0, .ref b), (1, .ref (ad 0)), (2, .ref (am 0)), (3, .ref o), (4, .int i)])
    (kk : ∀ (σ τ : Sg) (g : Nat → Int64) (H : Heap) (locs : List Loc) (ls : Array Slot), LW D cI cL ad am o A s H locs σ τ g → Rel σ τ → lv_has ls 7 [(0, .ref b), (1, .ref (ad 0)), (2, .ref (am 0)), (3, .ref o), (4, .int i)] → W p l e room_1 s m #[Value.ref b] below meth c H locs (cells + 1) (slots + 6) Q (F0 m 582 ls [])) : W p l e room_1 s m #[Value.ref b] below meth c H locs cells slots Q (F0 m 92 ls []) := by
  have hh := hR.2.2.2.2.1 σ τ (xs (i + 1).toNatClampNeg) (xs (i + 2).toNatClampNeg) hr
  refine lv_aload_n (pc := 92) F.1 F.2.1 d_La_law_92 rfl (lv_at hl 1 rfl) ?_
  refine lv_aload_n (pc := 93) F.1 F.2.1 d_La_law_93 rfl (lv_at hl 0 rfl) ?_
  refine lv_iload (pc := 94) F.1 F.2.1 d_La_law_94 (lv_at hl 4 rfl) ?_
  refine lv_iconst (pc := 96) (v := 1) F.1 F.2.1 d_La_law_96 (by decide) ?_
  refine lv_iadd (pc := 97) F.1 F.2.1 d_La_law_97 ?_
  refine va_sld (pc := 98) F.1 F.2.1 hX hb1 hb2 w.2.2.2 h1 d_La_law_98 ?_
  refine lv_aload_n (pc := 99) F.1 F.2.1 d_La_law_99 rfl (lv_at hl 0 rfl) ?_
  refine lv_iload (pc := 100) F.1 F.2.1 d_La_law_100 (lv_at hl 4 rfl) ?_
  refine lv_iconst (pc := 102) (v := 2) F.1 F.2.1 d_La_law_102 (by decide) ?_
  refine lv_iadd (pc := 103) F.1 F.2.1 d_La_law_103 ?_
  refine va_sld (pc := 104) F.1 F.2.1 hX hb1 hb2 w.2.2.2 h2 d_La_law_104 ?_
  refine LWv (pc := 105) (As := [.ref (ad 0), .int (xs (i + 1).toNatClampNeg), .int (xs (i + 2).toNatClampNeg)]) (rest := []) F x w (c_La_poke l htr D cI ad σ (xs (i + 1).toNatClampNeg) (xs (i + 2).toNatClampNeg)) kw_poke m_357 (Nat.le_of_ble_eq_true rfl) (Nat.le_of_ble_eq_true rfl) ⟨rfl, rfl⟩ rfl hl.1 rfl (Nat.zero_le _) d_La_law_105 hcs (fun r u H locs e_r e_u w => ?_)
  refine lv_istore (pc := 108) F.1 F.2.1 d_La_law_108 hl (by decide) rfl (fun ls hl => ?_)
  refine lv_aload_n (pc := 110) F.1 F.2.1 d_La_law_110 rfl (lv_at hl 3 rfl) ?_
  refine lv_aload_n (pc := 111) F.1 F.2.1 d_La_law_111 rfl (lv_at hl 1 rfl) ?_
  refine lv_iload (pc := 112) F.1 F.2.1 d_La_law_112 (lv_at hl 5 rfl) ?_
  refine lv_iconst (pc := 114) (v := 1) F.1 F.2.1 d_La_law_114 (by decide) ?_
  refine lv_iadd (pc := 115) F.1 F.2.1 d_La_law_115 ?_
  refine va_sld (pc := 116) F.1 F.2.1 hX hb1 hb2 w.2.2.2 h1 d_La_law_116 ?_
  refine lv_aload_n (pc := 117) F.1 F.2.1 d_La_law_117 rfl (lv_at hl 1 rfl) ?_
  refine lv_iload (pc := 118) F.1 F.2.1 d_La_law_118 (lv_at hl 5 rfl) ?_
  refine lv_iconst (pc := 120) (v := 2) F.1 F.2.1 d_La_law_120 (by decide) ?_
  refine lv_iadd (pc := 121) F.1 F.2.1 d_La_law_121 ?_
  refine va_sld (pc := 122) F.1 F.2.1 hX hb1 hb2 w.2.2.2 h2 d_La_law_122 ?_
  refine LMv (pc := 123) (As := [.int (xs (i + 1).toNatClampNeg), .int (xs (i + 2).toNatClampNeg)]) (rest := []) F x w (c_Mo_poke l D cI am τ (xs (i + 1).toNatClampNeg) (xs (i + 2).toNatClampNeg)) k_Mo_poke m_1097 (Nat.le_of_ble_eq_true rfl) (Nat.le_of_ble_eq_true rfl) ⟨rfl, rfl⟩ rfl hl.1 rfl (Nat.zero_le _) d_La_law_123 (show cells + 1 ≤ room_1.cells ∧ slots + 6 ≤ room_1.slots from hcs) (fun v H locs e_v w => ?_)
  refine lv_aload_n (pc := 126) F.1 F.2.1 d_La_law_126 rfl (lv_at hl 3 rfl) ?_
  refine LMk (pc := 127) (As := []) (rest := []) F x w (c_Mo_thrown l D cI am v) k_Mo_thrown m_923 (Nat.le_of_ble_eq_true rfl) (Nat.le_of_ble_eq_true rfl) ⟨rfl, rfl⟩ rfl hl.1 rfl (Nat.zero_le _) d_La_law_127 (show cells + 1 ≤ room_1.cells ∧ slots + 6 ≤ room_1.slots from hcs) (fun r3 H locs e_r3 w => ?_)
  refine lv_iload (pc := 130) F.1 F.2.1 d_La_law_130 (lv_at hl 0 rfl) ?_
  refine lv_icmp_eq (pc := 132) F.1 F.2.1 d_La_law_132 (tgt := 137) (by decide) (fun _ => ?_) (fun hne => absurd (by rw [e_r3, e_v, e_r]; exact hh.1.symm) hne)
  refine lv_goto (pc := 137) F.1 F.2.1 d_La_law_137 (tgt := 582) (by decide) ?_
  exact kk u v g H locs ls w (by rw [e_u, e_v]; exact hh.2) (lv_sub hl [1, 2, 3, 4, 5] rfl)
theorem lc_peek (hR : RelOk Rel) (htr : l.stackTraces = false) (F : CallFix p m c code 7 s #[Value.ref b] al "PictureMachineLaw") (x : FX D cI cL ad am o A s) (hX : va_X b L xs s s.heap) (hb1 : b < s.heap.size) (hb2 : ¬ A b) (h1 : vp_in (i + 1) L) (h2 : vp_in (i + 2) L) (h3 : vp_in (i + 3) L) (hcs : cells + 1 ≤ room_1.cells ∧ slots + 6 ≤ room_1.slots) (w : LW D cI cL ad am o A s H locs σ τ g) (hr : Rel σ τ) (hl : lv_has ls 7 [(0, .ref b), (1, .ref (ad 0)), (2, .ref (am 0)), (3, .ref o), (4, .int i)])
    (kk : ∀ (σ τ : Sg) (g : Nat → Int64) (H : Heap) (locs : List Loc) (ls : Array Slot), LW D cI cL ad am o A s H locs σ τ g → Rel σ τ → lv_has ls 7 [(0, .ref b), (1, .ref (ad 0)), (2, .ref (am 0)), (3, .ref o), (4, .int i)] → W p l e room_1 s m #[Value.ref b] below meth c H locs (cells + 1) (slots + 6) Q (F0 m 582 ls [])) : W p l e room_1 s m #[Value.ref b] below meth c H locs cells slots Q (F0 m 140 ls []) := by
  have hh := hR.2.2.2.2.2.2.2.2.1 σ τ g (xs (i + 1).toNatClampNeg) hr
  refine lv_aload_n (pc := 140) F.1 F.2.1 d_La_law_140 rfl (lv_at hl 1 rfl) ?_
  refine lv_aload_n (pc := 141) F.1 F.2.1 d_La_law_141 rfl (lv_at hl 0 rfl) ?_
  refine lv_iload (pc := 142) F.1 F.2.1 d_La_law_142 (lv_at hl 4 rfl) ?_
  refine lv_iconst (pc := 144) (v := 1) F.1 F.2.1 d_La_law_144 (by decide) ?_
  refine lv_iadd (pc := 145) F.1 F.2.1 d_La_law_145 ?_
  refine va_sld (pc := 146) F.1 F.2.1 hX hb1 hb2 w.2.2.2 h1 d_La_law_146 ?_
  refine lv_aload_n (pc := 147) F.1 F.2.1 d_La_law_147 rfl (lv_at hl 3 rfl) ?_
  refine LWi (pc := 148) (As := [.ref (ad 0), .int (xs (i + 1).toNatClampNeg), .ref o]) (rest := []) F x w (c_La_peek l htr D cI cL ad o σ g (xs (i + 1).toNatClampNeg)) kw_peek m_440 (Nat.le_of_ble_eq_true rfl) (Nat.le_of_ble_eq_true rfl) ⟨rfl, rfl⟩ rfl hl.1 rfl (Nat.zero_le _) d_La_law_148 hcs (fun r u g1 H locs e_r e_u e_g w => ?_)
  refine lv_istore (pc := 151) F.1 F.2.1 d_La_law_151 hl (by decide) rfl (fun ls hl => ?_)
  refine lv_aload_n (pc := 153) F.1 F.2.1 d_La_law_153 rfl (lv_at hl 3 rfl) ?_
  refine lv_aload_n (pc := 154) F.1 F.2.1 d_La_law_154 rfl (lv_at hl 1 rfl) ?_
  refine lv_iload (pc := 155) F.1 F.2.1 d_La_law_155 (lv_at hl 5 rfl) ?_
  refine lv_iconst (pc := 157) (v := 1) F.1 F.2.1 d_La_law_157 (by decide) ?_
  refine lv_iadd (pc := 158) F.1 F.2.1 d_La_law_158 ?_
  refine va_sld (pc := 159) F.1 F.2.1 hX hb1 hb2 w.2.2.2 h1 d_La_law_159 ?_
  refine LMi (pc := 160) (As := [.int (xs (i + 1).toNatClampNeg)]) (rest := []) F x w (c_Mo_peek l D cI am τ (xs (i + 1).toNatClampNeg)) k_Mo_peek m_1104 (Nat.le_of_ble_eq_true rfl) (Nat.le_of_ble_eq_true rfl) ⟨rfl, rfl⟩ rfl hl.1 rfl (Nat.zero_le _) d_La_law_160 (show cells + 1 ≤ room_1.cells ∧ slots + 6 ≤ room_1.slots from hcs) (fun r2 v H locs e_r2 e_v w => ?_)
  refine lv_istore (pc := 163) F.1 F.2.1 d_La_law_163 hl (by decide) rfl (fun ls hl => ?_)
  refine lv_aload_n (pc := 165) F.1 F.2.1 d_La_law_165 rfl (lv_at hl 4 rfl) ?_
  refine LMk (pc := 166) (As := []) (rest := []) F x w (c_Mo_thrown l D cI am v) k_Mo_thrown m_923 (Nat.le_of_ble_eq_true rfl) (Nat.le_of_ble_eq_true rfl) ⟨rfl, rfl⟩ rfl hl.1 rfl (Nat.zero_le _) d_La_law_166 (show cells + 1 ≤ room_1.cells ∧ slots + 6 ≤ room_1.slots from hcs) (fun r3 H locs e_r3 w => ?_)
  refine lv_iload (pc := 169) F.1 F.2.1 d_La_law_169 (lv_at hl 1 rfl) ?_
  refine lv_icmp_eq (pc := 171) F.1 F.2.1 d_La_law_171 (tgt := 176) (by decide) (fun _ => ?_) (fun hne => absurd (by rw [e_r3, e_v, e_r]; exact hh.1.symm) hne)
  refine lv_iload (pc := 176) F.1 F.2.1 d_La_law_176 (lv_at hl 1 rfl) ?_
  refine lv_if_ne (pc := 178) F.1 F.2.1 d_La_law_178 (tgt := 193) (by decide) (fun _ => ?_) (fun h0 => ?_)
  · refine lv_goto (pc := 193) F.1 F.2.1 d_La_law_193 (tgt := 582) (by decide) ?_
    exact kk u v g1 H locs ls w (by rw [e_u, e_v]; exact hh.2.2) (lv_sub hl [2, 3, 4, 5, 6] rfl)
  refine lv_aload_n (pc := 181) F.1 F.2.1 d_La_law_181 rfl (lv_at hl 5 rfl) ?_
  refine lv_iconst (pc := 182) (v := 0) F.1 F.2.1 d_La_law_182 (by decide) ?_
  refine va_lald (pc := 183) F.1 F.2.1 x.2.1 w.2.2.1 0 0 rfl rfl (by unfold vp_in; decide) d_La_law_183 ?_
  refine lv_iload (pc := 184) F.1 F.2.1 d_La_law_184 (lv_at hl 0 rfl) ?_
  refine lv_i2l (pc := 186) (v := r2.toInt64) F.1 F.2.1 d_La_law_186 rfl ?_
  refine W.lcmp (pc := 187) F.1 F.2.1 d_La_law_187 ?_
  refine lv_if_eq (pc := 188) F.1 F.2.1 d_La_law_188 (tgt := 193) (by decide) (fun _ => ?_) (fun hne => absurd ((lg_cmp_eq _ _).mpr (by rw [e_g, e_r2]; exact hh.2.1 (by rw [← e_r]; exact h0))) hne)
  refine lv_goto (pc := 193) F.1 F.2.1 d_La_law_193 (tgt := 582) (by decide) ?_
  exact kk u v g1 H locs ls w (by rw [e_u, e_v]; exact hh.2.2) (lv_sub hl [2, 3, 4, 5, 6] rfl)
theorem lc_write (hR : RelOk Rel) (htr : l.stackTraces = false) (F : CallFix p m c code 7 s #[Value.ref b] al "PictureMachineLaw") (x : FX D cI cL ad am o A s) (hX : va_X b L xs s s.heap) (hb1 : b < s.heap.size) (hb2 : ¬ A b) (h1 : vp_in (i + 1) L) (h2 : vp_in (i + 2) L) (h3 : vp_in (i + 3) L) (hcs : cells + 1 ≤ room_1.cells ∧ slots + 6 ≤ room_1.slots) (w : LW D cI cL ad am o A s H locs σ τ g) (hr : Rel σ τ) (hl : lv_has ls 7 [(0, .ref b), (1, .ref (ad 0)), (2, .ref (am 0)), (3, .ref o), (4, .int i)])
    (kk : ∀ (σ τ : Sg) (g : Nat → Int64) (H : Heap) (locs : List Loc) (ls : Array Slot), LW D cI cL ad am o A s H locs σ τ g → Rel σ τ → lv_has ls 7 [(0, .ref b), (1, .ref (ad 0)), (2, .ref (am 0)), (3, .ref o), (4, .int i)] → W p l e room_1 s m #[Value.ref b] below meth c H locs (cells + 1) (slots + 6) Q (F0 m 582 ls [])) : W p l e room_1 s m #[Value.ref b] below meth c H locs cells slots Q (F0 m 196 ls []) := by
  have hh := hR.2.2.2.2.2.1 σ τ (xs (i + 1).toNatClampNeg) (xs (i + 2).toNatClampNeg) hr
  refine lv_aload_n (pc := 196) F.1 F.2.1 d_La_law_196 rfl (lv_at hl 1 rfl) ?_
  refine lv_aload_n (pc := 197) F.1 F.2.1 d_La_law_197 rfl (lv_at hl 0 rfl) ?_
  refine lv_iload (pc := 198) F.1 F.2.1 d_La_law_198 (lv_at hl 4 rfl) ?_
  refine lv_iconst (pc := 200) (v := 1) F.1 F.2.1 d_La_law_200 (by decide) ?_
  refine lv_iadd (pc := 201) F.1 F.2.1 d_La_law_201 ?_
  refine va_sld (pc := 202) F.1 F.2.1 hX hb1 hb2 w.2.2.2 h1 d_La_law_202 ?_
  refine lv_aload_n (pc := 203) F.1 F.2.1 d_La_law_203 rfl (lv_at hl 0 rfl) ?_
  refine lv_iload (pc := 204) F.1 F.2.1 d_La_law_204 (lv_at hl 4 rfl) ?_
  refine lv_iconst (pc := 206) (v := 2) F.1 F.2.1 d_La_law_206 (by decide) ?_
  refine lv_iadd (pc := 207) F.1 F.2.1 d_La_law_207 ?_
  refine va_sld (pc := 208) F.1 F.2.1 hX hb1 hb2 w.2.2.2 h2 d_La_law_208 ?_
  refine LWv (pc := 209) (As := [.ref (ad 0), .int (xs (i + 1).toNatClampNeg), .int (xs (i + 2).toNatClampNeg)]) (rest := []) F x w (c_La_write l htr D cI ad σ (xs (i + 1).toNatClampNeg) (xs (i + 2).toNatClampNeg) (hR.1 σ τ hr)) kw_write m_451 (Nat.le_of_ble_eq_true rfl) (Nat.le_of_ble_eq_true rfl) ⟨rfl, rfl⟩ rfl hl.1 rfl (Nat.zero_le _) d_La_law_209 hcs (fun r u H locs e_r e_u w => ?_)
  refine lv_istore (pc := 212) F.1 F.2.1 d_La_law_212 hl (by decide) rfl (fun ls hl => ?_)
  refine lv_aload_n (pc := 214) F.1 F.2.1 d_La_law_214 rfl (lv_at hl 3 rfl) ?_
  refine lv_aload_n (pc := 215) F.1 F.2.1 d_La_law_215 rfl (lv_at hl 1 rfl) ?_
  refine lv_iload (pc := 216) F.1 F.2.1 d_La_law_216 (lv_at hl 5 rfl) ?_
  refine lv_iconst (pc := 218) (v := 1) F.1 F.2.1 d_La_law_218 (by decide) ?_
  refine lv_iadd (pc := 219) F.1 F.2.1 d_La_law_219 ?_
  refine va_sld (pc := 220) F.1 F.2.1 hX hb1 hb2 w.2.2.2 h1 d_La_law_220 ?_
  refine lv_aload_n (pc := 221) F.1 F.2.1 d_La_law_221 rfl (lv_at hl 1 rfl) ?_
  refine lv_iload (pc := 222) F.1 F.2.1 d_La_law_222 (lv_at hl 5 rfl) ?_
  refine lv_iconst (pc := 224) (v := 2) F.1 F.2.1 d_La_law_224 (by decide) ?_
  refine lv_iadd (pc := 225) F.1 F.2.1 d_La_law_225 ?_
  refine va_sld (pc := 226) F.1 F.2.1 hX hb1 hb2 w.2.2.2 h2 d_La_law_226 ?_
  refine LMv (pc := 227) (As := [.int (xs (i + 1).toNatClampNeg), .int (xs (i + 2).toNatClampNeg)]) (rest := []) F x w (c_Mo_write l D cI am τ (xs (i + 1).toNatClampNeg) (xs (i + 2).toNatClampNeg) (hR.2.1 σ τ hr)) k_Mo_write m_1108 (Nat.le_of_ble_eq_true rfl) (Nat.le_of_ble_eq_true rfl) ⟨rfl, rfl⟩ rfl hl.1 rfl (Nat.zero_le _) d_La_law_227 (show cells + 1 ≤ room_1.cells ∧ slots + 6 ≤ room_1.slots from hcs) (fun v H locs e_v w => ?_)
  refine lv_aload_n (pc := 230) F.1 F.2.1 d_La_law_230 rfl (lv_at hl 3 rfl) ?_
  refine LMk (pc := 231) (As := []) (rest := []) F x w (c_Mo_thrown l D cI am v) k_Mo_thrown m_923 (Nat.le_of_ble_eq_true rfl) (Nat.le_of_ble_eq_true rfl) ⟨rfl, rfl⟩ rfl hl.1 rfl (Nat.zero_le _) d_La_law_231 (show cells + 1 ≤ room_1.cells ∧ slots + 6 ≤ room_1.slots from hcs) (fun r3 H locs e_r3 w => ?_)
  refine lv_iload (pc := 234) F.1 F.2.1 d_La_law_234 (lv_at hl 0 rfl) ?_
  refine lv_icmp_eq (pc := 236) F.1 F.2.1 d_La_law_236 (tgt := 241) (by decide) (fun _ => ?_) (fun hne => absurd (by rw [e_r3, e_v, e_r]; exact hh.1.symm) hne)
  refine lv_goto (pc := 241) F.1 F.2.1 d_La_law_241 (tgt := 582) (by decide) ?_
  exact kk u v g H locs ls w (by rw [e_u, e_v]; exact hh.2) (lv_sub hl [1, 2, 3, 4, 5] rfl)
theorem lc_disk (hR : RelOk Rel) (htr : l.stackTraces = false) (F : CallFix p m c code 7 s #[Value.ref b] al "PictureMachineLaw") (x : FX D cI cL ad am o A s) (hX : va_X b L xs s s.heap) (hb1 : b < s.heap.size) (hb2 : ¬ A b) (h1 : vp_in (i + 1) L) (h2 : vp_in (i + 2) L) (h3 : vp_in (i + 3) L) (hcs : cells + 1 ≤ room_1.cells ∧ slots + 6 ≤ room_1.slots) (w : LW D cI cL ad am o A s H locs σ τ g) (hr : Rel σ τ) (hl : lv_has ls 7 [(0, .ref b), (1, .ref (ad 0)), (2, .ref (am 0)), (3, .ref o), (4, .int i)])
    (kk : ∀ (σ τ : Sg) (g : Nat → Int64) (H : Heap) (locs : List Loc) (ls : Array Slot), LW D cI cL ad am o A s H locs σ τ g → Rel σ τ → lv_has ls 7 [(0, .ref b), (1, .ref (ad 0)), (2, .ref (am 0)), (3, .ref o), (4, .int i)] → W p l e room_1 s m #[Value.ref b] below meth c H locs (cells + 1) (slots + 6) Q (F0 m 582 ls [])) : W p l e room_1 s m #[Value.ref b] below meth c H locs cells slots Q (F0 m 244 ls []) := by
  have hh := hR.2.2.2.2.2.2.1 σ τ (xs (i + 1).toNatClampNeg) (xs (i + 2).toNatClampNeg) (xs (i + 3).toNatClampNeg) hr
  refine lv_aload_n (pc := 244) F.1 F.2.1 d_La_law_244 rfl (lv_at hl 1 rfl) ?_
  refine lv_aload_n (pc := 245) F.1 F.2.1 d_La_law_245 rfl (lv_at hl 0 rfl) ?_
  refine lv_iload (pc := 246) F.1 F.2.1 d_La_law_246 (lv_at hl 4 rfl) ?_
  refine lv_iconst (pc := 248) (v := 1) F.1 F.2.1 d_La_law_248 (by decide) ?_
  refine lv_iadd (pc := 249) F.1 F.2.1 d_La_law_249 ?_
  refine va_sld (pc := 250) F.1 F.2.1 hX hb1 hb2 w.2.2.2 h1 d_La_law_250 ?_
  refine lv_aload_n (pc := 251) F.1 F.2.1 d_La_law_251 rfl (lv_at hl 0 rfl) ?_
  refine lv_iload (pc := 252) F.1 F.2.1 d_La_law_252 (lv_at hl 4 rfl) ?_
  refine lv_iconst (pc := 254) (v := 2) F.1 F.2.1 d_La_law_254 (by decide) ?_
  refine lv_iadd (pc := 255) F.1 F.2.1 d_La_law_255 ?_
  refine va_sld (pc := 256) F.1 F.2.1 hX hb1 hb2 w.2.2.2 h2 d_La_law_256 ?_
  refine lv_aload_n (pc := 257) F.1 F.2.1 d_La_law_257 rfl (lv_at hl 0 rfl) ?_
  refine lv_iload (pc := 258) F.1 F.2.1 d_La_law_258 (lv_at hl 4 rfl) ?_
  refine lv_iconst (pc := 260) (v := 3) F.1 F.2.1 d_La_law_260 (by decide) ?_
  refine lv_iadd (pc := 261) F.1 F.2.1 d_La_law_261 ?_
  refine va_sld (pc := 262) F.1 F.2.1 hX hb1 hb2 w.2.2.2 h3 d_La_law_262 ?_
  refine LWv (pc := 263) (As := [.ref (ad 0), .int (xs (i + 1).toNatClampNeg), .int (xs (i + 2).toNatClampNeg), .int (xs (i + 3).toNatClampNeg)]) (rest := []) F x w (c_La_disk l htr D cI ad σ (xs (i + 1).toNatClampNeg) (xs (i + 2).toNatClampNeg) (xs (i + 3).toNatClampNeg)) kw_disk m_498 (Nat.le_of_ble_eq_true rfl) (Nat.le_of_ble_eq_true rfl) ⟨rfl, rfl⟩ rfl hl.1 rfl (Nat.zero_le _) d_La_law_263 hcs (fun r u H locs e_r e_u w => ?_)
  refine lv_istore (pc := 266) F.1 F.2.1 d_La_law_266 hl (by decide) rfl (fun ls hl => ?_)
  refine lv_aload_n (pc := 268) F.1 F.2.1 d_La_law_268 rfl (lv_at hl 3 rfl) ?_
  refine lv_aload_n (pc := 269) F.1 F.2.1 d_La_law_269 rfl (lv_at hl 1 rfl) ?_
  refine lv_iload (pc := 270) F.1 F.2.1 d_La_law_270 (lv_at hl 5 rfl) ?_
  refine lv_iconst (pc := 272) (v := 1) F.1 F.2.1 d_La_law_272 (by decide) ?_
  refine lv_iadd (pc := 273) F.1 F.2.1 d_La_law_273 ?_
  refine va_sld (pc := 274) F.1 F.2.1 hX hb1 hb2 w.2.2.2 h1 d_La_law_274 ?_
  refine lv_aload_n (pc := 275) F.1 F.2.1 d_La_law_275 rfl (lv_at hl 1 rfl) ?_
  refine lv_iload (pc := 276) F.1 F.2.1 d_La_law_276 (lv_at hl 5 rfl) ?_
  refine lv_iconst (pc := 278) (v := 2) F.1 F.2.1 d_La_law_278 (by decide) ?_
  refine lv_iadd (pc := 279) F.1 F.2.1 d_La_law_279 ?_
  refine va_sld (pc := 280) F.1 F.2.1 hX hb1 hb2 w.2.2.2 h2 d_La_law_280 ?_
  refine lv_aload_n (pc := 281) F.1 F.2.1 d_La_law_281 rfl (lv_at hl 1 rfl) ?_
  refine lv_iload (pc := 282) F.1 F.2.1 d_La_law_282 (lv_at hl 5 rfl) ?_
  refine lv_iconst (pc := 284) (v := 3) F.1 F.2.1 d_La_law_284 (by decide) ?_
  refine lv_iadd (pc := 285) F.1 F.2.1 d_La_law_285 ?_
  refine va_sld (pc := 286) F.1 F.2.1 hX hb1 hb2 w.2.2.2 h3 d_La_law_286 ?_
  refine LMv (pc := 287) (As := [.int (xs (i + 1).toNatClampNeg), .int (xs (i + 2).toNatClampNeg), .int (xs (i + 3).toNatClampNeg)]) (rest := []) F x w (c_Mo_disk l D cI am τ (xs (i + 1).toNatClampNeg) (xs (i + 2).toNatClampNeg) (xs (i + 3).toNatClampNeg)) k_Mo_disk m_1112 (Nat.le_of_ble_eq_true rfl) (Nat.le_of_ble_eq_true rfl) ⟨rfl, rfl⟩ rfl hl.1 rfl (Nat.zero_le _) d_La_law_287 (show cells + 1 ≤ room_1.cells ∧ slots + 6 ≤ room_1.slots from hcs) (fun v H locs e_v w => ?_)
  refine lv_aload_n (pc := 290) F.1 F.2.1 d_La_law_290 rfl (lv_at hl 3 rfl) ?_
  refine LMk (pc := 291) (As := []) (rest := []) F x w (c_Mo_thrown l D cI am v) k_Mo_thrown m_923 (Nat.le_of_ble_eq_true rfl) (Nat.le_of_ble_eq_true rfl) ⟨rfl, rfl⟩ rfl hl.1 rfl (Nat.zero_le _) d_La_law_291 (show cells + 1 ≤ room_1.cells ∧ slots + 6 ≤ room_1.slots from hcs) (fun r3 H locs e_r3 w => ?_)
  refine lv_iload (pc := 294) F.1 F.2.1 d_La_law_294 (lv_at hl 0 rfl) ?_
  refine lv_icmp_eq (pc := 296) F.1 F.2.1 d_La_law_296 (tgt := 301) (by decide) (fun _ => ?_) (fun hne => absurd (by rw [e_r3, e_v, e_r]; exact hh.1.symm) hne)
  refine lv_goto (pc := 301) F.1 F.2.1 d_La_law_301 (tgt := 582) (by decide) ?_
  exact kk u v g H locs ls w (by rw [e_u, e_v]; exact hh.2) (lv_sub hl [1, 2, 3, 4, 5] rfl)
theorem lc_sector (hR : RelOk Rel) (htr : l.stackTraces = false) (F : CallFix p m c code 7 s #[Value.ref b] al "PictureMachineLaw") (x : FX D cI cL ad am o A s) (hX : va_X b L xs s s.heap) (hb1 : b < s.heap.size) (hb2 : ¬ A b) (h1 : vp_in (i + 1) L) (h2 : vp_in (i + 2) L) (h3 : vp_in (i + 3) L) (hcs : cells + 1 ≤ room_1.cells ∧ slots + 6 ≤ room_1.slots) (w : LW D cI cL ad am o A s H locs σ τ g) (hr : Rel σ τ) (hl : lv_has ls 7 [(0, .ref b), (1, .ref (ad 0)), (2, .ref (am 0)), (3, .ref o), (4, .int i)])
    (kk : ∀ (σ τ : Sg) (g : Nat → Int64) (H : Heap) (locs : List Loc) (ls : Array Slot), LW D cI cL ad am o A s H locs σ τ g → Rel σ τ → lv_has ls 7 [(0, .ref b), (1, .ref (ad 0)), (2, .ref (am 0)), (3, .ref o), (4, .int i)] → W p l e room_1 s m #[Value.ref b] below meth c H locs (cells + 1) (slots + 6) Q (F0 m 582 ls [])) : W p l e room_1 s m #[Value.ref b] below meth c H locs cells slots Q (F0 m 304 ls []) := by
  have hh := hR.2.2.2.2.2.2.2.2.2.1 σ τ g (xs (i + 1).toNatClampNeg) (xs (i + 2).toNatClampNeg) hr
  refine lv_aload_n (pc := 304) F.1 F.2.1 d_La_law_304 rfl (lv_at hl 1 rfl) ?_
  refine lv_aload_n (pc := 305) F.1 F.2.1 d_La_law_305 rfl (lv_at hl 0 rfl) ?_
  refine lv_iload (pc := 306) F.1 F.2.1 d_La_law_306 (lv_at hl 4 rfl) ?_
  refine lv_iconst (pc := 308) (v := 1) F.1 F.2.1 d_La_law_308 (by decide) ?_
  refine lv_iadd (pc := 309) F.1 F.2.1 d_La_law_309 ?_
  refine va_sld (pc := 310) F.1 F.2.1 hX hb1 hb2 w.2.2.2 h1 d_La_law_310 ?_
  refine lv_aload_n (pc := 311) F.1 F.2.1 d_La_law_311 rfl (lv_at hl 0 rfl) ?_
  refine lv_iload (pc := 312) F.1 F.2.1 d_La_law_312 (lv_at hl 4 rfl) ?_
  refine lv_iconst (pc := 314) (v := 2) F.1 F.2.1 d_La_law_314 (by decide) ?_
  refine lv_iadd (pc := 315) F.1 F.2.1 d_La_law_315 ?_
  refine va_sld (pc := 316) F.1 F.2.1 hX hb1 hb2 w.2.2.2 h2 d_La_law_316 ?_
  refine lv_aload_n (pc := 317) F.1 F.2.1 d_La_law_317 rfl (lv_at hl 3 rfl) ?_
  refine LWi (pc := 318) (As := [.ref (ad 0), .int (xs (i + 1).toNatClampNeg), .int (xs (i + 2).toNatClampNeg), .ref o]) (rest := []) F x w (c_La_sector l htr D cI cL ad o σ g (xs (i + 1).toNatClampNeg) (xs (i + 2).toNatClampNeg)) kw_sector m_510 (Nat.le_of_ble_eq_true rfl) (Nat.le_of_ble_eq_true rfl) ⟨rfl, rfl⟩ rfl hl.1 rfl (Nat.zero_le _) d_La_law_318 hcs (fun r u g1 H locs e_r e_u e_g w => ?_)
  refine lv_istore (pc := 321) F.1 F.2.1 d_La_law_321 hl (by decide) rfl (fun ls hl => ?_)
  refine lv_aload_n (pc := 323) F.1 F.2.1 d_La_law_323 rfl (lv_at hl 3 rfl) ?_
  refine lv_aload_n (pc := 324) F.1 F.2.1 d_La_law_324 rfl (lv_at hl 1 rfl) ?_
  refine lv_iload (pc := 325) F.1 F.2.1 d_La_law_325 (lv_at hl 5 rfl) ?_
  refine lv_iconst (pc := 327) (v := 1) F.1 F.2.1 d_La_law_327 (by decide) ?_
  refine lv_iadd (pc := 328) F.1 F.2.1 d_La_law_328 ?_
  refine va_sld (pc := 329) F.1 F.2.1 hX hb1 hb2 w.2.2.2 h1 d_La_law_329 ?_
  refine lv_aload_n (pc := 330) F.1 F.2.1 d_La_law_330 rfl (lv_at hl 1 rfl) ?_
  refine lv_iload (pc := 331) F.1 F.2.1 d_La_law_331 (lv_at hl 5 rfl) ?_
  refine lv_iconst (pc := 333) (v := 2) F.1 F.2.1 d_La_law_333 (by decide) ?_
  refine lv_iadd (pc := 334) F.1 F.2.1 d_La_law_334 ?_
  refine va_sld (pc := 335) F.1 F.2.1 hX hb1 hb2 w.2.2.2 h2 d_La_law_335 ?_
  refine LMi (pc := 336) (As := [.int (xs (i + 1).toNatClampNeg), .int (xs (i + 2).toNatClampNeg)]) (rest := []) F x w (c_Mo_sector l D cI am τ (xs (i + 1).toNatClampNeg) (xs (i + 2).toNatClampNeg)) k_Mo_sector m_1119 (Nat.le_of_ble_eq_true rfl) (Nat.le_of_ble_eq_true rfl) ⟨rfl, rfl⟩ rfl hl.1 rfl (Nat.zero_le _) d_La_law_336 (show cells + 1 ≤ room_1.cells ∧ slots + 6 ≤ room_1.slots from hcs) (fun r2 v H locs e_r2 e_v w => ?_)
  refine lv_istore (pc := 339) F.1 F.2.1 d_La_law_339 hl (by decide) rfl (fun ls hl => ?_)
  refine lv_aload_n (pc := 341) F.1 F.2.1 d_La_law_341 rfl (lv_at hl 4 rfl) ?_
  refine LMk (pc := 342) (As := []) (rest := []) F x w (c_Mo_thrown l D cI am v) k_Mo_thrown m_923 (Nat.le_of_ble_eq_true rfl) (Nat.le_of_ble_eq_true rfl) ⟨rfl, rfl⟩ rfl hl.1 rfl (Nat.zero_le _) d_La_law_342 (show cells + 1 ≤ room_1.cells ∧ slots + 6 ≤ room_1.slots from hcs) (fun r3 H locs e_r3 w => ?_)
  refine lv_iload (pc := 345) F.1 F.2.1 d_La_law_345 (lv_at hl 1 rfl) ?_
  refine lv_icmp_eq (pc := 347) F.1 F.2.1 d_La_law_347 (tgt := 352) (by decide) (fun _ => ?_) (fun hne => absurd (by rw [e_r3, e_v, e_r]; exact hh.1.symm) hne)
  refine lv_iload (pc := 352) F.1 F.2.1 d_La_law_352 (lv_at hl 1 rfl) ?_
  refine lv_if_ne (pc := 354) F.1 F.2.1 d_La_law_354 (tgt := 369) (by decide) (fun _ => ?_) (fun h0 => ?_)
  · refine lv_goto (pc := 369) F.1 F.2.1 d_La_law_369 (tgt := 582) (by decide) ?_
    exact kk u v g1 H locs ls w (by rw [e_u, e_v]; exact hh.2.2) (lv_sub hl [2, 3, 4, 5, 6] rfl)
  refine lv_aload_n (pc := 357) F.1 F.2.1 d_La_law_357 rfl (lv_at hl 5 rfl) ?_
  refine lv_iconst (pc := 358) (v := 0) F.1 F.2.1 d_La_law_358 (by decide) ?_
  refine va_lald (pc := 359) F.1 F.2.1 x.2.1 w.2.2.1 0 0 rfl rfl (by unfold vp_in; decide) d_La_law_359 ?_
  refine lv_iload (pc := 360) F.1 F.2.1 d_La_law_360 (lv_at hl 0 rfl) ?_
  refine lv_i2l (pc := 362) (v := r2.toInt64) F.1 F.2.1 d_La_law_362 rfl ?_
  refine W.lcmp (pc := 363) F.1 F.2.1 d_La_law_363 ?_
  refine lv_if_eq (pc := 364) F.1 F.2.1 d_La_law_364 (tgt := 369) (by decide) (fun _ => ?_) (fun hne => absurd ((lg_cmp_eq _ _).mpr (by rw [e_g, e_r2]; exact hh.2.1 (by rw [← e_r]; exact h0))) hne)
  refine lv_goto (pc := 369) F.1 F.2.1 d_La_law_369 (tgt := 582) (by decide) ?_
  exact kk u v g1 H locs ls w (by rw [e_u, e_v]; exact hh.2.2) (lv_sub hl [2, 3, 4, 5, 6] rfl)
theorem lc_stick (hR : RelOk Rel) (htr : l.stackTraces = false) (F : CallFix p m c code 7 s #[Value.ref b] al "PictureMachineLaw") (x : FX D cI cL ad am o A s) (hX : va_X b L xs s s.heap) (hb1 : b < s.heap.size) (hb2 : ¬ A b) (h1 : vp_in (i + 1) L) (h2 : vp_in (i + 2) L) (h3 : vp_in (i + 3) L) (hcs : cells + 1 ≤ room_1.cells ∧ slots + 6 ≤ room_1.slots) (w : LW D cI cL ad am o A s H locs σ τ g) (hr : Rel σ τ) (hl : lv_has ls 7 [(0, .ref b), (1, .ref (ad 0)), (2, .ref (am 0)), (3, .ref o), (4, .int i)])
    (kk : ∀ (σ τ : Sg) (g : Nat → Int64) (H : Heap) (locs : List Loc) (ls : Array Slot), LW D cI cL ad am o A s H locs σ τ g → Rel σ τ → lv_has ls 7 [(0, .ref b), (1, .ref (ad 0)), (2, .ref (am 0)), (3, .ref o), (4, .int i)] → W p l e room_1 s m #[Value.ref b] below meth c H locs (cells + 1) (slots + 6) Q (F0 m 582 ls [])) : W p l e room_1 s m #[Value.ref b] below meth c H locs cells slots Q (F0 m 372 ls []) := by
  have hh := hR.2.2.2.2.2.2.2.1 σ τ (xs (i + 1).toNatClampNeg) hr
  refine lv_aload_n (pc := 372) F.1 F.2.1 d_La_law_372 rfl (lv_at hl 1 rfl) ?_
  refine lv_aload_n (pc := 373) F.1 F.2.1 d_La_law_373 rfl (lv_at hl 0 rfl) ?_
  refine lv_iload (pc := 374) F.1 F.2.1 d_La_law_374 (lv_at hl 4 rfl) ?_
  refine lv_iconst (pc := 376) (v := 1) F.1 F.2.1 d_La_law_376 (by decide) ?_
  refine lv_iadd (pc := 377) F.1 F.2.1 d_La_law_377 ?_
  refine va_sld (pc := 378) F.1 F.2.1 hX hb1 hb2 w.2.2.2 h1 d_La_law_378 ?_
  refine LWv (pc := 379) (As := [.ref (ad 0), .int (xs (i + 1).toNatClampNeg)]) (rest := []) F x w (c_La_stick l htr D cI ad σ (xs (i + 1).toNatClampNeg)) kw_stick m_521 (Nat.le_of_ble_eq_true rfl) (Nat.le_of_ble_eq_true rfl) ⟨rfl, rfl⟩ rfl hl.1 rfl (Nat.zero_le _) d_La_law_379 hcs (fun r u H locs e_r e_u w => ?_)
  refine lv_istore (pc := 382) F.1 F.2.1 d_La_law_382 hl (by decide) rfl (fun ls hl => ?_)
  refine lv_aload_n (pc := 384) F.1 F.2.1 d_La_law_384 rfl (lv_at hl 3 rfl) ?_
  refine lv_aload_n (pc := 385) F.1 F.2.1 d_La_law_385 rfl (lv_at hl 1 rfl) ?_
  refine lv_iload (pc := 386) F.1 F.2.1 d_La_law_386 (lv_at hl 5 rfl) ?_
  refine lv_iconst (pc := 388) (v := 1) F.1 F.2.1 d_La_law_388 (by decide) ?_
  refine lv_iadd (pc := 389) F.1 F.2.1 d_La_law_389 ?_
  refine va_sld (pc := 390) F.1 F.2.1 hX hb1 hb2 w.2.2.2 h1 d_La_law_390 ?_
  refine LMv (pc := 391) (As := [.int (xs (i + 1).toNatClampNeg)]) (rest := []) F x w (c_Mo_stick l D cI am τ (xs (i + 1).toNatClampNeg)) k_Mo_stick m_1123 (Nat.le_of_ble_eq_true rfl) (Nat.le_of_ble_eq_true rfl) ⟨rfl, rfl⟩ rfl hl.1 rfl (Nat.zero_le _) d_La_law_391 (show cells + 1 ≤ room_1.cells ∧ slots + 6 ≤ room_1.slots from hcs) (fun v H locs e_v w => ?_)
  refine lv_aload_n (pc := 394) F.1 F.2.1 d_La_law_394 rfl (lv_at hl 3 rfl) ?_
  refine LMk (pc := 395) (As := []) (rest := []) F x w (c_Mo_thrown l D cI am v) k_Mo_thrown m_923 (Nat.le_of_ble_eq_true rfl) (Nat.le_of_ble_eq_true rfl) ⟨rfl, rfl⟩ rfl hl.1 rfl (Nat.zero_le _) d_La_law_395 (show cells + 1 ≤ room_1.cells ∧ slots + 6 ≤ room_1.slots from hcs) (fun r3 H locs e_r3 w => ?_)
  refine lv_iload (pc := 398) F.1 F.2.1 d_La_law_398 (lv_at hl 0 rfl) ?_
  refine lv_icmp_eq (pc := 400) F.1 F.2.1 d_La_law_400 (tgt := 405) (by decide) (fun _ => ?_) (fun hne => absurd (by rw [e_r3, e_v, e_r]; exact hh.1.symm) hne)
  refine lv_goto (pc := 405) F.1 F.2.1 d_La_law_405 (tgt := 582) (by decide) ?_
  exact kk u v g H locs ls w (by rw [e_u, e_v]; exact hh.2) (lv_sub hl [1, 2, 3, 4, 5] rfl)
theorem lc_run (hR : RelOk Rel) (htr : l.stackTraces = false) (F : CallFix p m c code 7 s #[Value.ref b] al "PictureMachineLaw") (x : FX D cI cL ad am o A s) (hX : va_X b L xs s s.heap) (hb1 : b < s.heap.size) (hb2 : ¬ A b) (h1 : vp_in (i + 1) L) (h2 : vp_in (i + 2) L) (h3 : vp_in (i + 3) L) (hcs : cells + 1 ≤ room_1.cells ∧ slots + 6 ≤ room_1.slots) (w : LW D cI cL ad am o A s H locs σ τ g) (hr : Rel σ τ) (hl : lv_has ls 7 [(0, .ref b), (1, .ref (ad 0)), (2, .ref (am 0)), (3, .ref o), (4, .int i)])
    (kk : ∀ (σ τ : Sg) (g : Nat → Int64) (H : Heap) (locs : List Loc) (ls : Array Slot), LW D cI cL ad am o A s H locs σ τ g → Rel σ τ → lv_has ls 7 [(0, .ref b), (1, .ref (ad 0)), (2, .ref (am 0)), (3, .ref o), (4, .int i)] → W p l e room_1 s m #[Value.ref b] below meth c H locs (cells + 1) (slots + 6) Q (F0 m 582 ls [])) : W p l e room_1 s m #[Value.ref b] below meth c H locs cells slots Q (F0 m 408 ls []) := by
  have hh := hR.2.2.2.2.2.2.2.2.2.2.1 σ τ g (xs (i + 1).toNatClampNeg) hr
  refine lv_aload_n (pc := 408) F.1 F.2.1 d_La_law_408 rfl (lv_at hl 1 rfl) ?_
  refine lv_aload_n (pc := 409) F.1 F.2.1 d_La_law_409 rfl (lv_at hl 0 rfl) ?_
  refine lv_iload (pc := 410) F.1 F.2.1 d_La_law_410 (lv_at hl 4 rfl) ?_
  refine lv_iconst (pc := 412) (v := 1) F.1 F.2.1 d_La_law_412 (by decide) ?_
  refine lv_iadd (pc := 413) F.1 F.2.1 d_La_law_413 ?_
  refine va_sld (pc := 414) F.1 F.2.1 hX hb1 hb2 w.2.2.2 h1 d_La_law_414 ?_
  refine lv_aload_n (pc := 415) F.1 F.2.1 d_La_law_415 rfl (lv_at hl 3 rfl) ?_
  refine LWi (pc := 416) (As := [.ref (ad 0), .int (xs (i + 1).toNatClampNeg), .ref o]) (rest := []) F x w (c_La_run l htr D cI cL ad o σ g (xs (i + 1).toNatClampNeg) (fun j _ => hR.2.2.1 σ τ hr j)) kw_run m_528 (Nat.le_of_ble_eq_true rfl) (Nat.le_of_ble_eq_true rfl) ⟨rfl, rfl⟩ rfl hl.1 rfl (Nat.zero_le _) d_La_law_416 hcs (fun r u g1 H locs e_r e_u e_g w => ?_)
  refine lv_istore (pc := 419) F.1 F.2.1 d_La_law_419 hl (by decide) rfl (fun ls hl => ?_)
  refine lv_aload_n (pc := 421) F.1 F.2.1 d_La_law_421 rfl (lv_at hl 3 rfl) ?_
  refine lv_aload_n (pc := 422) F.1 F.2.1 d_La_law_422 rfl (lv_at hl 1 rfl) ?_
  refine lv_iload (pc := 423) F.1 F.2.1 d_La_law_423 (lv_at hl 5 rfl) ?_
  refine lv_iconst (pc := 425) (v := 1) F.1 F.2.1 d_La_law_425 (by decide) ?_
  refine lv_iadd (pc := 426) F.1 F.2.1 d_La_law_426 ?_
  refine va_sld (pc := 427) F.1 F.2.1 hX hb1 hb2 w.2.2.2 h1 d_La_law_427 ?_
  refine LMi (pc := 428) (As := [.int (xs (i + 1).toNatClampNeg)]) (rest := []) F x w (c_Mo_run l D cI am τ (xs (i + 1).toNatClampNeg) (fun j _ => hR.2.2.2.1 σ τ hr j)) k_Mo_run m_927 (Nat.le_of_ble_eq_true rfl) (Nat.le_of_ble_eq_true rfl) ⟨rfl, rfl⟩ rfl hl.1 rfl (Nat.zero_le _) d_La_law_428 (show cells + 1 ≤ room_1.cells ∧ slots + 6 ≤ room_1.slots from hcs) (fun r2 v H locs e_r2 e_v w => ?_)
  refine lv_istore (pc := 431) F.1 F.2.1 d_La_law_431 hl (by decide) rfl (fun ls hl => ?_)
  refine lv_aload_n (pc := 433) F.1 F.2.1 d_La_law_433 rfl (lv_at hl 4 rfl) ?_
  refine LMk (pc := 434) (As := []) (rest := []) F x w (c_Mo_thrown l D cI am v) k_Mo_thrown m_923 (Nat.le_of_ble_eq_true rfl) (Nat.le_of_ble_eq_true rfl) ⟨rfl, rfl⟩ rfl hl.1 rfl (Nat.zero_le _) d_La_law_434 (show cells + 1 ≤ room_1.cells ∧ slots + 6 ≤ room_1.slots from hcs) (fun r3 H locs e_r3 w => ?_)
  refine lv_iload (pc := 437) F.1 F.2.1 d_La_law_437 (lv_at hl 1 rfl) ?_
  refine lv_icmp_eq (pc := 439) F.1 F.2.1 d_La_law_439 (tgt := 444) (by decide) (fun _ => ?_) (fun hne => absurd (by rw [e_r3, e_v, e_r]; exact hh.1.symm) hne)
  refine lv_iload (pc := 444) F.1 F.2.1 d_La_law_444 (lv_at hl 1 rfl) ?_
  refine lv_if_ne (pc := 446) F.1 F.2.1 d_La_law_446 (tgt := 461) (by decide) (fun _ => ?_) (fun h0 => ?_)
  · refine lv_goto (pc := 461) F.1 F.2.1 d_La_law_461 (tgt := 582) (by decide) ?_
    exact kk u v g1 H locs ls w (by rw [e_u, e_v]; exact hh.2.2) (lv_sub hl [2, 3, 4, 5, 6] rfl)
  refine lv_aload_n (pc := 449) F.1 F.2.1 d_La_law_449 rfl (lv_at hl 5 rfl) ?_
  refine lv_iconst (pc := 450) (v := 0) F.1 F.2.1 d_La_law_450 (by decide) ?_
  refine va_lald (pc := 451) F.1 F.2.1 x.2.1 w.2.2.1 0 0 rfl rfl (by unfold vp_in; decide) d_La_law_451 ?_
  refine lv_iload (pc := 452) F.1 F.2.1 d_La_law_452 (lv_at hl 0 rfl) ?_
  refine lv_i2l (pc := 454) (v := r2.toInt64) F.1 F.2.1 d_La_law_454 rfl ?_
  refine W.lcmp (pc := 455) F.1 F.2.1 d_La_law_455 ?_
  refine lv_if_eq (pc := 456) F.1 F.2.1 d_La_law_456 (tgt := 461) (by decide) (fun _ => ?_) (fun hne => absurd ((lg_cmp_eq _ _).mpr (by rw [e_g, e_r2]; exact hh.2.1 (by rw [← e_r]; exact h0))) hne)
  refine lv_goto (pc := 461) F.1 F.2.1 d_La_law_461 (tgt := 582) (by decide) ?_
  exact kk u v g1 H locs ls w (by rw [e_u, e_v]; exact hh.2.2) (lv_sub hl [2, 3, 4, 5, 6] rfl)
theorem lc_dot (hR : RelOk Rel) (htr : l.stackTraces = false) (F : CallFix p m c code 7 s #[Value.ref b] al "PictureMachineLaw") (x : FX D cI cL ad am o A s) (hX : va_X b L xs s s.heap) (hb1 : b < s.heap.size) (hb2 : ¬ A b) (h1 : vp_in (i + 1) L) (h2 : vp_in (i + 2) L) (h3 : vp_in (i + 3) L) (hcs : cells + 1 ≤ room_1.cells ∧ slots + 6 ≤ room_1.slots) (w : LW D cI cL ad am o A s H locs σ τ g) (hr : Rel σ τ) (hl : lv_has ls 7 [(0, .ref b), (1, .ref (ad 0)), (2, .ref (am 0)), (3, .ref o), (4, .int i)])
    (kk : ∀ (σ τ : Sg) (g : Nat → Int64) (H : Heap) (locs : List Loc) (ls : Array Slot), LW D cI cL ad am o A s H locs σ τ g → Rel σ τ → lv_has ls 7 [(0, .ref b), (1, .ref (ad 0)), (2, .ref (am 0)), (3, .ref o), (4, .int i)] → W p l e room_1 s m #[Value.ref b] below meth c H locs (cells + 1) (slots + 6) Q (F0 m 582 ls [])) : W p l e room_1 s m #[Value.ref b] below meth c H locs cells slots Q (F0 m 464 ls []) := by
  have hh := hR.2.2.2.2.2.2.2.2.2.2.2.1 σ τ g (xs (i + 1).toNatClampNeg) (xs (i + 2).toNatClampNeg) hr
  refine lv_aload_n (pc := 464) F.1 F.2.1 d_La_law_464 rfl (lv_at hl 1 rfl) ?_
  refine lv_aload_n (pc := 465) F.1 F.2.1 d_La_law_465 rfl (lv_at hl 0 rfl) ?_
  refine lv_iload (pc := 466) F.1 F.2.1 d_La_law_466 (lv_at hl 4 rfl) ?_
  refine lv_iconst (pc := 468) (v := 1) F.1 F.2.1 d_La_law_468 (by decide) ?_
  refine lv_iadd (pc := 469) F.1 F.2.1 d_La_law_469 ?_
  refine va_sld (pc := 470) F.1 F.2.1 hX hb1 hb2 w.2.2.2 h1 d_La_law_470 ?_
  refine lv_aload_n (pc := 471) F.1 F.2.1 d_La_law_471 rfl (lv_at hl 0 rfl) ?_
  refine lv_iload (pc := 472) F.1 F.2.1 d_La_law_472 (lv_at hl 4 rfl) ?_
  refine lv_iconst (pc := 474) (v := 2) F.1 F.2.1 d_La_law_474 (by decide) ?_
  refine lv_iadd (pc := 475) F.1 F.2.1 d_La_law_475 ?_
  refine va_sld (pc := 476) F.1 F.2.1 hX hb1 hb2 w.2.2.2 h2 d_La_law_476 ?_
  refine lv_aload_n (pc := 477) F.1 F.2.1 d_La_law_477 rfl (lv_at hl 3 rfl) ?_
  refine LWi (pc := 478) (As := [.ref (ad 0), .int (xs (i + 1).toNatClampNeg), .int (xs (i + 2).toNatClampNeg), .ref o]) (rest := []) F x w (c_La_dot l htr D cI cL ad o σ g (xs (i + 1).toNatClampNeg) (xs (i + 2).toNatClampNeg)) kw_dot m_742 (Nat.le_of_ble_eq_true rfl) (Nat.le_of_ble_eq_true rfl) ⟨rfl, rfl⟩ rfl hl.1 rfl (Nat.zero_le _) d_La_law_478 hcs (fun r u g1 H locs e_r e_u e_g w => ?_)
  refine lv_istore (pc := 481) F.1 F.2.1 d_La_law_481 hl (by decide) rfl (fun ls hl => ?_)
  refine lv_aload_n (pc := 483) F.1 F.2.1 d_La_law_483 rfl (lv_at hl 3 rfl) ?_
  refine lv_aload_n (pc := 484) F.1 F.2.1 d_La_law_484 rfl (lv_at hl 1 rfl) ?_
  refine lv_iload (pc := 485) F.1 F.2.1 d_La_law_485 (lv_at hl 5 rfl) ?_
  refine lv_iconst (pc := 487) (v := 1) F.1 F.2.1 d_La_law_487 (by decide) ?_
  refine lv_iadd (pc := 488) F.1 F.2.1 d_La_law_488 ?_
  refine va_sld (pc := 489) F.1 F.2.1 hX hb1 hb2 w.2.2.2 h1 d_La_law_489 ?_
  refine lv_aload_n (pc := 490) F.1 F.2.1 d_La_law_490 rfl (lv_at hl 1 rfl) ?_
  refine lv_iload (pc := 491) F.1 F.2.1 d_La_law_491 (lv_at hl 5 rfl) ?_
  refine lv_iconst (pc := 493) (v := 2) F.1 F.2.1 d_La_law_493 (by decide) ?_
  refine lv_iadd (pc := 494) F.1 F.2.1 d_La_law_494 ?_
  refine va_sld (pc := 495) F.1 F.2.1 hX hb1 hb2 w.2.2.2 h2 d_La_law_495 ?_
  refine LMi (pc := 496) (As := [.int (xs (i + 1).toNatClampNeg), .int (xs (i + 2).toNatClampNeg)]) (rest := []) F x w (c_Mo_dot l D cI am τ (xs (i + 1).toNatClampNeg) (xs (i + 2).toNatClampNeg)) k_Mo_dot m_1127 (Nat.le_of_ble_eq_true rfl) (Nat.le_of_ble_eq_true rfl) ⟨rfl, rfl⟩ rfl hl.1 rfl (Nat.zero_le _) d_La_law_496 (show cells + 1 ≤ room_1.cells ∧ slots + 6 ≤ room_1.slots from hcs) (fun r2 v H locs e_r2 e_v w => ?_)
  refine lv_istore (pc := 499) F.1 F.2.1 d_La_law_499 hl (by decide) rfl (fun ls hl => ?_)
  refine lv_aload_n (pc := 501) F.1 F.2.1 d_La_law_501 rfl (lv_at hl 4 rfl) ?_
  refine LMk (pc := 502) (As := []) (rest := []) F x w (c_Mo_thrown l D cI am v) k_Mo_thrown m_923 (Nat.le_of_ble_eq_true rfl) (Nat.le_of_ble_eq_true rfl) ⟨rfl, rfl⟩ rfl hl.1 rfl (Nat.zero_le _) d_La_law_502 (show cells + 1 ≤ room_1.cells ∧ slots + 6 ≤ room_1.slots from hcs) (fun r3 H locs e_r3 w => ?_)
  refine lv_iload (pc := 505) F.1 F.2.1 d_La_law_505 (lv_at hl 1 rfl) ?_
  refine lv_icmp_eq (pc := 507) F.1 F.2.1 d_La_law_507 (tgt := 512) (by decide) (fun _ => ?_) (fun hne => absurd (by rw [e_r3, e_v, e_r]; exact hh.1.symm) hne)
  refine lv_iload (pc := 512) F.1 F.2.1 d_La_law_512 (lv_at hl 1 rfl) ?_
  refine lv_if_ne (pc := 514) F.1 F.2.1 d_La_law_514 (tgt := 529) (by decide) (fun _ => ?_) (fun h0 => ?_)
  · refine lv_goto (pc := 529) F.1 F.2.1 d_La_law_529 (tgt := 582) (by decide) ?_
    exact kk u v g1 H locs ls w (by rw [e_u, e_v]; exact hh.2.2) (lv_sub hl [2, 3, 4, 5, 6] rfl)
  refine lv_aload_n (pc := 517) F.1 F.2.1 d_La_law_517 rfl (lv_at hl 5 rfl) ?_
  refine lv_iconst (pc := 518) (v := 0) F.1 F.2.1 d_La_law_518 (by decide) ?_
  refine va_lald (pc := 519) F.1 F.2.1 x.2.1 w.2.2.1 0 0 rfl rfl (by unfold vp_in; decide) d_La_law_519 ?_
  refine lv_iload (pc := 520) F.1 F.2.1 d_La_law_520 (lv_at hl 0 rfl) ?_
  refine lv_i2l (pc := 522) (v := r2.toInt64) F.1 F.2.1 d_La_law_522 rfl ?_
  refine W.lcmp (pc := 523) F.1 F.2.1 d_La_law_523 ?_
  refine lv_if_eq (pc := 524) F.1 F.2.1 d_La_law_524 (tgt := 529) (by decide) (fun _ => ?_) (fun hne => absurd ((lg_cmp_eq _ _).mpr (by rw [e_g, e_r2]; exact hh.2.1 (by rw [← e_r]; exact h0))) hne)
  refine lv_goto (pc := 529) F.1 F.2.1 d_La_law_529 (tgt := 582) (by decide) ?_
  exact kk u v g1 H locs ls w (by rw [e_u, e_v]; exact hh.2.2) (lv_sub hl [2, 3, 4, 5, 6] rfl)
theorem lc_processor (hR : RelOk Rel) (htr : l.stackTraces = false) (F : CallFix p m c code 7 s #[Value.ref b] al "PictureMachineLaw") (x : FX D cI cL ad am o A s) (hX : va_X b L xs s s.heap) (hb1 : b < s.heap.size) (hb2 : ¬ A b) (h1 : vp_in (i + 1) L) (h2 : vp_in (i + 2) L) (h3 : vp_in (i + 3) L) (hcs : cells + 1 ≤ room_1.cells ∧ slots + 6 ≤ room_1.slots) (w : LW D cI cL ad am o A s H locs σ τ g) (hr : Rel σ τ) (hl : lv_has ls 7 [(0, .ref b), (1, .ref (ad 0)), (2, .ref (am 0)), (3, .ref o), (4, .int i)])
    (kk : ∀ (σ τ : Sg) (g : Nat → Int64) (H : Heap) (locs : List Loc) (ls : Array Slot), LW D cI cL ad am o A s H locs σ τ g → Rel σ τ → lv_has ls 7 [(0, .ref b), (1, .ref (ad 0)), (2, .ref (am 0)), (3, .ref o), (4, .int i)] → W p l e room_1 s m #[Value.ref b] below meth c H locs (cells + 1) (slots + 6) Q (F0 m 582 ls [])) : W p l e room_1 s m #[Value.ref b] below meth c H locs cells slots Q (F0 m 532 ls []) := by
  have hh := hR.2.2.2.2.2.2.2.2.2.2.2.2.1 σ τ (xs (i + 1).toNatClampNeg) hr
  refine lv_aload_n (pc := 532) F.1 F.2.1 d_La_law_532 rfl (lv_at hl 1 rfl) ?_
  refine lv_aload_n (pc := 533) F.1 F.2.1 d_La_law_533 rfl (lv_at hl 0 rfl) ?_
  refine lv_iload (pc := 534) F.1 F.2.1 d_La_law_534 (lv_at hl 4 rfl) ?_
  refine lv_iconst (pc := 536) (v := 1) F.1 F.2.1 d_La_law_536 (by decide) ?_
  refine lv_iadd (pc := 537) F.1 F.2.1 d_La_law_537 ?_
  refine va_sld (pc := 538) F.1 F.2.1 hX hb1 hb2 w.2.2.2 h1 d_La_law_538 ?_
  refine LCk (pc := 539) (As := [.int (xs (i + 1).toNatClampNeg)]) (rest := []) F x w (c_Pm_processor l D cI ad σ (xs (i + 1).toNatClampNeg)) k_Pm_processor m_326 (Nat.le_of_ble_eq_true rfl) (Nat.le_of_ble_eq_true rfl) ⟨rfl, rfl⟩ rfl hl.1 rfl (Nat.zero_le _) d_La_law_539 (show cells ≤ room_1.cells ∧ slots ≤ room_1.slots from ⟨Nat.le_trans (Nat.le_add_right _ _) hcs.1, Nat.le_trans (Nat.le_add_right _ _) hcs.2⟩) (fun r H locs e_r w => ?_)
  refine lv_aload_n (pc := 542) F.1 F.2.1 d_La_law_542 rfl (lv_at hl 2 rfl) ?_
  refine lv_aload_n (pc := 543) F.1 F.2.1 d_La_law_543 rfl (lv_at hl 0 rfl) ?_
  refine lv_iload (pc := 544) F.1 F.2.1 d_La_law_544 (lv_at hl 4 rfl) ?_
  refine lv_iconst (pc := 546) (v := 1) F.1 F.2.1 d_La_law_546 (by decide) ?_
  refine lv_iadd (pc := 547) F.1 F.2.1 d_La_law_547 ?_
  refine va_sld (pc := 548) F.1 F.2.1 hX hb1 hb2 w.2.2.2 h1 d_La_law_548 ?_
  refine LMi (pc := 549) (As := [.int (xs (i + 1).toNatClampNeg)]) (rest := [.int r]) F x w (c_Mo_processor l D cI am τ (xs (i + 1).toNatClampNeg)) k_Mo_processor m_1131 (Nat.le_of_ble_eq_true rfl) (Nat.le_of_ble_eq_true rfl) ⟨rfl, rfl⟩ rfl hl.1 rfl (Nat.le_of_ble_eq_true rfl) d_La_law_549 (show cells ≤ room_1.cells ∧ slots ≤ room_1.slots from ⟨Nat.le_trans (Nat.le_add_right _ _) hcs.1, Nat.le_trans (Nat.le_add_right _ _) hcs.2⟩) (fun r2 v H locs e_r2 e_v w => ?_)
  refine lv_icmp_eq (pc := 552) F.1 F.2.1 d_La_law_552 (tgt := 582) (by decide) (fun _ => ?_) (fun hne => absurd (by rw [e_r, e_r2]; exact hh.1) hne)
  refine W.widen (k := cells + 1) (n := slots + 6) (Nat.le_add_right _ _) (Nat.le_add_right _ _) ?_
  exact kk σ v g H locs ls w (by rw [e_v]; exact hh.2) hl
theorem lc_state (hR : RelOk Rel) (htr : l.stackTraces = false) (F : CallFix p m c code 7 s #[Value.ref b] al "PictureMachineLaw") (x : FX D cI cL ad am o A s) (hX : va_X b L xs s s.heap) (hb1 : b < s.heap.size) (hb2 : ¬ A b) (h1 : vp_in (i + 1) L) (h2 : vp_in (i + 2) L) (h3 : vp_in (i + 3) L) (hcs : cells + 1 ≤ room_1.cells ∧ slots + 6 ≤ room_1.slots) (w : LW D cI cL ad am o A s H locs σ τ g) (hr : Rel σ τ) (hl : lv_has ls 7 [(0, .ref b), (1, .ref (ad 0)), (2, .ref (am 0)), (3, .ref o), (4, .int i)])
    (kk : ∀ (σ τ : Sg) (g : Nat → Int64) (H : Heap) (locs : List Loc) (ls : Array Slot), LW D cI cL ad am o A s H locs σ τ g → Rel σ τ → lv_has ls 7 [(0, .ref b), (1, .ref (ad 0)), (2, .ref (am 0)), (3, .ref o), (4, .int i)] → W p l e room_1 s m #[Value.ref b] below meth c H locs (cells + 1) (slots + 6) Q (F0 m 582 ls [])) : W p l e room_1 s m #[Value.ref b] below meth c H locs cells slots Q (F0 m 557 ls []) := by
  have hh := hR.2.2.2.2.2.2.2.2.2.2.2.2.2 σ τ (xs (i + 1).toNatClampNeg) hr
  refine lv_aload_n (pc := 557) F.1 F.2.1 d_La_law_557 rfl (lv_at hl 1 rfl) ?_
  refine lv_aload_n (pc := 558) F.1 F.2.1 d_La_law_558 rfl (lv_at hl 0 rfl) ?_
  refine lv_iload (pc := 559) F.1 F.2.1 d_La_law_559 (lv_at hl 4 rfl) ?_
  refine lv_iconst (pc := 561) (v := 1) F.1 F.2.1 d_La_law_561 (by decide) ?_
  refine lv_iadd (pc := 562) F.1 F.2.1 d_La_law_562 ?_
  refine va_sld (pc := 563) F.1 F.2.1 hX hb1 hb2 w.2.2.2 h1 d_La_law_563 ?_
  refine LCk (pc := 564) (As := [.int (xs (i + 1).toNatClampNeg)]) (rest := []) F x w (c_Pm_state l D cI ad σ (xs (i + 1).toNatClampNeg)) k_Pm_state m_337 (Nat.le_of_ble_eq_true rfl) (Nat.le_of_ble_eq_true rfl) ⟨rfl, rfl⟩ rfl hl.1 rfl (Nat.zero_le _) d_La_law_564 (show cells ≤ room_1.cells ∧ slots ≤ room_1.slots from ⟨Nat.le_trans (Nat.le_add_right _ _) hcs.1, Nat.le_trans (Nat.le_add_right _ _) hcs.2⟩) (fun r H locs e_r w => ?_)
  refine lv_aload_n (pc := 567) F.1 F.2.1 d_La_law_567 rfl (lv_at hl 2 rfl) ?_
  refine lv_aload_n (pc := 568) F.1 F.2.1 d_La_law_568 rfl (lv_at hl 0 rfl) ?_
  refine lv_iload (pc := 569) F.1 F.2.1 d_La_law_569 (lv_at hl 4 rfl) ?_
  refine lv_iconst (pc := 571) (v := 1) F.1 F.2.1 d_La_law_571 (by decide) ?_
  refine lv_iadd (pc := 572) F.1 F.2.1 d_La_law_572 ?_
  refine va_sld (pc := 573) F.1 F.2.1 hX hb1 hb2 w.2.2.2 h1 d_La_law_573 ?_
  refine LMi (pc := 574) (As := [.int (xs (i + 1).toNatClampNeg)]) (rest := [.int r]) F x w (c_Mo_state l D cI am τ (xs (i + 1).toNatClampNeg)) k_Mo_state m_1135 (Nat.le_of_ble_eq_true rfl) (Nat.le_of_ble_eq_true rfl) ⟨rfl, rfl⟩ rfl hl.1 rfl (Nat.le_of_ble_eq_true rfl) d_La_law_574 (show cells ≤ room_1.cells ∧ slots ≤ room_1.slots from ⟨Nat.le_trans (Nat.le_add_right _ _) hcs.1, Nat.le_trans (Nat.le_add_right _ _) hcs.2⟩) (fun r2 v H locs e_r2 e_v w => ?_)
  refine lv_icmp_eq (pc := 577) F.1 F.2.1 d_La_law_577 (tgt := 582) (by decide) (fun _ => ?_) (fun hne => absurd (by rw [e_r, e_r2]; exact hh.1) hne)
  refine W.widen (k := cells + 1) (n := slots + 6) (Nat.le_add_right _ _) (Nat.le_add_right _ _) ?_
  exact kk σ v g H locs ls w (by rw [e_v]; exact hh.2) hl
theorem law_round (hR : RelOk Rel) (htr : l.stackTraces = false) (F : CallFix p m c code 7 s #[Value.ref b] al "PictureMachineLaw") (x : FX D cI cL ad am o A s) (hX : va_X b L xs s s.heap) (hb1 : b < s.heap.size) (hb2 : ¬ A b) (h1 : vp_in (i + 1) L) (h2 : vp_in (i + 2) L) (h3 : vp_in (i + 3) L) (hcs : cells + 1 ≤ room_1.cells ∧ slots + 6 ≤ room_1.slots) (w : LW D cI cL ad am o A s H locs σ τ g) (hr : Rel σ τ) (hl : lv_has ls 7 [(0, .ref b), (1, .ref (ad 0)), (2, .ref (am 0)), (3, .ref o), (4, .int i)]) (h0 : vp_in i L)
    (kk : ∀ (σ τ : Sg) (g : Nat → Int64) (H : Heap) (locs : List Loc) (ls : Array Slot), LW D cI cL ad am o A s H locs σ τ g → Rel σ τ → lv_has ls 7 [(0, .ref b), (1, .ref (ad 0)), (2, .ref (am 0)), (3, .ref o), (4, .int (i + 4))] → W p l e room_1 s m #[Value.ref b] below meth c H locs (cells + 1) (slots + 6) Q (F0 m 23 ls [])) : W p l e room_1 s m #[Value.ref b] below meth c H locs cells slots Q (F0 m 32 ls []) := by
  have kk2 : ∀ (σ τ : Sg) (g : Nat → Int64) (H : Heap) (locs : List Loc) (ls : Array Slot), LW D cI cL ad am o A s H locs σ τ g → Rel σ τ → lv_has ls 7 [(0, .ref b), (1, .ref (ad 0)), (2, .ref (am 0)), (3, .ref o), (4, .int i)] → W p l e room_1 s m #[Value.ref b] below meth c H locs (cells + 1) (slots + 6) Q (F0 m 582 ls []) := by
    intro σ τ g H locs ls w hr hl
    refine lv_iinc (pc := 582) (v := i + 4) F.1 F.2.1 d_La_law_582 hl (k := 4) rfl rfl (by decide) rfl (fun ls hl => ?_)
    refine lv_goto (pc := 585) F.1 F.2.1 d_La_law_585 (tgt := 23) (by decide) ?_
    exact kk σ τ g H locs ls w hr (lv_sub hl [1, 2, 3, 4, 0] rfl)
  refine lv_aload_n (pc := 32) F.1 F.2.1 d_La_law_32 rfl (lv_at hl 0 rfl) ?_
  refine lv_iload (pc := 33) F.1 F.2.1 d_La_law_33 (lv_at hl 4 rfl) ?_
  refine va_sld (pc := 35) F.1 F.2.1 hX hb1 hb2 w.2.2.2 h0 d_La_law_35 ?_
  refine lv_bipush (pc := 36) (v := 15) F.1 F.2.1 d_La_law_36 (by decide) ?_
  refine lv_iand (pc := 38) F.1 F.2.1 d_La_law_38 ?_
  generalize xs i.toNatClampNeg &&& 15 = k
  by_cases c0 : k = 0
  · rw [c0]
    refine lv_tableIn (pc := 39) (off := 53) (tgt := 92) F.1 F.2.1 d_La_law_39 (by decide) (by decide) (by decide) (by decide) ?_
    exact lc_poke hR htr F x hX hb1 hb2 h1 h2 h3 hcs w hr hl kk2
  by_cases c1 : k = 1
  · rw [c1]
    refine lv_tableIn (pc := 39) (off := 101) (tgt := 140) F.1 F.2.1 d_La_law_39 (by decide) (by decide) (by decide) (by decide) ?_
    exact lc_peek hR htr F x hX hb1 hb2 h1 h2 h3 hcs w hr hl kk2
  by_cases c2 : k = 2
  · rw [c2]
    refine lv_tableIn (pc := 39) (off := 157) (tgt := 196) F.1 F.2.1 d_La_law_39 (by decide) (by decide) (by decide) (by decide) ?_
    exact lc_write hR htr F x hX hb1 hb2 h1 h2 h3 hcs w hr hl kk2
  by_cases c3 : k = 3
  · rw [c3]
    refine lv_tableIn (pc := 39) (off := 205) (tgt := 244) F.1 F.2.1 d_La_law_39 (by decide) (by decide) (by decide) (by decide) ?_
    exact lc_disk hR htr F x hX hb1 hb2 h1 h2 h3 hcs w hr hl kk2
  by_cases c4 : k = 4
  · rw [c4]
    refine lv_tableIn (pc := 39) (off := 265) (tgt := 304) F.1 F.2.1 d_La_law_39 (by decide) (by decide) (by decide) (by decide) ?_
    exact lc_sector hR htr F x hX hb1 hb2 h1 h2 h3 hcs w hr hl kk2
  by_cases c5 : k = 5
  · rw [c5]
    refine lv_tableIn (pc := 39) (off := 333) (tgt := 372) F.1 F.2.1 d_La_law_39 (by decide) (by decide) (by decide) (by decide) ?_
    exact lc_stick hR htr F x hX hb1 hb2 h1 h2 h3 hcs w hr hl kk2
  by_cases c6 : k = 6
  · rw [c6]
    refine lv_tableIn (pc := 39) (off := 369) (tgt := 408) F.1 F.2.1 d_La_law_39 (by decide) (by decide) (by decide) (by decide) ?_
    exact lc_run hR htr F x hX hb1 hb2 h1 h2 h3 hcs w hr hl kk2
  by_cases c7 : k = 7
  · rw [c7]
    refine lv_tableIn (pc := 39) (off := 425) (tgt := 464) F.1 F.2.1 d_La_law_39 (by decide) (by decide) (by decide) (by decide) ?_
    exact lc_dot hR htr F x hX hb1 hb2 h1 h2 h3 hcs w hr hl kk2
  by_cases c8 : k = 8
  · rw [c8]
    refine lv_tableIn (pc := 39) (off := 493) (tgt := 532) F.1 F.2.1 d_La_law_39 (by decide) (by decide) (by decide) (by decide) ?_
    exact lc_processor hR htr F x hX hb1 hb2 h1 h2 h3 hcs w hr hl kk2
  by_cases c9 : k = 9
  · rw [c9]
    refine lv_tableIn (pc := 39) (off := 518) (tgt := 557) F.1 F.2.1 d_La_law_39 (by decide) (by decide) (by decide) (by decide) ?_
    exact lc_state hR htr F x hX hb1 hb2 h1 h2 h3 hcs w hr hl kk2
  refine lv_tableOut (pc := 39) (tgt := 582) F.1 F.2.1 d_La_law_39 (by
    have n0 := lv_neT c0 (a := 0) (by decide)
    have n1 := lv_neT c1 (a := 1) (by decide)
    have n2 := lv_neT c2 (a := 2) (by decide)
    have n3 := lv_neT c3 (a := 3) (by decide)
    have n4 := lv_neT c4 (a := 4) (by decide)
    have n5 := lv_neT c5 (a := 5) (by decide)
    have n6 := lv_neT c6 (a := 6) (by decide)
    have n7 := lv_neT c7 (a := 7) (by decide)
    have n8 := lv_neT c8 (a := 8) (by decide)
    have n9 := lv_neT c9 (a := 9) (by decide)
    omega) (by decide) ?_
  refine W.widen (k := cells + 1) (n := slots + 6) (Nat.le_add_right _ _) (Nat.le_add_right _ _) ?_
  exact kk2 σ τ g H locs ls w hr hl
end LAW7
