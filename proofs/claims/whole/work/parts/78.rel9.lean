theorem L_perf {q : Nat → Int32} {σ τ : Sg} (h : R q σ τ) (e : q 6 = q 7) (b : bt2 0 (q 7) 1023) (eg : q 4 = q 5) : PE q (f_Pr_perform σ) (f_Mo_execute τ) := by
  have h1 : R (upd q 6 ((q 7 + 1) &&& 1023)) (sf σ 9 1 ((σ 9 1 + 1) &&& 1023)) τ := by
    rw [show σ 9 1 = q 7 from h.q6.trans e]
    exact u_q6 h
  have ec : (sf σ 9 1 ((σ 9 1 + 1) &&& 1023)) 9 11 = τ 0 19 := by rw [h1.q4, h1.q5]; exact eg
  show PE q (f_Pr_perform_r18 (sf σ 9 1 ((σ 9 1 + 1) &&& 1023))) (f_Mo_execute τ)
  generalize sf σ 9 1 ((σ 9 1 + 1) &&& 1023) = s1 at h1 ec ⊢
  unfold f_Pr_perform_r18
  by_cases c9 : s1 9 11 = 9
  · exact PE_pos c9 (op_9 h1 (ec.symm.trans c9))
  refine PE_neg c9 ?_
  by_cases c16 : s1 9 11 = 16
  · exact PE_pos c16 (op_16 h1 (ec.symm.trans c16))
  refine PE_neg c16 ?_
  by_cases c24 : s1 9 11 = 24
  · exact PE_pos c24 (op_24 h1 (ec.symm.trans c24))
  refine PE_neg c24 ?_
  by_cases c32 : s1 9 11 = 32
  · exact PE_pos c32 (op_32 h1 (ec.symm.trans c32))
  refine PE_neg c32 ?_
  by_cases c41 : s1 9 11 = 41
  · exact PE_pos c41 (op_41 h1 (ec.symm.trans c41))
  refine PE_neg c41 ?_
  by_cases c48 : s1 9 11 = 48
  · exact PE_pos c48 (op_48 h1 (ec.symm.trans c48))
  refine PE_neg c48 ?_
  by_cases c56 : s1 9 11 = 56
  · exact PE_pos c56 (op_56 h1 (ec.symm.trans c56))
  refine PE_neg c56 ?_
  by_cases c64 : s1 9 11 = 64
  · exact PE_pos c64 (op_64 h1 (ec.symm.trans c64))
  refine PE_neg c64 ?_
  by_cases c72 : s1 9 11 = 72
  · exact PE_pos c72 (op_72 h1 (ec.symm.trans c72))
  refine PE_neg c72 ?_
  by_cases c73 : s1 9 11 = 73
  · exact PE_pos c73 (op_73 h1 (ec.symm.trans c73))
  refine PE_neg c73 ?_
  by_cases c76 : s1 9 11 = 76
  · exact PE_pos c76 (op_76 h1 (ec.symm.trans c76))
  refine PE_neg c76 ?_
  by_cases c96 : s1 9 11 = 96
  · exact PE_pos c96 (op_96 h1 (ec.symm.trans c96))
  refine PE_neg c96 ?_
  by_cases c101 : s1 9 11 = 101
  · exact PE_pos c101 (op_101 h1 (ec.symm.trans c101))
  refine PE_neg c101 ?_
  by_cases c104 : s1 9 11 = 104
  · exact PE_pos c104 (op_104 h1 (ec.symm.trans c104))
  refine PE_neg c104 ?_
  by_cases c105 : s1 9 11 = 105
  · exact PE_pos c105 (op_105 h1 (ec.symm.trans c105))
  refine PE_neg c105 ?_
  by_cases c133 : s1 9 11 = 133
  · exact PE_pos c133 (op_133 h1 (ec.symm.trans c133))
  refine PE_neg c133 ?_
  by_cases c136 : s1 9 11 = 136
  · exact PE_pos c136 (op_136 h1 (ec.symm.trans c136))
  refine PE_neg c136 ?_
  by_cases c138 : s1 9 11 = 138
  · exact PE_pos c138 (op_138 h1 (ec.symm.trans c138))
  refine PE_neg c138 ?_
  by_cases c141 : s1 9 11 = 141
  · exact PE_pos c141 (op_141 h1 (ec.symm.trans c141))
  refine PE_neg c141 ?_
  by_cases c142 : s1 9 11 = 142
  · exact PE_pos c142 (op_142 h1 (ec.symm.trans c142))
  refine PE_neg c142 ?_
  by_cases c144 : s1 9 11 = 144
  · exact PE_pos c144 (op_144 h1 (ec.symm.trans c144))
  refine PE_neg c144 ?_
  by_cases c157 : s1 9 11 = 157
  · exact PE_pos c157 (op_157 h1 (ec.symm.trans c157))
  refine PE_neg c157 ?_
  by_cases c160 : s1 9 11 = 160
  · exact PE_pos c160 (op_160 h1 (ec.symm.trans c160))
  refine PE_neg c160 ?_
  by_cases c162 : s1 9 11 = 162
  · exact PE_pos c162 (op_162 h1 (ec.symm.trans c162))
  refine PE_neg c162 ?_
  by_cases c165 : s1 9 11 = 165
  · exact PE_pos c165 (op_165 h1 (ec.symm.trans c165))
  refine PE_neg c165 ?_
  by_cases c166 : s1 9 11 = 166
  · exact PE_pos c166 (op_166 h1 (ec.symm.trans c166))
  refine PE_neg c166 ?_
  by_cases c169 : s1 9 11 = 169
  · exact PE_pos c169 (op_169 h1 (ec.symm.trans c169))
  refine PE_neg c169 ?_
  by_cases c170 : s1 9 11 = 170
  · exact PE_pos c170 (op_170 h1 (ec.symm.trans c170))
  refine PE_neg c170 ?_
  by_cases c173 : s1 9 11 = 173
  · exact PE_pos c173 (op_173 h1 (ec.symm.trans c173))
  refine PE_neg c173 ?_
  by_cases c176 : s1 9 11 = 176
  · exact PE_pos c176 (op_176 h1 (ec.symm.trans c176))
  refine PE_neg c176 ?_
  by_cases c189 : s1 9 11 = 189
  · exact PE_pos c189 (op_189 h1 (ec.symm.trans c189))
  refine PE_neg c189 ?_
  by_cases c197 : s1 9 11 = 197
  · exact PE_pos c197 (op_197 h1 (ec.symm.trans c197))
  refine PE_neg c197 ?_
  by_cases c198 : s1 9 11 = 198
  · exact PE_pos c198 (op_198 h1 (ec.symm.trans c198))
  refine PE_neg c198 ?_
  by_cases c200 : s1 9 11 = 200
  · exact PE_pos c200 (op_200 h1 (ec.symm.trans c200))
  refine PE_neg c200 ?_
  by_cases c201 : s1 9 11 = 201
  · exact PE_pos c201 (op_201 h1 (ec.symm.trans c201))
  refine PE_neg c201 ?_
  by_cases c202 : s1 9 11 = 202
  · exact PE_pos c202 (op_202 h1 (ec.symm.trans c202))
  refine PE_neg c202 ?_
  by_cases c208 : s1 9 11 = 208
  · exact PE_pos c208 (op_208 h1 (ec.symm.trans c208))
  refine PE_neg c208 ?_
  by_cases c224 : s1 9 11 = 224
  · exact PE_pos c224 (op_224 h1 (ec.symm.trans c224))
  refine PE_neg c224 ?_
  by_cases c230 : s1 9 11 = 230
  · exact PE_pos c230 (op_230 h1 (ec.symm.trans c230))
  refine PE_neg c230 ?_
  by_cases c232 : s1 9 11 = 232
  · exact PE_pos c232 (op_232 h1 (ec.symm.trans c232))
  refine PE_neg c232 ?_
  by_cases c233 : s1 9 11 = 233
  · exact PE_pos c233 (op_233 h1 (ec.symm.trans c233))
  refine PE_neg c233 ?_
  by_cases c234 : s1 9 11 = 234
  · exact PE_pos c234 (op_234 h1 (ec.symm.trans c234))
  refine PE_neg c234 ?_
  by_cases c240 : s1 9 11 = 240
  · exact PE_pos c240 (op_240 h1 (ec.symm.trans c240))
  refine PE_neg c240 ?_
  refine op_jam h1 b ?_
  rw [ec] at c9 c16 c24 c32 c41 c48 c56 c64 c72 c73 c76 c96 c101 c104 c105 c133 c136 c138 c141 c142 c144 c157 c160 c162 c165 c166 c169 c170 c173 c176 c189 c197 c198 c200 c201 c202 c208 c224 c230 c232 c233 c234 c240
  unfold f_Mo_meaning f_Mo_single
  exact (if_neg c9).trans ((if_neg c41).trans ((if_neg c73).trans ((if_neg c101).trans ((if_neg c105).trans ((if_neg c133).trans ((if_neg c141).trans ((if_neg c142).trans ((if_neg c157).trans ((if_neg c160).trans ((if_neg c162).trans ((if_neg c165).trans ((if_neg c166).trans ((if_neg c169).trans ((if_neg c173).trans ((if_neg c189).trans ((if_neg c197).trans ((if_neg c198).trans ((if_neg c201).trans ((if_neg c224).trans ((if_neg c230).trans ((if_neg c233).trans ((if_neg c16).trans ((if_neg c24).trans ((if_neg c32).trans ((if_neg c48).trans ((if_neg c56).trans ((if_neg c64).trans ((if_neg c72).trans ((if_neg c76).trans ((if_neg c96).trans ((if_neg c104).trans ((if_neg c136).trans ((if_neg c138).trans ((if_neg c144).trans ((if_neg c170).trans ((if_neg c176).trans ((if_neg c200).trans ((if_neg c202).trans ((if_neg c208).trans ((if_neg c232).trans ((if_neg c234).trans ((if_neg c240).trans (rfl)))))))))))))))))))))))))))))))))))))))))))
