theorem d_Mo_use_97 : decode b_Mo_use 97 = .ok (.aload_n 0, 1) := by decide +kernel
theorem d_Mo_use_98 : decode b_Mo_use 98 = .ok (.iload_n 2, 1) := by decide +kernel
theorem d_Mo_use_99 : decode b_Mo_use 99 = .ok (.invokevirtual 191, 3) := by decide +kernel
theorem d_Mo_use_102 : decode b_Mo_use 102 = .ok (.putfield 132, 3) := by decide +kernel
theorem d_Mo_use_105 : decode b_Mo_use 105 = .ok (.goto 91, 3) := by decide +kernel
theorem d_Mo_use_108 : decode b_Mo_use 108 = .ok (.aload_n 0, 1) := by decide +kernel
theorem d_Mo_use_109 : decode b_Mo_use 109 = .ok (.aload_n 0, 1) := by decide +kernel
theorem d_Mo_use_110 : decode b_Mo_use 110 = .ok (.sipush 255, 3) := by decide +kernel
theorem d_Mo_use_113 : decode b_Mo_use 113 = .ok (.iload_n 2, 1) := by decide +kernel
theorem d_Mo_use_114 : decode b_Mo_use 114 = .ok (.isub, 1) := by decide +kernel
theorem d_Mo_use_115 : decode b_Mo_use 115 = .ok (.invokevirtual 191, 3) := by decide +kernel
theorem d_Mo_use_118 : decode b_Mo_use 118 = .ok (.putfield 132, 3) := by decide +kernel
theorem d_Mo_use_121 : decode b_Mo_use 121 = .ok (.goto 75, 3) := by decide +kernel
theorem d_Mo_use_124 : decode b_Mo_use 124 = .ok (.aload_n 0, 1) := by decide +kernel
theorem d_Mo_use_125 : decode b_Mo_use 125 = .ok (.aload_n 0, 1) := by decide +kernel
theorem d_Mo_use_126 : decode b_Mo_use 126 = .ok (.aload_n 0, 1) := by decide +kernel
theorem d_Mo_use_127 : decode b_Mo_use 127 = .ok (.getfield 132, 3) := by decide +kernel
theorem d_Mo_use_130 : decode b_Mo_use 130 = .ok (.iload_n 2, 1) := by decide +kernel
theorem d_Mo_use_131 : decode b_Mo_use 131 = .ok (.iand, 1) := by decide +kernel
theorem d_Mo_use_132 : decode b_Mo_use 132 = .ok (.invokevirtual 135, 3) := by decide +kernel
theorem d_Mo_use_135 : decode b_Mo_use 135 = .ok (.putfield 132, 3) := by decide +kernel
theorem d_Mo_use_138 : decode b_Mo_use 138 = .ok (.goto 58, 3) := by decide +kernel
theorem d_Mo_use_141 : decode b_Mo_use 141 = .ok (.aload_n 0, 1) := by decide +kernel
theorem d_Mo_use_142 : decode b_Mo_use 142 = .ok (.aload_n 0, 1) := by decide +kernel
theorem d_Mo_use_143 : decode b_Mo_use 143 = .ok (.aload_n 0, 1) := by decide +kernel
theorem d_Mo_use_144 : decode b_Mo_use 144 = .ok (.getfield 132, 3) := by decide +kernel
theorem d_Mo_use_147 : decode b_Mo_use 147 = .ok (.iload_n 2, 1) := by decide +kernel
theorem d_Mo_use_148 : decode b_Mo_use 148 = .ok (.ior, 1) := by decide +kernel
theorem d_Mo_use_149 : decode b_Mo_use 149 = .ok (.invokevirtual 135, 3) := by decide +kernel
theorem d_Mo_use_152 : decode b_Mo_use 152 = .ok (.putfield 132, 3) := by decide +kernel
theorem d_Mo_use_155 : decode b_Mo_use 155 = .ok (.goto 41, 3) := by decide +kernel
theorem d_Mo_use_158 : decode b_Mo_use 158 = .ok (.aload_n 0, 1) := by decide +kernel
theorem d_Mo_use_159 : decode b_Mo_use 159 = .ok (.aload_n 0, 1) := by decide +kernel
theorem d_Mo_use_160 : decode b_Mo_use 160 = .ok (.aload_n 0, 1) := by decide +kernel
theorem d_Mo_use_161 : decode b_Mo_use 161 = .ok (.getfield 132, 3) := by decide +kernel
theorem d_Mo_use_164 : decode b_Mo_use 164 = .ok (.iload_n 2, 1) := by decide +kernel
theorem d_Mo_use_165 : decode b_Mo_use 165 = .ok (.ixor, 1) := by decide +kernel
theorem d_Mo_use_166 : decode b_Mo_use 166 = .ok (.invokevirtual 135, 3) := by decide +kernel
theorem d_Mo_use_169 : decode b_Mo_use 169 = .ok (.putfield 132, 3) := by decide +kernel
theorem d_Mo_use_172 : decode b_Mo_use 172 = .ok (.goto 24, 3) := by decide +kernel
theorem d_Mo_use_175 : decode b_Mo_use 175 = .ok (.aload_n 0, 1) := by decide +kernel
theorem d_Mo_use_176 : decode b_Mo_use 176 = .ok (.aload_n 0, 1) := by decide +kernel
theorem d_Mo_use_177 : decode b_Mo_use 177 = .ok (.getfield 132, 3) := by decide +kernel
theorem d_Mo_use_180 : decode b_Mo_use 180 = .ok (.iload_n 2, 1) := by decide +kernel
theorem d_Mo_use_181 : decode b_Mo_use 181 = .ok (.invokevirtual 194, 3) := by decide +kernel
theorem d_Mo_use_184 : decode b_Mo_use 184 = .ok (.goto 12, 3) := by decide +kernel
theorem d_Mo_use_187 : decode b_Mo_use 187 = .ok (.aload_n 0, 1) := by decide +kernel
theorem d_Mo_use_188 : decode b_Mo_use 188 = .ok (.aload_n 0, 1) := by decide +kernel
theorem d_Mo_use_189 : decode b_Mo_use 189 = .ok (.getfield 172, 3) := by decide +kernel
theorem d_Mo_use_192 : decode b_Mo_use 192 = .ok (.iload_n 2, 1) := by decide +kernel
theorem d_Mo_use_193 : decode b_Mo_use 193 = .ok (.invokevirtual 194, 3) := by decide +kernel
theorem d_Mo_use_196 : decode b_Mo_use 196 = .ok (.return_, 1) := by decide +kernel
theorem d_Mo_alter_0 : decode b_Mo_alter 0 = .ok (.iload_n 1, 1) := by decide +kernel
theorem d_Mo_alter_1 : decode b_Mo_alter 1 = .ok (.tableswitch 179 13 22 #[55, 72, 89, 106, 179, 179, 123, 138, 153, 164], 55) := by decide +kernel
theorem d_Mo_alter_56 : decode b_Mo_alter 56 = .ok (.aload_n 0, 1) := by decide +kernel
theorem d_Mo_alter_57 : decode b_Mo_alter 57 = .ok (.aload_n 0, 1) := by decide +kernel
theorem d_Mo_alter_58 : decode b_Mo_alter 58 = .ok (.aload_n 0, 1) := by decide +kernel
theorem d_Mo_alter_59 : decode b_Mo_alter 59 = .ok (.getfield 172, 3) := by decide +kernel
theorem d_Mo_alter_62 : decode b_Mo_alter 62 = .ok (.iconst 1, 1) := by decide +kernel
theorem d_Mo_alter_63 : decode b_Mo_alter 63 = .ok (.iadd, 1) := by decide +kernel
theorem d_Mo_alter_64 : decode b_Mo_alter 64 = .ok (.invokevirtual 135, 3) := by decide +kernel
theorem d_Mo_alter_67 : decode b_Mo_alter 67 = .ok (.putfield 172, 3) := by decide +kernel
theorem d_Mo_alter_70 : decode b_Mo_alter 70 = .ok (.goto 125, 3) := by decide +kernel
theorem d_Mo_alter_73 : decode b_Mo_alter 73 = .ok (.aload_n 0, 1) := by decide +kernel
theorem d_Mo_alter_74 : decode b_Mo_alter 74 = .ok (.aload_n 0, 1) := by decide +kernel
theorem d_Mo_alter_75 : decode b_Mo_alter 75 = .ok (.aload_n 0, 1) := by decide +kernel
theorem d_Mo_alter_76 : decode b_Mo_alter 76 = .ok (.getfield 172, 3) := by decide +kernel
theorem d_Mo_alter_79 : decode b_Mo_alter 79 = .ok (.iconst 1, 1) := by decide +kernel
theorem d_Mo_alter_80 : decode b_Mo_alter 80 = .ok (.isub, 1) := by decide +kernel
theorem d_Mo_alter_81 : decode b_Mo_alter 81 = .ok (.invokevirtual 135, 3) := by decide +kernel
theorem d_Mo_alter_84 : decode b_Mo_alter 84 = .ok (.putfield 172, 3) := by decide +kernel
theorem d_Mo_alter_87 : decode b_Mo_alter 87 = .ok (.goto 108, 3) := by decide +kernel
theorem d_Mo_alter_90 : decode b_Mo_alter 90 = .ok (.aload_n 0, 1) := by decide +kernel
theorem d_Mo_alter_91 : decode b_Mo_alter 91 = .ok (.aload_n 0, 1) := by decide +kernel
theorem d_Mo_alter_92 : decode b_Mo_alter 92 = .ok (.aload_n 0, 1) := by decide +kernel
theorem d_Mo_alter_93 : decode b_Mo_alter 93 = .ok (.getfield 188, 3) := by decide +kernel
theorem d_Mo_alter_96 : decode b_Mo_alter 96 = .ok (.iconst 1, 1) := by decide +kernel
theorem d_Mo_alter_97 : decode b_Mo_alter 97 = .ok (.iadd, 1) := by decide +kernel
theorem d_Mo_alter_98 : decode b_Mo_alter 98 = .ok (.invokevirtual 135, 3) := by decide +kernel
theorem d_Mo_alter_101 : decode b_Mo_alter 101 = .ok (.putfield 188, 3) := by decide +kernel
theorem d_Mo_alter_104 : decode b_Mo_alter 104 = .ok (.goto 91, 3) := by decide +kernel
theorem d_Mo_alter_107 : decode b_Mo_alter 107 = .ok (.aload_n 0, 1) := by decide +kernel
theorem d_Mo_alter_108 : decode b_Mo_alter 108 = .ok (.aload_n 0, 1) := by decide +kernel
theorem d_Mo_alter_109 : decode b_Mo_alter 109 = .ok (.aload_n 0, 1) := by decide +kernel
theorem d_Mo_alter_110 : decode b_Mo_alter 110 = .ok (.getfield 188, 3) := by decide +kernel
theorem d_Mo_alter_113 : decode b_Mo_alter 113 = .ok (.iconst 1, 1) := by decide +kernel
theorem d_Mo_alter_114 : decode b_Mo_alter 114 = .ok (.isub, 1) := by decide +kernel
theorem d_Mo_alter_115 : decode b_Mo_alter 115 = .ok (.invokevirtual 135, 3) := by decide +kernel
theorem d_Mo_alter_118 : decode b_Mo_alter 118 = .ok (.putfield 188, 3) := by decide +kernel
theorem d_Mo_alter_121 : decode b_Mo_alter 121 = .ok (.goto 74, 3) := by decide +kernel
theorem d_Mo_alter_124 : decode b_Mo_alter 124 = .ok (.aload_n 0, 1) := by decide +kernel
theorem d_Mo_alter_125 : decode b_Mo_alter 125 = .ok (.aload_n 0, 1) := by decide +kernel
theorem d_Mo_alter_126 : decode b_Mo_alter 126 = .ok (.aload_n 0, 1) := by decide +kernel
theorem d_Mo_alter_127 : decode b_Mo_alter 127 = .ok (.getfield 132, 3) := by decide +kernel
theorem d_Mo_alter_130 : decode b_Mo_alter 130 = .ok (.invokevirtual 135, 3) := by decide +kernel
theorem d_Mo_alter_133 : decode b_Mo_alter 133 = .ok (.putfield 172, 3) := by decide +kernel
theorem d_Mo_alter_136 : decode b_Mo_alter 136 = .ok (.goto 59, 3) := by decide +kernel
theorem d_Mo_alter_139 : decode b_Mo_alter 139 = .ok (.aload_n 0, 1) := by decide +kernel
theorem d_Mo_alter_140 : decode b_Mo_alter 140 = .ok (.aload_n 0, 1) := by decide +kernel
theorem d_Mo_alter_141 : decode b_Mo_alter 141 = .ok (.aload_n 0, 1) := by decide +kernel
theorem d_Mo_alter_142 : decode b_Mo_alter 142 = .ok (.getfield 172, 3) := by decide +kernel
theorem d_Mo_alter_145 : decode b_Mo_alter 145 = .ok (.invokevirtual 135, 3) := by decide +kernel
theorem d_Mo_alter_148 : decode b_Mo_alter 148 = .ok (.putfield 132, 3) := by decide +kernel
theorem d_Mo_alter_151 : decode b_Mo_alter 151 = .ok (.goto 44, 3) := by decide +kernel
theorem d_Mo_alter_154 : decode b_Mo_alter 154 = .ok (.aload_n 0, 1) := by decide +kernel
theorem d_Mo_alter_155 : decode b_Mo_alter 155 = .ok (.aload_n 0, 1) := by decide +kernel
theorem d_Mo_alter_156 : decode b_Mo_alter 156 = .ok (.getfield 132, 3) := by decide +kernel
theorem d_Mo_alter_159 : decode b_Mo_alter 159 = .ok (.invokevirtual 138, 3) := by decide +kernel
theorem d_Mo_alter_162 : decode b_Mo_alter 162 = .ok (.goto 33, 3) := by decide +kernel
theorem d_Mo_alter_165 : decode b_Mo_alter 165 = .ok (.aload_n 0, 1) := by decide +kernel
theorem d_Mo_alter_166 : decode b_Mo_alter 166 = .ok (.aload_n 0, 1) := by decide +kernel
theorem d_Mo_alter_167 : decode b_Mo_alter 167 = .ok (.aload_n 0, 1) := by decide +kernel
theorem d_Mo_alter_168 : decode b_Mo_alter 168 = .ok (.invokevirtual 197, 3) := by decide +kernel
theorem d_Mo_alter_171 : decode b_Mo_alter 171 = .ok (.invokevirtual 135, 3) := by decide +kernel
theorem d_Mo_alter_174 : decode b_Mo_alter 174 = .ok (.putfield 132, 3) := by decide +kernel
theorem d_Mo_alter_177 : decode b_Mo_alter 177 = .ok (.goto 18, 3) := by decide +kernel
theorem d_Mo_alter_180 : decode b_Mo_alter 180 = .ok (.aload_n 0, 1) := by decide +kernel
theorem d_Mo_alter_181 : decode b_Mo_alter 181 = .ok (.iload_n 1, 1) := by decide +kernel
theorem d_Mo_alter_182 : decode b_Mo_alter 182 = .ok (.bipush 24, 2) := by decide +kernel
theorem d_Mo_alter_184 : decode b_Mo_alter 184 = .ok (.if_icmp .ne 7, 3) := by decide +kernel
theorem d_Mo_alter_187 : decode b_Mo_alter 187 = .ok (.iconst 1, 1) := by decide +kernel
theorem d_Mo_alter_188 : decode b_Mo_alter 188 = .ok (.goto 4, 3) := by decide +kernel
theorem d_Mo_alter_191 : decode b_Mo_alter 191 = .ok (.iconst 0, 1) := by decide +kernel
theorem d_Mo_alter_192 : decode b_Mo_alter 192 = .ok (.putfield 129, 3) := by decide +kernel
theorem d_Mo_alter_195 : decode b_Mo_alter 195 = .ok (.return_, 1) := by decide +kernel
theorem d_Mo_isTaken_0 : decode b_Mo_isTaken 0 = .ok (.aload_n 0, 1) := by decide +kernel
theorem d_Mo_isTaken_1 : decode b_Mo_isTaken 1 = .ok (.getfield 160, 3) := by decide +kernel
theorem d_Mo_isTaken_4 : decode b_Mo_isTaken 4 = .ok (.lookupswitch 93 #[(48, 88), (144, 70), (176, 83), (208, 52), (240, 65)], 52) := by decide +kernel
theorem d_Mo_isTaken_56 : decode b_Mo_isTaken 56 = .ok (.aload_n 0, 1) := by decide +kernel
theorem d_Mo_isTaken_57 : decode b_Mo_isTaken 57 = .ok (.getfield 126, 3) := by decide +kernel
theorem d_Mo_isTaken_60 : decode b_Mo_isTaken 60 = .ok (.ifCond .ne 7, 3) := by decide +kernel
theorem d_Mo_isTaken_63 : decode b_Mo_isTaken 63 = .ok (.iconst 1, 1) := by decide +kernel
theorem d_Mo_isTaken_64 : decode b_Mo_isTaken 64 = .ok (.goto 4, 3) := by decide +kernel
theorem d_Mo_isTaken_67 : decode b_Mo_isTaken 67 = .ok (.iconst 0, 1) := by decide +kernel
theorem d_Mo_isTaken_68 : decode b_Mo_isTaken 68 = .ok (.ireturn, 1) := by decide +kernel
theorem d_Mo_isTaken_69 : decode b_Mo_isTaken 69 = .ok (.aload_n 0, 1) := by decide +kernel
theorem d_Mo_isTaken_70 : decode b_Mo_isTaken 70 = .ok (.getfield 126, 3) := by decide +kernel
theorem d_Mo_isTaken_73 : decode b_Mo_isTaken 73 = .ok (.ireturn, 1) := by decide +kernel
theorem d_Mo_isTaken_74 : decode b_Mo_isTaken 74 = .ok (.aload_n 0, 1) := by decide +kernel
theorem d_Mo_isTaken_75 : decode b_Mo_isTaken 75 = .ok (.getfield 129, 3) := by decide +kernel
theorem d_Mo_isTaken_78 : decode b_Mo_isTaken 78 = .ok (.ifCond .ne 7, 3) := by decide +kernel
theorem d_Mo_isTaken_81 : decode b_Mo_isTaken 81 = .ok (.iconst 1, 1) := by decide +kernel
theorem d_Mo_isTaken_82 : decode b_Mo_isTaken 82 = .ok (.goto 4, 3) := by decide +kernel
theorem d_Mo_isTaken_85 : decode b_Mo_isTaken 85 = .ok (.iconst 0, 1) := by decide +kernel
theorem d_Mo_isTaken_86 : decode b_Mo_isTaken 86 = .ok (.ireturn, 1) := by decide +kernel
theorem d_Mo_isTaken_87 : decode b_Mo_isTaken 87 = .ok (.aload_n 0, 1) := by decide +kernel
theorem d_Mo_isTaken_88 : decode b_Mo_isTaken 88 = .ok (.getfield 129, 3) := by decide +kernel
theorem d_Mo_isTaken_91 : decode b_Mo_isTaken 91 = .ok (.ireturn, 1) := by decide +kernel
theorem d_Mo_isTaken_92 : decode b_Mo_isTaken 92 = .ok (.aload_n 0, 1) := by decide +kernel
theorem d_Mo_isTaken_93 : decode b_Mo_isTaken 93 = .ok (.getfield 123, 3) := by decide +kernel
theorem d_Mo_isTaken_96 : decode b_Mo_isTaken 96 = .ok (.ireturn, 1) := by decide +kernel
theorem d_Mo_isTaken_97 : decode b_Mo_isTaken 97 = .ok (.aload_n 0, 1) := by decide +kernel
theorem d_Mo_isTaken_98 : decode b_Mo_isTaken 98 = .ok (.getfield 123, 3) := by decide +kernel
theorem d_Mo_isTaken_101 : decode b_Mo_isTaken 101 = .ok (.ifCond .ne 7, 3) := by decide +kernel
theorem d_Mo_isTaken_104 : decode b_Mo_isTaken 104 = .ok (.iconst 1, 1) := by decide +kernel
theorem d_Mo_isTaken_105 : decode b_Mo_isTaken 105 = .ok (.goto 4, 3) := by decide +kernel
theorem d_Mo_isTaken_108 : decode b_Mo_isTaken 108 = .ok (.iconst 0, 1) := by decide +kernel
theorem d_Mo_isTaken_109 : decode b_Mo_isTaken 109 = .ok (.ireturn, 1) := by decide +kernel
theorem d_Mo_go_0 : decode b_Mo_go 0 = .ok (.iload_n 1, 1) := by decide +kernel
theorem d_Mo_go_1 : decode b_Mo_go 1 = .ok (.bipush 25, 2) := by decide +kernel
theorem d_Mo_go_3 : decode b_Mo_go 3 = .ok (.if_icmp .ne 41, 3) := by decide +kernel
theorem d_Mo_go_6 : decode b_Mo_go 6 = .ok (.aload_n 0, 1) := by decide +kernel
theorem d_Mo_go_7 : decode b_Mo_go 7 = .ok (.invokevirtual 200, 3) := by decide +kernel
theorem d_Mo_go_10 : decode b_Mo_go 10 = .ok (.ifCond .eq 179, 3) := by decide +kernel
theorem d_Mo_go_13 : decode b_Mo_go 13 = .ok (.aload_n 0, 1) := by decide +kernel
theorem d_Mo_go_14 : decode b_Mo_go 14 = .ok (.aload_n 0, 1) := by decide +kernel
theorem d_Mo_go_15 : decode b_Mo_go 15 = .ok (.getfield 20, 3) := by decide +kernel
theorem d_Mo_go_18 : decode b_Mo_go 18 = .ok (.iload_n 3, 1) := by decide +kernel
theorem d_Mo_go_19 : decode b_Mo_go 19 = .ok (.bipush 127, 2) := by decide +kernel
theorem d_Mo_go_21 : decode b_Mo_go 21 = .ok (.if_icmp .le 11, 3) := by decide +kernel
theorem d_Mo_go_24 : decode b_Mo_go 24 = .ok (.iload_n 3, 1) := by decide +kernel
theorem d_Mo_go_25 : decode b_Mo_go 25 = .ok (.sipush 256, 3) := by decide +kernel
theorem d_Mo_go_28 : decode b_Mo_go 28 = .ok (.isub, 1) := by decide +kernel
theorem d_Mo_go_29 : decode b_Mo_go 29 = .ok (.goto 4, 3) := by decide +kernel
theorem d_Mo_go_32 : decode b_Mo_go 32 = .ok (.iload_n 3, 1) := by decide +kernel
theorem d_Mo_go_33 : decode b_Mo_go 33 = .ok (.iadd, 1) := by decide +kernel
theorem d_Mo_go_34 : decode b_Mo_go 34 = .ok (.sipush 1023, 3) := by decide +kernel
theorem d_Mo_go_37 : decode b_Mo_go 37 = .ok (.iand, 1) := by decide +kernel
theorem d_Mo_go_38 : decode b_Mo_go 38 = .ok (.putfield 20, 3) := by decide +kernel
theorem d_Mo_go_41 : decode b_Mo_go 41 = .ok (.goto 148, 3) := by decide +kernel
theorem d_Mo_go_44 : decode b_Mo_go 44 = .ok (.iload_n 1, 1) := by decide +kernel
theorem d_Mo_go_45 : decode b_Mo_go 45 = .ok (.bipush 26, 2) := by decide +kernel
theorem d_Mo_go_47 : decode b_Mo_go 47 = .ok (.if_icmp .ne 15, 3) := by decide +kernel
theorem d_Mo_go_50 : decode b_Mo_go 50 = .ok (.aload_n 0, 1) := by decide +kernel
theorem d_Mo_go_51 : decode b_Mo_go 51 = .ok (.iload_n 3, 1) := by decide +kernel
theorem d_Mo_go_52 : decode b_Mo_go 52 = .ok (.sipush 1023, 3) := by decide +kernel
theorem d_Mo_go_55 : decode b_Mo_go 55 = .ok (.iand, 1) := by decide +kernel
theorem d_Mo_go_56 : decode b_Mo_go 56 = .ok (.putfield 20, 3) := by decide +kernel
theorem d_Mo_go_59 : decode b_Mo_go 59 = .ok (.goto 130, 3) := by decide +kernel
theorem d_Mo_go_62 : decode b_Mo_go 62 = .ok (.iload_n 1, 1) := by decide +kernel
theorem d_Mo_go_63 : decode b_Mo_go 63 = .ok (.bipush 27, 2) := by decide +kernel
theorem d_Mo_go_65 : decode b_Mo_go 65 = .ok (.if_icmp .ne 43, 3) := by decide +kernel
theorem d_Mo_go_68 : decode b_Mo_go 68 = .ok (.iload_n 2, 1) := by decide +kernel
theorem d_Mo_go_69 : decode b_Mo_go 69 = .ok (.iconst 2, 1) := by decide +kernel
theorem d_Mo_go_70 : decode b_Mo_go 70 = .ok (.iadd, 1) := by decide +kernel
theorem d_Mo_go_71 : decode b_Mo_go 71 = .ok (.sipush 1023, 3) := by decide +kernel
theorem d_Mo_go_74 : decode b_Mo_go 74 = .ok (.iand, 1) := by decide +kernel
theorem d_Mo_go_75 : decode b_Mo_go 75 = .ok (.istore 4, 2) := by decide +kernel
theorem d_Mo_go_77 : decode b_Mo_go 77 = .ok (.aload_n 0, 1) := by decide +kernel
theorem d_Mo_go_78 : decode b_Mo_go 78 = .ok (.iload 4, 2) := by decide +kernel
theorem d_Mo_go_80 : decode b_Mo_go 80 = .ok (.bipush 8, 2) := by decide +kernel
theorem d_Mo_go_82 : decode b_Mo_go 82 = .ok (.ishr, 1) := by decide +kernel
theorem d_Mo_go_83 : decode b_Mo_go 83 = .ok (.invokevirtual 138, 3) := by decide +kernel
theorem d_Mo_go_86 : decode b_Mo_go 86 = .ok (.aload_n 0, 1) := by decide +kernel
theorem d_Mo_go_87 : decode b_Mo_go 87 = .ok (.iload 4, 2) := by decide +kernel
theorem d_Mo_go_89 : decode b_Mo_go 89 = .ok (.sipush 255, 3) := by decide +kernel
theorem d_Mo_go_92 : decode b_Mo_go 92 = .ok (.iand, 1) := by decide +kernel
theorem d_Mo_go_93 : decode b_Mo_go 93 = .ok (.invokevirtual 138, 3) := by decide +kernel
theorem d_Mo_go_96 : decode b_Mo_go 96 = .ok (.aload_n 0, 1) := by decide +kernel
theorem d_Mo_go_97 : decode b_Mo_go 97 = .ok (.iload_n 3, 1) := by decide +kernel
theorem d_Mo_go_98 : decode b_Mo_go 98 = .ok (.sipush 1023, 3) := by decide +kernel
theorem d_Mo_go_101 : decode b_Mo_go 101 = .ok (.iand, 1) := by decide +kernel
theorem d_Mo_go_102 : decode b_Mo_go 102 = .ok (.putfield 20, 3) := by decide +kernel
theorem d_Mo_go_105 : decode b_Mo_go 105 = .ok (.goto 84, 3) := by decide +kernel
theorem d_Mo_go_108 : decode b_Mo_go 108 = .ok (.iload_n 1, 1) := by decide +kernel
theorem d_Mo_go_109 : decode b_Mo_go 109 = .ok (.bipush 29, 2) := by decide +kernel
theorem d_Mo_go_111 : decode b_Mo_go 111 = .ok (.if_icmp .ne 67, 3) := by decide +kernel
theorem d_Mo_go_114 : decode b_Mo_go 114 = .ok (.aload_n 0, 1) := by decide +kernel
theorem d_Mo_go_115 : decode b_Mo_go 115 = .ok (.invokevirtual 197, 3) := by decide +kernel
theorem d_Mo_go_118 : decode b_Mo_go 118 = .ok (.istore 4, 2) := by decide +kernel
theorem d_Mo_go_120 : decode b_Mo_go 120 = .ok (.aload_n 0, 1) := by decide +kernel
theorem d_Mo_go_121 : decode b_Mo_go 121 = .ok (.iload 4, 2) := by decide +kernel
theorem d_Mo_go_123 : decode b_Mo_go 123 = .ok (.sipush 128, 3) := by decide +kernel
theorem d_Mo_go_126 : decode b_Mo_go 126 = .ok (.iand, 1) := by decide +kernel
theorem d_Mo_go_127 : decode b_Mo_go 127 = .ok (.ifCond .eq 7, 3) := by decide +kernel
theorem d_Mo_go_130 : decode b_Mo_go 130 = .ok (.iconst 1, 1) := by decide +kernel
theorem d_Mo_go_131 : decode b_Mo_go 131 = .ok (.goto 4, 3) := by decide +kernel
theorem d_Mo_go_134 : decode b_Mo_go 134 = .ok (.iconst 0, 1) := by decide +kernel
theorem d_Mo_go_135 : decode b_Mo_go 135 = .ok (.putfield 123, 3) := by decide +kernel
theorem d_Mo_go_138 : decode b_Mo_go 138 = .ok (.aload_n 0, 1) := by decide +kernel
theorem d_Mo_go_139 : decode b_Mo_go 139 = .ok (.iload 4, 2) := by decide +kernel
theorem d_Mo_go_141 : decode b_Mo_go 141 = .ok (.iconst 2, 1) := by decide +kernel
theorem d_Mo_go_142 : decode b_Mo_go 142 = .ok (.iand, 1) := by decide +kernel
theorem d_Mo_go_143 : decode b_Mo_go 143 = .ok (.ifCond .eq 7, 3) := by decide +kernel
theorem d_Mo_go_146 : decode b_Mo_go 146 = .ok (.iconst 1, 1) := by decide +kernel
theorem d_Mo_go_147 : decode b_Mo_go 147 = .ok (.goto 4, 3) := by decide +kernel
theorem d_Mo_go_150 : decode b_Mo_go 150 = .ok (.iconst 0, 1) := by decide +kernel
theorem d_Mo_go_151 : decode b_Mo_go 151 = .ok (.putfield 126, 3) := by decide +kernel
theorem d_Mo_go_154 : decode b_Mo_go 154 = .ok (.aload_n 0, 1) := by decide +kernel
theorem d_Mo_go_155 : decode b_Mo_go 155 = .ok (.iload 4, 2) := by decide +kernel
theorem d_Mo_go_157 : decode b_Mo_go 157 = .ok (.iconst 1, 1) := by decide +kernel
theorem d_Mo_go_158 : decode b_Mo_go 158 = .ok (.iand, 1) := by decide +kernel
theorem d_Mo_go_159 : decode b_Mo_go 159 = .ok (.ifCond .eq 7, 3) := by decide +kernel
theorem d_Mo_go_162 : decode b_Mo_go 162 = .ok (.iconst 1, 1) := by decide +kernel
theorem d_Mo_go_163 : decode b_Mo_go 163 = .ok (.goto 4, 3) := by decide +kernel
theorem d_Mo_go_166 : decode b_Mo_go 166 = .ok (.iconst 0, 1) := by decide +kernel
theorem d_Mo_go_167 : decode b_Mo_go 167 = .ok (.putfield 129, 3) := by decide +kernel
theorem d_Mo_go_170 : decode b_Mo_go 170 = .ok (.aload_n 0, 1) := by decide +kernel
theorem d_Mo_go_171 : decode b_Mo_go 171 = .ok (.iconst 0, 1) := by decide +kernel
theorem d_Mo_go_172 : decode b_Mo_go 172 = .ok (.invokevirtual 204, 3) := by decide +kernel
theorem d_Mo_go_175 : decode b_Mo_go 175 = .ok (.goto 14, 3) := by decide +kernel
theorem d_Mo_go_178 : decode b_Mo_go 178 = .ok (.iload_n 1, 1) := by decide +kernel
theorem d_Mo_go_179 : decode b_Mo_go 179 = .ok (.bipush 28, 2) := by decide +kernel
theorem d_Mo_go_181 : decode b_Mo_go 181 = .ok (.if_icmp .ne 8, 3) := by decide +kernel
theorem d_Mo_go_184 : decode b_Mo_go 184 = .ok (.aload_n 0, 1) := by decide +kernel
theorem d_Mo_go_185 : decode b_Mo_go 185 = .ok (.iconst 1, 1) := by decide +kernel
theorem d_Mo_go_186 : decode b_Mo_go 186 = .ok (.invokevirtual 204, 3) := by decide +kernel
theorem d_Mo_go_189 : decode b_Mo_go 189 = .ok (.return_, 1) := by decide +kernel
theorem d_Mo_comeBack_0 : decode b_Mo_comeBack 0 = .ok (.aload_n 0, 1) := by decide +kernel
theorem d_Mo_comeBack_1 : decode b_Mo_comeBack 1 = .ok (.invokevirtual 197, 3) := by decide +kernel
theorem d_Mo_comeBack_4 : decode b_Mo_comeBack 4 = .ok (.istore_n 2, 1) := by decide +kernel
theorem d_Mo_comeBack_5 : decode b_Mo_comeBack 5 = .ok (.aload_n 0, 1) := by decide +kernel
theorem d_Mo_comeBack_6 : decode b_Mo_comeBack 6 = .ok (.iload_n 2, 1) := by decide +kernel
theorem d_Mo_comeBack_7 : decode b_Mo_comeBack 7 = .ok (.sipush 256, 3) := by decide +kernel
theorem d_Mo_comeBack_10 : decode b_Mo_comeBack 10 = .ok (.aload_n 0, 1) := by decide +kernel
theorem d_Mo_comeBack_11 : decode b_Mo_comeBack 11 = .ok (.invokevirtual 197, 3) := by decide +kernel
theorem d_Mo_comeBack_14 : decode b_Mo_comeBack 14 = .ok (.imul, 1) := by decide +kernel
theorem d_Mo_comeBack_15 : decode b_Mo_comeBack 15 = .ok (.iadd, 1) := by decide +kernel
theorem d_Mo_comeBack_16 : decode b_Mo_comeBack 16 = .ok (.iload_n 1, 1) := by decide +kernel
theorem d_Mo_comeBack_17 : decode b_Mo_comeBack 17 = .ok (.iadd, 1) := by decide +kernel
theorem d_Mo_comeBack_18 : decode b_Mo_comeBack 18 = .ok (.sipush 1023, 3) := by decide +kernel
theorem d_Mo_comeBack_21 : decode b_Mo_comeBack 21 = .ok (.iand, 1) := by decide +kernel
theorem d_Mo_comeBack_22 : decode b_Mo_comeBack 22 = .ok (.putfield 20, 3) := by decide +kernel
theorem d_Mo_comeBack_25 : decode b_Mo_comeBack 25 = .ok (.return_, 1) := by decide +kernel
theorem d_Mo_moved_0 : decode b_Mo_moved 0 = .ok (.iload_n 0, 1) := by decide +kernel
theorem d_Mo_moved_1 : decode b_Mo_moved 1 = .ok (.sipush 768, 3) := by decide +kernel
theorem d_Mo_moved_4 : decode b_Mo_moved 4 = .ok (.iand, 1) := by decide +kernel
theorem d_Mo_moved_5 : decode b_Mo_moved 5 = .ok (.iload_n 0, 1) := by decide +kernel
theorem d_Mo_moved_6 : decode b_Mo_moved 6 = .ok (.iconst 1, 1) := by decide +kernel
theorem d_Mo_moved_7 : decode b_Mo_moved 7 = .ok (.iadd, 1) := by decide +kernel
theorem d_Mo_moved_8 : decode b_Mo_moved 8 = .ok (.sipush 255, 3) := by decide +kernel
theorem d_Mo_moved_11 : decode b_Mo_moved 11 = .ok (.iand, 1) := by decide +kernel
theorem d_Mo_moved_12 : decode b_Mo_moved 12 = .ok (.ior, 1) := by decide +kernel
theorem d_Mo_moved_13 : decode b_Mo_moved 13 = .ok (.ireturn, 1) := by decide +kernel
theorem d_Mo_isPicture_0 : decode b_Mo_isPicture 0 = .ok (.aload_n 0, 1) := by decide +kernel
theorem d_Mo_isPicture_1 : decode b_Mo_isPicture 1 = .ok (.getfield 58, 3) := by decide +kernel
theorem d_Mo_isPicture_4 : decode b_Mo_isPicture 4 = .ok (.iconst 1, 1) := by decide +kernel
theorem d_Mo_isPicture_5 : decode b_Mo_isPicture 5 = .ok (.bipush 12, 2) := by decide +kernel
theorem d_Mo_isPicture_7 : decode b_Mo_isPicture 7 = .ok (.invokestatic 50, 3) := by decide +kernel
theorem d_Mo_isPicture_10 : decode b_Mo_isPicture 10 = .ok (.ifCond .eq 15, 3) := by decide +kernel
theorem d_Mo_isPicture_13 : decode b_Mo_isPicture 13 = .ok (.aload_n 0, 1) := by decide +kernel
theorem d_Mo_isPicture_14 : decode b_Mo_isPicture 14 = .ok (.iconst 0, 1) := by decide +kernel
theorem d_Mo_isPicture_15 : decode b_Mo_isPicture 15 = .ok (.invokevirtual 207, 3) := by decide +kernel
theorem d_Mo_isPicture_18 : decode b_Mo_isPicture 18 = .ok (.ifCond .eq 7, 3) := by decide +kernel
theorem d_Mo_isPicture_21 : decode b_Mo_isPicture 21 = .ok (.iconst 1, 1) := by decide +kernel
theorem d_Mo_isPicture_22 : decode b_Mo_isPicture 22 = .ok (.goto 4, 3) := by decide +kernel
theorem d_Mo_isPicture_25 : decode b_Mo_isPicture 25 = .ok (.iconst 0, 1) := by decide +kernel
theorem d_Mo_isPicture_26 : decode b_Mo_isPicture 26 = .ok (.ireturn, 1) := by decide +kernel
theorem d_Mo_hasRows_0 : decode b_Mo_hasRows 0 = .ok (.aload_n 0, 1) := by decide +kernel
theorem d_Mo_hasRows_1 : decode b_Mo_hasRows 1 = .ok (.getfield 211, 3) := by decide +kernel
theorem d_Mo_hasRows_4 : decode b_Mo_hasRows 4 = .ok (.ifCond .eq 18, 3) := by decide +kernel
theorem d_Mo_hasRows_7 : decode b_Mo_hasRows 7 = .ok (.aload_n 0, 1) := by decide +kernel
theorem d_Mo_hasRows_8 : decode b_Mo_hasRows 8 = .ok (.getfield 214, 3) := by decide +kernel
theorem d_Mo_hasRows_11 : decode b_Mo_hasRows 11 = .ok (.aload_n 0, 1) := by decide +kernel
theorem d_Mo_hasRows_12 : decode b_Mo_hasRows 12 = .ok (.getfield 217, 3) := by decide +kernel
theorem d_Mo_hasRows_15 : decode b_Mo_hasRows 15 = .ok (.if_icmp .ge 7, 3) := by decide +kernel
theorem d_Mo_hasRows_18 : decode b_Mo_hasRows 18 = .ok (.iconst 1, 1) := by decide +kernel
theorem d_Mo_hasRows_19 : decode b_Mo_hasRows 19 = .ok (.goto 4, 3) := by decide +kernel
theorem d_Mo_hasRows_22 : decode b_Mo_hasRows 22 = .ok (.iconst 0, 1) := by decide +kernel
theorem d_Mo_hasRows_23 : decode b_Mo_hasRows 23 = .ok (.ireturn, 1) := by decide +kernel
theorem d_Mo_displays_0 : decode b_Mo_displays 0 = .ok (.aload_n 0, 1) := by decide +kernel
theorem d_Mo_displays_1 : decode b_Mo_displays 1 = .ok (.getfield 220, 3) := by decide +kernel
theorem d_Mo_displays_4 : decode b_Mo_displays 4 = .ok (.ifCond .ne 45, 3) := by decide +kernel
theorem d_Mo_displays_7 : decode b_Mo_displays 7 = .ok (.aload_n 0, 1) := by decide +kernel
theorem d_Mo_displays_8 : decode b_Mo_displays 8 = .ok (.getfield 58, 3) := by decide +kernel
theorem d_Mo_displays_11 : decode b_Mo_displays 11 = .ok (.ifCond .ne 38, 3) := by decide +kernel
theorem d_Mo_displays_14 : decode b_Mo_displays 14 = .ok (.aload_n 0, 1) := by decide +kernel
theorem d_Mo_displays_15 : decode b_Mo_displays 15 = .ok (.aload_n 0, 1) := by decide +kernel
theorem d_Mo_displays_16 : decode b_Mo_displays 16 = .ok (.getfield 13, 3) := by decide +kernel
theorem d_Mo_displays_19 : decode b_Mo_displays 19 = .ok (.iconst 2, 1) := by decide +kernel
theorem d_Mo_displays_20 : decode b_Mo_displays 20 = .ok (.iaload, 1) := by decide +kernel
theorem d_Mo_displays_21 : decode b_Mo_displays 21 = .ok (.sipush 256, 3) := by decide +kernel
theorem d_Mo_displays_24 : decode b_Mo_displays 24 = .ok (.aload_n 0, 1) := by decide +kernel
theorem d_Mo_displays_25 : decode b_Mo_displays 25 = .ok (.getfield 13, 3) := by decide +kernel
theorem d_Mo_displays_28 : decode b_Mo_displays 28 = .ok (.iconst 3, 1) := by decide +kernel
theorem d_Mo_displays_29 : decode b_Mo_displays 29 = .ok (.iaload, 1) := by decide +kernel
theorem d_Mo_displays_30 : decode b_Mo_displays 30 = .ok (.imul, 1) := by decide +kernel
theorem d_Mo_displays_31 : decode b_Mo_displays 31 = .ok (.iadd, 1) := by decide +kernel
theorem d_Mo_displays_32 : decode b_Mo_displays 32 = .ok (.sipush 1023, 3) := by decide +kernel
theorem d_Mo_displays_35 : decode b_Mo_displays 35 = .ok (.iand, 1) := by decide +kernel
theorem d_Mo_displays_36 : decode b_Mo_displays 36 = .ok (.putfield 223, 3) := by decide +kernel
theorem d_Mo_displays_39 : decode b_Mo_displays 39 = .ok (.aload_n 0, 1) := by decide +kernel
theorem d_Mo_displays_40 : decode b_Mo_displays 40 = .ok (.iconst 0, 1) := by decide +kernel
theorem d_Mo_displays_41 : decode b_Mo_displays 41 = .ok (.putfield 211, 3) := by decide +kernel
theorem d_Mo_displays_44 : decode b_Mo_displays 44 = .ok (.aload_n 0, 1) := by decide +kernel
theorem d_Mo_displays_45 : decode b_Mo_displays 45 = .ok (.iconst 0, 1) := by decide +kernel
theorem d_Mo_displays_46 : decode b_Mo_displays 46 = .ok (.putfield 226, 3) := by decide +kernel
theorem d_Mo_displays_49 : decode b_Mo_displays 49 = .ok (.aload_n 0, 1) := by decide +kernel
theorem d_Mo_displays_50 : decode b_Mo_displays 50 = .ok (.getfield 220, 3) := by decide +kernel
theorem d_Mo_displays_53 : decode b_Mo_displays 53 = .ok (.iconst 1, 1) := by decide +kernel
theorem d_Mo_displays_54 : decode b_Mo_displays 54 = .ok (.if_icmp .ne 8, 3) := by decide +kernel
theorem d_Mo_displays_57 : decode b_Mo_displays 57 = .ok (.aload_n 0, 1) := by decide +kernel
theorem d_Mo_displays_58 : decode b_Mo_displays 58 = .ok (.iconst 0, 1) := by decide +kernel
theorem d_Mo_displays_59 : decode b_Mo_displays 59 = .ok (.putfield 229, 3) := by decide +kernel
theorem d_Mo_displays_62 : decode b_Mo_displays 62 = .ok (.aload_n 0, 1) := by decide +kernel
theorem d_Mo_displays_63 : decode b_Mo_displays 63 = .ok (.getfield 220, 3) := by decide +kernel
theorem d_Mo_displays_66 : decode b_Mo_displays 66 = .ok (.bipush 8, 2) := by decide +kernel
theorem d_Mo_displays_68 : decode b_Mo_displays 68 = .ok (.if_icmp .ne 7, 3) := by decide +kernel
theorem d_Mo_displays_71 : decode b_Mo_displays 71 = .ok (.aload_n 0, 1) := by decide +kernel
theorem d_Mo_displays_72 : decode b_Mo_displays 72 = .ok (.invokevirtual 232, 3) := by decide +kernel
theorem d_Mo_displays_75 : decode b_Mo_displays 75 = .ok (.aload_n 0, 1) := by decide +kernel
theorem d_Mo_displays_76 : decode b_Mo_displays 76 = .ok (.getfield 220, 3) := by decide +kernel
theorem d_Mo_displays_79 : decode b_Mo_displays 79 = .ok (.bipush 22, 2) := by decide +kernel
theorem d_Mo_displays_81 : decode b_Mo_displays 81 = .ok (.if_icmp .ne 8, 3) := by decide +kernel
theorem d_Mo_displays_84 : decode b_Mo_displays 84 = .ok (.aload_n 0, 1) := by decide +kernel
theorem d_Mo_displays_85 : decode b_Mo_displays 85 = .ok (.iconst 0, 1) := by decide +kernel
theorem d_Mo_displays_86 : decode b_Mo_displays 86 = .ok (.putfield 84, 3) := by decide +kernel
theorem d_Mo_displays_89 : decode b_Mo_displays 89 = .ok (.aload_n 0, 1) := by decide +kernel
theorem d_Mo_displays_90 : decode b_Mo_displays 90 = .ok (.getfield 220, 3) := by decide +kernel
theorem d_Mo_displays_93 : decode b_Mo_displays 93 = .ok (.bipush 20, 2) := by decide +kernel
theorem d_Mo_displays_95 : decode b_Mo_displays 95 = .ok (.if_icmp .eq 12, 3) := by decide +kernel
theorem d_Mo_displays_98 : decode b_Mo_displays 98 = .ok (.aload_n 0, 1) := by decide +kernel
theorem d_Mo_displays_99 : decode b_Mo_displays 99 = .ok (.getfield 220, 3) := by decide +kernel
theorem d_Mo_displays_102 : decode b_Mo_displays 102 = .ok (.bipush 21, 2) := by decide +kernel
theorem d_Mo_displays_104 : decode b_Mo_displays 104 = .ok (.if_icmp .ne 7, 3) := by decide +kernel
theorem d_Mo_displays_107 : decode b_Mo_displays 107 = .ok (.iconst 1, 1) := by decide +kernel
theorem d_Mo_displays_108 : decode b_Mo_displays 108 = .ok (.goto 4, 3) := by decide +kernel
theorem d_Mo_displays_111 : decode b_Mo_displays 111 = .ok (.iconst 0, 1) := by decide +kernel
theorem d_Mo_displays_112 : decode b_Mo_displays 112 = .ok (.istore_n 1, 1) := by decide +kernel
theorem d_Mo_displays_113 : decode b_Mo_displays 113 = .ok (.aload_n 0, 1) := by decide +kernel
theorem d_Mo_displays_114 : decode b_Mo_displays 114 = .ok (.iconst 1, 1) := by decide +kernel
theorem d_Mo_displays_115 : decode b_Mo_displays 115 = .ok (.invokevirtual 207, 3) := by decide +kernel
theorem d_Mo_displays_118 : decode b_Mo_displays 118 = .ok (.ifCond .eq 73, 3) := by decide +kernel
theorem d_Mo_displays_121 : decode b_Mo_displays 121 = .ok (.aload_n 0, 1) := by decide +kernel
theorem d_Mo_displays_122 : decode b_Mo_displays 122 = .ok (.getfield 220, 3) := by decide +kernel
theorem d_Mo_displays_125 : decode b_Mo_displays 125 = .ok (.ifCond .eq 12, 3) := by decide +kernel
theorem d_Mo_displays_128 : decode b_Mo_displays 128 = .ok (.aload_n 0, 1) := by decide +kernel
theorem d_Mo_displays_129 : decode b_Mo_displays 129 = .ok (.getfield 220, 3) := by decide +kernel
theorem d_Mo_displays_132 : decode b_Mo_displays 132 = .ok (.bipush 23, 2) := by decide +kernel
theorem d_Mo_displays_134 : decode b_Mo_displays 134 = .ok (.if_icmp .ne 57, 3) := by decide +kernel
theorem d_Mo_displays_137 : decode b_Mo_displays 137 = .ok (.aload_n 0, 1) := by decide +kernel
theorem d_Mo_displays_138 : decode b_Mo_displays 138 = .ok (.getfield 13, 3) := by decide +kernel
theorem d_Mo_displays_141 : decode b_Mo_displays 141 = .ok (.aload_n 0, 1) := by decide +kernel
theorem d_Mo_displays_142 : decode b_Mo_displays 142 = .ok (.getfield 220, 3) := by decide +kernel
theorem d_Mo_displays_145 : decode b_Mo_displays 145 = .ok (.ifCond .ne 8, 3) := by decide +kernel
theorem d_Mo_displays_148 : decode b_Mo_displays 148 = .ok (.bipush 19, 2) := by decide +kernel
theorem d_Mo_displays_150 : decode b_Mo_displays 150 = .ok (.goto 5, 3) := by decide +kernel
theorem d_Mo_displays_153 : decode b_Mo_displays 153 = .ok (.bipush 20, 2) := by decide +kernel
theorem d_Mo_displays_155 : decode b_Mo_displays 155 = .ok (.aload_n 0, 1) := by decide +kernel
theorem d_Mo_displays_156 : decode b_Mo_displays 156 = .ok (.sipush 256, 3) := by decide +kernel
theorem d_Mo_displays_159 : decode b_Mo_displays 159 = .ok (.aload_n 0, 1) := by decide +kernel
theorem d_Mo_displays_160 : decode b_Mo_displays 160 = .ok (.getfield 13, 3) := by decide +kernel
theorem d_Mo_displays_163 : decode b_Mo_displays 163 = .ok (.iconst 4, 1) := by decide +kernel
theorem d_Mo_displays_164 : decode b_Mo_displays 164 = .ok (.iaload, 1) := by decide +kernel
theorem d_Mo_displays_165 : decode b_Mo_displays 165 = .ok (.imul, 1) := by decide +kernel
theorem d_Mo_displays_166 : decode b_Mo_displays 166 = .ok (.aload_n 0, 1) := by decide +kernel
theorem d_Mo_displays_167 : decode b_Mo_displays 167 = .ok (.getfield 58, 3) := by decide +kernel
theorem d_Mo_displays_170 : decode b_Mo_displays 170 = .ok (.iadd, 1) := by decide +kernel
theorem d_Mo_displays_171 : decode b_Mo_displays 171 = .ok (.aload_n 0, 1) := by decide +kernel
theorem d_Mo_displays_172 : decode b_Mo_displays 172 = .ok (.getfield 220, 3) := by decide +kernel
theorem d_Mo_displays_175 : decode b_Mo_displays 175 = .ok (.ifCond .ne 7, 3) := by decide +kernel
theorem d_Mo_displays_178 : decode b_Mo_displays 178 = .ok (.iconst 0, 1) := by decide +kernel
theorem d_Mo_displays_179 : decode b_Mo_displays 179 = .ok (.goto 5, 3) := by decide +kernel
theorem d_Mo_displays_182 : decode b_Mo_displays 182 = .ok (.bipush 16, 2) := by decide +kernel
theorem d_Mo_displays_184 : decode b_Mo_displays 184 = .ok (.iadd, 1) := by decide +kernel
theorem d_Mo_displays_185 : decode b_Mo_displays 185 = .ok (.invokevirtual 235, 3) := by decide +kernel
theorem d_Mo_displays_188 : decode b_Mo_displays 188 = .ok (.iastore, 1) := by decide +kernel
theorem d_Mo_displays_189 : decode b_Mo_displays 189 = .ok (.iconst 1, 1) := by decide +kernel
theorem d_Mo_displays_190 : decode b_Mo_displays 190 = .ok (.istore_n 1, 1) := by decide +kernel
theorem d_Mo_displays_191 : decode b_Mo_displays 191 = .ok (.aload_n 0, 1) := by decide +kernel
theorem d_Mo_displays_192 : decode b_Mo_displays 192 = .ok (.invokevirtual 238, 3) := by decide +kernel
theorem d_Mo_displays_195 : decode b_Mo_displays 195 = .ok (.ifCond .eq 10, 3) := by decide +kernel
theorem d_Mo_displays_198 : decode b_Mo_displays 198 = .ok (.aload_n 0, 1) := by decide +kernel
theorem d_Mo_displays_199 : decode b_Mo_displays 199 = .ok (.invokevirtual 241, 3) := by decide +kernel
theorem d_Mo_displays_202 : decode b_Mo_displays 202 = .ok (.ifCond .ne 7, 3) := by decide +kernel
theorem d_Mo_displays_205 : decode b_Mo_displays 205 = .ok (.iload_n 1, 1) := by decide +kernel
theorem d_Mo_displays_206 : decode b_Mo_displays 206 = .ok (.ifCond .eq 7, 3) := by decide +kernel
theorem d_Mo_displays_209 : decode b_Mo_displays 209 = .ok (.iconst 1, 1) := by decide +kernel
theorem d_Mo_displays_210 : decode b_Mo_displays 210 = .ok (.goto 4, 3) := by decide +kernel
theorem d_Mo_displays_213 : decode b_Mo_displays 213 = .ok (.iconst 0, 1) := by decide +kernel
theorem d_Mo_displays_214 : decode b_Mo_displays 214 = .ok (.ireturn, 1) := by decide +kernel
theorem d_Mo_asks_0 : decode b_Mo_asks 0 = .ok (.aload_n 0, 1) := by decide +kernel
theorem d_Mo_asks_1 : decode b_Mo_asks 1 = .ok (.invokevirtual 238, 3) := by decide +kernel
theorem d_Mo_asks_4 : decode b_Mo_asks 4 = .ok (.ifCond .eq 48, 3) := by decide +kernel
theorem d_Mo_asks_7 : decode b_Mo_asks 7 = .ok (.aload_n 0, 1) := by decide +kernel
theorem d_Mo_asks_8 : decode b_Mo_asks 8 = .ok (.invokevirtual 244, 3) := by decide +kernel
theorem d_Mo_asks_11 : decode b_Mo_asks 11 = .ok (.ifCond .eq 41, 3) := by decide +kernel
theorem d_Mo_asks_14 : decode b_Mo_asks 14 = .ok (.aload_n 0, 1) := by decide +kernel
theorem d_Mo_asks_15 : decode b_Mo_asks 15 = .ok (.getfield 247, 3) := by decide +kernel
theorem d_Mo_asks_18 : decode b_Mo_asks 18 = .ok (.ifCond .eq 34, 3) := by decide +kernel
theorem d_Mo_asks_21 : decode b_Mo_asks 21 = .ok (.aload_n 0, 1) := by decide +kernel
theorem d_Mo_asks_22 : decode b_Mo_asks 22 = .ok (.getfield 214, 3) := by decide +kernel
theorem d_Mo_asks_25 : decode b_Mo_asks 25 = .ok (.aload_n 0, 1) := by decide +kernel
theorem d_Mo_asks_26 : decode b_Mo_asks 26 = .ok (.getfield 217, 3) := by decide +kernel
theorem d_Mo_asks_29 : decode b_Mo_asks 29 = .ok (.iconst 1, 1) := by decide +kernel
theorem d_Mo_asks_30 : decode b_Mo_asks 30 = .ok (.isub, 1) := by decide +kernel
theorem d_Mo_asks_31 : decode b_Mo_asks 31 = .ok (.if_icmp .ne 21, 3) := by decide +kernel
theorem d_Mo_asks_34 : decode b_Mo_asks 34 = .ok (.aload_n 0, 1) := by decide +kernel
theorem d_Mo_asks_35 : decode b_Mo_asks 35 = .ok (.getfield 13, 3) := by decide +kernel
theorem d_Mo_asks_38 : decode b_Mo_asks 38 = .ok (.bipush 6, 2) := by decide +kernel
theorem d_Mo_asks_40 : decode b_Mo_asks 40 = .ok (.iaload, 1) := by decide +kernel
theorem d_Mo_asks_41 : decode b_Mo_asks 41 = .ok (.sipush 128, 3) := by decide +kernel
theorem d_Mo_asks_44 : decode b_Mo_asks 44 = .ok (.iand, 1) := by decide +kernel
theorem d_Mo_asks_45 : decode b_Mo_asks 45 = .ok (.ifCond .eq 7, 3) := by decide +kernel
theorem d_Mo_asks_48 : decode b_Mo_asks 48 = .ok (.iconst 1, 1) := by decide +kernel
theorem d_Mo_asks_49 : decode b_Mo_asks 49 = .ok (.goto 4, 3) := by decide +kernel
theorem d_Mo_asks_52 : decode b_Mo_asks 52 = .ok (.iconst 0, 1) := by decide +kernel
theorem d_Mo_asks_53 : decode b_Mo_asks 53 = .ok (.istore_n 1, 1) := by decide +kernel
theorem d_Mo_asks_54 : decode b_Mo_asks 54 = .ok (.aload_n 0, 1) := by decide +kernel
theorem d_Mo_asks_55 : decode b_Mo_asks 55 = .ok (.getfield 58, 3) := by decide +kernel
theorem d_Mo_asks_58 : decode b_Mo_asks 58 = .ok (.bipush 13, 2) := by decide +kernel
theorem d_Mo_asks_60 : decode b_Mo_asks 60 = .ok (.if_icmp .ne 20, 3) := by decide +kernel
theorem d_Mo_asks_63 : decode b_Mo_asks 63 = .ok (.aload_n 0, 1) := by decide +kernel
theorem d_Mo_asks_64 : decode b_Mo_asks 64 = .ok (.getfield 13, 3) := by decide +kernel
theorem d_Mo_asks_67 : decode b_Mo_asks 67 = .ok (.bipush 6, 2) := by decide +kernel
theorem d_Mo_asks_69 : decode b_Mo_asks 69 = .ok (.iaload, 1) := by decide +kernel
theorem d_Mo_asks_70 : decode b_Mo_asks 70 = .ok (.bipush 64, 2) := by decide +kernel
theorem d_Mo_asks_72 : decode b_Mo_asks 72 = .ok (.iand, 1) := by decide +kernel
theorem d_Mo_asks_73 : decode b_Mo_asks 73 = .ok (.ifCond .eq 7, 3) := by decide +kernel
theorem d_Mo_asks_76 : decode b_Mo_asks 76 = .ok (.iconst 1, 1) := by decide +kernel
theorem d_Mo_asks_77 : decode b_Mo_asks 77 = .ok (.goto 4, 3) := by decide +kernel
theorem d_Mo_asks_80 : decode b_Mo_asks 80 = .ok (.iconst 0, 1) := by decide +kernel
theorem d_Mo_asks_81 : decode b_Mo_asks 81 = .ok (.istore_n 2, 1) := by decide +kernel
theorem d_Mo_asks_82 : decode b_Mo_asks 82 = .ok (.iload_n 1, 1) := by decide +kernel
theorem d_Mo_asks_83 : decode b_Mo_asks 83 = .ok (.ifCond .ne 8, 3) := by decide +kernel
theorem d_Mo_asks_86 : decode b_Mo_asks 86 = .ok (.iload_n 2, 1) := by decide +kernel
theorem d_Mo_asks_87 : decode b_Mo_asks 87 = .ok (.ifCond .ne 4, 3) := by decide +kernel
theorem d_Mo_asks_90 : decode b_Mo_asks 90 = .ok (.return_, 1) := by decide +kernel
theorem d_Mo_asks_91 : decode b_Mo_asks 91 = .ok (.aload_n 0, 1) := by decide +kernel
theorem d_Mo_asks_92 : decode b_Mo_asks 92 = .ok (.aload_n 0, 1) := by decide +kernel
theorem d_Mo_asks_93 : decode b_Mo_asks 93 = .ok (.getfield 61, 3) := by decide +kernel
theorem d_Mo_asks_96 : decode b_Mo_asks 96 = .ok (.iload_n 1, 1) := by decide +kernel
theorem d_Mo_asks_97 : decode b_Mo_asks 97 = .ok (.ifCond .eq 9, 3) := by decide +kernel
theorem d_Mo_asks_100 : decode b_Mo_asks 100 = .ok (.sipush 128, 3) := by decide +kernel
theorem d_Mo_asks_103 : decode b_Mo_asks 103 = .ok (.goto 5, 3) := by decide +kernel
theorem d_Mo_asks_106 : decode b_Mo_asks 106 = .ok (.bipush 64, 2) := by decide +kernel
theorem d_Mo_asks_108 : decode b_Mo_asks 108 = .ok (.ior, 1) := by decide +kernel
theorem d_Mo_asks_109 : decode b_Mo_asks 109 = .ok (.putfield 61, 3) := by decide +kernel
theorem d_Mo_asks_112 : decode b_Mo_asks 112 = .ok (.aload_n 0, 1) := by decide +kernel
theorem d_Mo_asks_113 : decode b_Mo_asks 113 = .ok (.iconst 1, 1) := by decide +kernel
theorem d_Mo_asks_114 : decode b_Mo_asks 114 = .ok (.putfield 145, 3) := by decide +kernel
theorem d_Mo_asks_117 : decode b_Mo_asks 117 = .ok (.return_, 1) := by decide +kernel
theorem d_Mo_fetches_0 : decode b_Mo_fetches 0 = .ok (.aload_n 0, 1) := by decide +kernel
theorem d_Mo_fetches_1 : decode b_Mo_fetches 1 = .ok (.getfield 220, 3) := by decide +kernel
theorem d_Mo_fetches_4 : decode b_Mo_fetches 4 = .ok (.iconst 1, 1) := by decide +kernel
theorem d_Mo_fetches_5 : decode b_Mo_fetches 5 = .ok (.if_icmp .ne 33, 3) := by decide +kernel
theorem d_Mo_fetches_8 : decode b_Mo_fetches 8 = .ok (.aload_n 0, 1) := by decide +kernel
theorem d_Mo_fetches_9 : decode b_Mo_fetches 9 = .ok (.invokevirtual 244, 3) := by decide +kernel
theorem d_Mo_fetches_12 : decode b_Mo_fetches 12 = .ok (.ifCond .ne 10, 3) := by decide +kernel
theorem d_Mo_fetches_15 : decode b_Mo_fetches 15 = .ok (.aload_n 0, 1) := by decide +kernel
theorem d_Mo_fetches_16 : decode b_Mo_fetches 16 = .ok (.getfield 226, 3) := by decide +kernel
theorem d_Mo_fetches_19 : decode b_Mo_fetches 19 = .ok (.ifCond .eq 5, 3) := by decide +kernel
theorem d_Mo_fetches_22 : decode b_Mo_fetches 22 = .ok (.iconst 0, 1) := by decide +kernel
theorem d_Mo_fetches_23 : decode b_Mo_fetches 23 = .ok (.ireturn, 1) := by decide +kernel
theorem d_Mo_fetches_24 : decode b_Mo_fetches 24 = .ok (.aload_n 0, 1) := by decide +kernel
theorem d_Mo_fetches_25 : decode b_Mo_fetches 25 = .ok (.aload_n 0, 1) := by decide +kernel
theorem d_Mo_fetches_26 : decode b_Mo_fetches 26 = .ok (.aload_n 0, 1) := by decide +kernel
theorem d_Mo_fetches_27 : decode b_Mo_fetches 27 = .ok (.getfield 223, 3) := by decide +kernel
theorem d_Mo_fetches_30 : decode b_Mo_fetches 30 = .ok (.invokevirtual 235, 3) := by decide +kernel
theorem d_Mo_fetches_33 : decode b_Mo_fetches 33 = .ok (.invokevirtual 250, 3) := by decide +kernel
theorem d_Mo_fetches_36 : decode b_Mo_fetches 36 = .ok (.iconst 1, 1) := by decide +kernel
theorem d_Mo_fetches_37 : decode b_Mo_fetches 37 = .ok (.ireturn, 1) := by decide +kernel
theorem d_Mo_fetches_38 : decode b_Mo_fetches 38 = .ok (.aload_n 0, 1) := by decide +kernel
theorem d_Mo_fetches_39 : decode b_Mo_fetches 39 = .ok (.getfield 220, 3) := by decide +kernel
theorem d_Mo_fetches_42 : decode b_Mo_fetches 42 = .ok (.iconst 2, 1) := by decide +kernel
theorem d_Mo_fetches_43 : decode b_Mo_fetches 43 = .ok (.if_icmp .eq 11, 3) := by decide +kernel
theorem d_Mo_fetches_46 : decode b_Mo_fetches 46 = .ok (.aload_n 0, 1) := by decide +kernel
theorem d_Mo_fetches_47 : decode b_Mo_fetches 47 = .ok (.getfield 220, 3) := by decide +kernel
theorem d_Mo_fetches_50 : decode b_Mo_fetches 50 = .ok (.iconst 3, 1) := by decide +kernel
theorem d_Mo_fetches_51 : decode b_Mo_fetches 51 = .ok (.if_icmp .ne 23, 3) := by decide +kernel
theorem d_Mo_fetches_54 : decode b_Mo_fetches 54 = .ok (.aload_n 0, 1) := by decide +kernel
theorem d_Mo_fetches_55 : decode b_Mo_fetches 55 = .ok (.getfield 229, 3) := by decide +kernel
theorem d_Mo_fetches_58 : decode b_Mo_fetches 58 = .ok (.ifCond .eq 14, 3) := by decide +kernel
theorem d_Mo_fetches_61 : decode b_Mo_fetches 61 = .ok (.aload_n 0, 1) := by decide +kernel
theorem d_Mo_fetches_62 : decode b_Mo_fetches 62 = .ok (.invokevirtual 253, 3) := by decide +kernel
theorem d_Mo_fetches_65 : decode b_Mo_fetches 65 = .ok (.ifCond .eq 7, 3) := by decide +kernel
theorem d_Mo_fetches_68 : decode b_Mo_fetches 68 = .ok (.iconst 1, 1) := by decide +kernel
theorem d_Mo_fetches_69 : decode b_Mo_fetches 69 = .ok (.goto 4, 3) := by decide +kernel
theorem d_Mo_fetches_72 : decode b_Mo_fetches 72 = .ok (.iconst 0, 1) := by decide +kernel
theorem d_Mo_fetches_73 : decode b_Mo_fetches 73 = .ok (.ireturn, 1) := by decide +kernel
theorem d_Mo_fetches_74 : decode b_Mo_fetches 74 = .ok (.aload_n 0, 1) := by decide +kernel
theorem d_Mo_fetches_75 : decode b_Mo_fetches 75 = .ok (.invokevirtual 244, 3) := by decide +kernel
theorem d_Mo_fetches_78 : decode b_Mo_fetches 78 = .ok (.ifCond .eq 32, 3) := by decide +kernel
theorem d_Mo_fetches_81 : decode b_Mo_fetches 81 = .ok (.aload_n 0, 1) := by decide +kernel
theorem d_Mo_fetches_82 : decode b_Mo_fetches 82 = .ok (.getfield 256, 3) := by decide +kernel
theorem d_Mo_fetches_85 : decode b_Mo_fetches 85 = .ok (.iconst 2, 1) := by decide +kernel
theorem d_Mo_fetches_86 : decode b_Mo_fetches 86 = .ok (.iconst 4, 1) := by decide +kernel
theorem d_Mo_fetches_87 : decode b_Mo_fetches 87 = .ok (.invokestatic 50, 3) := by decide +kernel
theorem d_Mo_fetches_90 : decode b_Mo_fetches 90 = .ok (.ifCond .eq 20, 3) := by decide +kernel
theorem d_Mo_fetches_93 : decode b_Mo_fetches 93 = .ok (.aload_n 0, 1) := by decide +kernel
theorem d_Mo_fetches_94 : decode b_Mo_fetches 94 = .ok (.getfield 220, 3) := by decide +kernel
theorem d_Mo_fetches_97 : decode b_Mo_fetches 97 = .ok (.iconst 4, 1) := by decide +kernel
theorem d_Mo_fetches_98 : decode b_Mo_fetches 98 = .ok (.bipush 19, 2) := by decide +kernel
theorem d_Mo_fetches_100 : decode b_Mo_fetches 100 = .ok (.invokestatic 50, 3) := by decide +kernel
theorem d_Mo_fetches_103 : decode b_Mo_fetches 103 = .ok (.ifCond .eq 7, 3) := by decide +kernel
theorem d_Mo_fetches_106 : decode b_Mo_fetches 106 = .ok (.iconst 1, 1) := by decide +kernel
theorem d_Mo_fetches_107 : decode b_Mo_fetches 107 = .ok (.goto 4, 3) := by decide +kernel
theorem d_Mo_fetches_110 : decode b_Mo_fetches 110 = .ok (.iconst 0, 1) := by decide +kernel
theorem d_Mo_fetches_111 : decode b_Mo_fetches 111 = .ok (.istore_n 1, 1) := by decide +kernel
theorem d_Mo_fetches_112 : decode b_Mo_fetches 112 = .ok (.aload_n 0, 1) := by decide +kernel
theorem d_Mo_fetches_113 : decode b_Mo_fetches 113 = .ok (.getfield 220, 3) := by decide +kernel
theorem d_Mo_fetches_116 : decode b_Mo_fetches 116 = .ok (.iconst 4, 1) := by decide +kernel
theorem d_Mo_fetches_117 : decode b_Mo_fetches 117 = .ok (.isub, 1) := by decide +kernel
theorem d_Mo_fetches_118 : decode b_Mo_fetches 118 = .ok (.iconst 2, 1) := by decide +kernel
theorem d_Mo_fetches_119 : decode b_Mo_fetches 119 = .ok (.idiv, 1) := by decide +kernel
theorem d_Mo_fetches_120 : decode b_Mo_fetches 120 = .ok (.istore_n 2, 1) := by decide +kernel
theorem d_Mo_fetches_121 : decode b_Mo_fetches 121 = .ok (.iload_n 1, 1) := by decide +kernel
theorem d_Mo_fetches_122 : decode b_Mo_fetches 122 = .ok (.ifCond .eq 46, 3) := by decide +kernel
theorem d_Mo_fetches_125 : decode b_Mo_fetches 125 = .ok (.aload_n 0, 1) := by decide +kernel
theorem d_Mo_fetches_126 : decode b_Mo_fetches 126 = .ok (.getfield 220, 3) := by decide +kernel
theorem d_Mo_fetches_129 : decode b_Mo_fetches 129 = .ok (.iconst 2, 1) := by decide +kernel
theorem d_Mo_fetches_130 : decode b_Mo_fetches 130 = .ok (.irem, 1) := by decide +kernel
theorem d_Mo_fetches_131 : decode b_Mo_fetches 131 = .ok (.ifCond .ne 37, 3) := by decide +kernel
theorem d_Mo_fetches_134 : decode b_Mo_fetches 134 = .ok (.aload_n 0, 1) := by decide +kernel
theorem d_Mo_fetches_135 : decode b_Mo_fetches 135 = .ok (.getfield 214, 3) := by decide +kernel
theorem d_Mo_fetches_138 : decode b_Mo_fetches 138 = .ok (.ifCond .ne 30, 3) := by decide +kernel
theorem d_Mo_fetches_141 : decode b_Mo_fetches 141 = .ok (.aload_n 0, 1) := by decide +kernel
theorem d_Mo_fetches_142 : decode b_Mo_fetches 142 = .ok (.getfield 23, 3) := by decide +kernel
theorem d_Mo_fetches_145 : decode b_Mo_fetches 145 = .ok (.iload_n 2, 1) := by decide +kernel
theorem d_Mo_fetches_146 : decode b_Mo_fetches 146 = .ok (.aload_n 0, 1) := by decide +kernel
theorem d_Mo_fetches_147 : decode b_Mo_fetches 147 = .ok (.aload_n 0, 1) := by decide +kernel
theorem d_Mo_fetches_148 : decode b_Mo_fetches 148 = .ok (.getfield 259, 3) := by decide +kernel
theorem d_Mo_fetches_151 : decode b_Mo_fetches 151 = .ok (.invokevirtual 235, 3) := by decide +kernel
theorem d_Mo_fetches_154 : decode b_Mo_fetches 154 = .ok (.iastore, 1) := by decide +kernel
theorem d_Mo_fetches_155 : decode b_Mo_fetches 155 = .ok (.aload_n 0, 1) := by decide +kernel
theorem d_Mo_fetches_156 : decode b_Mo_fetches 156 = .ok (.aload_n 0, 1) := by decide +kernel
theorem d_Mo_fetches_157 : decode b_Mo_fetches 157 = .ok (.getfield 259, 3) := by decide +kernel
theorem d_Mo_fetches_160 : decode b_Mo_fetches 160 = .ok (.invokestatic 262, 3) := by decide +kernel
theorem d_Mo_fetches_163 : decode b_Mo_fetches 163 = .ok (.putfield 259, 3) := by decide +kernel
theorem d_Mo_fetches_166 : decode b_Mo_fetches 166 = .ok (.iconst 1, 1) := by decide +kernel
theorem d_Mo_fetches_167 : decode b_Mo_fetches 167 = .ok (.ireturn, 1) := by decide +kernel
theorem d_Mo_fetches_168 : decode b_Mo_fetches 168 = .ok (.iload_n 1, 1) := by decide +kernel
theorem d_Mo_fetches_169 : decode b_Mo_fetches 169 = .ok (.ifCond .eq 20, 3) := by decide +kernel
theorem d_Mo_fetches_172 : decode b_Mo_fetches 172 = .ok (.aload_n 0, 1) := by decide +kernel
theorem d_Mo_fetches_173 : decode b_Mo_fetches 173 = .ok (.getfield 220, 3) := by decide +kernel
theorem d_Mo_fetches_176 : decode b_Mo_fetches 176 = .ok (.iconst 2, 1) := by decide +kernel
theorem d_Mo_fetches_177 : decode b_Mo_fetches 177 = .ok (.irem, 1) := by decide +kernel
theorem d_Mo_fetches_178 : decode b_Mo_fetches 178 = .ok (.ifCond .eq 11, 3) := by decide +kernel
theorem d_Mo_fetches_181 : decode b_Mo_fetches 181 = .ok (.aload_n 0, 1) := by decide +kernel
theorem d_Mo_fetches_182 : decode b_Mo_fetches 182 = .ok (.getfield 256, 3) := by decide +kernel
theorem d_Mo_fetches_185 : decode b_Mo_fetches 185 = .ok (.iconst 2, 1) := by decide +kernel
theorem d_Mo_fetches_186 : decode b_Mo_fetches 186 = .ok (.if_icmp .eq 5, 3) := by decide +kernel
theorem d_Mo_fetches_189 : decode b_Mo_fetches 189 = .ok (.iconst 0, 1) := by decide +kernel
theorem d_Mo_fetches_190 : decode b_Mo_fetches 190 = .ok (.ireturn, 1) := by decide +kernel
theorem d_Mo_fetches_191 : decode b_Mo_fetches 191 = .ok (.aload_n 0, 1) := by decide +kernel
theorem d_Mo_fetches_192 : decode b_Mo_fetches 192 = .ok (.getfield 26, 3) := by decide +kernel
theorem d_Mo_fetches_195 : decode b_Mo_fetches 195 = .ok (.iload_n 2, 1) := by decide +kernel
theorem d_Mo_fetches_196 : decode b_Mo_fetches 196 = .ok (.aload_n 0, 1) := by decide +kernel
theorem d_Mo_fetches_197 : decode b_Mo_fetches 197 = .ok (.sipush 256, 3) := by decide +kernel
theorem d_Mo_fetches_200 : decode b_Mo_fetches 200 = .ok (.aload_n 0, 1) := by decide +kernel
theorem d_Mo_fetches_201 : decode b_Mo_fetches 201 = .ok (.getfield 13, 3) := by decide +kernel
theorem d_Mo_fetches_204 : decode b_Mo_fetches 204 = .ok (.iconst 1, 1) := by decide +kernel
theorem d_Mo_fetches_205 : decode b_Mo_fetches 205 = .ok (.iaload, 1) := by decide +kernel
theorem d_Mo_fetches_206 : decode b_Mo_fetches 206 = .ok (.imul, 1) := by decide +kernel
theorem d_Mo_fetches_207 : decode b_Mo_fetches 207 = .ok (.iconst 4, 1) := by decide +kernel
theorem d_Mo_fetches_208 : decode b_Mo_fetches 208 = .ok (.aload_n 0, 1) := by decide +kernel
theorem d_Mo_fetches_209 : decode b_Mo_fetches 209 = .ok (.getfield 23, 3) := by decide +kernel
theorem d_Mo_fetches_212 : decode b_Mo_fetches 212 = .ok (.iload_n 2, 1) := by decide +kernel
theorem d_Mo_fetches_213 : decode b_Mo_fetches 213 = .ok (.iaload, 1) := by decide +kernel
theorem d_Mo_fetches_214 : decode b_Mo_fetches 214 = .ok (.bipush 63, 2) := by decide +kernel
theorem d_Mo_fetches_216 : decode b_Mo_fetches 216 = .ok (.iand, 1) := by decide +kernel
theorem d_Mo_fetches_217 : decode b_Mo_fetches 217 = .ok (.imul, 1) := by decide +kernel
theorem d_Mo_fetches_218 : decode b_Mo_fetches 218 = .ok (.iadd, 1) := by decide +kernel
theorem d_Mo_fetches_219 : decode b_Mo_fetches 219 = .ok (.aload_n 0, 1) := by decide +kernel
theorem d_Mo_fetches_220 : decode b_Mo_fetches 220 = .ok (.getfield 214, 3) := by decide +kernel
theorem d_Mo_fetches_223 : decode b_Mo_fetches 223 = .ok (.iadd, 1) := by decide +kernel
theorem d_Mo_fetches_224 : decode b_Mo_fetches 224 = .ok (.invokevirtual 235, 3) := by decide +kernel
theorem d_Mo_fetches_227 : decode b_Mo_fetches 227 = .ok (.iastore, 1) := by decide +kernel
theorem d_Mo_fetches_228 : decode b_Mo_fetches 228 = .ok (.iconst 1, 1) := by decide +kernel
theorem d_Mo_fetches_229 : decode b_Mo_fetches 229 = .ok (.ireturn, 1) := by decide +kernel
theorem d_Mo_begin_0 : decode b_Mo_begin 0 = .ok (.aload_n 0, 1) := by decide +kernel
theorem d_Mo_begin_1 : decode b_Mo_begin 1 = .ok (.aload_n 0, 1) := by decide +kernel
theorem d_Mo_begin_2 : decode b_Mo_begin 2 = .ok (.getfield 223, 3) := by decide +kernel
theorem d_Mo_begin_5 : decode b_Mo_begin 5 = .ok (.invokestatic 262, 3) := by decide +kernel
theorem d_Mo_begin_8 : decode b_Mo_begin 8 = .ok (.putfield 223, 3) := by decide +kernel
theorem d_Mo_begin_11 : decode b_Mo_begin 11 = .ok (.aload_n 0, 1) := by decide +kernel
theorem d_Mo_begin_12 : decode b_Mo_begin 12 = .ok (.iload_n 1, 1) := by decide +kernel
theorem d_Mo_begin_13 : decode b_Mo_begin 13 = .ok (.bipush 15, 2) := by decide +kernel
theorem d_Mo_begin_15 : decode b_Mo_begin 15 = .ok (.iand, 1) := by decide +kernel
theorem d_Mo_begin_16 : decode b_Mo_begin 16 = .ok (.putfield 256, 3) := by decide +kernel
theorem d_Mo_begin_19 : decode b_Mo_begin 19 = .ok (.aload_n 0, 1) := by decide +kernel
theorem d_Mo_begin_20 : decode b_Mo_begin 20 = .ok (.iconst 1, 1) := by decide +kernel
theorem d_Mo_begin_21 : decode b_Mo_begin 21 = .ok (.putfield 211, 3) := by decide +kernel
theorem d_Mo_begin_24 : decode b_Mo_begin 24 = .ok (.aload_n 0, 1) := by decide +kernel
theorem d_Mo_begin_25 : decode b_Mo_begin 25 = .ok (.iconst 0, 1) := by decide +kernel
theorem d_Mo_begin_26 : decode b_Mo_begin 26 = .ok (.putfield 214, 3) := by decide +kernel
theorem d_Mo_begin_29 : decode b_Mo_begin 29 = .ok (.aload_n 0, 1) := by decide +kernel
theorem d_Mo_begin_30 : decode b_Mo_begin 30 = .ok (.aload_n 0, 1) := by decide +kernel
theorem d_Mo_begin_31 : decode b_Mo_begin 31 = .ok (.getfield 256, 3) := by decide +kernel
theorem d_Mo_begin_34 : decode b_Mo_begin 34 = .ok (.ifCond .ne 14, 3) := by decide +kernel
theorem d_Mo_begin_37 : decode b_Mo_begin 37 = .ok (.iload_n 1, 1) := by decide +kernel
theorem d_Mo_begin_38 : decode b_Mo_begin 38 = .ok (.iconst 4, 1) := by decide +kernel
theorem d_Mo_begin_39 : decode b_Mo_begin 39 = .ok (.ishr, 1) := by decide +kernel
theorem d_Mo_begin_40 : decode b_Mo_begin 40 = .ok (.bipush 7, 2) := by decide +kernel
theorem d_Mo_begin_42 : decode b_Mo_begin 42 = .ok (.iand, 1) := by decide +kernel
theorem d_Mo_begin_43 : decode b_Mo_begin 43 = .ok (.iconst 1, 1) := by decide +kernel
theorem d_Mo_begin_44 : decode b_Mo_begin 44 = .ok (.iadd, 1) := by decide +kernel
theorem d_Mo_begin_45 : decode b_Mo_begin 45 = .ok (.goto 28, 3) := by decide +kernel
theorem d_Mo_begin_48 : decode b_Mo_begin 48 = .ok (.aload_n 0, 1) := by decide +kernel
theorem d_Mo_begin_49 : decode b_Mo_begin 49 = .ok (.getfield 256, 3) := by decide +kernel
theorem d_Mo_begin_52 : decode b_Mo_begin 52 = .ok (.iconst 2, 1) := by decide +kernel
theorem d_Mo_begin_53 : decode b_Mo_begin 53 = .ok (.if_icmp .ne 7, 3) := by decide +kernel
theorem d_Mo_begin_56 : decode b_Mo_begin 56 = .ok (.iconst 4, 1) := by decide +kernel
theorem d_Mo_begin_57 : decode b_Mo_begin 57 = .ok (.goto 16, 3) := by decide +kernel
theorem d_Mo_begin_60 : decode b_Mo_begin 60 = .ok (.aload_n 0, 1) := by decide +kernel
theorem d_Mo_begin_61 : decode b_Mo_begin 61 = .ok (.getfield 256, 3) := by decide +kernel
theorem d_Mo_begin_64 : decode b_Mo_begin 64 = .ok (.iconst 4, 1) := by decide +kernel
theorem d_Mo_begin_65 : decode b_Mo_begin 65 = .ok (.if_icmp .ne 7, 3) := by decide +kernel
theorem d_Mo_begin_68 : decode b_Mo_begin 68 = .ok (.iconst 2, 1) := by decide +kernel
theorem d_Mo_begin_69 : decode b_Mo_begin 69 = .ok (.goto 4, 3) := by decide +kernel
theorem d_Mo_begin_72 : decode b_Mo_begin 72 = .ok (.iconst 1, 1) := by decide +kernel
theorem d_Mo_begin_73 : decode b_Mo_begin 73 = .ok (.putfield 217, 3) := by decide +kernel
theorem d_Mo_begin_76 : decode b_Mo_begin 76 = .ok (.aload_n 0, 1) := by decide +kernel
theorem d_Mo_begin_77 : decode b_Mo_begin 77 = .ok (.iload_n 1, 1) := by decide +kernel
theorem d_Mo_begin_78 : decode b_Mo_begin 78 = .ok (.bipush 127, 2) := by decide +kernel
theorem d_Mo_begin_80 : decode b_Mo_begin 80 = .ok (.if_icmp .le 7, 3) := by decide +kernel
theorem d_Mo_begin_83 : decode b_Mo_begin 83 = .ok (.iconst 1, 1) := by decide +kernel
theorem d_Mo_begin_84 : decode b_Mo_begin 84 = .ok (.goto 4, 3) := by decide +kernel
theorem d_Mo_begin_87 : decode b_Mo_begin 87 = .ok (.iconst 0, 1) := by decide +kernel
theorem d_Mo_begin_88 : decode b_Mo_begin 88 = .ok (.putfield 247, 3) := by decide +kernel
theorem d_Mo_begin_91 : decode b_Mo_begin 91 = .ok (.iload_n 1, 1) := by decide +kernel
theorem d_Mo_begin_92 : decode b_Mo_begin 92 = .ok (.bipush 64, 2) := by decide +kernel
theorem d_Mo_begin_94 : decode b_Mo_begin 94 = .ok (.iand, 1) := by decide +kernel
theorem d_Mo_begin_95 : decode b_Mo_begin 95 = .ok (.ifCond .eq 7, 3) := by decide +kernel
theorem d_Mo_begin_98 : decode b_Mo_begin 98 = .ok (.iconst 1, 1) := by decide +kernel
theorem d_Mo_begin_99 : decode b_Mo_begin 99 = .ok (.goto 4, 3) := by decide +kernel
theorem d_Mo_begin_102 : decode b_Mo_begin 102 = .ok (.iconst 0, 1) := by decide +kernel
theorem d_Mo_begin_103 : decode b_Mo_begin 103 = .ok (.istore_n 2, 1) := by decide +kernel
theorem d_Mo_begin_104 : decode b_Mo_begin 104 = .ok (.aload_n 0, 1) := by decide +kernel
theorem d_Mo_begin_105 : decode b_Mo_begin 105 = .ok (.aload_n 0, 1) := by decide +kernel
theorem d_Mo_begin_106 : decode b_Mo_begin 106 = .ok (.getfield 256, 3) := by decide +kernel
theorem d_Mo_begin_109 : decode b_Mo_begin 109 = .ok (.iconst 1, 1) := by decide +kernel
theorem d_Mo_begin_110 : decode b_Mo_begin 110 = .ok (.if_icmp .eq 19, 3) := by decide +kernel
theorem d_Mo_begin_113 : decode b_Mo_begin 113 = .ok (.aload_n 0, 1) := by decide +kernel
theorem d_Mo_begin_114 : decode b_Mo_begin 114 = .ok (.getfield 256, 3) := by decide +kernel
theorem d_Mo_begin_117 : decode b_Mo_begin 117 = .ok (.iconst 2, 1) := by decide +kernel
theorem d_Mo_begin_118 : decode b_Mo_begin 118 = .ok (.iconst 4, 1) := by decide +kernel
theorem d_Mo_begin_119 : decode b_Mo_begin 119 = .ok (.invokestatic 50, 3) := by decide +kernel
theorem d_Mo_begin_122 : decode b_Mo_begin 122 = .ok (.ifCond .eq 11, 3) := by decide +kernel
theorem d_Mo_begin_125 : decode b_Mo_begin 125 = .ok (.iload_n 2, 1) := by decide +kernel
theorem d_Mo_begin_126 : decode b_Mo_begin 126 = .ok (.ifCond .eq 7, 3) := by decide +kernel
theorem d_Mo_begin_129 : decode b_Mo_begin 129 = .ok (.iconst 1, 1) := by decide +kernel
theorem d_Mo_begin_130 : decode b_Mo_begin 130 = .ok (.goto 4, 3) := by decide +kernel
theorem d_Mo_begin_133 : decode b_Mo_begin 133 = .ok (.iconst 0, 1) := by decide +kernel
theorem d_Mo_begin_134 : decode b_Mo_begin 134 = .ok (.putfield 229, 3) := by decide +kernel
theorem d_Mo_begin_137 : decode b_Mo_begin 137 = .ok (.aload_n 0, 1) := by decide +kernel
theorem d_Mo_begin_138 : decode b_Mo_begin 138 = .ok (.aload_n 0, 1) := by decide +kernel
theorem d_Mo_begin_139 : decode b_Mo_begin 139 = .ok (.getfield 256, 3) := by decide +kernel
theorem d_Mo_begin_142 : decode b_Mo_begin 142 = .ok (.iconst 1, 1) := by decide +kernel
theorem d_Mo_begin_143 : decode b_Mo_begin 143 = .ok (.if_icmp .ne 11, 3) := by decide +kernel
theorem d_Mo_begin_146 : decode b_Mo_begin 146 = .ok (.iload_n 2, 1) := by decide +kernel
theorem d_Mo_begin_147 : decode b_Mo_begin 147 = .ok (.ifCond .eq 7, 3) := by decide +kernel
theorem d_Mo_begin_150 : decode b_Mo_begin 150 = .ok (.iconst 1, 1) := by decide +kernel
theorem d_Mo_begin_151 : decode b_Mo_begin 151 = .ok (.goto 4, 3) := by decide +kernel
theorem d_Mo_begin_154 : decode b_Mo_begin 154 = .ok (.iconst 0, 1) := by decide +kernel
theorem d_Mo_begin_155 : decode b_Mo_begin 155 = .ok (.putfield 265, 3) := by decide +kernel
theorem d_Mo_begin_158 : decode b_Mo_begin 158 = .ok (.return_, 1) := by decide +kernel
theorem d_Mo_addressed_0 : decode b_Mo_addressed 0 = .ok (.aload_n 0, 1) := by decide +kernel
theorem d_Mo_addressed_1 : decode b_Mo_addressed 1 = .ok (.aload_n 0, 1) := by decide +kernel
theorem d_Mo_addressed_2 : decode b_Mo_addressed 2 = .ok (.getfield 223, 3) := by decide +kernel
theorem d_Mo_addressed_5 : decode b_Mo_addressed 5 = .ok (.invokevirtual 235, 3) := by decide +kernel
theorem d_Mo_addressed_8 : decode b_Mo_addressed 8 = .ok (.istore_n 1, 1) := by decide +kernel
theorem d_Mo_addressed_9 : decode b_Mo_addressed 9 = .ok (.aload_n 0, 1) := by decide +kernel
theorem d_Mo_addressed_10 : decode b_Mo_addressed 10 = .ok (.aload_n 0, 1) := by decide +kernel
theorem d_Mo_addressed_11 : decode b_Mo_addressed 11 = .ok (.getfield 223, 3) := by decide +kernel
theorem d_Mo_addressed_14 : decode b_Mo_addressed 14 = .ok (.invokestatic 262, 3) := by decide +kernel
theorem d_Mo_addressed_17 : decode b_Mo_addressed 17 = .ok (.putfield 223, 3) := by decide +kernel
theorem d_Mo_addressed_20 : decode b_Mo_addressed 20 = .ok (.aload_n 0, 1) := by decide +kernel
theorem d_Mo_addressed_21 : decode b_Mo_addressed 21 = .ok (.getfield 220, 3) := by decide +kernel
theorem d_Mo_addressed_24 : decode b_Mo_addressed 24 = .ok (.iconst 2, 1) := by decide +kernel
theorem d_Mo_addressed_25 : decode b_Mo_addressed 25 = .ok (.if_icmp .ne 10, 3) := by decide +kernel
theorem d_Mo_addressed_28 : decode b_Mo_addressed 28 = .ok (.aload_n 0, 1) := by decide +kernel
theorem d_Mo_addressed_29 : decode b_Mo_addressed 29 = .ok (.iload_n 1, 1) := by decide +kernel
theorem d_Mo_addressed_30 : decode b_Mo_addressed 30 = .ok (.putfield 268, 3) := by decide +kernel
theorem d_Mo_addressed_33 : decode b_Mo_addressed 33 = .ok (.iconst 1, 1) := by decide +kernel
theorem d_Mo_addressed_34 : decode b_Mo_addressed 34 = .ok (.ireturn, 1) := by decide +kernel
theorem d_Mo_addressed_35 : decode b_Mo_addressed 35 = .ok (.aload_n 0, 1) := by decide +kernel
theorem d_Mo_addressed_36 : decode b_Mo_addressed 36 = .ok (.getfield 268, 3) := by decide +kernel
theorem d_Mo_addressed_39 : decode b_Mo_addressed 39 = .ok (.sipush 256, 3) := by decide +kernel
theorem d_Mo_addressed_42 : decode b_Mo_addressed 42 = .ok (.iload_n 1, 1) := by decide +kernel
theorem d_Mo_addressed_43 : decode b_Mo_addressed 43 = .ok (.imul, 1) := by decide +kernel
theorem d_Mo_addressed_44 : decode b_Mo_addressed 44 = .ok (.iadd, 1) := by decide +kernel
theorem d_Mo_addressed_45 : decode b_Mo_addressed 45 = .ok (.sipush 1023, 3) := by decide +kernel
theorem d_Mo_addressed_48 : decode b_Mo_addressed 48 = .ok (.iand, 1) := by decide +kernel
theorem d_Mo_addressed_49 : decode b_Mo_addressed 49 = .ok (.istore_n 2, 1) := by decide +kernel
theorem d_Mo_addressed_50 : decode b_Mo_addressed 50 = .ok (.aload_n 0, 1) := by decide +kernel
theorem d_Mo_addressed_51 : decode b_Mo_addressed 51 = .ok (.getfield 256, 3) := by decide +kernel
theorem d_Mo_addressed_54 : decode b_Mo_addressed 54 = .ok (.iconst 1, 1) := by decide +kernel
theorem d_Mo_addressed_55 : decode b_Mo_addressed 55 = .ok (.if_icmp .ne 11, 3) := by decide +kernel
theorem d_Mo_addressed_58 : decode b_Mo_addressed 58 = .ok (.aload_n 0, 1) := by decide +kernel
theorem d_Mo_addressed_59 : decode b_Mo_addressed 59 = .ok (.iload_n 2, 1) := by decide +kernel
theorem d_Mo_addressed_60 : decode b_Mo_addressed 60 = .ok (.putfield 223, 3) := by decide +kernel
theorem d_Mo_addressed_63 : decode b_Mo_addressed 63 = .ok (.goto 8, 3) := by decide +kernel
theorem d_Mo_addressed_66 : decode b_Mo_addressed 66 = .ok (.aload_n 0, 1) := by decide +kernel
theorem d_Mo_addressed_67 : decode b_Mo_addressed 67 = .ok (.iload_n 2, 1) := by decide +kernel
theorem d_Mo_addressed_68 : decode b_Mo_addressed 68 = .ok (.putfield 259, 3) := by decide +kernel
theorem d_Mo_addressed_71 : decode b_Mo_addressed 71 = .ok (.iconst 1, 1) := by decide +kernel
theorem d_Mo_addressed_72 : decode b_Mo_addressed 72 = .ok (.ireturn, 1) := by decide +kernel
theorem d_Mo_numberOf_0 : decode b_Mo_numberOf 0 = .ok (.aload_n 0, 1) := by decide +kernel
theorem d_Mo_numberOf_1 : decode b_Mo_numberOf 1 = .ok (.iconst 0, 1) := by decide +kernel
theorem d_Mo_numberOf_2 : decode b_Mo_numberOf 2 = .ok (.invokevirtual 207, 3) := by decide +kernel
theorem d_Mo_numberOf_5 : decode b_Mo_numberOf 5 = .ok (.ifCond .eq 22, 3) := by decide +kernel
theorem d_Mo_numberOf_8 : decode b_Mo_numberOf 8 = .ok (.aload_n 0, 1) := by decide +kernel
theorem d_Mo_numberOf_9 : decode b_Mo_numberOf 9 = .ok (.invokevirtual 244, 3) := by decide +kernel
theorem d_Mo_numberOf_12 : decode b_Mo_numberOf 12 = .ok (.ifCond .eq 15, 3) := by decide +kernel
theorem d_Mo_numberOf_15 : decode b_Mo_numberOf 15 = .ok (.aload_n 0, 1) := by decide +kernel
theorem d_Mo_numberOf_16 : decode b_Mo_numberOf 16 = .ok (.getfield 256, 3) := by decide +kernel
theorem d_Mo_numberOf_19 : decode b_Mo_numberOf 19 = .ok (.iconst 2, 1) := by decide +kernel
theorem d_Mo_numberOf_20 : decode b_Mo_numberOf 20 = .ok (.iconst 4, 1) := by decide +kernel
theorem d_Mo_numberOf_21 : decode b_Mo_numberOf 21 = .ok (.invokestatic 50, 3) := by decide +kernel
theorem d_Mo_numberOf_24 : decode b_Mo_numberOf 24 = .ok (.ifCond .ne 5, 3) := by decide +kernel
theorem d_Mo_numberOf_27 : decode b_Mo_numberOf 27 = .ok (.iconst 0, 1) := by decide +kernel
theorem d_Mo_numberOf_28 : decode b_Mo_numberOf 28 = .ok (.ireturn, 1) := by decide +kernel
theorem d_Mo_numberOf_29 : decode b_Mo_numberOf 29 = .ok (.aload_n 0, 1) := by decide +kernel
theorem d_Mo_numberOf_30 : decode b_Mo_numberOf 30 = .ok (.getfield 256, 3) := by decide +kernel
theorem d_Mo_numberOf_33 : decode b_Mo_numberOf 33 = .ok (.iconst 2, 1) := by decide +kernel
theorem d_Mo_numberOf_34 : decode b_Mo_numberOf 34 = .ok (.if_icmp .ne 14, 3) := by decide +kernel
theorem d_Mo_numberOf_37 : decode b_Mo_numberOf 37 = .ok (.aload_n 0, 1) := by decide +kernel
theorem d_Mo_numberOf_38 : decode b_Mo_numberOf 38 = .ok (.getfield 26, 3) := by decide +kernel
theorem d_Mo_numberOf_41 : decode b_Mo_numberOf 41 = .ok (.iload_n 1, 1) := by decide +kernel
theorem d_Mo_numberOf_42 : decode b_Mo_numberOf 42 = .ok (.iconst 4, 1) := by decide +kernel
theorem d_Mo_numberOf_43 : decode b_Mo_numberOf 43 = .ok (.idiv, 1) := by decide +kernel
theorem d_Mo_numberOf_44 : decode b_Mo_numberOf 44 = .ok (.iaload, 1) := by decide +kernel
theorem d_Mo_numberOf_45 : decode b_Mo_numberOf 45 = .ok (.goto 11, 3) := by decide +kernel
theorem d_Mo_numberOf_48 : decode b_Mo_numberOf 48 = .ok (.aload_n 0, 1) := by decide +kernel
theorem d_Mo_numberOf_49 : decode b_Mo_numberOf 49 = .ok (.getfield 23, 3) := by decide +kernel
theorem d_Mo_numberOf_52 : decode b_Mo_numberOf 52 = .ok (.iload_n 1, 1) := by decide +kernel
theorem d_Mo_numberOf_53 : decode b_Mo_numberOf 53 = .ok (.iconst 4, 1) := by decide +kernel
theorem d_Mo_numberOf_54 : decode b_Mo_numberOf 54 = .ok (.idiv, 1) := by decide +kernel
theorem d_Mo_numberOf_55 : decode b_Mo_numberOf 55 = .ok (.iaload, 1) := by decide +kernel
theorem d_Mo_numberOf_56 : decode b_Mo_numberOf 56 = .ok (.istore_n 2, 1) := by decide +kernel
theorem d_Mo_numberOf_57 : decode b_Mo_numberOf 57 = .ok (.iload_n 2, 1) := by decide +kernel
theorem d_Mo_numberOf_58 : decode b_Mo_numberOf 58 = .ok (.bipush 6, 2) := by decide +kernel
theorem d_Mo_numberOf_60 : decode b_Mo_numberOf 60 = .ok (.iconst 2, 1) := by decide +kernel
theorem d_Mo_numberOf_61 : decode b_Mo_numberOf 61 = .ok (.iload_n 1, 1) := by decide +kernel
theorem d_Mo_numberOf_62 : decode b_Mo_numberOf 62 = .ok (.iconst 4, 1) := by decide +kernel
theorem d_Mo_numberOf_63 : decode b_Mo_numberOf 63 = .ok (.irem, 1) := by decide +kernel
theorem d_Mo_numberOf_64 : decode b_Mo_numberOf 64 = .ok (.imul, 1) := by decide +kernel
theorem d_Mo_numberOf_65 : decode b_Mo_numberOf 65 = .ok (.isub, 1) := by decide +kernel
theorem d_Mo_numberOf_66 : decode b_Mo_numberOf 66 = .ok (.ishr, 1) := by decide +kernel
theorem d_Mo_numberOf_67 : decode b_Mo_numberOf 67 = .ok (.iconst 3, 1) := by decide +kernel
theorem d_Mo_numberOf_68 : decode b_Mo_numberOf 68 = .ok (.iand, 1) := by decide +kernel
theorem d_Mo_numberOf_69 : decode b_Mo_numberOf 69 = .ok (.ireturn, 1) := by decide +kernel
theorem d_Mo_isCovered_0 : decode b_Mo_isCovered 0 = .ok (.iload_n 2, 1) := by decide +kernel
theorem d_Mo_isCovered_1 : decode b_Mo_isCovered 1 = .ok (.aload_n 0, 1) := by decide +kernel
theorem d_Mo_isCovered_2 : decode b_Mo_isCovered 2 = .ok (.getfield 13, 3) := by decide +kernel
theorem d_Mo_isCovered_5 : decode b_Mo_isCovered 5 = .ok (.bipush 14, 2) := by decide +kernel
theorem d_Mo_isCovered_7 : decode b_Mo_isCovered 7 = .ok (.iload_n 1, 1) := by decide +kernel
theorem d_Mo_isCovered_8 : decode b_Mo_isCovered 8 = .ok (.iadd, 1) := by decide +kernel
theorem d_Mo_isCovered_9 : decode b_Mo_isCovered 9 = .ok (.iaload, 1) := by decide +kernel
theorem d_Mo_isCovered_10 : decode b_Mo_isCovered 10 = .ok (.isub, 1) := by decide +kernel
theorem d_Mo_isCovered_11 : decode b_Mo_isCovered 11 = .ok (.istore_n 3, 1) := by decide +kernel
theorem d_Mo_isCovered_12 : decode b_Mo_isCovered 12 = .ok (.aload_n 0, 1) := by decide +kernel
theorem d_Mo_isCovered_13 : decode b_Mo_isCovered 13 = .ok (.getfield 13, 3) := by decide +kernel
theorem d_Mo_isCovered_16 : decode b_Mo_isCovered 16 = .ok (.bipush 16, 2) := by decide +kernel
theorem d_Mo_isCovered_18 : decode b_Mo_isCovered 18 = .ok (.iaload, 1) := by decide +kernel
theorem d_Mo_isCovered_19 : decode b_Mo_isCovered 19 = .ok (.iload_n 1, 1) := by decide +kernel
theorem d_Mo_isCovered_20 : decode b_Mo_isCovered 20 = .ok (.ishr, 1) := by decide +kernel
theorem d_Mo_isCovered_21 : decode b_Mo_isCovered 21 = .ok (.iconst 1, 1) := by decide +kernel
theorem d_Mo_isCovered_22 : decode b_Mo_isCovered 22 = .ok (.iand, 1) := by decide +kernel
theorem d_Mo_isCovered_23 : decode b_Mo_isCovered 23 = .ok (.iconst 1, 1) := by decide +kernel
theorem d_Mo_isCovered_24 : decode b_Mo_isCovered 24 = .ok (.if_icmp .ne 11, 3) := by decide +kernel
theorem d_Mo_isCovered_27 : decode b_Mo_isCovered 27 = .ok (.iload_n 3, 1) := by decide +kernel
theorem d_Mo_isCovered_28 : decode b_Mo_isCovered 28 = .ok (.ifCond .lt 7, 3) := by decide +kernel
theorem d_Mo_isCovered_31 : decode b_Mo_isCovered 31 = .ok (.iload_n 3, 1) := by decide +kernel
theorem d_Mo_isCovered_32 : decode b_Mo_isCovered 32 = .ok (.iconst 2, 1) := by decide +kernel
theorem d_Mo_isCovered_33 : decode b_Mo_isCovered 33 = .ok (.idiv, 1) := by decide +kernel
theorem d_Mo_isCovered_34 : decode b_Mo_isCovered 34 = .ok (.istore_n 3, 1) := by decide +kernel
theorem d_Mo_isCovered_35 : decode b_Mo_isCovered 35 = .ok (.iload_n 3, 1) := by decide +kernel
theorem d_Mo_isCovered_36 : decode b_Mo_isCovered 36 = .ok (.iconst 0, 1) := by decide +kernel
theorem d_Mo_isCovered_37 : decode b_Mo_isCovered 37 = .ok (.bipush 7, 2) := by decide +kernel
theorem d_Mo_isCovered_39 : decode b_Mo_isCovered 39 = .ok (.invokestatic 50, 3) := by decide +kernel
theorem d_Mo_isCovered_42 : decode b_Mo_isCovered 42 = .ok (.ifCond .eq 27, 3) := by decide +kernel
theorem d_Mo_isCovered_45 : decode b_Mo_isCovered 45 = .ok (.aload_n 0, 1) := by decide +kernel
theorem d_Mo_isCovered_46 : decode b_Mo_isCovered 46 = .ok (.getfield 13, 3) := by decide +kernel
theorem d_Mo_isCovered_49 : decode b_Mo_isCovered 49 = .ok (.bipush 19, 2) := by decide +kernel
theorem d_Mo_isCovered_51 : decode b_Mo_isCovered 51 = .ok (.iload_n 1, 1) := by decide +kernel
theorem d_Mo_isCovered_52 : decode b_Mo_isCovered 52 = .ok (.iadd, 1) := by decide +kernel
theorem d_Mo_isCovered_53 : decode b_Mo_isCovered 53 = .ok (.iaload, 1) := by decide +kernel
theorem d_Mo_isCovered_54 : decode b_Mo_isCovered 54 = .ok (.bipush 7, 2) := by decide +kernel
theorem d_Mo_isCovered_56 : decode b_Mo_isCovered 56 = .ok (.iload_n 3, 1) := by decide +kernel
theorem d_Mo_isCovered_57 : decode b_Mo_isCovered 57 = .ok (.isub, 1) := by decide +kernel
theorem d_Mo_isCovered_58 : decode b_Mo_isCovered 58 = .ok (.ishr, 1) := by decide +kernel
theorem d_Mo_isCovered_59 : decode b_Mo_isCovered 59 = .ok (.iconst 1, 1) := by decide +kernel
theorem d_Mo_isCovered_60 : decode b_Mo_isCovered 60 = .ok (.iand, 1) := by decide +kernel
theorem d_Mo_isCovered_61 : decode b_Mo_isCovered 61 = .ok (.iconst 1, 1) := by decide +kernel
theorem d_Mo_isCovered_62 : decode b_Mo_isCovered 62 = .ok (.if_icmp .ne 7, 3) := by decide +kernel
theorem d_Mo_isCovered_65 : decode b_Mo_isCovered 65 = .ok (.iconst 1, 1) := by decide +kernel
theorem d_Mo_isCovered_66 : decode b_Mo_isCovered 66 = .ok (.goto 4, 3) := by decide +kernel
theorem d_Mo_isCovered_69 : decode b_Mo_isCovered 69 = .ok (.iconst 0, 1) := by decide +kernel
theorem d_Mo_isCovered_70 : decode b_Mo_isCovered 70 = .ok (.ireturn, 1) := by decide +kernel
theorem d_Mo_draw_0 : decode b_Mo_draw 0 = .ok (.iconst 0, 1) := by decide +kernel
theorem d_Mo_draw_1 : decode b_Mo_draw 1 = .ok (.istore_n 1, 1) := by decide +kernel
theorem d_Mo_draw_2 : decode b_Mo_draw 2 = .ok (.iload_n 1, 1) := by decide +kernel
theorem d_Mo_draw_3 : decode b_Mo_draw 3 = .ok (.bipush 32, 2) := by decide +kernel
theorem d_Mo_draw_5 : decode b_Mo_draw 5 = .ok (.if_icmp .ge 179, 3) := by decide +kernel
theorem d_Mo_draw_8 : decode b_Mo_draw 8 = .ok (.aload_n 0, 1) := by decide +kernel
theorem d_Mo_draw_9 : decode b_Mo_draw 9 = .ok (.iload_n 1, 1) := by decide +kernel
theorem d_Mo_draw_10 : decode b_Mo_draw 10 = .ok (.invokevirtual 271, 3) := by decide +kernel
theorem d_Mo_draw_13 : decode b_Mo_draw 13 = .ok (.istore_n 2, 1) := by decide +kernel
theorem d_Mo_draw_14 : decode b_Mo_draw 14 = .ok (.aload_n 0, 1) := by decide +kernel
theorem d_Mo_draw_15 : decode b_Mo_draw 15 = .ok (.iconst 0, 1) := by decide +kernel
theorem d_Mo_draw_16 : decode b_Mo_draw 16 = .ok (.iload_n 1, 1) := by decide +kernel
theorem d_Mo_draw_17 : decode b_Mo_draw 17 = .ok (.invokevirtual 274, 3) := by decide +kernel
theorem d_Mo_draw_20 : decode b_Mo_draw 20 = .ok (.istore_n 3, 1) := by decide +kernel
theorem d_Mo_draw_21 : decode b_Mo_draw 21 = .ok (.aload_n 0, 1) := by decide +kernel
theorem d_Mo_draw_22 : decode b_Mo_draw 22 = .ok (.iconst 1, 1) := by decide +kernel
theorem d_Mo_draw_23 : decode b_Mo_draw 23 = .ok (.iload_n 1, 1) := by decide +kernel
theorem d_Mo_draw_24 : decode b_Mo_draw 24 = .ok (.invokevirtual 274, 3) := by decide +kernel
theorem d_Mo_draw_27 : decode b_Mo_draw 27 = .ok (.istore 4, 2) := by decide +kernel
theorem d_Mo_draw_29 : decode b_Mo_draw 29 = .ok (.iload_n 3, 1) := by decide +kernel
theorem d_Mo_draw_30 : decode b_Mo_draw 30 = .ok (.ifCond .eq 23, 3) := by decide +kernel
theorem d_Mo_draw_33 : decode b_Mo_draw 33 = .ok (.iload_n 2, 1) := by decide +kernel
theorem d_Mo_draw_34 : decode b_Mo_draw 34 = .ok (.ifCond .le 19, 3) := by decide +kernel
theorem d_Mo_draw_37 : decode b_Mo_draw 37 = .ok (.aload_n 0, 1) := by decide +kernel
theorem d_Mo_draw_38 : decode b_Mo_draw 38 = .ok (.getfield 29, 3) := by decide +kernel
theorem d_Mo_draw_41 : decode b_Mo_draw 41 = .ok (.iconst 0, 1) := by decide +kernel
theorem d_Mo_draw_42 : decode b_Mo_draw 42 = .ok (.aload_n 0, 1) := by decide +kernel
theorem d_Mo_draw_43 : decode b_Mo_draw 43 = .ok (.getfield 29, 3) := by decide +kernel
theorem d_Mo_draw_46 : decode b_Mo_draw 46 = .ok (.iconst 0, 1) := by decide +kernel
theorem d_Mo_draw_47 : decode b_Mo_draw 47 = .ok (.iaload, 1) := by decide +kernel
theorem d_Mo_draw_48 : decode b_Mo_draw 48 = .ok (.iconst 1, 1) := by decide +kernel
theorem d_Mo_draw_49 : decode b_Mo_draw 49 = .ok (.iload_n 2, 1) := by decide +kernel
theorem d_Mo_draw_50 : decode b_Mo_draw 50 = .ok (.ishl, 1) := by decide +kernel
theorem d_Mo_draw_51 : decode b_Mo_draw 51 = .ok (.ior, 1) := by decide +kernel
theorem d_Mo_draw_52 : decode b_Mo_draw 52 = .ok (.iastore, 1) := by decide +kernel
theorem d_Mo_draw_53 : decode b_Mo_draw 53 = .ok (.iload 4, 2) := by decide +kernel
theorem d_Mo_draw_55 : decode b_Mo_draw 55 = .ok (.ifCond .eq 23, 3) := by decide +kernel
theorem d_Mo_draw_58 : decode b_Mo_draw 58 = .ok (.iload_n 2, 1) := by decide +kernel
theorem d_Mo_draw_59 : decode b_Mo_draw 59 = .ok (.ifCond .le 19, 3) := by decide +kernel
theorem d_Mo_draw_62 : decode b_Mo_draw 62 = .ok (.aload_n 0, 1) := by decide +kernel
theorem d_Mo_draw_63 : decode b_Mo_draw 63 = .ok (.getfield 29, 3) := by decide +kernel
theorem d_Mo_draw_66 : decode b_Mo_draw 66 = .ok (.iconst 1, 1) := by decide +kernel
theorem d_Mo_draw_67 : decode b_Mo_draw 67 = .ok (.aload_n 0, 1) := by decide +kernel
theorem d_Mo_draw_68 : decode b_Mo_draw 68 = .ok (.getfield 29, 3) := by decide +kernel
theorem d_Mo_draw_71 : decode b_Mo_draw 71 = .ok (.iconst 1, 1) := by decide +kernel
theorem d_Mo_draw_72 : decode b_Mo_draw 72 = .ok (.iaload, 1) := by decide +kernel
theorem d_Mo_draw_73 : decode b_Mo_draw 73 = .ok (.iconst 1, 1) := by decide +kernel
theorem d_Mo_draw_74 : decode b_Mo_draw 74 = .ok (.iload_n 2, 1) := by decide +kernel
theorem d_Mo_draw_75 : decode b_Mo_draw 75 = .ok (.ishl, 1) := by decide +kernel
theorem d_Mo_draw_76 : decode b_Mo_draw 76 = .ok (.ior, 1) := by decide +kernel
theorem d_Mo_draw_77 : decode b_Mo_draw 77 = .ok (.iastore, 1) := by decide +kernel
theorem d_Mo_draw_78 : decode b_Mo_draw 78 = .ok (.iload_n 3, 1) := by decide +kernel
theorem d_Mo_draw_79 : decode b_Mo_draw 79 = .ok (.ifCond .eq 13, 3) := by decide +kernel
theorem d_Mo_draw_82 : decode b_Mo_draw 82 = .ok (.iload 4, 2) := by decide +kernel
theorem d_Mo_draw_84 : decode b_Mo_draw 84 = .ok (.ifCond .eq 8, 3) := by decide +kernel
theorem d_Mo_draw_87 : decode b_Mo_draw 87 = .ok (.aload_n 0, 1) := by decide +kernel
theorem d_Mo_draw_88 : decode b_Mo_draw 88 = .ok (.iconst 1, 1) := by decide +kernel
theorem d_Mo_draw_89 : decode b_Mo_draw 89 = .ok (.putfield 64, 3) := by decide +kernel
theorem d_Mo_draw_92 : decode b_Mo_draw 92 = .ok (.iload_n 3, 1) := by decide +kernel
theorem d_Mo_draw_93 : decode b_Mo_draw 93 = .ok (.ifCond .ne 8, 3) := by decide +kernel
theorem d_Mo_draw_96 : decode b_Mo_draw 96 = .ok (.iload 4, 2) := by decide +kernel
theorem d_Mo_draw_98 : decode b_Mo_draw 98 = .ok (.ifCond .eq 23, 3) := by decide +kernel
theorem d_Mo_draw_101 : decode b_Mo_draw 101 = .ok (.aload_n 0, 1) := by decide +kernel
theorem d_Mo_draw_102 : decode b_Mo_draw 102 = .ok (.getfield 13, 3) := by decide +kernel
theorem d_Mo_draw_105 : decode b_Mo_draw 105 = .ok (.bipush 17, 2) := by decide +kernel
theorem d_Mo_draw_107 : decode b_Mo_draw 107 = .ok (.iaload, 1) := by decide +kernel
theorem d_Mo_draw_108 : decode b_Mo_draw 108 = .ok (.iconst 1, 1) := by decide +kernel
theorem d_Mo_draw_109 : decode b_Mo_draw 109 = .ok (.iand, 1) := by decide +kernel
theorem d_Mo_draw_110 : decode b_Mo_draw 110 = .ok (.ifCond .eq 7, 3) := by decide +kernel
theorem d_Mo_draw_113 : decode b_Mo_draw 113 = .ok (.iload_n 2, 1) := by decide +kernel
theorem d_Mo_draw_114 : decode b_Mo_draw 114 = .ok (.ifCond .ne 7, 3) := by decide +kernel
theorem d_Mo_draw_117 : decode b_Mo_draw 117 = .ok (.iconst 1, 1) := by decide +kernel
theorem d_Mo_draw_118 : decode b_Mo_draw 118 = .ok (.goto 4, 3) := by decide +kernel
theorem d_Mo_draw_121 : decode b_Mo_draw 121 = .ok (.iconst 0, 1) := by decide +kernel
theorem d_Mo_draw_122 : decode b_Mo_draw 122 = .ok (.istore 5, 2) := by decide +kernel
theorem d_Mo_draw_124 : decode b_Mo_draw 124 = .ok (.aload_n 0, 1) := by decide +kernel
theorem d_Mo_draw_125 : decode b_Mo_draw 125 = .ok (.getfield 32, 3) := by decide +kernel
theorem d_Mo_draw_128 : decode b_Mo_draw 128 = .ok (.bipush 32, 2) := by decide +kernel
theorem d_Mo_draw_130 : decode b_Mo_draw 130 = .ok (.aload_n 0, 1) := by decide +kernel
theorem d_Mo_draw_131 : decode b_Mo_draw 131 = .ok (.getfield 58, 3) := by decide +kernel
theorem d_Mo_draw_134 : decode b_Mo_draw 134 = .ok (.iconst 1, 1) := by decide +kernel
theorem d_Mo_draw_135 : decode b_Mo_draw 135 = .ok (.isub, 1) := by decide +kernel
theorem d_Mo_draw_136 : decode b_Mo_draw 136 = .ok (.imul, 1) := by decide +kernel
theorem d_Mo_draw_137 : decode b_Mo_draw 137 = .ok (.iload_n 1, 1) := by decide +kernel
theorem d_Mo_draw_138 : decode b_Mo_draw 138 = .ok (.iadd, 1) := by decide +kernel
theorem d_Mo_draw_139 : decode b_Mo_draw 139 = .ok (.iload 5, 2) := by decide +kernel
theorem d_Mo_draw_141 : decode b_Mo_draw 141 = .ok (.ifCond .ne 15, 3) := by decide +kernel
theorem d_Mo_draw_144 : decode b_Mo_draw 144 = .ok (.aload_n 0, 1) := by decide +kernel
theorem d_Mo_draw_145 : decode b_Mo_draw 145 = .ok (.getfield 13, 3) := by decide +kernel
theorem d_Mo_draw_148 : decode b_Mo_draw 148 = .ok (.bipush 8, 2) := by decide +kernel
theorem d_Mo_draw_150 : decode b_Mo_draw 150 = .ok (.iload_n 2, 1) := by decide +kernel
theorem d_Mo_draw_151 : decode b_Mo_draw 151 = .ok (.iadd, 1) := by decide +kernel
theorem d_Mo_draw_152 : decode b_Mo_draw 152 = .ok (.iaload, 1) := by decide +kernel
theorem d_Mo_draw_153 : decode b_Mo_draw 153 = .ok (.goto 24, 3) := by decide +kernel
theorem d_Mo_draw_156 : decode b_Mo_draw 156 = .ok (.iload_n 3, 1) := by decide +kernel
theorem d_Mo_draw_157 : decode b_Mo_draw 157 = .ok (.ifCond .eq 13, 3) := by decide +kernel
theorem d_Mo_draw_160 : decode b_Mo_draw 160 = .ok (.aload_n 0, 1) := by decide +kernel
theorem d_Mo_draw_161 : decode b_Mo_draw 161 = .ok (.getfield 13, 3) := by decide +kernel
theorem d_Mo_draw_164 : decode b_Mo_draw 164 = .ok (.bipush 12, 2) := by decide +kernel
theorem d_Mo_draw_166 : decode b_Mo_draw 166 = .ok (.iaload, 1) := by decide +kernel
theorem d_Mo_draw_167 : decode b_Mo_draw 167 = .ok (.goto 10, 3) := by decide +kernel
theorem d_Mo_draw_170 : decode b_Mo_draw 170 = .ok (.aload_n 0, 1) := by decide +kernel
theorem d_Mo_draw_171 : decode b_Mo_draw 171 = .ok (.getfield 13, 3) := by decide +kernel
theorem d_Mo_draw_174 : decode b_Mo_draw 174 = .ok (.bipush 13, 2) := by decide +kernel
theorem d_Mo_draw_176 : decode b_Mo_draw 176 = .ok (.iaload, 1) := by decide +kernel
theorem d_Mo_draw_177 : decode b_Mo_draw 177 = .ok (.iastore, 1) := by decide +kernel
theorem d_Mo_draw_178 : decode b_Mo_draw 178 = .ok (.iinc 1 1, 3) := by decide +kernel
theorem d_Mo_draw_181 : decode b_Mo_draw 181 = .ok (.goto (-179), 3) := by decide +kernel
theorem d_Mo_draw_184 : decode b_Mo_draw 184 = .ok (.aload_n 0, 1) := by decide +kernel
theorem d_Mo_draw_185 : decode b_Mo_draw 185 = .ok (.iconst 0, 1) := by decide +kernel
theorem d_Mo_draw_186 : decode b_Mo_draw 186 = .ok (.invokevirtual 207, 3) := by decide +kernel
theorem d_Mo_draw_189 : decode b_Mo_draw 189 = .ok (.ifCond .eq 54, 3) := by decide +kernel
theorem d_Mo_draw_192 : decode b_Mo_draw 192 = .ok (.aload_n 0, 1) := by decide +kernel
theorem d_Mo_draw_193 : decode b_Mo_draw 193 = .ok (.invokevirtual 244, 3) := by decide +kernel
theorem d_Mo_draw_196 : decode b_Mo_draw 196 = .ok (.ifCond .eq 47, 3) := by decide +kernel
theorem d_Mo_draw_199 : decode b_Mo_draw 199 = .ok (.aload_n 0, 1) := by decide +kernel
theorem d_Mo_draw_200 : decode b_Mo_draw 200 = .ok (.dup, 1) := by decide +kernel
theorem d_Mo_draw_201 : decode b_Mo_draw 201 = .ok (.getfield 214, 3) := by decide +kernel
theorem d_Mo_draw_204 : decode b_Mo_draw 204 = .ok (.iconst 1, 1) := by decide +kernel
theorem d_Mo_draw_205 : decode b_Mo_draw 205 = .ok (.iadd, 1) := by decide +kernel
theorem d_Mo_draw_206 : decode b_Mo_draw 206 = .ok (.putfield 214, 3) := by decide +kernel
theorem d_Mo_draw_209 : decode b_Mo_draw 209 = .ok (.aload_n 0, 1) := by decide +kernel
theorem d_Mo_draw_210 : decode b_Mo_draw 210 = .ok (.aload_n 0, 1) := by decide +kernel
theorem d_Mo_draw_211 : decode b_Mo_draw 211 = .ok (.getfield 226, 3) := by decide +kernel
theorem d_Mo_draw_214 : decode b_Mo_draw 214 = .ok (.ifCond .ne 21, 3) := by decide +kernel
theorem d_Mo_draw_217 : decode b_Mo_draw 217 = .ok (.aload_n 0, 1) := by decide +kernel
theorem d_Mo_draw_218 : decode b_Mo_draw 218 = .ok (.getfield 214, 3) := by decide +kernel
theorem d_Mo_draw_221 : decode b_Mo_draw 221 = .ok (.aload_n 0, 1) := by decide +kernel
theorem d_Mo_draw_222 : decode b_Mo_draw 222 = .ok (.getfield 217, 3) := by decide +kernel
theorem d_Mo_draw_225 : decode b_Mo_draw 225 = .ok (.if_icmp .ne 14, 3) := by decide +kernel
theorem d_Mo_draw_228 : decode b_Mo_draw 228 = .ok (.aload_n 0, 1) := by decide +kernel
theorem d_Mo_draw_229 : decode b_Mo_draw 229 = .ok (.getfield 265, 3) := by decide +kernel
theorem d_Mo_draw_232 : decode b_Mo_draw 232 = .ok (.ifCond .eq 7, 3) := by decide +kernel
theorem d_Mo_draw_235 : decode b_Mo_draw 235 = .ok (.iconst 1, 1) := by decide +kernel
theorem d_Mo_draw_236 : decode b_Mo_draw 236 = .ok (.goto 4, 3) := by decide +kernel
theorem d_Mo_draw_239 : decode b_Mo_draw 239 = .ok (.iconst 0, 1) := by decide +kernel
theorem d_Mo_draw_240 : decode b_Mo_draw 240 = .ok (.putfield 226, 3) := by decide +kernel
theorem d_Mo_draw_243 : decode b_Mo_draw 243 = .ok (.return_, 1) := by decide +kernel
theorem d_Mo_tick_0 : decode b_Mo_tick 0 = .ok (.aload_n 0, 1) := by decide +kernel
theorem d_Mo_tick_1 : decode b_Mo_tick 1 = .ok (.invokevirtual 278, 3) := by decide +kernel
theorem d_Mo_tick_4 : decode b_Mo_tick 4 = .ok (.istore_n 1, 1) := by decide +kernel
theorem d_Mo_tick_5 : decode b_Mo_tick 5 = .ok (.iload_n 1, 1) := by decide +kernel
theorem d_Mo_tick_6 : decode b_Mo_tick 6 = .ok (.ifCond .ne 14, 3) := by decide +kernel
theorem d_Mo_tick_9 : decode b_Mo_tick 9 = .ok (.aload_n 0, 1) := by decide +kernel
theorem d_Mo_tick_10 : decode b_Mo_tick 10 = .ok (.invokevirtual 281, 3) := by decide +kernel
theorem d_Mo_tick_13 : decode b_Mo_tick 13 = .ok (.ifCond .eq 7, 3) := by decide +kernel
theorem d_Mo_tick_16 : decode b_Mo_tick 16 = .ok (.iconst 1, 1) := by decide +kernel
theorem d_Mo_tick_17 : decode b_Mo_tick 17 = .ok (.goto 4, 3) := by decide +kernel
theorem d_Mo_tick_20 : decode b_Mo_tick 20 = .ok (.iconst 0, 1) := by decide +kernel
theorem d_Mo_tick_21 : decode b_Mo_tick 21 = .ok (.istore_n 2, 1) := by decide +kernel
theorem d_Mo_tick_22 : decode b_Mo_tick 22 = .ok (.aload_n 0, 1) := by decide +kernel
theorem d_Mo_tick_23 : decode b_Mo_tick 23 = .ok (.getfield 35, 3) := by decide +kernel
theorem d_Mo_tick_26 : decode b_Mo_tick 26 = .ok (.iconst 1, 1) := by decide +kernel
theorem d_Mo_tick_27 : decode b_Mo_tick 27 = .ok (.iand, 1) := by decide +kernel
theorem d_Mo_tick_28 : decode b_Mo_tick 28 = .ok (.aload_n 0, 1) := by decide +kernel
theorem d_Mo_tick_29 : decode b_Mo_tick 29 = .ok (.getfield 35, 3) := by decide +kernel
theorem d_Mo_tick_32 : decode b_Mo_tick 32 = .ok (.iconst 4, 1) := by decide +kernel
theorem d_Mo_tick_33 : decode b_Mo_tick 33 = .ok (.ishr, 1) := by decide +kernel
theorem d_Mo_tick_34 : decode b_Mo_tick 34 = .ok (.iconst 1, 1) := by decide +kernel
theorem d_Mo_tick_35 : decode b_Mo_tick 35 = .ok (.iand, 1) := by decide +kernel
theorem d_Mo_tick_36 : decode b_Mo_tick 36 = .ok (.ixor, 1) := by decide +kernel
theorem d_Mo_tick_37 : decode b_Mo_tick 37 = .ok (.istore_n 3, 1) := by decide +kernel
theorem d_Mo_tick_38 : decode b_Mo_tick 38 = .ok (.aload_n 0, 1) := by decide +kernel
theorem d_Mo_tick_39 : decode b_Mo_tick 39 = .ok (.aload_n 0, 1) := by decide +kernel
theorem d_Mo_tick_40 : decode b_Mo_tick 40 = .ok (.getfield 35, 3) := by decide +kernel
theorem d_Mo_tick_43 : decode b_Mo_tick 43 = .ok (.iconst 1, 1) := by decide +kernel
theorem d_Mo_tick_44 : decode b_Mo_tick 44 = .ok (.ishr, 1) := by decide +kernel
theorem d_Mo_tick_45 : decode b_Mo_tick 45 = .ok (.iload_n 3, 1) := by decide +kernel
theorem d_Mo_tick_46 : decode b_Mo_tick 46 = .ok (.bipush 8, 2) := by decide +kernel
theorem d_Mo_tick_48 : decode b_Mo_tick 48 = .ok (.ishl, 1) := by decide +kernel
theorem d_Mo_tick_49 : decode b_Mo_tick 49 = .ok (.ior, 1) := by decide +kernel
theorem d_Mo_tick_50 : decode b_Mo_tick 50 = .ok (.putfield 35, 3) := by decide +kernel
theorem d_Mo_tick_53 : decode b_Mo_tick 53 = .ok (.aload_n 0, 1) := by decide +kernel
theorem d_Mo_tick_54 : decode b_Mo_tick 54 = .ok (.dup, 1) := by decide +kernel
theorem d_Mo_tick_55 : decode b_Mo_tick 55 = .ok (.getfield 87, 3) := by decide +kernel
theorem d_Mo_tick_58 : decode b_Mo_tick 58 = .ok (.iconst 1, 1) := by decide +kernel
theorem d_Mo_tick_59 : decode b_Mo_tick 59 = .ok (.isub, 1) := by decide +kernel
theorem d_Mo_tick_60 : decode b_Mo_tick 60 = .ok (.putfield 87, 3) := by decide +kernel
theorem d_Mo_tick_63 : decode b_Mo_tick 63 = .ok (.aload_n 0, 1) := by decide +kernel
theorem d_Mo_tick_64 : decode b_Mo_tick 64 = .ok (.getfield 87, 3) := by decide +kernel
theorem d_Mo_tick_67 : decode b_Mo_tick 67 = .ok (.ifCond .ge 19, 3) := by decide +kernel
theorem d_Mo_tick_70 : decode b_Mo_tick 70 = .ok (.aload_n 0, 1) := by decide +kernel
theorem d_Mo_tick_71 : decode b_Mo_tick 71 = .ok (.aload_n 0, 1) := by decide +kernel
theorem d_Mo_tick_72 : decode b_Mo_tick 72 = .ok (.getfield 13, 3) := by decide +kernel
theorem d_Mo_tick_75 : decode b_Mo_tick 75 = .ok (.bipush 21, 2) := by decide +kernel
theorem d_Mo_tick_77 : decode b_Mo_tick 77 = .ok (.iaload, 1) := by decide +kernel
theorem d_Mo_tick_78 : decode b_Mo_tick 78 = .ok (.putfield 87, 3) := by decide +kernel
theorem d_Mo_tick_81 : decode b_Mo_tick 81 = .ok (.aload_n 0, 1) := by decide +kernel
theorem d_Mo_tick_82 : decode b_Mo_tick 82 = .ok (.iconst 1, 1) := by decide +kernel
theorem d_Mo_tick_83 : decode b_Mo_tick 83 = .ok (.putfield 67, 3) := by decide +kernel
theorem d_Mo_tick_86 : decode b_Mo_tick 86 = .ok (.aload_n 0, 1) := by decide +kernel
theorem d_Mo_tick_87 : decode b_Mo_tick 87 = .ok (.getfield 220, 3) := by decide +kernel
theorem d_Mo_tick_90 : decode b_Mo_tick 90 = .ok (.bipush 23, 2) := by decide +kernel
theorem d_Mo_tick_92 : decode b_Mo_tick 92 = .ok (.if_icmp .ne 24, 3) := by decide +kernel
theorem d_Mo_tick_95 : decode b_Mo_tick 95 = .ok (.aload_n 0, 1) := by decide +kernel
theorem d_Mo_tick_96 : decode b_Mo_tick 96 = .ok (.getfield 58, 3) := by decide +kernel
theorem d_Mo_tick_99 : decode b_Mo_tick 99 = .ok (.iconst 1, 1) := by decide +kernel
theorem d_Mo_tick_100 : decode b_Mo_tick 100 = .ok (.bipush 12, 2) := by decide +kernel
theorem d_Mo_tick_102 : decode b_Mo_tick 102 = .ok (.invokestatic 50, 3) := by decide +kernel
theorem d_Mo_tick_105 : decode b_Mo_tick 105 = .ok (.ifCond .eq 7, 3) := by decide +kernel
theorem d_Mo_tick_108 : decode b_Mo_tick 108 = .ok (.aload_n 0, 1) := by decide +kernel
theorem d_Mo_tick_109 : decode b_Mo_tick 109 = .ok (.invokevirtual 284, 3) := by decide +kernel
theorem d_Mo_tick_112 : decode b_Mo_tick 112 = .ok (.aload_n 0, 1) := by decide +kernel
theorem d_Mo_tick_113 : decode b_Mo_tick 113 = .ok (.invokevirtual 287, 3) := by decide +kernel
theorem d_Mo_tick_116 : decode b_Mo_tick 116 = .ok (.aload_n 0, 1) := by decide +kernel
theorem d_Mo_tick_117 : decode b_Mo_tick 117 = .ok (.aload_n 0, 1) := by decide +kernel
theorem d_Mo_tick_118 : decode b_Mo_tick 118 = .ok (.getfield 220, 3) := by decide +kernel
theorem d_Mo_tick_121 : decode b_Mo_tick 121 = .ok (.iconst 1, 1) := by decide +kernel
theorem d_Mo_tick_122 : decode b_Mo_tick 122 = .ok (.iadd, 1) := by decide +kernel
theorem d_Mo_tick_123 : decode b_Mo_tick 123 = .ok (.bipush 24, 2) := by decide +kernel
theorem d_Mo_tick_125 : decode b_Mo_tick 125 = .ok (.irem, 1) := by decide +kernel
theorem d_Mo_tick_126 : decode b_Mo_tick 126 = .ok (.putfield 220, 3) := by decide +kernel
theorem d_Mo_tick_129 : decode b_Mo_tick 129 = .ok (.aload_n 0, 1) := by decide +kernel
theorem d_Mo_tick_130 : decode b_Mo_tick 130 = .ok (.aload_n 0, 1) := by decide +kernel
theorem d_Mo_tick_131 : decode b_Mo_tick 131 = .ok (.getfield 220, 3) := by decide +kernel
theorem d_Mo_tick_134 : decode b_Mo_tick 134 = .ok (.ifCond .ne 15, 3) := by decide +kernel
theorem d_Mo_tick_137 : decode b_Mo_tick 137 = .ok (.aload_n 0, 1) := by decide +kernel
theorem d_Mo_tick_138 : decode b_Mo_tick 138 = .ok (.getfield 58, 3) := by decide +kernel
theorem d_Mo_tick_141 : decode b_Mo_tick 141 = .ok (.iconst 1, 1) := by decide +kernel
theorem d_Mo_tick_142 : decode b_Mo_tick 142 = .ok (.iadd, 1) := by decide +kernel
theorem d_Mo_tick_143 : decode b_Mo_tick 143 = .ok (.bipush 16, 2) := by decide +kernel
theorem d_Mo_tick_145 : decode b_Mo_tick 145 = .ok (.irem, 1) := by decide +kernel
theorem d_Mo_tick_146 : decode b_Mo_tick 146 = .ok (.goto 7, 3) := by decide +kernel
theorem d_Mo_tick_149 : decode b_Mo_tick 149 = .ok (.aload_n 0, 1) := by decide +kernel
theorem d_Mo_tick_150 : decode b_Mo_tick 150 = .ok (.getfield 58, 3) := by decide +kernel
theorem d_Mo_tick_153 : decode b_Mo_tick 153 = .ok (.putfield 58, 3) := by decide +kernel
theorem d_Mo_tick_156 : decode b_Mo_tick 156 = .ok (.aload_n 0, 1) := by decide +kernel
theorem d_Mo_tick_157 : decode b_Mo_tick 157 = .ok (.aload_n 0, 1) := by decide +kernel
theorem d_Mo_tick_158 : decode b_Mo_tick 158 = .ok (.getfield 220, 3) := by decide +kernel
theorem d_Mo_tick_161 : decode b_Mo_tick 161 = .ok (.ifCond .ne 19, 3) := by decide +kernel
theorem d_Mo_tick_164 : decode b_Mo_tick 164 = .ok (.aload_n 0, 1) := by decide +kernel
theorem d_Mo_tick_165 : decode b_Mo_tick 165 = .ok (.getfield 58, 3) := by decide +kernel
theorem d_Mo_tick_168 : decode b_Mo_tick 168 = .ok (.ifCond .ne 12, 3) := by decide +kernel
theorem d_Mo_tick_171 : decode b_Mo_tick 171 = .ok (.aload_n 0, 1) := by decide +kernel
theorem d_Mo_tick_172 : decode b_Mo_tick 172 = .ok (.getfield 290, 3) := by decide +kernel
theorem d_Mo_tick_175 : decode b_Mo_tick 175 = .ok (.iconst 1, 1) := by decide +kernel
theorem d_Mo_tick_176 : decode b_Mo_tick 176 = .ok (.iadd, 1) := by decide +kernel
theorem d_Mo_tick_177 : decode b_Mo_tick 177 = .ok (.goto 7, 3) := by decide +kernel
theorem d_Mo_tick_180 : decode b_Mo_tick 180 = .ok (.aload_n 0, 1) := by decide +kernel
theorem d_Mo_tick_181 : decode b_Mo_tick 181 = .ok (.getfield 290, 3) := by decide +kernel
theorem d_Mo_tick_184 : decode b_Mo_tick 184 = .ok (.putfield 290, 3) := by decide +kernel
theorem d_Mo_tick_187 : decode b_Mo_tick 187 = .ok (.iload_n 2, 1) := by decide +kernel
theorem d_Mo_tick_188 : decode b_Mo_tick 188 = .ok (.ireturn, 1) := by decide +kernel
theorem d_Mo_run_0 : decode b_Mo_run 0 = .ok (.aload_n 0, 1) := by decide +kernel
theorem d_Mo_run_1 : decode b_Mo_run 1 = .ok (.iconst 0, 1) := by decide +kernel
theorem d_Mo_run_2 : decode b_Mo_run 2 = .ok (.putfield 47, 3) := by decide +kernel
theorem d_Mo_run_5 : decode b_Mo_run 5 = .ok (.iload_n 1, 1) := by decide +kernel
theorem d_Mo_run_6 : decode b_Mo_run 6 = .ok (.iconst 0, 1) := by decide +kernel
theorem d_Mo_run_7 : decode b_Mo_run 7 = .ok (.sipush 1000, 3) := by decide +kernel
theorem d_Mo_run_10 : decode b_Mo_run 10 = .ok (.invokestatic 50, 3) := by decide +kernel
theorem d_Mo_run_13 : decode b_Mo_run 13 = .ok (.ifCond .ne 8, 3) := by decide +kernel
theorem d_Mo_run_16 : decode b_Mo_run 16 = .ok (.aload_n 0, 1) := by decide +kernel
theorem d_Mo_run_17 : decode b_Mo_run 17 = .ok (.invokevirtual 293, 3) := by decide +kernel
theorem d_Mo_run_20 : decode b_Mo_run 20 = .ok (.ireturn, 1) := by decide +kernel
theorem d_Mo_run_21 : decode b_Mo_run 21 = .ok (.iconst 0, 1) := by decide +kernel
theorem d_Mo_run_22 : decode b_Mo_run 22 = .ok (.istore_n 2, 1) := by decide +kernel
theorem d_Mo_run_23 : decode b_Mo_run 23 = .ok (.iconst 0, 1) := by decide +kernel
theorem d_Mo_run_24 : decode b_Mo_run 24 = .ok (.istore_n 3, 1) := by decide +kernel
theorem d_Mo_run_25 : decode b_Mo_run 25 = .ok (.iload_n 3, 1) := by decide +kernel
theorem d_Mo_run_26 : decode b_Mo_run 26 = .ok (.iload_n 1, 1) := by decide +kernel
theorem d_Mo_run_27 : decode b_Mo_run 27 = .ok (.if_icmp .ge 24, 3) := by decide +kernel
theorem d_Mo_run_30 : decode b_Mo_run 30 = .ok (.iload_n 2, 1) := by decide +kernel
theorem d_Mo_run_31 : decode b_Mo_run 31 = .ok (.aload_n 0, 1) := by decide +kernel
theorem d_Mo_run_32 : decode b_Mo_run 32 = .ok (.invokevirtual 296, 3) := by decide +kernel
theorem d_Mo_run_35 : decode b_Mo_run 35 = .ok (.ifCond .eq 7, 3) := by decide +kernel
theorem d_Mo_run_38 : decode b_Mo_run 38 = .ok (.iconst 1, 1) := by decide +kernel
theorem d_Mo_run_39 : decode b_Mo_run 39 = .ok (.goto 4, 3) := by decide +kernel
theorem d_Mo_run_42 : decode b_Mo_run 42 = .ok (.iconst 0, 1) := by decide +kernel
theorem d_Mo_run_43 : decode b_Mo_run 43 = .ok (.iadd, 1) := by decide +kernel
theorem d_Mo_run_44 : decode b_Mo_run 44 = .ok (.istore_n 2, 1) := by decide +kernel
theorem d_Mo_run_45 : decode b_Mo_run 45 = .ok (.iinc 3 1, 3) := by decide +kernel
theorem d_Mo_run_48 : decode b_Mo_run 48 = .ok (.goto (-23), 3) := by decide +kernel
theorem d_Mo_run_51 : decode b_Mo_run 51 = .ok (.iload_n 2, 1) := by decide +kernel
theorem d_Mo_run_52 : decode b_Mo_run 52 = .ok (.ireturn, 1) := by decide +kernel
theorem d_Mo_poke_0 : decode b_Mo_poke 0 = .ok (.aload_n 0, 1) := by decide +kernel
theorem d_Mo_poke_1 : decode b_Mo_poke 1 = .ok (.iload_n 1, 1) := by decide +kernel
theorem d_Mo_poke_2 : decode b_Mo_poke 2 = .ok (.iconst 0, 1) := by decide +kernel
theorem d_Mo_poke_3 : decode b_Mo_poke 3 = .ok (.sipush 767, 3) := by decide +kernel
theorem d_Mo_poke_6 : decode b_Mo_poke 6 = .ok (.invokestatic 50, 3) := by decide +kernel
theorem d_Mo_poke_9 : decode b_Mo_poke 9 = .ok (.ifCond .eq 14, 3) := by decide +kernel
theorem d_Mo_poke_12 : decode b_Mo_poke 12 = .ok (.iload_n 2, 1) := by decide +kernel
theorem d_Mo_poke_13 : decode b_Mo_poke 13 = .ok (.invokestatic 299, 3) := by decide +kernel
theorem d_Mo_poke_16 : decode b_Mo_poke 16 = .ok (.ifCond .eq 7, 3) := by decide +kernel
theorem d_Mo_poke_19 : decode b_Mo_poke 19 = .ok (.iconst 0, 1) := by decide +kernel
theorem d_Mo_poke_20 : decode b_Mo_poke 20 = .ok (.goto 4, 3) := by decide +kernel
theorem d_Mo_poke_23 : decode b_Mo_poke 23 = .ok (.iconst 1, 1) := by decide +kernel
theorem d_Mo_poke_24 : decode b_Mo_poke 24 = .ok (.putfield 47, 3) := by decide +kernel
theorem d_Mo_poke_27 : decode b_Mo_poke 27 = .ok (.aload_n 0, 1) := by decide +kernel
theorem d_Mo_poke_28 : decode b_Mo_poke 28 = .ok (.getfield 47, 3) := by decide +kernel
theorem d_Mo_poke_31 : decode b_Mo_poke 31 = .ok (.ifCond .ne 10, 3) := by decide +kernel
theorem d_Mo_poke_34 : decode b_Mo_poke 34 = .ok (.aload_n 0, 1) := by decide +kernel
theorem d_Mo_poke_35 : decode b_Mo_poke 35 = .ok (.getfield 7, 3) := by decide +kernel
theorem d_Mo_poke_38 : decode b_Mo_poke 38 = .ok (.iload_n 1, 1) := by decide +kernel
theorem d_Mo_poke_39 : decode b_Mo_poke 39 = .ok (.iload_n 2, 1) := by decide +kernel
theorem d_Mo_poke_40 : decode b_Mo_poke 40 = .ok (.iastore, 1) := by decide +kernel
theorem d_Mo_poke_41 : decode b_Mo_poke 41 = .ok (.return_, 1) := by decide +kernel
theorem d_Mo_peek_0 : decode b_Mo_peek 0 = .ok (.aload_n 0, 1) := by decide +kernel
theorem d_Mo_peek_1 : decode b_Mo_peek 1 = .ok (.iload_n 1, 1) := by decide +kernel
theorem d_Mo_peek_2 : decode b_Mo_peek 2 = .ok (.iconst 0, 1) := by decide +kernel
theorem d_Mo_peek_3 : decode b_Mo_peek 3 = .ok (.sipush 767, 3) := by decide +kernel
theorem d_Mo_peek_6 : decode b_Mo_peek 6 = .ok (.invokestatic 50, 3) := by decide +kernel
theorem d_Mo_peek_9 : decode b_Mo_peek 9 = .ok (.ifCond .eq 7, 3) := by decide +kernel
theorem d_Mo_peek_12 : decode b_Mo_peek 12 = .ok (.iconst 0, 1) := by decide +kernel
theorem d_Mo_peek_13 : decode b_Mo_peek 13 = .ok (.goto 4, 3) := by decide +kernel
theorem d_Mo_peek_16 : decode b_Mo_peek 16 = .ok (.iconst 1, 1) := by decide +kernel
theorem d_Mo_peek_17 : decode b_Mo_peek 17 = .ok (.putfield 47, 3) := by decide +kernel
theorem d_Mo_peek_20 : decode b_Mo_peek 20 = .ok (.aload_n 0, 1) := by decide +kernel
theorem d_Mo_peek_21 : decode b_Mo_peek 21 = .ok (.getfield 47, 3) := by decide +kernel
theorem d_Mo_peek_24 : decode b_Mo_peek 24 = .ok (.ifCond .ne 12, 3) := by decide +kernel
theorem d_Mo_peek_27 : decode b_Mo_peek 27 = .ok (.aload_n 0, 1) := by decide +kernel
theorem d_Mo_peek_28 : decode b_Mo_peek 28 = .ok (.getfield 7, 3) := by decide +kernel
theorem d_Mo_peek_31 : decode b_Mo_peek 31 = .ok (.iload_n 1, 1) := by decide +kernel
theorem d_Mo_peek_32 : decode b_Mo_peek 32 = .ok (.iaload, 1) := by decide +kernel
theorem d_Mo_peek_33 : decode b_Mo_peek 33 = .ok (.goto 4, 3) := by decide +kernel
theorem d_Mo_peek_36 : decode b_Mo_peek 36 = .ok (.iconst 0, 1) := by decide +kernel
theorem d_Mo_peek_37 : decode b_Mo_peek 37 = .ok (.ireturn, 1) := by decide +kernel
theorem d_Mo_write_0 : decode b_Mo_write 0 = .ok (.aload_n 0, 1) := by decide +kernel
theorem d_Mo_write_1 : decode b_Mo_write 1 = .ok (.iload_n 1, 1) := by decide +kernel
theorem d_Mo_write_2 : decode b_Mo_write 2 = .ok (.iconst 0, 1) := by decide +kernel
theorem d_Mo_write_3 : decode b_Mo_write 3 = .ok (.bipush 31, 2) := by decide +kernel
theorem d_Mo_write_5 : decode b_Mo_write 5 = .ok (.invokestatic 50, 3) := by decide +kernel
theorem d_Mo_write_8 : decode b_Mo_write 8 = .ok (.ifCond .eq 14, 3) := by decide +kernel
theorem d_Mo_write_11 : decode b_Mo_write 11 = .ok (.iload_n 2, 1) := by decide +kernel
theorem d_Mo_write_12 : decode b_Mo_write 12 = .ok (.invokestatic 299, 3) := by decide +kernel
theorem d_Mo_write_15 : decode b_Mo_write 15 = .ok (.ifCond .eq 7, 3) := by decide +kernel
theorem d_Mo_write_18 : decode b_Mo_write 18 = .ok (.iconst 0, 1) := by decide +kernel
theorem d_Mo_write_19 : decode b_Mo_write 19 = .ok (.goto 4, 3) := by decide +kernel
theorem d_Mo_write_22 : decode b_Mo_write 22 = .ok (.iconst 1, 1) := by decide +kernel
theorem d_Mo_write_23 : decode b_Mo_write 23 = .ok (.putfield 47, 3) := by decide +kernel
theorem d_Mo_write_26 : decode b_Mo_write 26 = .ok (.aload_n 0, 1) := by decide +kernel
theorem d_Mo_write_27 : decode b_Mo_write 27 = .ok (.getfield 47, 3) := by decide +kernel
theorem d_Mo_write_30 : decode b_Mo_write 30 = .ok (.ifCond .ne 9, 3) := by decide +kernel
theorem d_Mo_write_33 : decode b_Mo_write 33 = .ok (.aload_n 0, 1) := by decide +kernel
theorem d_Mo_write_34 : decode b_Mo_write 34 = .ok (.iload_n 1, 1) := by decide +kernel
theorem d_Mo_write_35 : decode b_Mo_write 35 = .ok (.iload_n 2, 1) := by decide +kernel
theorem d_Mo_write_36 : decode b_Mo_write 36 = .ok (.invokevirtual 80, 3) := by decide +kernel
theorem d_Mo_write_39 : decode b_Mo_write 39 = .ok (.return_, 1) := by decide +kernel
theorem d_Mo_isPlace_0 : decode b_Mo_isPlace 0 = .ok (.iload_n 0, 1) := by decide +kernel
theorem d_Mo_isPlace_1 : decode b_Mo_isPlace 1 = .ok (.iconst 1, 1) := by decide +kernel
theorem d_Mo_isPlace_2 : decode b_Mo_isPlace 2 = .ok (.bipush 8, 2) := by decide +kernel
theorem d_Mo_isPlace_4 : decode b_Mo_isPlace 4 = .ok (.invokestatic 50, 3) := by decide +kernel
theorem d_Mo_isPlace_7 : decode b_Mo_isPlace 7 = .ok (.ifCond .eq 17, 3) := by decide +kernel
theorem d_Mo_isPlace_10 : decode b_Mo_isPlace 10 = .ok (.iload_n 1, 1) := by decide +kernel
theorem d_Mo_isPlace_11 : decode b_Mo_isPlace 11 = .ok (.iconst 0, 1) := by decide +kernel
theorem d_Mo_isPlace_12 : decode b_Mo_isPlace 12 = .ok (.bipush 7, 2) := by decide +kernel
theorem d_Mo_isPlace_14 : decode b_Mo_isPlace 14 = .ok (.invokestatic 50, 3) := by decide +kernel
theorem d_Mo_isPlace_17 : decode b_Mo_isPlace 17 = .ok (.ifCond .eq 7, 3) := by decide +kernel
theorem d_Mo_isPlace_20 : decode b_Mo_isPlace 20 = .ok (.iconst 1, 1) := by decide +kernel
theorem d_Mo_isPlace_21 : decode b_Mo_isPlace 21 = .ok (.goto 4, 3) := by decide +kernel
theorem d_Mo_isPlace_24 : decode b_Mo_isPlace 24 = .ok (.iconst 0, 1) := by decide +kernel
theorem d_Mo_isPlace_25 : decode b_Mo_isPlace 25 = .ok (.ireturn, 1) := by decide +kernel
theorem d_Mo_disk_0 : decode b_Mo_disk 0 = .ok (.aload_n 0, 1) := by decide +kernel
theorem d_Mo_disk_1 : decode b_Mo_disk 1 = .ok (.iload_n 1, 1) := by decide +kernel
theorem d_Mo_disk_2 : decode b_Mo_disk 2 = .ok (.iload_n 2, 1) := by decide +kernel
theorem d_Mo_disk_3 : decode b_Mo_disk 3 = .ok (.invokestatic 302, 3) := by decide +kernel
theorem d_Mo_disk_6 : decode b_Mo_disk 6 = .ok (.ifCond .eq 14, 3) := by decide +kernel
theorem d_Mo_disk_9 : decode b_Mo_disk 9 = .ok (.iload_n 3, 1) := by decide +kernel
theorem d_Mo_disk_10 : decode b_Mo_disk 10 = .ok (.invokestatic 299, 3) := by decide +kernel
theorem d_Mo_disk_13 : decode b_Mo_disk 13 = .ok (.ifCond .eq 7, 3) := by decide +kernel
theorem d_Mo_disk_16 : decode b_Mo_disk 16 = .ok (.iconst 0, 1) := by decide +kernel
theorem d_Mo_disk_17 : decode b_Mo_disk 17 = .ok (.goto 4, 3) := by decide +kernel
theorem d_Mo_disk_20 : decode b_Mo_disk 20 = .ok (.iconst 1, 1) := by decide +kernel
theorem d_Mo_disk_21 : decode b_Mo_disk 21 = .ok (.putfield 47, 3) := by decide +kernel
theorem d_Mo_disk_24 : decode b_Mo_disk 24 = .ok (.aload_n 0, 1) := by decide +kernel
theorem d_Mo_disk_25 : decode b_Mo_disk 25 = .ok (.getfield 47, 3) := by decide +kernel
theorem d_Mo_disk_28 : decode b_Mo_disk 28 = .ok (.ifCond .ne 18, 3) := by decide +kernel
theorem d_Mo_disk_31 : decode b_Mo_disk 31 = .ok (.aload_n 0, 1) := by decide +kernel
theorem d_Mo_disk_32 : decode b_Mo_disk 32 = .ok (.getfield 38, 3) := by decide +kernel
theorem d_Mo_disk_35 : decode b_Mo_disk 35 = .ok (.bipush 8, 2) := by decide +kernel
