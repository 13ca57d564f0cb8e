theorem d_Mo_disk_37 : decode b_Mo_disk 37 = .ok (.iload_n 1, 1) := by decide +kernel
theorem d_Mo_disk_38 : decode b_Mo_disk 38 = .ok (.imul, 1) := by decide +kernel
theorem d_Mo_disk_39 : decode b_Mo_disk 39 = .ok (.bipush 8, 2) := by decide +kernel
theorem d_Mo_disk_41 : decode b_Mo_disk 41 = .ok (.isub, 1) := by decide +kernel
theorem d_Mo_disk_42 : decode b_Mo_disk 42 = .ok (.iload_n 2, 1) := by decide +kernel
theorem d_Mo_disk_43 : decode b_Mo_disk 43 = .ok (.iadd, 1) := by decide +kernel
theorem d_Mo_disk_44 : decode b_Mo_disk 44 = .ok (.iload_n 3, 1) := by decide +kernel
theorem d_Mo_disk_45 : decode b_Mo_disk 45 = .ok (.iastore, 1) := by decide +kernel
theorem d_Mo_disk_46 : decode b_Mo_disk 46 = .ok (.return_, 1) := by decide +kernel
theorem d_Mo_sector_0 : decode b_Mo_sector 0 = .ok (.aload_n 0, 1) := by decide +kernel
theorem d_Mo_sector_1 : decode b_Mo_sector 1 = .ok (.iload_n 1, 1) := by decide +kernel
theorem d_Mo_sector_2 : decode b_Mo_sector 2 = .ok (.iload_n 2, 1) := by decide +kernel
theorem d_Mo_sector_3 : decode b_Mo_sector 3 = .ok (.invokestatic 302, 3) := by decide +kernel
theorem d_Mo_sector_6 : decode b_Mo_sector 6 = .ok (.ifCond .eq 7, 3) := by decide +kernel
theorem d_Mo_sector_9 : decode b_Mo_sector 9 = .ok (.iconst 0, 1) := by decide +kernel
theorem d_Mo_sector_10 : decode b_Mo_sector 10 = .ok (.goto 4, 3) := by decide +kernel
theorem d_Mo_sector_13 : decode b_Mo_sector 13 = .ok (.iconst 1, 1) := by decide +kernel
theorem d_Mo_sector_14 : decode b_Mo_sector 14 = .ok (.putfield 47, 3) := by decide +kernel
theorem d_Mo_sector_17 : decode b_Mo_sector 17 = .ok (.aload_n 0, 1) := by decide +kernel
theorem d_Mo_sector_18 : decode b_Mo_sector 18 = .ok (.getfield 47, 3) := by decide +kernel
theorem d_Mo_sector_21 : decode b_Mo_sector 21 = .ok (.ifCond .ne 20, 3) := by decide +kernel
theorem d_Mo_sector_24 : decode b_Mo_sector 24 = .ok (.aload_n 0, 1) := by decide +kernel
theorem d_Mo_sector_25 : decode b_Mo_sector 25 = .ok (.getfield 38, 3) := by decide +kernel
theorem d_Mo_sector_28 : decode b_Mo_sector 28 = .ok (.bipush 8, 2) := by decide +kernel
theorem d_Mo_sector_30 : decode b_Mo_sector 30 = .ok (.iload_n 1, 1) := by decide +kernel
theorem d_Mo_sector_31 : decode b_Mo_sector 31 = .ok (.imul, 1) := by decide +kernel
theorem d_Mo_sector_32 : decode b_Mo_sector 32 = .ok (.bipush 8, 2) := by decide +kernel
theorem d_Mo_sector_34 : decode b_Mo_sector 34 = .ok (.isub, 1) := by decide +kernel
theorem d_Mo_sector_35 : decode b_Mo_sector 35 = .ok (.iload_n 2, 1) := by decide +kernel
theorem d_Mo_sector_36 : decode b_Mo_sector 36 = .ok (.iadd, 1) := by decide +kernel
theorem d_Mo_sector_37 : decode b_Mo_sector 37 = .ok (.iaload, 1) := by decide +kernel
theorem d_Mo_sector_38 : decode b_Mo_sector 38 = .ok (.goto 4, 3) := by decide +kernel
theorem d_Mo_sector_41 : decode b_Mo_sector 41 = .ok (.iconst 0, 1) := by decide +kernel
theorem d_Mo_sector_42 : decode b_Mo_sector 42 = .ok (.ireturn, 1) := by decide +kernel
theorem d_Mo_stick_0 : decode b_Mo_stick 0 = .ok (.aload_n 0, 1) := by decide +kernel
theorem d_Mo_stick_1 : decode b_Mo_stick 1 = .ok (.iload_n 1, 1) := by decide +kernel
theorem d_Mo_stick_2 : decode b_Mo_stick 2 = .ok (.invokestatic 299, 3) := by decide +kernel
theorem d_Mo_stick_5 : decode b_Mo_stick 5 = .ok (.ifCond .eq 7, 3) := by decide +kernel
theorem d_Mo_stick_8 : decode b_Mo_stick 8 = .ok (.iconst 0, 1) := by decide +kernel
theorem d_Mo_stick_9 : decode b_Mo_stick 9 = .ok (.goto 4, 3) := by decide +kernel
theorem d_Mo_stick_12 : decode b_Mo_stick 12 = .ok (.iconst 1, 1) := by decide +kernel
theorem d_Mo_stick_13 : decode b_Mo_stick 13 = .ok (.putfield 47, 3) := by decide +kernel
theorem d_Mo_stick_16 : decode b_Mo_stick 16 = .ok (.aload_n 0, 1) := by decide +kernel
theorem d_Mo_stick_17 : decode b_Mo_stick 17 = .ok (.getfield 47, 3) := by decide +kernel
theorem d_Mo_stick_20 : decode b_Mo_stick 20 = .ok (.ifCond .ne 8, 3) := by decide +kernel
theorem d_Mo_stick_23 : decode b_Mo_stick 23 = .ok (.aload_n 0, 1) := by decide +kernel
theorem d_Mo_stick_24 : decode b_Mo_stick 24 = .ok (.iload_n 1, 1) := by decide +kernel
theorem d_Mo_stick_25 : decode b_Mo_stick 25 = .ok (.putfield 77, 3) := by decide +kernel
theorem d_Mo_stick_28 : decode b_Mo_stick 28 = .ok (.return_, 1) := by decide +kernel
theorem d_Mo_dot_0 : decode b_Mo_dot 0 = .ok (.aload_n 0, 1) := by decide +kernel
theorem d_Mo_dot_1 : decode b_Mo_dot 1 = .ok (.iload_n 1, 1) := by decide +kernel
theorem d_Mo_dot_2 : decode b_Mo_dot 2 = .ok (.iconst 1, 1) := by decide +kernel
theorem d_Mo_dot_3 : decode b_Mo_dot 3 = .ok (.bipush 12, 2) := by decide +kernel
theorem d_Mo_dot_5 : decode b_Mo_dot 5 = .ok (.invokestatic 50, 3) := by decide +kernel
theorem d_Mo_dot_8 : decode b_Mo_dot 8 = .ok (.ifCond .eq 17, 3) := by decide +kernel
theorem d_Mo_dot_11 : decode b_Mo_dot 11 = .ok (.iload_n 2, 1) := by decide +kernel
theorem d_Mo_dot_12 : decode b_Mo_dot 12 = .ok (.iconst 0, 1) := by decide +kernel
theorem d_Mo_dot_13 : decode b_Mo_dot 13 = .ok (.bipush 31, 2) := by decide +kernel
theorem d_Mo_dot_15 : decode b_Mo_dot 15 = .ok (.invokestatic 50, 3) := by decide +kernel
theorem d_Mo_dot_18 : decode b_Mo_dot 18 = .ok (.ifCond .eq 7, 3) := by decide +kernel
theorem d_Mo_dot_21 : decode b_Mo_dot 21 = .ok (.iconst 0, 1) := by decide +kernel
theorem d_Mo_dot_22 : decode b_Mo_dot 22 = .ok (.goto 4, 3) := by decide +kernel
theorem d_Mo_dot_25 : decode b_Mo_dot 25 = .ok (.iconst 1, 1) := by decide +kernel
theorem d_Mo_dot_26 : decode b_Mo_dot 26 = .ok (.putfield 47, 3) := by decide +kernel
theorem d_Mo_dot_29 : decode b_Mo_dot 29 = .ok (.aload_n 0, 1) := by decide +kernel
theorem d_Mo_dot_30 : decode b_Mo_dot 30 = .ok (.getfield 47, 3) := by decide +kernel
theorem d_Mo_dot_33 : decode b_Mo_dot 33 = .ok (.ifCond .ne 19, 3) := by decide +kernel
theorem d_Mo_dot_36 : decode b_Mo_dot 36 = .ok (.aload_n 0, 1) := by decide +kernel
theorem d_Mo_dot_37 : decode b_Mo_dot 37 = .ok (.getfield 32, 3) := by decide +kernel
theorem d_Mo_dot_40 : decode b_Mo_dot 40 = .ok (.bipush 32, 2) := by decide +kernel
theorem d_Mo_dot_42 : decode b_Mo_dot 42 = .ok (.iload_n 1, 1) := by decide +kernel
theorem d_Mo_dot_43 : decode b_Mo_dot 43 = .ok (.iconst 1, 1) := by decide +kernel
theorem d_Mo_dot_44 : decode b_Mo_dot 44 = .ok (.isub, 1) := by decide +kernel
theorem d_Mo_dot_45 : decode b_Mo_dot 45 = .ok (.imul, 1) := by decide +kernel
theorem d_Mo_dot_46 : decode b_Mo_dot 46 = .ok (.iload_n 2, 1) := by decide +kernel
theorem d_Mo_dot_47 : decode b_Mo_dot 47 = .ok (.iadd, 1) := by decide +kernel
theorem d_Mo_dot_48 : decode b_Mo_dot 48 = .ok (.iaload, 1) := by decide +kernel
theorem d_Mo_dot_49 : decode b_Mo_dot 49 = .ok (.goto 4, 3) := by decide +kernel
theorem d_Mo_dot_52 : decode b_Mo_dot 52 = .ok (.iconst 0, 1) := by decide +kernel
theorem d_Mo_dot_53 : decode b_Mo_dot 53 = .ok (.ireturn, 1) := by decide +kernel
theorem d_Mo_processor_0 : decode b_Mo_processor 0 = .ok (.aload_n 0, 1) := by decide +kernel
theorem d_Mo_processor_1 : decode b_Mo_processor 1 = .ok (.iconst 0, 1) := by decide +kernel
theorem d_Mo_processor_2 : decode b_Mo_processor 2 = .ok (.putfield 47, 3) := by decide +kernel
theorem d_Mo_processor_5 : decode b_Mo_processor 5 = .ok (.iload_n 1, 1) := by decide +kernel
theorem d_Mo_processor_6 : decode b_Mo_processor 6 = .ok (.tableswitch 128 0 9 #[54, 59, 64, 69, 74, 79, 84, 97, 110, 123], 54) := by decide +kernel
theorem d_Mo_processor_60 : decode b_Mo_processor 60 = .ok (.aload_n 0, 1) := by decide +kernel
theorem d_Mo_processor_61 : decode b_Mo_processor 61 = .ok (.getfield 20, 3) := by decide +kernel
theorem d_Mo_processor_64 : decode b_Mo_processor 64 = .ok (.ireturn, 1) := by decide +kernel
theorem d_Mo_processor_65 : decode b_Mo_processor 65 = .ok (.aload_n 0, 1) := by decide +kernel
theorem d_Mo_processor_66 : decode b_Mo_processor 66 = .ok (.getfield 132, 3) := by decide +kernel
theorem d_Mo_processor_69 : decode b_Mo_processor 69 = .ok (.ireturn, 1) := by decide +kernel
theorem d_Mo_processor_70 : decode b_Mo_processor 70 = .ok (.aload_n 0, 1) := by decide +kernel
theorem d_Mo_processor_71 : decode b_Mo_processor 71 = .ok (.getfield 172, 3) := by decide +kernel
theorem d_Mo_processor_74 : decode b_Mo_processor 74 = .ok (.ireturn, 1) := by decide +kernel
theorem d_Mo_processor_75 : decode b_Mo_processor 75 = .ok (.aload_n 0, 1) := by decide +kernel
theorem d_Mo_processor_76 : decode b_Mo_processor 76 = .ok (.getfield 188, 3) := by decide +kernel
theorem d_Mo_processor_79 : decode b_Mo_processor 79 = .ok (.ireturn, 1) := by decide +kernel
theorem d_Mo_processor_80 : decode b_Mo_processor 80 = .ok (.aload_n 0, 1) := by decide +kernel
theorem d_Mo_processor_81 : decode b_Mo_processor 81 = .ok (.getfield 16, 3) := by decide +kernel
theorem d_Mo_processor_84 : decode b_Mo_processor 84 = .ok (.ireturn, 1) := by decide +kernel
theorem d_Mo_processor_85 : decode b_Mo_processor 85 = .ok (.aload_n 0, 1) := by decide +kernel
theorem d_Mo_processor_86 : decode b_Mo_processor 86 = .ok (.invokevirtual 141, 3) := by decide +kernel
theorem d_Mo_processor_89 : decode b_Mo_processor 89 = .ok (.ireturn, 1) := by decide +kernel
theorem d_Mo_processor_90 : decode b_Mo_processor 90 = .ok (.aload_n 0, 1) := by decide +kernel
theorem d_Mo_processor_91 : decode b_Mo_processor 91 = .ok (.getfield 151, 3) := by decide +kernel
theorem d_Mo_processor_94 : decode b_Mo_processor 94 = .ok (.ifCond .eq 7, 3) := by decide +kernel
theorem d_Mo_processor_97 : decode b_Mo_processor 97 = .ok (.iconst 1, 1) := by decide +kernel
theorem d_Mo_processor_98 : decode b_Mo_processor 98 = .ok (.goto 4, 3) := by decide +kernel
theorem d_Mo_processor_101 : decode b_Mo_processor 101 = .ok (.iconst 0, 1) := by decide +kernel
theorem d_Mo_processor_102 : decode b_Mo_processor 102 = .ok (.ireturn, 1) := by decide +kernel
theorem d_Mo_processor_103 : decode b_Mo_processor 103 = .ok (.aload_n 0, 1) := by decide +kernel
theorem d_Mo_processor_104 : decode b_Mo_processor 104 = .ok (.getfield 84, 3) := by decide +kernel
theorem d_Mo_processor_107 : decode b_Mo_processor 107 = .ok (.ifCond .eq 7, 3) := by decide +kernel
theorem d_Mo_processor_110 : decode b_Mo_processor 110 = .ok (.iconst 1, 1) := by decide +kernel
theorem d_Mo_processor_111 : decode b_Mo_processor 111 = .ok (.goto 4, 3) := by decide +kernel
theorem d_Mo_processor_114 : decode b_Mo_processor 114 = .ok (.iconst 0, 1) := by decide +kernel
theorem d_Mo_processor_115 : decode b_Mo_processor 115 = .ok (.ireturn, 1) := by decide +kernel
theorem d_Mo_processor_116 : decode b_Mo_processor 116 = .ok (.aload_n 0, 1) := by decide +kernel
theorem d_Mo_processor_117 : decode b_Mo_processor 117 = .ok (.getfield 145, 3) := by decide +kernel
theorem d_Mo_processor_120 : decode b_Mo_processor 120 = .ok (.ifCond .eq 7, 3) := by decide +kernel
theorem d_Mo_processor_123 : decode b_Mo_processor 123 = .ok (.iconst 1, 1) := by decide +kernel
theorem d_Mo_processor_124 : decode b_Mo_processor 124 = .ok (.goto 4, 3) := by decide +kernel
theorem d_Mo_processor_127 : decode b_Mo_processor 127 = .ok (.iconst 0, 1) := by decide +kernel
theorem d_Mo_processor_128 : decode b_Mo_processor 128 = .ok (.ireturn, 1) := by decide +kernel
theorem d_Mo_processor_129 : decode b_Mo_processor 129 = .ok (.aload_n 0, 1) := by decide +kernel
theorem d_Mo_processor_130 : decode b_Mo_processor 130 = .ok (.getfield 154, 3) := by decide +kernel
theorem d_Mo_processor_133 : decode b_Mo_processor 133 = .ok (.ireturn, 1) := by decide +kernel
theorem d_Mo_processor_134 : decode b_Mo_processor 134 = .ok (.iconst (-1), 1) := by decide +kernel
theorem d_Mo_processor_135 : decode b_Mo_processor 135 = .ok (.ireturn, 1) := by decide +kernel
theorem d_Mo_state_0 : decode b_Mo_state 0 = .ok (.aload_n 0, 1) := by decide +kernel
theorem d_Mo_state_1 : decode b_Mo_state 1 = .ok (.iconst 0, 1) := by decide +kernel
theorem d_Mo_state_2 : decode b_Mo_state 2 = .ok (.putfield 47, 3) := by decide +kernel
theorem d_Mo_state_5 : decode b_Mo_state 5 = .ok (.iload_n 1, 1) := by decide +kernel
theorem d_Mo_state_6 : decode b_Mo_state 6 = .ok (.ifCond .lt 9, 3) := by decide +kernel
theorem d_Mo_state_9 : decode b_Mo_state 9 = .ok (.iload_n 1, 1) := by decide +kernel
theorem d_Mo_state_10 : decode b_Mo_state 10 = .ok (.bipush 20, 2) := by decide +kernel
theorem d_Mo_state_12 : decode b_Mo_state 12 = .ok (.if_icmp .le 5, 3) := by decide +kernel
theorem d_Mo_state_15 : decode b_Mo_state 15 = .ok (.iconst (-1), 1) := by decide +kernel
theorem d_Mo_state_16 : decode b_Mo_state 16 = .ok (.ireturn, 1) := by decide +kernel
theorem d_Mo_state_17 : decode b_Mo_state 17 = .ok (.iload_n 1, 1) := by decide +kernel
theorem d_Mo_state_18 : decode b_Mo_state 18 = .ok (.bipush 6, 2) := by decide +kernel
theorem d_Mo_state_20 : decode b_Mo_state 20 = .ok (.if_icmp .ge 75, 3) := by decide +kernel
theorem d_Mo_state_23 : decode b_Mo_state 23 = .ok (.iload_n 1, 1) := by decide +kernel
theorem d_Mo_state_24 : decode b_Mo_state 24 = .ok (.ifCond .ne 10, 3) := by decide +kernel
theorem d_Mo_state_27 : decode b_Mo_state 27 = .ok (.aload_n 0, 1) := by decide +kernel
theorem d_Mo_state_28 : decode b_Mo_state 28 = .ok (.getfield 290, 3) := by decide +kernel
theorem d_Mo_state_31 : decode b_Mo_state 31 = .ok (.goto 63, 3) := by decide +kernel
theorem d_Mo_state_34 : decode b_Mo_state 34 = .ok (.iload_n 1, 1) := by decide +kernel
theorem d_Mo_state_35 : decode b_Mo_state 35 = .ok (.iconst 1, 1) := by decide +kernel
theorem d_Mo_state_36 : decode b_Mo_state 36 = .ok (.if_icmp .ne 10, 3) := by decide +kernel
theorem d_Mo_state_39 : decode b_Mo_state 39 = .ok (.aload_n 0, 1) := by decide +kernel
theorem d_Mo_state_40 : decode b_Mo_state 40 = .ok (.getfield 58, 3) := by decide +kernel
theorem d_Mo_state_43 : decode b_Mo_state 43 = .ok (.goto 51, 3) := by decide +kernel
theorem d_Mo_state_46 : decode b_Mo_state 46 = .ok (.iload_n 1, 1) := by decide +kernel
theorem d_Mo_state_47 : decode b_Mo_state 47 = .ok (.iconst 2, 1) := by decide +kernel
theorem d_Mo_state_48 : decode b_Mo_state 48 = .ok (.if_icmp .ne 10, 3) := by decide +kernel
theorem d_Mo_state_51 : decode b_Mo_state 51 = .ok (.aload_n 0, 1) := by decide +kernel
theorem d_Mo_state_52 : decode b_Mo_state 52 = .ok (.getfield 220, 3) := by decide +kernel
theorem d_Mo_state_55 : decode b_Mo_state 55 = .ok (.goto 39, 3) := by decide +kernel
theorem d_Mo_state_58 : decode b_Mo_state 58 = .ok (.iload_n 1, 1) := by decide +kernel
theorem d_Mo_state_59 : decode b_Mo_state 59 = .ok (.iconst 3, 1) := by decide +kernel
theorem d_Mo_state_60 : decode b_Mo_state 60 = .ok (.if_icmp .ne 10, 3) := by decide +kernel
theorem d_Mo_state_63 : decode b_Mo_state 63 = .ok (.aload_n 0, 1) := by decide +kernel
theorem d_Mo_state_64 : decode b_Mo_state 64 = .ok (.getfield 223, 3) := by decide +kernel
theorem d_Mo_state_67 : decode b_Mo_state 67 = .ok (.goto 27, 3) := by decide +kernel
theorem d_Mo_state_70 : decode b_Mo_state 70 = .ok (.iload_n 1, 1) := by decide +kernel
theorem d_Mo_state_71 : decode b_Mo_state 71 = .ok (.iconst 4, 1) := by decide +kernel
theorem d_Mo_state_72 : decode b_Mo_state 72 = .ok (.if_icmp .ne 10, 3) := by decide +kernel
theorem d_Mo_state_75 : decode b_Mo_state 75 = .ok (.aload_n 0, 1) := by decide +kernel
theorem d_Mo_state_76 : decode b_Mo_state 76 = .ok (.getfield 259, 3) := by decide +kernel
theorem d_Mo_state_79 : decode b_Mo_state 79 = .ok (.goto 15, 3) := by decide +kernel
theorem d_Mo_state_82 : decode b_Mo_state 82 = .ok (.aload_n 0, 1) := by decide +kernel
theorem d_Mo_state_83 : decode b_Mo_state 83 = .ok (.getfield 226, 3) := by decide +kernel
theorem d_Mo_state_86 : decode b_Mo_state 86 = .ok (.ifCond .eq 7, 3) := by decide +kernel
theorem d_Mo_state_89 : decode b_Mo_state 89 = .ok (.iconst 1, 1) := by decide +kernel
theorem d_Mo_state_90 : decode b_Mo_state 90 = .ok (.goto 4, 3) := by decide +kernel
theorem d_Mo_state_93 : decode b_Mo_state 93 = .ok (.iconst 0, 1) := by decide +kernel
theorem d_Mo_state_94 : decode b_Mo_state 94 = .ok (.ireturn, 1) := by decide +kernel
theorem d_Mo_state_95 : decode b_Mo_state 95 = .ok (.iload_n 1, 1) := by decide +kernel
theorem d_Mo_state_96 : decode b_Mo_state 96 = .ok (.bipush 8, 2) := by decide +kernel
theorem d_Mo_state_98 : decode b_Mo_state 98 = .ok (.if_icmp .ge 42, 3) := by decide +kernel
theorem d_Mo_state_101 : decode b_Mo_state 101 = .ok (.aload_n 0, 1) := by decide +kernel
theorem d_Mo_state_102 : decode b_Mo_state 102 = .ok (.invokevirtual 244, 3) := by decide +kernel
theorem d_Mo_state_105 : decode b_Mo_state 105 = .ok (.ifCond .ne 17, 3) := by decide +kernel
theorem d_Mo_state_108 : decode b_Mo_state 108 = .ok (.iload_n 1, 1) := by decide +kernel
theorem d_Mo_state_109 : decode b_Mo_state 109 = .ok (.bipush 6, 2) := by decide +kernel
theorem d_Mo_state_111 : decode b_Mo_state 111 = .ok (.if_icmp .ne 7, 3) := by decide +kernel
theorem d_Mo_state_114 : decode b_Mo_state 114 = .ok (.iconst (-1), 1) := by decide +kernel
theorem d_Mo_state_115 : decode b_Mo_state 115 = .ok (.goto 24, 3) := by decide +kernel
theorem d_Mo_state_118 : decode b_Mo_state 118 = .ok (.iconst 0, 1) := by decide +kernel
theorem d_Mo_state_119 : decode b_Mo_state 119 = .ok (.goto 20, 3) := by decide +kernel
theorem d_Mo_state_122 : decode b_Mo_state 122 = .ok (.iload_n 1, 1) := by decide +kernel
theorem d_Mo_state_123 : decode b_Mo_state 123 = .ok (.bipush 6, 2) := by decide +kernel
theorem d_Mo_state_125 : decode b_Mo_state 125 = .ok (.if_icmp .ne 10, 3) := by decide +kernel
theorem d_Mo_state_128 : decode b_Mo_state 128 = .ok (.aload_n 0, 1) := by decide +kernel
theorem d_Mo_state_129 : decode b_Mo_state 129 = .ok (.getfield 256, 3) := by decide +kernel
theorem d_Mo_state_132 : decode b_Mo_state 132 = .ok (.goto 7, 3) := by decide +kernel
theorem d_Mo_state_135 : decode b_Mo_state 135 = .ok (.aload_n 0, 1) := by decide +kernel
theorem d_Mo_state_136 : decode b_Mo_state 136 = .ok (.getfield 214, 3) := by decide +kernel
theorem d_Mo_state_139 : decode b_Mo_state 139 = .ok (.ireturn, 1) := by decide +kernel
theorem d_Mo_state_140 : decode b_Mo_state 140 = .ok (.iload_n 1, 1) := by decide +kernel
theorem d_Mo_state_141 : decode b_Mo_state 141 = .ok (.bipush 10, 2) := by decide +kernel
theorem d_Mo_state_143 : decode b_Mo_state 143 = .ok (.if_icmp .ge 13, 3) := by decide +kernel
theorem d_Mo_state_146 : decode b_Mo_state 146 = .ok (.aload_n 0, 1) := by decide +kernel
theorem d_Mo_state_147 : decode b_Mo_state 147 = .ok (.getfield 13, 3) := by decide +kernel
theorem d_Mo_state_150 : decode b_Mo_state 150 = .ok (.bipush 11, 2) := by decide +kernel
theorem d_Mo_state_152 : decode b_Mo_state 152 = .ok (.iload_n 1, 1) := by decide +kernel
theorem d_Mo_state_153 : decode b_Mo_state 153 = .ok (.iadd, 1) := by decide +kernel
theorem d_Mo_state_154 : decode b_Mo_state 154 = .ok (.iaload, 1) := by decide +kernel
theorem d_Mo_state_155 : decode b_Mo_state 155 = .ok (.ireturn, 1) := by decide +kernel
theorem d_Mo_state_156 : decode b_Mo_state 156 = .ok (.iload_n 1, 1) := by decide +kernel
theorem d_Mo_state_157 : decode b_Mo_state 157 = .ok (.bipush 14, 2) := by decide +kernel
theorem d_Mo_state_159 : decode b_Mo_state 159 = .ok (.if_icmp .ge 39, 3) := by decide +kernel
theorem d_Mo_state_162 : decode b_Mo_state 162 = .ok (.iload_n 1, 1) := by decide +kernel
theorem d_Mo_state_163 : decode b_Mo_state 163 = .ok (.bipush 10, 2) := by decide +kernel
theorem d_Mo_state_165 : decode b_Mo_state 165 = .ok (.if_icmp .ne 10, 3) := by decide +kernel
theorem d_Mo_state_168 : decode b_Mo_state 168 = .ok (.aload_n 0, 1) := by decide +kernel
theorem d_Mo_state_169 : decode b_Mo_state 169 = .ok (.getfield 61, 3) := by decide +kernel
theorem d_Mo_state_172 : decode b_Mo_state 172 = .ok (.goto 25, 3) := by decide +kernel
theorem d_Mo_state_175 : decode b_Mo_state 175 = .ok (.iload_n 1, 1) := by decide +kernel
theorem d_Mo_state_176 : decode b_Mo_state 176 = .ok (.bipush 13, 2) := by decide +kernel
theorem d_Mo_state_178 : decode b_Mo_state 178 = .ok (.if_icmp .ne 10, 3) := by decide +kernel
theorem d_Mo_state_181 : decode b_Mo_state 181 = .ok (.aload_n 0, 1) := by decide +kernel
theorem d_Mo_state_182 : decode b_Mo_state 182 = .ok (.getfield 64, 3) := by decide +kernel
theorem d_Mo_state_185 : decode b_Mo_state 185 = .ok (.goto 12, 3) := by decide +kernel
theorem d_Mo_state_188 : decode b_Mo_state 188 = .ok (.aload_n 0, 1) := by decide +kernel
theorem d_Mo_state_189 : decode b_Mo_state 189 = .ok (.getfield 29, 3) := by decide +kernel
theorem d_Mo_state_192 : decode b_Mo_state 192 = .ok (.iload_n 1, 1) := by decide +kernel
theorem d_Mo_state_193 : decode b_Mo_state 193 = .ok (.bipush 11, 2) := by decide +kernel
theorem d_Mo_state_195 : decode b_Mo_state 195 = .ok (.isub, 1) := by decide +kernel
theorem d_Mo_state_196 : decode b_Mo_state 196 = .ok (.iaload, 1) := by decide +kernel
theorem d_Mo_state_197 : decode b_Mo_state 197 = .ok (.ireturn, 1) := by decide +kernel
theorem d_Mo_state_198 : decode b_Mo_state 198 = .ok (.iload_n 1, 1) := by decide +kernel
theorem d_Mo_state_199 : decode b_Mo_state 199 = .ok (.bipush 17, 2) := by decide +kernel
theorem d_Mo_state_201 : decode b_Mo_state 201 = .ok (.if_icmp .ge 34, 3) := by decide +kernel
theorem d_Mo_state_204 : decode b_Mo_state 204 = .ok (.iload_n 1, 1) := by decide +kernel
theorem d_Mo_state_205 : decode b_Mo_state 205 = .ok (.bipush 14, 2) := by decide +kernel
theorem d_Mo_state_207 : decode b_Mo_state 207 = .ok (.if_icmp .ne 10, 3) := by decide +kernel
theorem d_Mo_state_210 : decode b_Mo_state 210 = .ok (.aload_n 0, 1) := by decide +kernel
theorem d_Mo_state_211 : decode b_Mo_state 211 = .ok (.getfield 35, 3) := by decide +kernel
theorem d_Mo_state_214 : decode b_Mo_state 214 = .ok (.goto 20, 3) := by decide +kernel
theorem d_Mo_state_217 : decode b_Mo_state 217 = .ok (.iload_n 1, 1) := by decide +kernel
theorem d_Mo_state_218 : decode b_Mo_state 218 = .ok (.bipush 15, 2) := by decide +kernel
theorem d_Mo_state_220 : decode b_Mo_state 220 = .ok (.if_icmp .ne 10, 3) := by decide +kernel
theorem d_Mo_state_223 : decode b_Mo_state 223 = .ok (.aload_n 0, 1) := by decide +kernel
theorem d_Mo_state_224 : decode b_Mo_state 224 = .ok (.getfield 87, 3) := by decide +kernel
theorem d_Mo_state_227 : decode b_Mo_state 227 = .ok (.goto 7, 3) := by decide +kernel
theorem d_Mo_state_230 : decode b_Mo_state 230 = .ok (.aload_n 0, 1) := by decide +kernel
theorem d_Mo_state_231 : decode b_Mo_state 231 = .ok (.getfield 67, 3) := by decide +kernel
theorem d_Mo_state_234 : decode b_Mo_state 234 = .ok (.ireturn, 1) := by decide +kernel
theorem d_Mo_state_235 : decode b_Mo_state 235 = .ok (.iload_n 1, 1) := by decide +kernel
theorem d_Mo_state_236 : decode b_Mo_state 236 = .ok (.bipush 17, 2) := by decide +kernel
theorem d_Mo_state_238 : decode b_Mo_state 238 = .ok (.if_icmp .ne 18, 3) := by decide +kernel
theorem d_Mo_state_241 : decode b_Mo_state 241 = .ok (.aload_n 0, 1) := by decide +kernel
theorem d_Mo_state_242 : decode b_Mo_state 242 = .ok (.getfield 70, 3) := by decide +kernel
theorem d_Mo_state_245 : decode b_Mo_state 245 = .ok (.ifCond .eq 7, 3) := by decide +kernel
theorem d_Mo_state_248 : decode b_Mo_state 248 = .ok (.iconst 1, 1) := by decide +kernel
theorem d_Mo_state_249 : decode b_Mo_state 249 = .ok (.goto 45, 3) := by decide +kernel
theorem d_Mo_state_252 : decode b_Mo_state 252 = .ok (.iconst 0, 1) := by decide +kernel
theorem d_Mo_state_253 : decode b_Mo_state 253 = .ok (.goto 41, 3) := by decide +kernel
theorem d_Mo_state_256 : decode b_Mo_state 256 = .ok (.iload_n 1, 1) := by decide +kernel
theorem d_Mo_state_257 : decode b_Mo_state 257 = .ok (.bipush 18, 2) := by decide +kernel
theorem d_Mo_state_259 : decode b_Mo_state 259 = .ok (.if_icmp .ne 10, 3) := by decide +kernel
theorem d_Mo_state_262 : decode b_Mo_state 262 = .ok (.aload_n 0, 1) := by decide +kernel
theorem d_Mo_state_263 : decode b_Mo_state 263 = .ok (.getfield 94, 3) := by decide +kernel
theorem d_Mo_state_266 : decode b_Mo_state 266 = .ok (.goto 28, 3) := by decide +kernel
theorem d_Mo_state_269 : decode b_Mo_state 269 = .ok (.iload_n 1, 1) := by decide +kernel
theorem d_Mo_state_270 : decode b_Mo_state 270 = .ok (.bipush 19, 2) := by decide +kernel
theorem d_Mo_state_272 : decode b_Mo_state 272 = .ok (.if_icmp .ne 10, 3) := by decide +kernel
theorem d_Mo_state_275 : decode b_Mo_state 275 = .ok (.aload_n 0, 1) := by decide +kernel
theorem d_Mo_state_276 : decode b_Mo_state 276 = .ok (.getfield 101, 3) := by decide +kernel
theorem d_Mo_state_279 : decode b_Mo_state 279 = .ok (.goto 15, 3) := by decide +kernel
theorem d_Mo_state_282 : decode b_Mo_state 282 = .ok (.aload_n 0, 1) := by decide +kernel
theorem d_Mo_state_283 : decode b_Mo_state 283 = .ok (.getfield 104, 3) := by decide +kernel
theorem d_Mo_state_286 : decode b_Mo_state 286 = .ok (.ifCond .le 7, 3) := by decide +kernel
theorem d_Mo_state_289 : decode b_Mo_state 289 = .ok (.iconst 1, 1) := by decide +kernel
theorem d_Mo_state_290 : decode b_Mo_state 290 = .ok (.goto 4, 3) := by decide +kernel
theorem d_Mo_state_293 : decode b_Mo_state 293 = .ok (.iconst 0, 1) := by decide +kernel
theorem d_Mo_state_294 : decode b_Mo_state 294 = .ok (.ireturn, 1) := by decide +kernel
