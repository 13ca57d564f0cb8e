theorem d_Pm_init_0 : decode b_Pm_init 0 = .ok (.aload_n 0, 1) := by decide +kernel
theorem d_Pm_init_1 : decode b_Pm_init 1 = .ok (.invokespecial 1, 3) := by decide +kernel
theorem d_Pm_init_4 : decode b_Pm_init 4 = .ok (.aload_n 0, 1) := by decide +kernel
theorem d_Pm_init_5 : decode b_Pm_init 5 = .ok (.new 7, 3) := by decide +kernel
theorem d_Pm_init_8 : decode b_Pm_init 8 = .ok (.dup, 1) := by decide +kernel
theorem d_Pm_init_9 : decode b_Pm_init 9 = .ok (.invokespecial 9, 3) := by decide +kernel
theorem d_Pm_init_12 : decode b_Pm_init 12 = .ok (.putfield 10, 3) := by decide +kernel
theorem d_Pm_init_15 : decode b_Pm_init 15 = .ok (.aload_n 0, 1) := by decide +kernel
theorem d_Pm_init_16 : decode b_Pm_init 16 = .ok (.new 16, 3) := by decide +kernel
theorem d_Pm_init_19 : decode b_Pm_init 19 = .ok (.dup, 1) := by decide +kernel
theorem d_Pm_init_20 : decode b_Pm_init 20 = .ok (.aload_n 0, 1) := by decide +kernel
theorem d_Pm_init_21 : decode b_Pm_init 21 = .ok (.getfield 10, 3) := by decide +kernel
theorem d_Pm_init_24 : decode b_Pm_init 24 = .ok (.invokespecial 18, 3) := by decide +kernel
theorem d_Pm_init_27 : decode b_Pm_init 27 = .ok (.putfield 21, 3) := by decide +kernel
theorem d_Pm_init_30 : decode b_Pm_init 30 = .ok (.return_, 1) := by decide +kernel
theorem d_Pm_poke_0 : decode b_Pm_poke 0 = .ok (.iload_n 1, 1) := by decide +kernel
theorem d_Pm_poke_1 : decode b_Pm_poke 1 = .ok (.invokestatic 25, 3) := by decide +kernel
theorem d_Pm_poke_4 : decode b_Pm_poke 4 = .ok (.ifCond .eq 14, 3) := by decide +kernel
theorem d_Pm_poke_7 : decode b_Pm_poke 7 = .ok (.iload_n 2, 1) := by decide +kernel
theorem d_Pm_poke_8 : decode b_Pm_poke 8 = .ok (.invokestatic 29, 3) := by decide +kernel
theorem d_Pm_poke_11 : decode b_Pm_poke 11 = .ok (.ifCond .eq 7, 3) := by decide +kernel
theorem d_Pm_poke_14 : decode b_Pm_poke 14 = .ok (.iconst 1, 1) := by decide +kernel
theorem d_Pm_poke_15 : decode b_Pm_poke 15 = .ok (.goto 4, 3) := by decide +kernel
theorem d_Pm_poke_18 : decode b_Pm_poke 18 = .ok (.iconst 0, 1) := by decide +kernel
theorem d_Pm_poke_19 : decode b_Pm_poke 19 = .ok (.invokestatic 32, 3) := by decide +kernel
theorem d_Pm_poke_22 : decode b_Pm_poke 22 = .ok (.aload_n 0, 1) := by decide +kernel
theorem d_Pm_poke_23 : decode b_Pm_poke 23 = .ok (.getfield 10, 3) := by decide +kernel
theorem d_Pm_poke_26 : decode b_Pm_poke 26 = .ok (.getfield 36, 3) := by decide +kernel
theorem d_Pm_poke_29 : decode b_Pm_poke 29 = .ok (.iload_n 1, 1) := by decide +kernel
theorem d_Pm_poke_30 : decode b_Pm_poke 30 = .ok (.iload_n 2, 1) := by decide +kernel
theorem d_Pm_poke_31 : decode b_Pm_poke 31 = .ok (.invokevirtual 40, 3) := by decide +kernel
theorem d_Pm_poke_34 : decode b_Pm_poke 34 = .ok (.return_, 1) := by decide +kernel
theorem d_Pm_peek_0 : decode b_Pm_peek 0 = .ok (.iload_n 1, 1) := by decide +kernel
theorem d_Pm_peek_1 : decode b_Pm_peek 1 = .ok (.invokestatic 25, 3) := by decide +kernel
theorem d_Pm_peek_4 : decode b_Pm_peek 4 = .ok (.invokestatic 32, 3) := by decide +kernel
theorem d_Pm_peek_7 : decode b_Pm_peek 7 = .ok (.aload_n 0, 1) := by decide +kernel
theorem d_Pm_peek_8 : decode b_Pm_peek 8 = .ok (.getfield 10, 3) := by decide +kernel
theorem d_Pm_peek_11 : decode b_Pm_peek 11 = .ok (.getfield 36, 3) := by decide +kernel
theorem d_Pm_peek_14 : decode b_Pm_peek 14 = .ok (.iload_n 1, 1) := by decide +kernel
theorem d_Pm_peek_15 : decode b_Pm_peek 15 = .ok (.invokevirtual 46, 3) := by decide +kernel
theorem d_Pm_peek_18 : decode b_Pm_peek 18 = .ok (.ireturn, 1) := by decide +kernel
theorem d_Pm_write_0 : decode b_Pm_write 0 = .ok (.iload_n 1, 1) := by decide +kernel
theorem d_Pm_write_1 : decode b_Pm_write 1 = .ok (.ifCond .lt 20, 3) := by decide +kernel
theorem d_Pm_write_4 : decode b_Pm_write 4 = .ok (.iload_n 1, 1) := by decide +kernel
theorem d_Pm_write_5 : decode b_Pm_write 5 = .ok (.bipush 32, 2) := by decide +kernel
theorem d_Pm_write_7 : decode b_Pm_write 7 = .ok (.if_icmp .ge 14, 3) := by decide +kernel
theorem d_Pm_write_10 : decode b_Pm_write 10 = .ok (.iload_n 2, 1) := by decide +kernel
theorem d_Pm_write_11 : decode b_Pm_write 11 = .ok (.invokestatic 29, 3) := by decide +kernel
theorem d_Pm_write_14 : decode b_Pm_write 14 = .ok (.ifCond .eq 7, 3) := by decide +kernel
theorem d_Pm_write_17 : decode b_Pm_write 17 = .ok (.iconst 1, 1) := by decide +kernel
theorem d_Pm_write_18 : decode b_Pm_write 18 = .ok (.goto 4, 3) := by decide +kernel
theorem d_Pm_write_21 : decode b_Pm_write 21 = .ok (.iconst 0, 1) := by decide +kernel
theorem d_Pm_write_22 : decode b_Pm_write 22 = .ok (.invokestatic 32, 3) := by decide +kernel
theorem d_Pm_write_25 : decode b_Pm_write 25 = .ok (.aload_n 0, 1) := by decide +kernel
theorem d_Pm_write_26 : decode b_Pm_write 26 = .ok (.getfield 10, 3) := by decide +kernel
theorem d_Pm_write_29 : decode b_Pm_write 29 = .ok (.sipush 768, 3) := by decide +kernel
theorem d_Pm_write_32 : decode b_Pm_write 32 = .ok (.iload_n 1, 1) := by decide +kernel
theorem d_Pm_write_33 : decode b_Pm_write 33 = .ok (.iadd, 1) := by decide +kernel
theorem d_Pm_write_34 : decode b_Pm_write 34 = .ok (.iload_n 2, 1) := by decide +kernel
theorem d_Pm_write_35 : decode b_Pm_write 35 = .ok (.invokevirtual 50, 3) := by decide +kernel
theorem d_Pm_write_38 : decode b_Pm_write 38 = .ok (.return_, 1) := by decide +kernel
theorem d_Pm_disk_0 : decode b_Pm_disk 0 = .ok (.iload_n 1, 1) := by decide +kernel
theorem d_Pm_disk_1 : decode b_Pm_disk 1 = .ok (.iload_n 2, 1) := by decide +kernel
theorem d_Pm_disk_2 : decode b_Pm_disk 2 = .ok (.invokestatic 53, 3) := by decide +kernel
theorem d_Pm_disk_5 : decode b_Pm_disk 5 = .ok (.ifCond .eq 14, 3) := by decide +kernel
theorem d_Pm_disk_8 : decode b_Pm_disk 8 = .ok (.iload_n 3, 1) := by decide +kernel
theorem d_Pm_disk_9 : decode b_Pm_disk 9 = .ok (.invokestatic 29, 3) := by decide +kernel
theorem d_Pm_disk_12 : decode b_Pm_disk 12 = .ok (.ifCond .eq 7, 3) := by decide +kernel
theorem d_Pm_disk_15 : decode b_Pm_disk 15 = .ok (.iconst 1, 1) := by decide +kernel
theorem d_Pm_disk_16 : decode b_Pm_disk 16 = .ok (.goto 4, 3) := by decide +kernel
theorem d_Pm_disk_19 : decode b_Pm_disk 19 = .ok (.iconst 0, 1) := by decide +kernel
theorem d_Pm_disk_20 : decode b_Pm_disk 20 = .ok (.invokestatic 32, 3) := by decide +kernel
theorem d_Pm_disk_23 : decode b_Pm_disk 23 = .ok (.aload_n 0, 1) := by decide +kernel
theorem d_Pm_disk_24 : decode b_Pm_disk 24 = .ok (.getfield 10, 3) := by decide +kernel
theorem d_Pm_disk_27 : decode b_Pm_disk 27 = .ok (.getfield 57, 3) := by decide +kernel
theorem d_Pm_disk_30 : decode b_Pm_disk 30 = .ok (.iload_n 1, 1) := by decide +kernel
theorem d_Pm_disk_31 : decode b_Pm_disk 31 = .ok (.iload_n 2, 1) := by decide +kernel
theorem d_Pm_disk_32 : decode b_Pm_disk 32 = .ok (.iload_n 3, 1) := by decide +kernel
theorem d_Pm_disk_33 : decode b_Pm_disk 33 = .ok (.invokevirtual 61, 3) := by decide +kernel
theorem d_Pm_disk_36 : decode b_Pm_disk 36 = .ok (.return_, 1) := by decide +kernel
theorem d_Pm_sector_0 : decode b_Pm_sector 0 = .ok (.iload_n 1, 1) := by decide +kernel
theorem d_Pm_sector_1 : decode b_Pm_sector 1 = .ok (.iload_n 2, 1) := by decide +kernel
theorem d_Pm_sector_2 : decode b_Pm_sector 2 = .ok (.invokestatic 53, 3) := by decide +kernel
theorem d_Pm_sector_5 : decode b_Pm_sector 5 = .ok (.invokestatic 32, 3) := by decide +kernel
theorem d_Pm_sector_8 : decode b_Pm_sector 8 = .ok (.aload_n 0, 1) := by decide +kernel
theorem d_Pm_sector_9 : decode b_Pm_sector 9 = .ok (.getfield 10, 3) := by decide +kernel
theorem d_Pm_sector_12 : decode b_Pm_sector 12 = .ok (.getfield 57, 3) := by decide +kernel
theorem d_Pm_sector_15 : decode b_Pm_sector 15 = .ok (.iload_n 1, 1) := by decide +kernel
theorem d_Pm_sector_16 : decode b_Pm_sector 16 = .ok (.iload_n 2, 1) := by decide +kernel
theorem d_Pm_sector_17 : decode b_Pm_sector 17 = .ok (.invokevirtual 67, 3) := by decide +kernel
theorem d_Pm_sector_20 : decode b_Pm_sector 20 = .ok (.ireturn, 1) := by decide +kernel
theorem d_Pm_stick_0 : decode b_Pm_stick 0 = .ok (.iload_n 1, 1) := by decide +kernel
theorem d_Pm_stick_1 : decode b_Pm_stick 1 = .ok (.invokestatic 29, 3) := by decide +kernel
theorem d_Pm_stick_4 : decode b_Pm_stick 4 = .ok (.invokestatic 32, 3) := by decide +kernel
theorem d_Pm_stick_7 : decode b_Pm_stick 7 = .ok (.aload_n 0, 1) := by decide +kernel
theorem d_Pm_stick_8 : decode b_Pm_stick 8 = .ok (.getfield 10, 3) := by decide +kernel
theorem d_Pm_stick_11 : decode b_Pm_stick 11 = .ok (.iload_n 1, 1) := by decide +kernel
theorem d_Pm_stick_12 : decode b_Pm_stick 12 = .ok (.putfield 71, 3) := by decide +kernel
theorem d_Pm_stick_15 : decode b_Pm_stick 15 = .ok (.return_, 1) := by decide +kernel
theorem d_Pm_run_0 : decode b_Pm_run 0 = .ok (.iload_n 1, 1) := by decide +kernel
theorem d_Pm_run_1 : decode b_Pm_run 1 = .ok (.ifCond .lt 14, 3) := by decide +kernel
theorem d_Pm_run_4 : decode b_Pm_run 4 = .ok (.iload_n 1, 1) := by decide +kernel
theorem d_Pm_run_5 : decode b_Pm_run 5 = .ok (.sipush 1000, 3) := by decide +kernel
theorem d_Pm_run_8 : decode b_Pm_run 8 = .ok (.if_icmp .gt 7, 3) := by decide +kernel
theorem d_Pm_run_11 : decode b_Pm_run 11 = .ok (.iconst 1, 1) := by decide +kernel
theorem d_Pm_run_12 : decode b_Pm_run 12 = .ok (.goto 4, 3) := by decide +kernel
theorem d_Pm_run_15 : decode b_Pm_run 15 = .ok (.iconst 0, 1) := by decide +kernel
theorem d_Pm_run_16 : decode b_Pm_run 16 = .ok (.invokestatic 32, 3) := by decide +kernel
theorem d_Pm_run_19 : decode b_Pm_run 19 = .ok (.iconst 0, 1) := by decide +kernel
theorem d_Pm_run_20 : decode b_Pm_run 20 = .ok (.istore_n 2, 1) := by decide +kernel
theorem d_Pm_run_21 : decode b_Pm_run 21 = .ok (.iconst 0, 1) := by decide +kernel
theorem d_Pm_run_22 : decode b_Pm_run 22 = .ok (.istore_n 3, 1) := by decide +kernel
theorem d_Pm_run_23 : decode b_Pm_run 23 = .ok (.iload_n 3, 1) := by decide +kernel
theorem d_Pm_run_24 : decode b_Pm_run 24 = .ok (.iload_n 1, 1) := by decide +kernel
theorem d_Pm_run_25 : decode b_Pm_run 25 = .ok (.if_icmp .ge 19, 3) := by decide +kernel
theorem d_Pm_run_28 : decode b_Pm_run 28 = .ok (.aload_n 0, 1) := by decide +kernel
theorem d_Pm_run_29 : decode b_Pm_run 29 = .ok (.invokevirtual 75, 3) := by decide +kernel
theorem d_Pm_run_32 : decode b_Pm_run 32 = .ok (.ifCond .eq 6, 3) := by decide +kernel
theorem d_Pm_run_35 : decode b_Pm_run 35 = .ok (.iinc 2 1, 3) := by decide +kernel
theorem d_Pm_run_38 : decode b_Pm_run 38 = .ok (.iinc 3 1, 3) := by decide +kernel
theorem d_Pm_run_41 : decode b_Pm_run 41 = .ok (.goto (-18), 3) := by decide +kernel
theorem d_Pm_run_44 : decode b_Pm_run 44 = .ok (.iload_n 2, 1) := by decide +kernel
theorem d_Pm_run_45 : decode b_Pm_run 45 = .ok (.ireturn, 1) := by decide +kernel
theorem d_Pm_dot_0 : decode b_Pm_dot 0 = .ok (.iload_n 1, 1) := by decide +kernel
theorem d_Pm_dot_1 : decode b_Pm_dot 1 = .ok (.invokestatic 79, 3) := by decide +kernel
theorem d_Pm_dot_4 : decode b_Pm_dot 4 = .ok (.ifCond .eq 13, 3) := by decide +kernel
theorem d_Pm_dot_7 : decode b_Pm_dot 7 = .ok (.iload_n 2, 1) := by decide +kernel
theorem d_Pm_dot_8 : decode b_Pm_dot 8 = .ok (.ifCond .lt 9, 3) := by decide +kernel
theorem d_Pm_dot_11 : decode b_Pm_dot 11 = .ok (.iload_n 2, 1) := by decide +kernel
theorem d_Pm_dot_12 : decode b_Pm_dot 12 = .ok (.bipush 32, 2) := by decide +kernel
theorem d_Pm_dot_14 : decode b_Pm_dot 14 = .ok (.if_icmp .lt 11, 3) := by decide +kernel
theorem d_Pm_dot_17 : decode b_Pm_dot 17 = .ok (.new 82, 3) := by decide +kernel
theorem d_Pm_dot_20 : decode b_Pm_dot 20 = .ok (.dup, 1) := by decide +kernel
theorem d_Pm_dot_21 : decode b_Pm_dot 21 = .ok (.invokespecial 84, 3) := by decide +kernel
theorem d_Pm_dot_24 : decode b_Pm_dot 24 = .ok (.athrow, 1) := by decide +kernel
theorem d_Pm_dot_25 : decode b_Pm_dot 25 = .ok (.aload_n 0, 1) := by decide +kernel
theorem d_Pm_dot_26 : decode b_Pm_dot 26 = .ok (.getfield 10, 3) := by decide +kernel
theorem d_Pm_dot_29 : decode b_Pm_dot 29 = .ok (.getfield 85, 3) := by decide +kernel
theorem d_Pm_dot_32 : decode b_Pm_dot 32 = .ok (.iload_n 1, 1) := by decide +kernel
theorem d_Pm_dot_33 : decode b_Pm_dot 33 = .ok (.iload_n 2, 1) := by decide +kernel
theorem d_Pm_dot_34 : decode b_Pm_dot 34 = .ok (.invokevirtual 89, 3) := by decide +kernel
theorem d_Pm_dot_37 : decode b_Pm_dot 37 = .ok (.ireturn, 1) := by decide +kernel
theorem d_Pm_processor_0 : decode b_Pm_processor 0 = .ok (.iload_n 1, 1) := by decide +kernel
theorem d_Pm_processor_1 : decode b_Pm_processor 1 = .ok (.tableswitch 170 0 9 #[55, 65, 75, 85, 95, 105, 115, 128, 144, 160], 55) := by decide +kernel
theorem d_Pm_processor_56 : decode b_Pm_processor 56 = .ok (.aload_n 0, 1) := by decide +kernel
theorem d_Pm_processor_57 : decode b_Pm_processor 57 = .ok (.getfield 21, 3) := by decide +kernel
theorem d_Pm_processor_60 : decode b_Pm_processor 60 = .ok (.getfield 94, 3) := by decide +kernel
theorem d_Pm_processor_63 : decode b_Pm_processor 63 = .ok (.goto 109, 3) := by decide +kernel
theorem d_Pm_processor_66 : decode b_Pm_processor 66 = .ok (.aload_n 0, 1) := by decide +kernel
theorem d_Pm_processor_67 : decode b_Pm_processor 67 = .ok (.getfield 21, 3) := by decide +kernel
theorem d_Pm_processor_70 : decode b_Pm_processor 70 = .ok (.getfield 97, 3) := by decide +kernel
theorem d_Pm_processor_73 : decode b_Pm_processor 73 = .ok (.goto 99, 3) := by decide +kernel
theorem d_Pm_processor_76 : decode b_Pm_processor 76 = .ok (.aload_n 0, 1) := by decide +kernel
theorem d_Pm_processor_77 : decode b_Pm_processor 77 = .ok (.getfield 21, 3) := by decide +kernel
theorem d_Pm_processor_80 : decode b_Pm_processor 80 = .ok (.getfield 100, 3) := by decide +kernel
theorem d_Pm_processor_83 : decode b_Pm_processor 83 = .ok (.goto 89, 3) := by decide +kernel
theorem d_Pm_processor_86 : decode b_Pm_processor 86 = .ok (.aload_n 0, 1) := by decide +kernel
theorem d_Pm_processor_87 : decode b_Pm_processor 87 = .ok (.getfield 21, 3) := by decide +kernel
theorem d_Pm_processor_90 : decode b_Pm_processor 90 = .ok (.getfield 103, 3) := by decide +kernel
theorem d_Pm_processor_93 : decode b_Pm_processor 93 = .ok (.goto 79, 3) := by decide +kernel
theorem d_Pm_processor_96 : decode b_Pm_processor 96 = .ok (.aload_n 0, 1) := by decide +kernel
theorem d_Pm_processor_97 : decode b_Pm_processor 97 = .ok (.getfield 21, 3) := by decide +kernel
theorem d_Pm_processor_100 : decode b_Pm_processor 100 = .ok (.getfield 106, 3) := by decide +kernel
theorem d_Pm_processor_103 : decode b_Pm_processor 103 = .ok (.goto 69, 3) := by decide +kernel
theorem d_Pm_processor_106 : decode b_Pm_processor 106 = .ok (.aload_n 0, 1) := by decide +kernel
theorem d_Pm_processor_107 : decode b_Pm_processor 107 = .ok (.getfield 21, 3) := by decide +kernel
theorem d_Pm_processor_110 : decode b_Pm_processor 110 = .ok (.invokevirtual 109, 3) := by decide +kernel
theorem d_Pm_processor_113 : decode b_Pm_processor 113 = .ok (.goto 59, 3) := by decide +kernel
theorem d_Pm_processor_116 : decode b_Pm_processor 116 = .ok (.aload_n 0, 1) := by decide +kernel
theorem d_Pm_processor_117 : decode b_Pm_processor 117 = .ok (.getfield 21, 3) := by decide +kernel
theorem d_Pm_processor_120 : decode b_Pm_processor 120 = .ok (.getfield 113, 3) := by decide +kernel
theorem d_Pm_processor_123 : decode b_Pm_processor 123 = .ok (.invokestatic 117, 3) := by decide +kernel
theorem d_Pm_processor_126 : decode b_Pm_processor 126 = .ok (.goto 46, 3) := by decide +kernel
theorem d_Pm_processor_129 : decode b_Pm_processor 129 = .ok (.aload_n 0, 1) := by decide +kernel
theorem d_Pm_processor_130 : decode b_Pm_processor 130 = .ok (.getfield 10, 3) := by decide +kernel
theorem d_Pm_processor_133 : decode b_Pm_processor 133 = .ok (.getfield 121, 3) := by decide +kernel
theorem d_Pm_processor_136 : decode b_Pm_processor 136 = .ok (.getfield 125, 3) := by decide +kernel
theorem d_Pm_processor_139 : decode b_Pm_processor 139 = .ok (.invokestatic 117, 3) := by decide +kernel
theorem d_Pm_processor_142 : decode b_Pm_processor 142 = .ok (.goto 30, 3) := by decide +kernel
theorem d_Pm_processor_145 : decode b_Pm_processor 145 = .ok (.aload_n 0, 1) := by decide +kernel
theorem d_Pm_processor_146 : decode b_Pm_processor 146 = .ok (.getfield 10, 3) := by decide +kernel
theorem d_Pm_processor_149 : decode b_Pm_processor 149 = .ok (.getfield 121, 3) := by decide +kernel
theorem d_Pm_processor_152 : decode b_Pm_processor 152 = .ok (.getfield 130, 3) := by decide +kernel
theorem d_Pm_processor_155 : decode b_Pm_processor 155 = .ok (.invokestatic 117, 3) := by decide +kernel
theorem d_Pm_processor_158 : decode b_Pm_processor 158 = .ok (.goto 14, 3) := by decide +kernel
theorem d_Pm_processor_161 : decode b_Pm_processor 161 = .ok (.aload_n 0, 1) := by decide +kernel
theorem d_Pm_processor_162 : decode b_Pm_processor 162 = .ok (.getfield 21, 3) := by decide +kernel
theorem d_Pm_processor_165 : decode b_Pm_processor 165 = .ok (.getfield 133, 3) := by decide +kernel
theorem d_Pm_processor_168 : decode b_Pm_processor 168 = .ok (.goto 4, 3) := by decide +kernel
theorem d_Pm_processor_171 : decode b_Pm_processor 171 = .ok (.iconst (-1), 1) := by decide +kernel
theorem d_Pm_processor_172 : decode b_Pm_processor 172 = .ok (.ireturn, 1) := by decide +kernel
theorem d_Pm_state_0 : decode b_Pm_state 0 = .ok (.iload_n 1, 1) := by decide +kernel
theorem d_Pm_state_1 : decode b_Pm_state 1 = .ok (.tableswitch 388 0 20 #[99, 112, 125, 138, 151, 164, 180, 193, 206, 219, 232, 245, 260, 275, 291, 304, 317, 330, 346, 359, 372], 99) := by decide +kernel
theorem d_Pm_state_100 : decode b_Pm_state 100 = .ok (.aload_n 0, 1) := by decide +kernel
theorem d_Pm_state_101 : decode b_Pm_state 101 = .ok (.getfield 10, 3) := by decide +kernel
theorem d_Pm_state_104 : decode b_Pm_state 104 = .ok (.getfield 136, 3) := by decide +kernel
theorem d_Pm_state_107 : decode b_Pm_state 107 = .ok (.getfield 140, 3) := by decide +kernel
theorem d_Pm_state_110 : decode b_Pm_state 110 = .ok (.goto 280, 3) := by decide +kernel
theorem d_Pm_state_113 : decode b_Pm_state 113 = .ok (.aload_n 0, 1) := by decide +kernel
theorem d_Pm_state_114 : decode b_Pm_state 114 = .ok (.getfield 10, 3) := by decide +kernel
theorem d_Pm_state_117 : decode b_Pm_state 117 = .ok (.getfield 136, 3) := by decide +kernel
theorem d_Pm_state_120 : decode b_Pm_state 120 = .ok (.getfield 145, 3) := by decide +kernel
theorem d_Pm_state_123 : decode b_Pm_state 123 = .ok (.goto 267, 3) := by decide +kernel
theorem d_Pm_state_126 : decode b_Pm_state 126 = .ok (.aload_n 0, 1) := by decide +kernel
theorem d_Pm_state_127 : decode b_Pm_state 127 = .ok (.getfield 10, 3) := by decide +kernel
theorem d_Pm_state_130 : decode b_Pm_state 130 = .ok (.getfield 136, 3) := by decide +kernel
theorem d_Pm_state_133 : decode b_Pm_state 133 = .ok (.getfield 148, 3) := by decide +kernel
theorem d_Pm_state_136 : decode b_Pm_state 136 = .ok (.goto 254, 3) := by decide +kernel
theorem d_Pm_state_139 : decode b_Pm_state 139 = .ok (.aload_n 0, 1) := by decide +kernel
theorem d_Pm_state_140 : decode b_Pm_state 140 = .ok (.getfield 10, 3) := by decide +kernel
theorem d_Pm_state_143 : decode b_Pm_state 143 = .ok (.getfield 151, 3) := by decide +kernel
theorem d_Pm_state_146 : decode b_Pm_state 146 = .ok (.getfield 155, 3) := by decide +kernel
theorem d_Pm_state_149 : decode b_Pm_state 149 = .ok (.goto 241, 3) := by decide +kernel
theorem d_Pm_state_152 : decode b_Pm_state 152 = .ok (.aload_n 0, 1) := by decide +kernel
theorem d_Pm_state_153 : decode b_Pm_state 153 = .ok (.getfield 10, 3) := by decide +kernel
theorem d_Pm_state_156 : decode b_Pm_state 156 = .ok (.getfield 151, 3) := by decide +kernel
theorem d_Pm_state_159 : decode b_Pm_state 159 = .ok (.getfield 160, 3) := by decide +kernel
theorem d_Pm_state_162 : decode b_Pm_state 162 = .ok (.goto 228, 3) := by decide +kernel
theorem d_Pm_state_165 : decode b_Pm_state 165 = .ok (.aload_n 0, 1) := by decide +kernel
theorem d_Pm_state_166 : decode b_Pm_state 166 = .ok (.getfield 10, 3) := by decide +kernel
theorem d_Pm_state_169 : decode b_Pm_state 169 = .ok (.getfield 151, 3) := by decide +kernel
theorem d_Pm_state_172 : decode b_Pm_state 172 = .ok (.getfield 163, 3) := by decide +kernel
theorem d_Pm_state_175 : decode b_Pm_state 175 = .ok (.invokestatic 117, 3) := by decide +kernel
theorem d_Pm_state_178 : decode b_Pm_state 178 = .ok (.goto 212, 3) := by decide +kernel
theorem d_Pm_state_181 : decode b_Pm_state 181 = .ok (.aload_n 0, 1) := by decide +kernel
theorem d_Pm_state_182 : decode b_Pm_state 182 = .ok (.getfield 10, 3) := by decide +kernel
theorem d_Pm_state_185 : decode b_Pm_state 185 = .ok (.getfield 151, 3) := by decide +kernel
theorem d_Pm_state_188 : decode b_Pm_state 188 = .ok (.invokevirtual 166, 3) := by decide +kernel
theorem d_Pm_state_191 : decode b_Pm_state 191 = .ok (.goto 199, 3) := by decide +kernel
theorem d_Pm_state_194 : decode b_Pm_state 194 = .ok (.aload_n 0, 1) := by decide +kernel
theorem d_Pm_state_195 : decode b_Pm_state 195 = .ok (.getfield 10, 3) := by decide +kernel
theorem d_Pm_state_198 : decode b_Pm_state 198 = .ok (.getfield 151, 3) := by decide +kernel
theorem d_Pm_state_201 : decode b_Pm_state 201 = .ok (.invokevirtual 169, 3) := by decide +kernel
theorem d_Pm_state_204 : decode b_Pm_state 204 = .ok (.goto 186, 3) := by decide +kernel
theorem d_Pm_state_207 : decode b_Pm_state 207 = .ok (.aload_n 0, 1) := by decide +kernel
theorem d_Pm_state_208 : decode b_Pm_state 208 = .ok (.getfield 10, 3) := by decide +kernel
theorem d_Pm_state_211 : decode b_Pm_state 211 = .ok (.getfield 172, 3) := by decide +kernel
theorem d_Pm_state_214 : decode b_Pm_state 214 = .ok (.bipush 19, 2) := by decide +kernel
theorem d_Pm_state_216 : decode b_Pm_state 216 = .ok (.iaload, 1) := by decide +kernel
theorem d_Pm_state_217 : decode b_Pm_state 217 = .ok (.goto 173, 3) := by decide +kernel
theorem d_Pm_state_220 : decode b_Pm_state 220 = .ok (.aload_n 0, 1) := by decide +kernel
theorem d_Pm_state_221 : decode b_Pm_state 221 = .ok (.getfield 10, 3) := by decide +kernel
theorem d_Pm_state_224 : decode b_Pm_state 224 = .ok (.getfield 172, 3) := by decide +kernel
theorem d_Pm_state_227 : decode b_Pm_state 227 = .ok (.bipush 20, 2) := by decide +kernel
theorem d_Pm_state_229 : decode b_Pm_state 229 = .ok (.iaload, 1) := by decide +kernel
theorem d_Pm_state_230 : decode b_Pm_state 230 = .ok (.goto 160, 3) := by decide +kernel
theorem d_Pm_state_233 : decode b_Pm_state 233 = .ok (.aload_n 0, 1) := by decide +kernel
theorem d_Pm_state_234 : decode b_Pm_state 234 = .ok (.getfield 10, 3) := by decide +kernel
theorem d_Pm_state_237 : decode b_Pm_state 237 = .ok (.getfield 151, 3) := by decide +kernel
theorem d_Pm_state_240 : decode b_Pm_state 240 = .ok (.getfield 176, 3) := by decide +kernel
theorem d_Pm_state_243 : decode b_Pm_state 243 = .ok (.goto 147, 3) := by decide +kernel
theorem d_Pm_state_246 : decode b_Pm_state 246 = .ok (.aload_n 0, 1) := by decide +kernel
theorem d_Pm_state_247 : decode b_Pm_state 247 = .ok (.getfield 10, 3) := by decide +kernel
theorem d_Pm_state_250 : decode b_Pm_state 250 = .ok (.getfield 85, 3) := by decide +kernel
theorem d_Pm_state_253 : decode b_Pm_state 253 = .ok (.getfield 179, 3) := by decide +kernel
theorem d_Pm_state_256 : decode b_Pm_state 256 = .ok (.iconst 0, 1) := by decide +kernel
theorem d_Pm_state_257 : decode b_Pm_state 257 = .ok (.iaload, 1) := by decide +kernel
theorem d_Pm_state_258 : decode b_Pm_state 258 = .ok (.goto 132, 3) := by decide +kernel
theorem d_Pm_state_261 : decode b_Pm_state 261 = .ok (.aload_n 0, 1) := by decide +kernel
theorem d_Pm_state_262 : decode b_Pm_state 262 = .ok (.getfield 10, 3) := by decide +kernel
theorem d_Pm_state_265 : decode b_Pm_state 265 = .ok (.getfield 85, 3) := by decide +kernel
theorem d_Pm_state_268 : decode b_Pm_state 268 = .ok (.getfield 179, 3) := by decide +kernel
theorem d_Pm_state_271 : decode b_Pm_state 271 = .ok (.iconst 1, 1) := by decide +kernel
theorem d_Pm_state_272 : decode b_Pm_state 272 = .ok (.iaload, 1) := by decide +kernel
theorem d_Pm_state_273 : decode b_Pm_state 273 = .ok (.goto 117, 3) := by decide +kernel
theorem d_Pm_state_276 : decode b_Pm_state 276 = .ok (.aload_n 0, 1) := by decide +kernel
theorem d_Pm_state_277 : decode b_Pm_state 277 = .ok (.getfield 10, 3) := by decide +kernel
theorem d_Pm_state_280 : decode b_Pm_state 280 = .ok (.getfield 85, 3) := by decide +kernel
theorem d_Pm_state_283 : decode b_Pm_state 283 = .ok (.getfield 182, 3) := by decide +kernel
theorem d_Pm_state_286 : decode b_Pm_state 286 = .ok (.invokestatic 117, 3) := by decide +kernel
theorem d_Pm_state_289 : decode b_Pm_state 289 = .ok (.goto 101, 3) := by decide +kernel
theorem d_Pm_state_292 : decode b_Pm_state 292 = .ok (.aload_n 0, 1) := by decide +kernel
theorem d_Pm_state_293 : decode b_Pm_state 293 = .ok (.getfield 10, 3) := by decide +kernel
theorem d_Pm_state_296 : decode b_Pm_state 296 = .ok (.getfield 185, 3) := by decide +kernel
theorem d_Pm_state_299 : decode b_Pm_state 299 = .ok (.getfield 189, 3) := by decide +kernel
theorem d_Pm_state_302 : decode b_Pm_state 302 = .ok (.goto 88, 3) := by decide +kernel
theorem d_Pm_state_305 : decode b_Pm_state 305 = .ok (.aload_n 0, 1) := by decide +kernel
theorem d_Pm_state_306 : decode b_Pm_state 306 = .ok (.getfield 10, 3) := by decide +kernel
theorem d_Pm_state_309 : decode b_Pm_state 309 = .ok (.getfield 185, 3) := by decide +kernel
theorem d_Pm_state_312 : decode b_Pm_state 312 = .ok (.getfield 194, 3) := by decide +kernel
theorem d_Pm_state_315 : decode b_Pm_state 315 = .ok (.goto 75, 3) := by decide +kernel
theorem d_Pm_state_318 : decode b_Pm_state 318 = .ok (.aload_n 0, 1) := by decide +kernel
theorem d_Pm_state_319 : decode b_Pm_state 319 = .ok (.getfield 10, 3) := by decide +kernel
theorem d_Pm_state_322 : decode b_Pm_state 322 = .ok (.getfield 185, 3) := by decide +kernel
theorem d_Pm_state_325 : decode b_Pm_state 325 = .ok (.getfield 197, 3) := by decide +kernel
theorem d_Pm_state_328 : decode b_Pm_state 328 = .ok (.goto 62, 3) := by decide +kernel
theorem d_Pm_state_331 : decode b_Pm_state 331 = .ok (.aload_n 0, 1) := by decide +kernel
theorem d_Pm_state_332 : decode b_Pm_state 332 = .ok (.getfield 10, 3) := by decide +kernel
theorem d_Pm_state_335 : decode b_Pm_state 335 = .ok (.getfield 57, 3) := by decide +kernel
theorem d_Pm_state_338 : decode b_Pm_state 338 = .ok (.getfield 200, 3) := by decide +kernel
theorem d_Pm_state_341 : decode b_Pm_state 341 = .ok (.invokestatic 117, 3) := by decide +kernel
theorem d_Pm_state_344 : decode b_Pm_state 344 = .ok (.goto 46, 3) := by decide +kernel
theorem d_Pm_state_347 : decode b_Pm_state 347 = .ok (.aload_n 0, 1) := by decide +kernel
theorem d_Pm_state_348 : decode b_Pm_state 348 = .ok (.getfield 10, 3) := by decide +kernel
theorem d_Pm_state_351 : decode b_Pm_state 351 = .ok (.getfield 57, 3) := by decide +kernel
theorem d_Pm_state_354 : decode b_Pm_state 354 = .ok (.getfield 203, 3) := by decide +kernel
theorem d_Pm_state_357 : decode b_Pm_state 357 = .ok (.goto 33, 3) := by decide +kernel
theorem d_Pm_state_360 : decode b_Pm_state 360 = .ok (.aload_n 0, 1) := by decide +kernel
theorem d_Pm_state_361 : decode b_Pm_state 361 = .ok (.getfield 10, 3) := by decide +kernel
theorem d_Pm_state_364 : decode b_Pm_state 364 = .ok (.getfield 57, 3) := by decide +kernel
theorem d_Pm_state_367 : decode b_Pm_state 367 = .ok (.getfield 206, 3) := by decide +kernel
theorem d_Pm_state_370 : decode b_Pm_state 370 = .ok (.goto 20, 3) := by decide +kernel
theorem d_Pm_state_373 : decode b_Pm_state 373 = .ok (.aload_n 0, 1) := by decide +kernel
theorem d_Pm_state_374 : decode b_Pm_state 374 = .ok (.getfield 10, 3) := by decide +kernel
theorem d_Pm_state_377 : decode b_Pm_state 377 = .ok (.getfield 57, 3) := by decide +kernel
theorem d_Pm_state_380 : decode b_Pm_state 380 = .ok (.getfield 209, 3) := by decide +kernel
theorem d_Pm_state_383 : decode b_Pm_state 383 = .ok (.invokestatic 117, 3) := by decide +kernel
theorem d_Pm_state_386 : decode b_Pm_state 386 = .ok (.goto 4, 3) := by decide +kernel
theorem d_Pm_state_389 : decode b_Pm_state 389 = .ok (.iconst (-1), 1) := by decide +kernel
theorem d_Pm_state_390 : decode b_Pm_state 390 = .ok (.ireturn, 1) := by decide +kernel
theorem d_Pm_passCycle_0 : decode b_Pm_passCycle 0 = .ok (.aload_n 0, 1) := by decide +kernel
theorem d_Pm_passCycle_1 : decode b_Pm_passCycle 1 = .ok (.getfield 10, 3) := by decide +kernel
theorem d_Pm_passCycle_4 : decode b_Pm_passCycle 4 = .ok (.getfield 136, 3) := by decide +kernel
theorem d_Pm_passCycle_7 : decode b_Pm_passCycle 7 = .ok (.getfield 145, 3) := by decide +kernel
theorem d_Pm_passCycle_10 : decode b_Pm_passCycle 10 = .ok (.istore_n 1, 1) := by decide +kernel
theorem d_Pm_passCycle_11 : decode b_Pm_passCycle 11 = .ok (.aload_n 0, 1) := by decide +kernel
theorem d_Pm_passCycle_12 : decode b_Pm_passCycle 12 = .ok (.getfield 10, 3) := by decide +kernel
theorem d_Pm_passCycle_15 : decode b_Pm_passCycle 15 = .ok (.getfield 136, 3) := by decide +kernel
theorem d_Pm_passCycle_18 : decode b_Pm_passCycle 18 = .ok (.getfield 148, 3) := by decide +kernel
theorem d_Pm_passCycle_21 : decode b_Pm_passCycle 21 = .ok (.istore_n 2, 1) := by decide +kernel
theorem d_Pm_passCycle_22 : decode b_Pm_passCycle 22 = .ok (.aload_n 0, 1) := by decide +kernel
theorem d_Pm_passCycle_23 : decode b_Pm_passCycle 23 = .ok (.getfield 10, 3) := by decide +kernel
theorem d_Pm_passCycle_26 : decode b_Pm_passCycle 26 = .ok (.getfield 151, 3) := by decide +kernel
theorem d_Pm_passCycle_29 : decode b_Pm_passCycle 29 = .ok (.iload_n 1, 1) := by decide +kernel
theorem d_Pm_passCycle_30 : decode b_Pm_passCycle 30 = .ok (.iload_n 2, 1) := by decide +kernel
theorem d_Pm_passCycle_31 : decode b_Pm_passCycle 31 = .ok (.invokevirtual 212, 3) := by decide +kernel
theorem d_Pm_passCycle_34 : decode b_Pm_passCycle 34 = .ok (.istore_n 3, 1) := by decide +kernel
theorem d_Pm_passCycle_35 : decode b_Pm_passCycle 35 = .ok (.iload_n 3, 1) := by decide +kernel
theorem d_Pm_passCycle_36 : decode b_Pm_passCycle 36 = .ok (.ifCond .ne 17, 3) := by decide +kernel
theorem d_Pm_passCycle_39 : decode b_Pm_passCycle 39 = .ok (.aload_n 0, 1) := by decide +kernel
theorem d_Pm_passCycle_40 : decode b_Pm_passCycle 40 = .ok (.getfield 21, 3) := by decide +kernel
theorem d_Pm_passCycle_43 : decode b_Pm_passCycle 43 = .ok (.invokevirtual 214, 3) := by decide +kernel
theorem d_Pm_passCycle_46 : decode b_Pm_passCycle 46 = .ok (.ifCond .eq 7, 3) := by decide +kernel
theorem d_Pm_passCycle_49 : decode b_Pm_passCycle 49 = .ok (.iconst 1, 1) := by decide +kernel
theorem d_Pm_passCycle_50 : decode b_Pm_passCycle 50 = .ok (.goto 4, 3) := by decide +kernel
theorem d_Pm_passCycle_53 : decode b_Pm_passCycle 53 = .ok (.iconst 0, 1) := by decide +kernel
theorem d_Pm_passCycle_54 : decode b_Pm_passCycle 54 = .ok (.istore 4, 2) := by decide +kernel
theorem d_Pm_passCycle_56 : decode b_Pm_passCycle 56 = .ok (.aload_n 0, 1) := by decide +kernel
theorem d_Pm_passCycle_57 : decode b_Pm_passCycle 57 = .ok (.getfield 10, 3) := by decide +kernel
theorem d_Pm_passCycle_60 : decode b_Pm_passCycle 60 = .ok (.getfield 185, 3) := by decide +kernel
theorem d_Pm_passCycle_63 : decode b_Pm_passCycle 63 = .ok (.invokevirtual 215, 3) := by decide +kernel
theorem d_Pm_passCycle_66 : decode b_Pm_passCycle 66 = .ok (.iload_n 2, 1) := by decide +kernel
theorem d_Pm_passCycle_67 : decode b_Pm_passCycle 67 = .ok (.bipush 23, 2) := by decide +kernel
theorem d_Pm_passCycle_69 : decode b_Pm_passCycle 69 = .ok (.if_icmp .ne 8, 3) := by decide +kernel
theorem d_Pm_passCycle_72 : decode b_Pm_passCycle 72 = .ok (.aload_n 0, 1) := by decide +kernel
theorem d_Pm_passCycle_73 : decode b_Pm_passCycle 73 = .ok (.iload_n 1, 1) := by decide +kernel
theorem d_Pm_passCycle_74 : decode b_Pm_passCycle 74 = .ok (.invokevirtual 217, 3) := by decide +kernel
theorem d_Pm_passCycle_77 : decode b_Pm_passCycle 77 = .ok (.aload_n 0, 1) := by decide +kernel
theorem d_Pm_passCycle_78 : decode b_Pm_passCycle 78 = .ok (.getfield 10, 3) := by decide +kernel
theorem d_Pm_passCycle_81 : decode b_Pm_passCycle 81 = .ok (.getfield 136, 3) := by decide +kernel
theorem d_Pm_passCycle_84 : decode b_Pm_passCycle 84 = .ok (.invokevirtual 221, 3) := by decide +kernel
theorem d_Pm_passCycle_87 : decode b_Pm_passCycle 87 = .ok (.iload 4, 2) := by decide +kernel
theorem d_Pm_passCycle_89 : decode b_Pm_passCycle 89 = .ok (.ireturn, 1) := by decide +kernel
theorem d_Pm_endLine_0 : decode b_Pm_endLine 0 = .ok (.iload_n 1, 1) := by decide +kernel
theorem d_Pm_endLine_1 : decode b_Pm_endLine 1 = .ok (.invokestatic 79, 3) := by decide +kernel
theorem d_Pm_endLine_4 : decode b_Pm_endLine 4 = .ok (.ifCond .eq 24, 3) := by decide +kernel
theorem d_Pm_endLine_7 : decode b_Pm_endLine 7 = .ok (.aload_n 0, 1) := by decide +kernel
theorem d_Pm_endLine_8 : decode b_Pm_endLine 8 = .ok (.getfield 10, 3) := by decide +kernel
theorem d_Pm_endLine_11 : decode b_Pm_endLine 11 = .ok (.getfield 85, 3) := by decide +kernel
theorem d_Pm_endLine_14 : decode b_Pm_endLine 14 = .ok (.iload_n 1, 1) := by decide +kernel
theorem d_Pm_endLine_15 : decode b_Pm_endLine 15 = .ok (.invokevirtual 224, 3) := by decide +kernel
theorem d_Pm_endLine_18 : decode b_Pm_endLine 18 = .ok (.aload_n 0, 1) := by decide +kernel
theorem d_Pm_endLine_19 : decode b_Pm_endLine 19 = .ok (.getfield 10, 3) := by decide +kernel
theorem d_Pm_endLine_22 : decode b_Pm_endLine 22 = .ok (.getfield 151, 3) := by decide +kernel
theorem d_Pm_endLine_25 : decode b_Pm_endLine 25 = .ok (.invokevirtual 227, 3) := by decide +kernel
theorem d_Pm_endLine_28 : decode b_Pm_endLine 28 = .ok (.aload_n 0, 1) := by decide +kernel
theorem d_Pm_endLine_29 : decode b_Pm_endLine 29 = .ok (.getfield 10, 3) := by decide +kernel
theorem d_Pm_endLine_32 : decode b_Pm_endLine 32 = .ok (.getfield 57, 3) := by decide +kernel
theorem d_Pm_endLine_35 : decode b_Pm_endLine 35 = .ok (.invokevirtual 230, 3) := by decide +kernel
theorem d_Pm_endLine_38 : decode b_Pm_endLine 38 = .ok (.return_, 1) := by decide +kernel
theorem d_Pm_need_0 : decode b_Pm_need 0 = .ok (.iload_n 0, 1) := by decide +kernel
theorem d_Pm_need_1 : decode b_Pm_need 1 = .ok (.ifCond .ne 11, 3) := by decide +kernel
theorem d_Pm_need_4 : decode b_Pm_need 4 = .ok (.new 233, 3) := by decide +kernel
theorem d_Pm_need_7 : decode b_Pm_need 7 = .ok (.dup, 1) := by decide +kernel
theorem d_Pm_need_8 : decode b_Pm_need 8 = .ok (.invokespecial 235, 3) := by decide +kernel
theorem d_Pm_need_11 : decode b_Pm_need 11 = .ok (.athrow, 1) := by decide +kernel
theorem d_Pm_need_12 : decode b_Pm_need 12 = .ok (.return_, 1) := by decide +kernel
theorem d_Pm_isMemory_0 : decode b_Pm_isMemory 0 = .ok (.iload_n 0, 1) := by decide +kernel
theorem d_Pm_isMemory_1 : decode b_Pm_isMemory 1 = .ok (.ifCond .lt 14, 3) := by decide +kernel
theorem d_Pm_isMemory_4 : decode b_Pm_isMemory 4 = .ok (.iload_n 0, 1) := by decide +kernel
theorem d_Pm_isMemory_5 : decode b_Pm_isMemory 5 = .ok (.sipush 768, 3) := by decide +kernel
theorem d_Pm_isMemory_8 : decode b_Pm_isMemory 8 = .ok (.if_icmp .ge 7, 3) := by decide +kernel
theorem d_Pm_isMemory_11 : decode b_Pm_isMemory 11 = .ok (.iconst 1, 1) := by decide +kernel
theorem d_Pm_isMemory_12 : decode b_Pm_isMemory 12 = .ok (.goto 4, 3) := by decide +kernel
theorem d_Pm_isMemory_15 : decode b_Pm_isMemory 15 = .ok (.iconst 0, 1) := by decide +kernel
theorem d_Pm_isMemory_16 : decode b_Pm_isMemory 16 = .ok (.ireturn, 1) := by decide +kernel
theorem d_Pm_isByte_0 : decode b_Pm_isByte 0 = .ok (.iload_n 0, 1) := by decide +kernel
theorem d_Pm_isByte_1 : decode b_Pm_isByte 1 = .ok (.ifCond .lt 14, 3) := by decide +kernel
theorem d_Pm_isByte_4 : decode b_Pm_isByte 4 = .ok (.iload_n 0, 1) := by decide +kernel
theorem d_Pm_isByte_5 : decode b_Pm_isByte 5 = .ok (.sipush 255, 3) := by decide +kernel
theorem d_Pm_isByte_8 : decode b_Pm_isByte 8 = .ok (.if_icmp .gt 7, 3) := by decide +kernel
theorem d_Pm_isByte_11 : decode b_Pm_isByte 11 = .ok (.iconst 1, 1) := by decide +kernel
theorem d_Pm_isByte_12 : decode b_Pm_isByte 12 = .ok (.goto 4, 3) := by decide +kernel
theorem d_Pm_isByte_15 : decode b_Pm_isByte 15 = .ok (.iconst 0, 1) := by decide +kernel
theorem d_Pm_isByte_16 : decode b_Pm_isByte 16 = .ok (.ireturn, 1) := by decide +kernel
theorem d_Pm_isPlaceOnDisk_0 : decode b_Pm_isPlaceOnDisk 0 = .ok (.iload_n 0, 1) := by decide +kernel
theorem d_Pm_isPlaceOnDisk_1 : decode b_Pm_isPlaceOnDisk 1 = .ok (.iconst 1, 1) := by decide +kernel
theorem d_Pm_isPlaceOnDisk_2 : decode b_Pm_isPlaceOnDisk 2 = .ok (.if_icmp .lt 23, 3) := by decide +kernel
theorem d_Pm_isPlaceOnDisk_5 : decode b_Pm_isPlaceOnDisk 5 = .ok (.iload_n 0, 1) := by decide +kernel
theorem d_Pm_isPlaceOnDisk_6 : decode b_Pm_isPlaceOnDisk 6 = .ok (.bipush 8, 2) := by decide +kernel
theorem d_Pm_isPlaceOnDisk_8 : decode b_Pm_isPlaceOnDisk 8 = .ok (.if_icmp .gt 17, 3) := by decide +kernel
theorem d_Pm_isPlaceOnDisk_11 : decode b_Pm_isPlaceOnDisk 11 = .ok (.iload_n 1, 1) := by decide +kernel
theorem d_Pm_isPlaceOnDisk_12 : decode b_Pm_isPlaceOnDisk 12 = .ok (.ifCond .lt 13, 3) := by decide +kernel
theorem d_Pm_isPlaceOnDisk_15 : decode b_Pm_isPlaceOnDisk 15 = .ok (.iload_n 1, 1) := by decide +kernel
theorem d_Pm_isPlaceOnDisk_16 : decode b_Pm_isPlaceOnDisk 16 = .ok (.bipush 8, 2) := by decide +kernel
theorem d_Pm_isPlaceOnDisk_18 : decode b_Pm_isPlaceOnDisk 18 = .ok (.if_icmp .ge 7, 3) := by decide +kernel
theorem d_Pm_isPlaceOnDisk_21 : decode b_Pm_isPlaceOnDisk 21 = .ok (.iconst 1, 1) := by decide +kernel
theorem d_Pm_isPlaceOnDisk_22 : decode b_Pm_isPlaceOnDisk 22 = .ok (.goto 4, 3) := by decide +kernel
theorem d_Pm_isPlaceOnDisk_25 : decode b_Pm_isPlaceOnDisk 25 = .ok (.iconst 0, 1) := by decide +kernel
theorem d_Pm_isPlaceOnDisk_26 : decode b_Pm_isPlaceOnDisk 26 = .ok (.ireturn, 1) := by decide +kernel
theorem d_Pm_isShownLine_0 : decode b_Pm_isShownLine 0 = .ok (.iload_n 0, 1) := by decide +kernel
theorem d_Pm_isShownLine_1 : decode b_Pm_isShownLine 1 = .ok (.iconst 1, 1) := by decide +kernel
theorem d_Pm_isShownLine_2 : decode b_Pm_isShownLine 2 = .ok (.if_icmp .lt 13, 3) := by decide +kernel
theorem d_Pm_isShownLine_5 : decode b_Pm_isShownLine 5 = .ok (.iload_n 0, 1) := by decide +kernel
theorem d_Pm_isShownLine_6 : decode b_Pm_isShownLine 6 = .ok (.bipush 12, 2) := by decide +kernel
theorem d_Pm_isShownLine_8 : decode b_Pm_isShownLine 8 = .ok (.if_icmp .gt 7, 3) := by decide +kernel
theorem d_Pm_isShownLine_11 : decode b_Pm_isShownLine 11 = .ok (.iconst 1, 1) := by decide +kernel
theorem d_Pm_isShownLine_12 : decode b_Pm_isShownLine 12 = .ok (.goto 4, 3) := by decide +kernel
theorem d_Pm_isShownLine_15 : decode b_Pm_isShownLine 15 = .ok (.iconst 0, 1) := by decide +kernel
theorem d_Pm_isShownLine_16 : decode b_Pm_isShownLine 16 = .ok (.ireturn, 1) := by decide +kernel
theorem d_Pm_bit_0 : decode b_Pm_bit 0 = .ok (.iload_n 0, 1) := by decide +kernel
theorem d_Pm_bit_1 : decode b_Pm_bit 1 = .ok (.ifCond .eq 7, 3) := by decide +kernel
theorem d_Pm_bit_4 : decode b_Pm_bit 4 = .ok (.iconst 1, 1) := by decide +kernel
theorem d_Pm_bit_5 : decode b_Pm_bit 5 = .ok (.goto 4, 3) := by decide +kernel
theorem d_Pm_bit_8 : decode b_Pm_bit 8 = .ok (.iconst 0, 1) := by decide +kernel
theorem d_Pm_bit_9 : decode b_Pm_bit 9 = .ok (.ireturn, 1) := by decide +kernel
theorem d_Bd_init_0 : decode b_Bd_init 0 = .ok (.aload_n 0, 1) := by decide +kernel
theorem d_Bd_init_1 : decode b_Bd_init 1 = .ok (.invokespecial 3, 3) := by decide +kernel
theorem d_Bd_init_4 : decode b_Bd_init 4 = .ok (.aload_n 0, 1) := by decide +kernel
theorem d_Bd_init_5 : decode b_Bd_init 5 = .ok (.new 9, 3) := by decide +kernel
theorem d_Bd_init_8 : decode b_Bd_init 8 = .ok (.dup, 1) := by decide +kernel
theorem d_Bd_init_9 : decode b_Bd_init 9 = .ok (.invokespecial 11, 3) := by decide +kernel
theorem d_Bd_init_12 : decode b_Bd_init 12 = .ok (.putfield 12, 3) := by decide +kernel
theorem d_Bd_init_15 : decode b_Bd_init 15 = .ok (.aload_n 0, 1) := by decide +kernel
theorem d_Bd_init_16 : decode b_Bd_init 16 = .ok (.new 18, 3) := by decide +kernel
theorem d_Bd_init_19 : decode b_Bd_init 19 = .ok (.dup, 1) := by decide +kernel
theorem d_Bd_init_20 : decode b_Bd_init 20 = .ok (.invokespecial 20, 3) := by decide +kernel
theorem d_Bd_init_23 : decode b_Bd_init 23 = .ok (.putfield 21, 3) := by decide +kernel
theorem d_Bd_init_26 : decode b_Bd_init 26 = .ok (.aload_n 0, 1) := by decide +kernel
theorem d_Bd_init_27 : decode b_Bd_init 27 = .ok (.new 25, 3) := by decide +kernel
theorem d_Bd_init_30 : decode b_Bd_init 30 = .ok (.dup, 1) := by decide +kernel
theorem d_Bd_init_31 : decode b_Bd_init 31 = .ok (.invokespecial 27, 3) := by decide +kernel
theorem d_Bd_init_34 : decode b_Bd_init 34 = .ok (.putfield 28, 3) := by decide +kernel
theorem d_Bd_init_37 : decode b_Bd_init 37 = .ok (.aload_n 0, 1) := by decide +kernel
theorem d_Bd_init_38 : decode b_Bd_init 38 = .ok (.bipush 32, 2) := by decide +kernel
theorem d_Bd_init_40 : decode b_Bd_init 40 = .ok (.newarray .int, 2) := by decide +kernel
theorem d_Bd_init_42 : decode b_Bd_init 42 = .ok (.putfield 32, 3) := by decide +kernel
theorem d_Bd_init_45 : decode b_Bd_init 45 = .ok (.aload_n 0, 1) := by decide +kernel
theorem d_Bd_init_46 : decode b_Bd_init 46 = .ok (.new 36, 3) := by decide +kernel
theorem d_Bd_init_49 : decode b_Bd_init 49 = .ok (.dup, 1) := by decide +kernel
theorem d_Bd_init_50 : decode b_Bd_init 50 = .ok (.invokespecial 38, 3) := by decide +kernel
theorem d_Bd_init_53 : decode b_Bd_init 53 = .ok (.putfield 39, 3) := by decide +kernel
theorem d_Bd_init_56 : decode b_Bd_init 56 = .ok (.aload_n 0, 1) := by decide +kernel
theorem d_Bd_init_57 : decode b_Bd_init 57 = .ok (.new 43, 3) := by decide +kernel
theorem d_Bd_init_60 : decode b_Bd_init 60 = .ok (.dup, 1) := by decide +kernel
theorem d_Bd_init_61 : decode b_Bd_init 61 = .ok (.aload_n 0, 1) := by decide +kernel
theorem d_Bd_init_62 : decode b_Bd_init 62 = .ok (.getfield 32, 3) := by decide +kernel
theorem d_Bd_init_65 : decode b_Bd_init 65 = .ok (.invokespecial 45, 3) := by decide +kernel
theorem d_Bd_init_68 : decode b_Bd_init 68 = .ok (.putfield 48, 3) := by decide +kernel
theorem d_Bd_init_71 : decode b_Bd_init 71 = .ok (.aload_n 0, 1) := by decide +kernel
theorem d_Bd_init_72 : decode b_Bd_init 72 = .ok (.new 52, 3) := by decide +kernel
theorem d_Bd_init_75 : decode b_Bd_init 75 = .ok (.dup, 1) := by decide +kernel
theorem d_Bd_init_76 : decode b_Bd_init 76 = .ok (.aload_n 0, 1) := by decide +kernel
theorem d_Bd_init_77 : decode b_Bd_init 77 = .ok (.getfield 28, 3) := by decide +kernel
theorem d_Bd_init_80 : decode b_Bd_init 80 = .ok (.aload_n 0, 1) := by decide +kernel
theorem d_Bd_init_81 : decode b_Bd_init 81 = .ok (.getfield 32, 3) := by decide +kernel
theorem d_Bd_init_84 : decode b_Bd_init 84 = .ok (.aload_n 0, 1) := by decide +kernel
theorem d_Bd_init_85 : decode b_Bd_init 85 = .ok (.getfield 21, 3) := by decide +kernel
theorem d_Bd_init_88 : decode b_Bd_init 88 = .ok (.invokespecial 54, 3) := by decide +kernel
theorem d_Bd_init_91 : decode b_Bd_init 91 = .ok (.putfield 57, 3) := by decide +kernel
theorem d_Bd_init_94 : decode b_Bd_init 94 = .ok (.aload_n 0, 1) := by decide +kernel
theorem d_Bd_init_95 : decode b_Bd_init 95 = .ok (.new 61, 3) := by decide +kernel
theorem d_Bd_init_98 : decode b_Bd_init 98 = .ok (.dup, 1) := by decide +kernel
theorem d_Bd_init_99 : decode b_Bd_init 99 = .ok (.aload_n 0, 1) := by decide +kernel
theorem d_Bd_init_100 : decode b_Bd_init 100 = .ok (.getfield 57, 3) := by decide +kernel
theorem d_Bd_init_103 : decode b_Bd_init 103 = .ok (.aload_n 0, 1) := by decide +kernel
theorem d_Bd_init_104 : decode b_Bd_init 104 = .ok (.getfield 32, 3) := by decide +kernel
theorem d_Bd_init_107 : decode b_Bd_init 107 = .ok (.invokespecial 63, 3) := by decide +kernel
theorem d_Bd_init_110 : decode b_Bd_init 110 = .ok (.putfield 66, 3) := by decide +kernel
theorem d_Bd_init_113 : decode b_Bd_init 113 = .ok (.return_, 1) := by decide +kernel
theorem d_Bd_load_0 : decode b_Bd_load 0 = .ok (.iload_n 1, 1) := by decide +kernel
theorem d_Bd_load_1 : decode b_Bd_load 1 = .ok (.sipush 1023, 3) := by decide +kernel
theorem d_Bd_load_4 : decode b_Bd_load 4 = .ok (.iand, 1) := by decide +kernel
theorem d_Bd_load_5 : decode b_Bd_load 5 = .ok (.istore_n 2, 1) := by decide +kernel
theorem d_Bd_load_6 : decode b_Bd_load 6 = .ok (.iload_n 2, 1) := by decide +kernel
theorem d_Bd_load_7 : decode b_Bd_load 7 = .ok (.sipush 768, 3) := by decide +kernel
theorem d_Bd_load_10 : decode b_Bd_load 10 = .ok (.if_icmp .ge 13, 3) := by decide +kernel
theorem d_Bd_load_13 : decode b_Bd_load 13 = .ok (.aload_n 0, 1) := by decide +kernel
theorem d_Bd_load_14 : decode b_Bd_load 14 = .ok (.getfield 28, 3) := by decide +kernel
theorem d_Bd_load_17 : decode b_Bd_load 17 = .ok (.getfield 70, 3) := by decide +kernel
theorem d_Bd_load_20 : decode b_Bd_load 20 = .ok (.iload_n 2, 1) := by decide +kernel
theorem d_Bd_load_21 : decode b_Bd_load 21 = .ok (.iaload, 1) := by decide +kernel
theorem d_Bd_load_22 : decode b_Bd_load 22 = .ok (.ireturn, 1) := by decide +kernel
theorem d_Bd_load_23 : decode b_Bd_load 23 = .ok (.iload_n 2, 1) := by decide +kernel
theorem d_Bd_load_24 : decode b_Bd_load 24 = .ok (.sipush 768, 3) := by decide +kernel
theorem d_Bd_load_27 : decode b_Bd_load 27 = .ok (.isub, 1) := by decide +kernel
theorem d_Bd_load_28 : decode b_Bd_load 28 = .ok (.tableswitch 167 0 9 #[56, 66, 76, 88, 100, 113, 127, 137, 147, 160], 56) := by decide +kernel
theorem d_Bd_load_84 : decode b_Bd_load 84 = .ok (.aload_n 0, 1) := by decide +kernel
theorem d_Bd_load_85 : decode b_Bd_load 85 = .ok (.getfield 12, 3) := by decide +kernel
theorem d_Bd_load_88 : decode b_Bd_load 88 = .ok (.getfield 73, 3) := by decide +kernel
theorem d_Bd_load_91 : decode b_Bd_load 91 = .ok (.goto 107, 3) := by decide +kernel
theorem d_Bd_load_94 : decode b_Bd_load 94 = .ok (.aload_n 0, 1) := by decide +kernel
theorem d_Bd_load_95 : decode b_Bd_load 95 = .ok (.getfield 57, 3) := by decide +kernel
theorem d_Bd_load_98 : decode b_Bd_load 98 = .ok (.getfield 77, 3) := by decide +kernel
theorem d_Bd_load_101 : decode b_Bd_load 101 = .ok (.goto 97, 3) := by decide +kernel
theorem d_Bd_load_104 : decode b_Bd_load 104 = .ok (.aload_n 0, 1) := by decide +kernel
theorem d_Bd_load_105 : decode b_Bd_load 105 = .ok (.getfield 66, 3) := by decide +kernel
theorem d_Bd_load_108 : decode b_Bd_load 108 = .ok (.getfield 80, 3) := by decide +kernel
theorem d_Bd_load_111 : decode b_Bd_load 111 = .ok (.iconst 0, 1) := by decide +kernel
theorem d_Bd_load_112 : decode b_Bd_load 112 = .ok (.iaload, 1) := by decide +kernel
theorem d_Bd_load_113 : decode b_Bd_load 113 = .ok (.goto 85, 3) := by decide +kernel
theorem d_Bd_load_116 : decode b_Bd_load 116 = .ok (.aload_n 0, 1) := by decide +kernel
theorem d_Bd_load_117 : decode b_Bd_load 117 = .ok (.getfield 66, 3) := by decide +kernel
theorem d_Bd_load_120 : decode b_Bd_load 120 = .ok (.getfield 80, 3) := by decide +kernel
theorem d_Bd_load_123 : decode b_Bd_load 123 = .ok (.iconst 1, 1) := by decide +kernel
theorem d_Bd_load_124 : decode b_Bd_load 124 = .ok (.iaload, 1) := by decide +kernel
theorem d_Bd_load_125 : decode b_Bd_load 125 = .ok (.goto 73, 3) := by decide +kernel
theorem d_Bd_load_128 : decode b_Bd_load 128 = .ok (.aload_n 0, 1) := by decide +kernel
theorem d_Bd_load_129 : decode b_Bd_load 129 = .ok (.getfield 66, 3) := by decide +kernel
theorem d_Bd_load_132 : decode b_Bd_load 132 = .ok (.getfield 83, 3) := by decide +kernel
theorem d_Bd_load_135 : decode b_Bd_load 135 = .ok (.invokestatic 87, 3) := by decide +kernel
theorem d_Bd_load_138 : decode b_Bd_load 138 = .ok (.goto 60, 3) := by decide +kernel
theorem d_Bd_load_141 : decode b_Bd_load 141 = .ok (.aload_n 0, 1) := by decide +kernel
theorem d_Bd_load_142 : decode b_Bd_load 142 = .ok (.getfield 48, 3) := by decide +kernel
theorem d_Bd_load_145 : decode b_Bd_load 145 = .ok (.getfield 91, 3) := by decide +kernel
theorem d_Bd_load_148 : decode b_Bd_load 148 = .ok (.sipush 255, 3) := by decide +kernel
theorem d_Bd_load_151 : decode b_Bd_load 151 = .ok (.iand, 1) := by decide +kernel
theorem d_Bd_load_152 : decode b_Bd_load 152 = .ok (.goto 46, 3) := by decide +kernel
theorem d_Bd_load_155 : decode b_Bd_load 155 = .ok (.aload_n 0, 1) := by decide +kernel
theorem d_Bd_load_156 : decode b_Bd_load 156 = .ok (.getfield 48, 3) := by decide +kernel
theorem d_Bd_load_159 : decode b_Bd_load 159 = .ok (.invokevirtual 94, 3) := by decide +kernel
theorem d_Bd_load_162 : decode b_Bd_load 162 = .ok (.goto 36, 3) := by decide +kernel
theorem d_Bd_load_165 : decode b_Bd_load 165 = .ok (.aload_n 0, 1) := by decide +kernel
theorem d_Bd_load_166 : decode b_Bd_load 166 = .ok (.getfield 39, 3) := by decide +kernel
theorem d_Bd_load_169 : decode b_Bd_load 169 = .ok (.invokevirtual 98, 3) := by decide +kernel
theorem d_Bd_load_172 : decode b_Bd_load 172 = .ok (.goto 26, 3) := by decide +kernel
theorem d_Bd_load_175 : decode b_Bd_load 175 = .ok (.aload_n 0, 1) := by decide +kernel
theorem d_Bd_load_176 : decode b_Bd_load 176 = .ok (.getfield 39, 3) := by decide +kernel
theorem d_Bd_load_179 : decode b_Bd_load 179 = .ok (.getfield 101, 3) := by decide +kernel
theorem d_Bd_load_182 : decode b_Bd_load 182 = .ok (.invokestatic 87, 3) := by decide +kernel
theorem d_Bd_load_185 : decode b_Bd_load 185 = .ok (.goto 13, 3) := by decide +kernel
theorem d_Bd_load_188 : decode b_Bd_load 188 = .ok (.aload_n 0, 1) := by decide +kernel
theorem d_Bd_load_189 : decode b_Bd_load 189 = .ok (.getfield 104, 3) := by decide +kernel
theorem d_Bd_load_192 : decode b_Bd_load 192 = .ok (.goto 6, 3) := by decide +kernel
theorem d_Bd_load_195 : decode b_Bd_load 195 = .ok (.sipush 255, 3) := by decide +kernel
theorem d_Bd_load_198 : decode b_Bd_load 198 = .ok (.ireturn, 1) := by decide +kernel
theorem d_Bd_store_0 : decode b_Bd_store 0 = .ok (.iload_n 1, 1) := by decide +kernel
theorem d_Bd_store_1 : decode b_Bd_store 1 = .ok (.sipush 1023, 3) := by decide +kernel
theorem d_Bd_store_4 : decode b_Bd_store 4 = .ok (.iand, 1) := by decide +kernel
theorem d_Bd_store_5 : decode b_Bd_store 5 = .ok (.istore_n 3, 1) := by decide +kernel
theorem d_Bd_store_6 : decode b_Bd_store 6 = .ok (.iload_n 3, 1) := by decide +kernel
theorem d_Bd_store_7 : decode b_Bd_store 7 = .ok (.sipush 768, 3) := by decide +kernel
theorem d_Bd_store_10 : decode b_Bd_store 10 = .ok (.if_icmp .ge 14, 3) := by decide +kernel
theorem d_Bd_store_13 : decode b_Bd_store 13 = .ok (.aload_n 0, 1) := by decide +kernel
theorem d_Bd_store_14 : decode b_Bd_store 14 = .ok (.getfield 28, 3) := by decide +kernel
theorem d_Bd_store_17 : decode b_Bd_store 17 = .ok (.getfield 70, 3) := by decide +kernel
theorem d_Bd_store_20 : decode b_Bd_store 20 = .ok (.iload_n 3, 1) := by decide +kernel
theorem d_Bd_store_21 : decode b_Bd_store 21 = .ok (.iload_n 2, 1) := by decide +kernel
theorem d_Bd_store_22 : decode b_Bd_store 22 = .ok (.iastore, 1) := by decide +kernel
theorem d_Bd_store_23 : decode b_Bd_store 23 = .ok (.return_, 1) := by decide +kernel
theorem d_Bd_store_24 : decode b_Bd_store 24 = .ok (.iload_n 3, 1) := by decide +kernel
theorem d_Bd_store_25 : decode b_Bd_store 25 = .ok (.sipush 768, 3) := by decide +kernel
theorem d_Bd_store_28 : decode b_Bd_store 28 = .ok (.isub, 1) := by decide +kernel
theorem d_Bd_store_29 : decode b_Bd_store 29 = .ok (.istore 4, 2) := by decide +kernel
theorem d_Bd_store_31 : decode b_Bd_store 31 = .ok (.iload 4, 2) := by decide +kernel
theorem d_Bd_store_33 : decode b_Bd_store 33 = .ok (.bipush 32, 2) := by decide +kernel
theorem d_Bd_store_35 : decode b_Bd_store 35 = .ok (.if_icmp .lt 4, 3) := by decide +kernel
theorem d_Bd_store_38 : decode b_Bd_store 38 = .ok (.return_, 1) := by decide +kernel
theorem d_Bd_store_39 : decode b_Bd_store 39 = .ok (.aload_n 0, 1) := by decide +kernel
theorem d_Bd_store_40 : decode b_Bd_store 40 = .ok (.getfield 32, 3) := by decide +kernel
theorem d_Bd_store_43 : decode b_Bd_store 43 = .ok (.iload 4, 2) := by decide +kernel
theorem d_Bd_store_45 : decode b_Bd_store 45 = .ok (.iload_n 2, 1) := by decide +kernel
theorem d_Bd_store_46 : decode b_Bd_store 46 = .ok (.iastore, 1) := by decide +kernel
theorem d_Bd_store_47 : decode b_Bd_store 47 = .ok (.iload 4, 2) := by decide +kernel
theorem d_Bd_store_49 : decode b_Bd_store 49 = .ok (.lookupswitch 104 #[(5, 51), (7, 62), (18, 73), (22, 83), (23, 93)], 51) := by decide +kernel
theorem d_Bd_store_100 : decode b_Bd_store 100 = .ok (.aload_n 0, 1) := by decide +kernel
theorem d_Bd_store_101 : decode b_Bd_store 101 = .ok (.getfield 21, 3) := by decide +kernel
theorem d_Bd_store_104 : decode b_Bd_store 104 = .ok (.iconst 1, 1) := by decide +kernel
theorem d_Bd_store_105 : decode b_Bd_store 105 = .ok (.putfield 107, 3) := by decide +kernel
theorem d_Bd_store_108 : decode b_Bd_store 108 = .ok (.goto 45, 3) := by decide +kernel
theorem d_Bd_store_111 : decode b_Bd_store 111 = .ok (.aload_n 0, 1) := by decide +kernel
theorem d_Bd_store_112 : decode b_Bd_store 112 = .ok (.getfield 57, 3) := by decide +kernel
theorem d_Bd_store_115 : decode b_Bd_store 115 = .ok (.iconst 0, 1) := by decide +kernel
theorem d_Bd_store_116 : decode b_Bd_store 116 = .ok (.putfield 77, 3) := by decide +kernel
theorem d_Bd_store_119 : decode b_Bd_store 119 = .ok (.goto 34, 3) := by decide +kernel
theorem d_Bd_store_122 : decode b_Bd_store 122 = .ok (.aload_n 0, 1) := by decide +kernel
theorem d_Bd_store_123 : decode b_Bd_store 123 = .ok (.getfield 66, 3) := by decide +kernel
theorem d_Bd_store_126 : decode b_Bd_store 126 = .ok (.invokevirtual 110, 3) := by decide +kernel
theorem d_Bd_store_129 : decode b_Bd_store 129 = .ok (.goto 24, 3) := by decide +kernel
theorem d_Bd_store_132 : decode b_Bd_store 132 = .ok (.aload_n 0, 1) := by decide +kernel
theorem d_Bd_store_133 : decode b_Bd_store 133 = .ok (.getfield 48, 3) := by decide +kernel
theorem d_Bd_store_136 : decode b_Bd_store 136 = .ok (.invokevirtual 113, 3) := by decide +kernel
theorem d_Bd_store_139 : decode b_Bd_store 139 = .ok (.goto 14, 3) := by decide +kernel
theorem d_Bd_store_142 : decode b_Bd_store 142 = .ok (.aload_n 0, 1) := by decide +kernel
theorem d_Bd_store_143 : decode b_Bd_store 143 = .ok (.getfield 39, 3) := by decide +kernel
theorem d_Bd_store_146 : decode b_Bd_store 146 = .ok (.iload_n 2, 1) := by decide +kernel
theorem d_Bd_store_147 : decode b_Bd_store 147 = .ok (.invokevirtual 116, 3) := by decide +kernel
theorem d_Bd_store_150 : decode b_Bd_store 150 = .ok (.goto 3, 3) := by decide +kernel
theorem d_Bd_store_153 : decode b_Bd_store 153 = .ok (.return_, 1) := by decide +kernel
theorem d_Ck_init_0 : decode b_Ck_init 0 = .ok (.aload_n 0, 1) := by decide +kernel
theorem d_Ck_init_1 : decode b_Ck_init 1 = .ok (.invokespecial 3, 3) := by decide +kernel
theorem d_Ck_init_4 : decode b_Ck_init 4 = .ok (.return_, 1) := by decide +kernel
theorem d_Ck_moveOn_0 : decode b_Ck_moveOn 0 = .ok (.aload_n 0, 1) := by decide +kernel
theorem d_Ck_moveOn_1 : decode b_Ck_moveOn 1 = .ok (.dup, 1) := by decide +kernel
theorem d_Ck_moveOn_2 : decode b_Ck_moveOn 2 = .ok (.getfield 9, 3) := by decide +kernel
theorem d_Ck_moveOn_5 : decode b_Ck_moveOn 5 = .ok (.iconst 1, 1) := by decide +kernel
theorem d_Ck_moveOn_6 : decode b_Ck_moveOn 6 = .ok (.iadd, 1) := by decide +kernel
theorem d_Ck_moveOn_7 : decode b_Ck_moveOn 7 = .ok (.putfield 9, 3) := by decide +kernel
theorem d_Ck_moveOn_10 : decode b_Ck_moveOn 10 = .ok (.aload_n 0, 1) := by decide +kernel
theorem d_Ck_moveOn_11 : decode b_Ck_moveOn 11 = .ok (.getfield 9, 3) := by decide +kernel
theorem d_Ck_moveOn_14 : decode b_Ck_moveOn 14 = .ok (.bipush 24, 2) := by decide +kernel
theorem d_Ck_moveOn_16 : decode b_Ck_moveOn 16 = .ok (.if_icmp .ne 18, 3) := by decide +kernel
theorem d_Ck_moveOn_19 : decode b_Ck_moveOn 19 = .ok (.aload_n 0, 1) := by decide +kernel
theorem d_Ck_moveOn_20 : decode b_Ck_moveOn 20 = .ok (.iconst 0, 1) := by decide +kernel
theorem d_Ck_moveOn_21 : decode b_Ck_moveOn 21 = .ok (.putfield 9, 3) := by decide +kernel
theorem d_Ck_moveOn_24 : decode b_Ck_moveOn 24 = .ok (.aload_n 0, 1) := by decide +kernel
theorem d_Ck_moveOn_25 : decode b_Ck_moveOn 25 = .ok (.dup, 1) := by decide +kernel
theorem d_Ck_moveOn_26 : decode b_Ck_moveOn 26 = .ok (.getfield 15, 3) := by decide +kernel
theorem d_Ck_moveOn_29 : decode b_Ck_moveOn 29 = .ok (.iconst 1, 1) := by decide +kernel
theorem d_Ck_moveOn_30 : decode b_Ck_moveOn 30 = .ok (.iadd, 1) := by decide +kernel
theorem d_Ck_moveOn_31 : decode b_Ck_moveOn 31 = .ok (.putfield 15, 3) := by decide +kernel
theorem d_Ck_moveOn_34 : decode b_Ck_moveOn 34 = .ok (.aload_n 0, 1) := by decide +kernel
theorem d_Ck_moveOn_35 : decode b_Ck_moveOn 35 = .ok (.getfield 15, 3) := by decide +kernel
theorem d_Ck_moveOn_38 : decode b_Ck_moveOn 38 = .ok (.bipush 16, 2) := by decide +kernel
theorem d_Ck_moveOn_40 : decode b_Ck_moveOn 40 = .ok (.if_icmp .ne 18, 3) := by decide +kernel
theorem d_Ck_moveOn_43 : decode b_Ck_moveOn 43 = .ok (.aload_n 0, 1) := by decide +kernel
theorem d_Ck_moveOn_44 : decode b_Ck_moveOn 44 = .ok (.iconst 0, 1) := by decide +kernel
theorem d_Ck_moveOn_45 : decode b_Ck_moveOn 45 = .ok (.putfield 15, 3) := by decide +kernel
theorem d_Ck_moveOn_48 : decode b_Ck_moveOn 48 = .ok (.aload_n 0, 1) := by decide +kernel
theorem d_Ck_moveOn_49 : decode b_Ck_moveOn 49 = .ok (.dup, 1) := by decide +kernel
theorem d_Ck_moveOn_50 : decode b_Ck_moveOn 50 = .ok (.getfield 18, 3) := by decide +kernel
theorem d_Ck_moveOn_53 : decode b_Ck_moveOn 53 = .ok (.iconst 1, 1) := by decide +kernel
theorem d_Ck_moveOn_54 : decode b_Ck_moveOn 54 = .ok (.iadd, 1) := by decide +kernel
theorem d_Ck_moveOn_55 : decode b_Ck_moveOn 55 = .ok (.putfield 18, 3) := by decide +kernel
theorem d_Ck_moveOn_58 : decode b_Ck_moveOn 58 = .ok (.return_, 1) := by decide +kernel
theorem d_Wi_init_0 : decode b_Wi_init 0 = .ok (.aload_n 0, 1) := by decide +kernel
theorem d_Wi_init_1 : decode b_Wi_init 1 = .ok (.invokespecial 1, 3) := by decide +kernel
theorem d_Wi_init_4 : decode b_Wi_init 4 = .ok (.return_, 1) := by decide +kernel
theorem d_Me_init_0 : decode b_Me_init 0 = .ok (.aload_n 0, 1) := by decide +kernel
theorem d_Me_init_1 : decode b_Me_init 1 = .ok (.invokespecial 3, 3) := by decide +kernel
theorem d_Me_init_4 : decode b_Me_init 4 = .ok (.aload_n 0, 1) := by decide +kernel
theorem d_Me_init_5 : decode b_Me_init 5 = .ok (.sipush 768, 3) := by decide +kernel
theorem d_Me_init_8 : decode b_Me_init 8 = .ok (.newarray .int, 2) := by decide +kernel
theorem d_Me_init_10 : decode b_Me_init 10 = .ok (.putfield 9, 3) := by decide +kernel
theorem d_Me_init_13 : decode b_Me_init 13 = .ok (.return_, 1) := by decide +kernel
theorem d_Me_at_0 : decode b_Me_at 0 = .ok (.iload_n 1, 1) := by decide +kernel
theorem d_Me_at_1 : decode b_Me_at 1 = .ok (.sipush 1023, 3) := by decide +kernel
theorem d_Me_at_4 : decode b_Me_at 4 = .ok (.iand, 1) := by decide +kernel
theorem d_Me_at_5 : decode b_Me_at 5 = .ok (.istore_n 2, 1) := by decide +kernel
theorem d_Me_at_6 : decode b_Me_at 6 = .ok (.iload_n 2, 1) := by decide +kernel
theorem d_Me_at_7 : decode b_Me_at 7 = .ok (.sipush 768, 3) := by decide +kernel
theorem d_Me_at_10 : decode b_Me_at 10 = .ok (.if_icmp .ge 12, 3) := by decide +kernel
theorem d_Me_at_13 : decode b_Me_at 13 = .ok (.aload_n 0, 1) := by decide +kernel
theorem d_Me_at_14 : decode b_Me_at 14 = .ok (.getfield 9, 3) := by decide +kernel
theorem d_Me_at_17 : decode b_Me_at 17 = .ok (.iload_n 2, 1) := by decide +kernel
theorem d_Me_at_18 : decode b_Me_at 18 = .ok (.iaload, 1) := by decide +kernel
theorem d_Me_at_19 : decode b_Me_at 19 = .ok (.goto 6, 3) := by decide +kernel
theorem d_Me_at_22 : decode b_Me_at 22 = .ok (.sipush 255, 3) := by decide +kernel
theorem d_Me_at_25 : decode b_Me_at 25 = .ok (.ireturn, 1) := by decide +kernel
theorem d_Me_put_0 : decode b_Me_put 0 = .ok (.iload_n 1, 1) := by decide +kernel
theorem d_Me_put_1 : decode b_Me_put 1 = .ok (.sipush 1023, 3) := by decide +kernel
theorem d_Me_put_4 : decode b_Me_put 4 = .ok (.iand, 1) := by decide +kernel
theorem d_Me_put_5 : decode b_Me_put 5 = .ok (.istore_n 3, 1) := by decide +kernel
theorem d_Me_put_6 : decode b_Me_put 6 = .ok (.iload_n 3, 1) := by decide +kernel
theorem d_Me_put_7 : decode b_Me_put 7 = .ok (.sipush 768, 3) := by decide +kernel
theorem d_Me_put_10 : decode b_Me_put 10 = .ok (.if_icmp .ge 10, 3) := by decide +kernel
theorem d_Me_put_13 : decode b_Me_put 13 = .ok (.aload_n 0, 1) := by decide +kernel
theorem d_Me_put_14 : decode b_Me_put 14 = .ok (.getfield 9, 3) := by decide +kernel
theorem d_Me_put_17 : decode b_Me_put 17 = .ok (.iload_n 3, 1) := by decide +kernel
theorem d_Me_put_18 : decode b_Me_put 18 = .ok (.iload_n 2, 1) := by decide +kernel
theorem d_Me_put_19 : decode b_Me_put 19 = .ok (.iastore, 1) := by decide +kernel
theorem d_Me_put_20 : decode b_Me_put 20 = .ok (.return_, 1) := by decide +kernel
theorem d_Ch_init_0 : decode b_Ch_init 0 = .ok (.aload_n 0, 1) := by decide +kernel
theorem d_Ch_init_1 : decode b_Ch_init 1 = .ok (.invokespecial 3, 3) := by decide +kernel
theorem d_Ch_init_4 : decode b_Ch_init 4 = .ok (.aload_n 0, 1) := by decide +kernel
theorem d_Ch_init_5 : decode b_Ch_init 5 = .ok (.sipush 511, 3) := by decide +kernel
theorem d_Ch_init_8 : decode b_Ch_init 8 = .ok (.putfield 9, 3) := by decide +kernel
theorem d_Ch_init_11 : decode b_Ch_init 11 = .ok (.aload_n 0, 1) := by decide +kernel
theorem d_Ch_init_12 : decode b_Ch_init 12 = .ok (.aload_n 1, 1) := by decide +kernel
theorem d_Ch_init_13 : decode b_Ch_init 13 = .ok (.putfield 15, 3) := by decide +kernel
theorem d_Ch_init_16 : decode b_Ch_init 16 = .ok (.return_, 1) := by decide +kernel
theorem d_Ch_passCycle_0 : decode b_Ch_passCycle 0 = .ok (.aload_n 0, 1) := by decide +kernel
theorem d_Ch_passCycle_1 : decode b_Ch_passCycle 1 = .ok (.getfield 9, 3) := by decide +kernel
theorem d_Ch_passCycle_4 : decode b_Ch_passCycle 4 = .ok (.aload_n 0, 1) := by decide +kernel
theorem d_Ch_passCycle_5 : decode b_Ch_passCycle 5 = .ok (.getfield 9, 3) := by decide +kernel
theorem d_Ch_passCycle_8 : decode b_Ch_passCycle 8 = .ok (.iconst 4, 1) := by decide +kernel
theorem d_Ch_passCycle_9 : decode b_Ch_passCycle 9 = .ok (.ishr, 1) := by decide +kernel
theorem d_Ch_passCycle_10 : decode b_Ch_passCycle 10 = .ok (.ixor, 1) := by decide +kernel
theorem d_Ch_passCycle_11 : decode b_Ch_passCycle 11 = .ok (.iconst 1, 1) := by decide +kernel
theorem d_Ch_passCycle_12 : decode b_Ch_passCycle 12 = .ok (.iand, 1) := by decide +kernel
theorem d_Ch_passCycle_13 : decode b_Ch_passCycle 13 = .ok (.istore_n 1, 1) := by decide +kernel
theorem d_Ch_passCycle_14 : decode b_Ch_passCycle 14 = .ok (.aload_n 0, 1) := by decide +kernel
theorem d_Ch_passCycle_15 : decode b_Ch_passCycle 15 = .ok (.aload_n 0, 1) := by decide +kernel
theorem d_Ch_passCycle_16 : decode b_Ch_passCycle 16 = .ok (.getfield 9, 3) := by decide +kernel
theorem d_Ch_passCycle_19 : decode b_Ch_passCycle 19 = .ok (.iconst 1, 1) := by decide +kernel
theorem d_Ch_passCycle_20 : decode b_Ch_passCycle 20 = .ok (.ishr, 1) := by decide +kernel
theorem d_Ch_passCycle_21 : decode b_Ch_passCycle 21 = .ok (.iload_n 1, 1) := by decide +kernel
theorem d_Ch_passCycle_22 : decode b_Ch_passCycle 22 = .ok (.bipush 8, 2) := by decide +kernel
theorem d_Ch_passCycle_24 : decode b_Ch_passCycle 24 = .ok (.ishl, 1) := by decide +kernel
theorem d_Ch_passCycle_25 : decode b_Ch_passCycle 25 = .ok (.ior, 1) := by decide +kernel
theorem d_Ch_passCycle_26 : decode b_Ch_passCycle 26 = .ok (.putfield 9, 3) := by decide +kernel
theorem d_Ch_passCycle_29 : decode b_Ch_passCycle 29 = .ok (.aload_n 0, 1) := by decide +kernel
theorem d_Ch_passCycle_30 : decode b_Ch_passCycle 30 = .ok (.dup, 1) := by decide +kernel
theorem d_Ch_passCycle_31 : decode b_Ch_passCycle 31 = .ok (.getfield 19, 3) := by decide +kernel
theorem d_Ch_passCycle_34 : decode b_Ch_passCycle 34 = .ok (.iconst 1, 1) := by decide +kernel
theorem d_Ch_passCycle_35 : decode b_Ch_passCycle 35 = .ok (.isub, 1) := by decide +kernel
theorem d_Ch_passCycle_36 : decode b_Ch_passCycle 36 = .ok (.putfield 19, 3) := by decide +kernel
theorem d_Ch_passCycle_39 : decode b_Ch_passCycle 39 = .ok (.aload_n 0, 1) := by decide +kernel
theorem d_Ch_passCycle_40 : decode b_Ch_passCycle 40 = .ok (.getfield 19, 3) := by decide +kernel
theorem d_Ch_passCycle_43 : decode b_Ch_passCycle 43 = .ok (.ifCond .ge 19, 3) := by decide +kernel
theorem d_Ch_passCycle_46 : decode b_Ch_passCycle 46 = .ok (.aload_n 0, 1) := by decide +kernel
theorem d_Ch_passCycle_47 : decode b_Ch_passCycle 47 = .ok (.aload_n 0, 1) := by decide +kernel
theorem d_Ch_passCycle_48 : decode b_Ch_passCycle 48 = .ok (.getfield 15, 3) := by decide +kernel
theorem d_Ch_passCycle_51 : decode b_Ch_passCycle 51 = .ok (.bipush 21, 2) := by decide +kernel
theorem d_Ch_passCycle_53 : decode b_Ch_passCycle 53 = .ok (.iaload, 1) := by decide +kernel
theorem d_Ch_passCycle_54 : decode b_Ch_passCycle 54 = .ok (.putfield 19, 3) := by decide +kernel
theorem d_Ch_passCycle_57 : decode b_Ch_passCycle 57 = .ok (.aload_n 0, 1) := by decide +kernel
theorem d_Ch_passCycle_58 : decode b_Ch_passCycle 58 = .ok (.iconst 1, 1) := by decide +kernel
theorem d_Ch_passCycle_59 : decode b_Ch_passCycle 59 = .ok (.putfield 22, 3) := by decide +kernel
theorem d_Ch_passCycle_62 : decode b_Ch_passCycle 62 = .ok (.return_, 1) := by decide +kernel
theorem d_Ch_startTimer_0 : decode b_Ch_startTimer 0 = .ok (.aload_n 0, 1) := by decide +kernel
theorem d_Ch_startTimer_1 : decode b_Ch_startTimer 1 = .ok (.aload_n 0, 1) := by decide +kernel
theorem d_Ch_startTimer_2 : decode b_Ch_startTimer 2 = .ok (.getfield 15, 3) := by decide +kernel
theorem d_Ch_startTimer_5 : decode b_Ch_startTimer 5 = .ok (.bipush 21, 2) := by decide +kernel
theorem d_Ch_startTimer_7 : decode b_Ch_startTimer 7 = .ok (.iaload, 1) := by decide +kernel
theorem d_Ch_startTimer_8 : decode b_Ch_startTimer 8 = .ok (.putfield 19, 3) := by decide +kernel
theorem d_Ch_startTimer_11 : decode b_Ch_startTimer 11 = .ok (.aload_n 0, 1) := by decide +kernel
theorem d_Ch_startTimer_12 : decode b_Ch_startTimer 12 = .ok (.iconst 0, 1) := by decide +kernel
theorem d_Ch_startTimer_13 : decode b_Ch_startTimer 13 = .ok (.putfield 22, 3) := by decide +kernel
theorem d_Ch_startTimer_16 : decode b_Ch_startTimer 16 = .ok (.return_, 1) := by decide +kernel
theorem d_Ch_takeSign_0 : decode b_Ch_takeSign 0 = .ok (.aload_n 0, 1) := by decide +kernel
theorem d_Ch_takeSign_1 : decode b_Ch_takeSign 1 = .ok (.getfield 22, 3) := by decide +kernel
theorem d_Ch_takeSign_4 : decode b_Ch_takeSign 4 = .ok (.istore_n 1, 1) := by decide +kernel
theorem d_Ch_takeSign_5 : decode b_Ch_takeSign 5 = .ok (.aload_n 0, 1) := by decide +kernel
theorem d_Ch_takeSign_6 : decode b_Ch_takeSign 6 = .ok (.iconst 0, 1) := by decide +kernel
theorem d_Ch_takeSign_7 : decode b_Ch_takeSign 7 = .ok (.putfield 22, 3) := by decide +kernel
theorem d_Ch_takeSign_10 : decode b_Ch_takeSign 10 = .ok (.iload_n 1, 1) := by decide +kernel
theorem d_Ch_takeSign_11 : decode b_Ch_takeSign 11 = .ok (.ireturn, 1) := by decide +kernel
theorem d_Ds_init_0 : decode b_Ds_init 0 = .ok (.aload_n 0, 1) := by decide +kernel
theorem d_Ds_init_1 : decode b_Ds_init 1 = .ok (.invokespecial 3, 3) := by decide +kernel
theorem d_Ds_init_4 : decode b_Ds_init 4 = .ok (.aload_n 0, 1) := by decide +kernel
theorem d_Ds_init_5 : decode b_Ds_init 5 = .ok (.bipush 8, 2) := by decide +kernel
theorem d_Ds_init_7 : decode b_Ds_init 7 = .ok (.newarray .int, 2) := by decide +kernel
theorem d_Ds_init_9 : decode b_Ds_init 9 = .ok (.putfield 9, 3) := by decide +kernel
theorem d_Ds_init_12 : decode b_Ds_init 12 = .ok (.aload_n 0, 1) := by decide +kernel
theorem d_Ds_init_13 : decode b_Ds_init 13 = .ok (.bipush 8, 2) := by decide +kernel
theorem d_Ds_init_15 : decode b_Ds_init 15 = .ok (.newarray .int, 2) := by decide +kernel
theorem d_Ds_init_17 : decode b_Ds_init 17 = .ok (.putfield 15, 3) := by decide +kernel
theorem d_Ds_init_20 : decode b_Ds_init 20 = .ok (.aload_n 0, 1) := by decide +kernel
theorem d_Ds_init_21 : decode b_Ds_init 21 = .ok (.aload_n 1, 1) := by decide +kernel
theorem d_Ds_init_22 : decode b_Ds_init 22 = .ok (.putfield 18, 3) := by decide +kernel
theorem d_Ds_init_25 : decode b_Ds_init 25 = .ok (.aload_n 0, 1) := by decide +kernel
theorem d_Ds_init_26 : decode b_Ds_init 26 = .ok (.aload_n 2, 1) := by decide +kernel
theorem d_Ds_init_27 : decode b_Ds_init 27 = .ok (.putfield 22, 3) := by decide +kernel
theorem d_Ds_init_30 : decode b_Ds_init 30 = .ok (.aload_n 0, 1) := by decide +kernel
theorem d_Ds_init_31 : decode b_Ds_init 31 = .ok (.aload_n 3, 1) := by decide +kernel
theorem d_Ds_init_32 : decode b_Ds_init 32 = .ok (.putfield 25, 3) := by decide +kernel
theorem d_Ds_init_35 : decode b_Ds_init 35 = .ok (.return_, 1) := by decide +kernel
theorem d_Ds_passCycle_0 : decode b_Ds_passCycle 0 = .ok (.iload_n 2, 1) := by decide +kernel
theorem d_Ds_passCycle_1 : decode b_Ds_passCycle 1 = .ok (.lookupswitch 103 #[(0, 59), (8, 72), (20, 80), (21, 80), (22, 82), (23, 92)], 59) := by decide +kernel
theorem d_Ds_passCycle_60 : decode b_Ds_passCycle 60 = .ok (.aload_n 0, 1) := by decide +kernel
theorem d_Ds_passCycle_61 : decode b_Ds_passCycle 61 = .ok (.iload_n 1, 1) := by decide +kernel
theorem d_Ds_passCycle_62 : decode b_Ds_passCycle 62 = .ok (.invokevirtual 29, 3) := by decide +kernel
theorem d_Ds_passCycle_65 : decode b_Ds_passCycle 65 = .ok (.aload_n 0, 1) := by decide +kernel
theorem d_Ds_passCycle_66 : decode b_Ds_passCycle 66 = .ok (.bipush 19, 2) := by decide +kernel
theorem d_Ds_passCycle_68 : decode b_Ds_passCycle 68 = .ok (.iload_n 1, 1) := by decide +kernel
theorem d_Ds_passCycle_69 : decode b_Ds_passCycle 69 = .ok (.invokevirtual 33, 3) := by decide +kernel
theorem d_Ds_passCycle_72 : decode b_Ds_passCycle 72 = .ok (.ireturn, 1) := by decide +kernel
theorem d_Ds_passCycle_73 : decode b_Ds_passCycle 73 = .ok (.aload_n 0, 1) := by decide +kernel
theorem d_Ds_passCycle_74 : decode b_Ds_passCycle 74 = .ok (.iload_n 1, 1) := by decide +kernel
theorem d_Ds_passCycle_75 : decode b_Ds_passCycle 75 = .ok (.invokevirtual 37, 3) := by decide +kernel
theorem d_Ds_passCycle_78 : decode b_Ds_passCycle 78 = .ok (.goto 26, 3) := by decide +kernel
theorem d_Ds_passCycle_81 : decode b_Ds_passCycle 81 = .ok (.iconst 1, 1) := by decide +kernel
theorem d_Ds_passCycle_82 : decode b_Ds_passCycle 82 = .ok (.ireturn, 1) := by decide +kernel
theorem d_Ds_passCycle_83 : decode b_Ds_passCycle 83 = .ok (.aload_n 0, 1) := by decide +kernel
theorem d_Ds_passCycle_84 : decode b_Ds_passCycle 84 = .ok (.getfield 25, 3) := by decide +kernel
theorem d_Ds_passCycle_87 : decode b_Ds_passCycle 87 = .ok (.iconst 0, 1) := by decide +kernel
theorem d_Ds_passCycle_88 : decode b_Ds_passCycle 88 = .ok (.putfield 40, 3) := by decide +kernel
theorem d_Ds_passCycle_91 : decode b_Ds_passCycle 91 = .ok (.iconst 0, 1) := by decide +kernel
theorem d_Ds_passCycle_92 : decode b_Ds_passCycle 92 = .ok (.ireturn, 1) := by decide +kernel
theorem d_Ds_passCycle_93 : decode b_Ds_passCycle 93 = .ok (.aload_n 0, 1) := by decide +kernel
theorem d_Ds_passCycle_94 : decode b_Ds_passCycle 94 = .ok (.bipush 20, 2) := by decide +kernel
theorem d_Ds_passCycle_96 : decode b_Ds_passCycle 96 = .ok (.bipush 16, 2) := by decide +kernel
theorem d_Ds_passCycle_98 : decode b_Ds_passCycle 98 = .ok (.iload_n 1, 1) := by decide +kernel
theorem d_Ds_passCycle_99 : decode b_Ds_passCycle 99 = .ok (.iadd, 1) := by decide +kernel
theorem d_Ds_passCycle_100 : decode b_Ds_passCycle 100 = .ok (.invokevirtual 33, 3) := by decide +kernel
theorem d_Ds_passCycle_103 : decode b_Ds_passCycle 103 = .ok (.ireturn, 1) := by decide +kernel
theorem d_Ds_passCycle_104 : decode b_Ds_passCycle 104 = .ok (.iload_n 1, 1) := by decide +kernel
theorem d_Ds_passCycle_105 : decode b_Ds_passCycle 105 = .ok (.invokestatic 46, 3) := by decide +kernel
theorem d_Ds_passCycle_108 : decode b_Ds_passCycle 108 = .ok (.ifCond .eq 22, 3) := by decide +kernel
theorem d_Ds_passCycle_111 : decode b_Ds_passCycle 111 = .ok (.aload_n 0, 1) := by decide +kernel
theorem d_Ds_passCycle_112 : decode b_Ds_passCycle 112 = .ok (.invokevirtual 50, 3) := by decide +kernel
theorem d_Ds_passCycle_115 : decode b_Ds_passCycle 115 = .ok (.ifCond .eq 15, 3) := by decide +kernel
theorem d_Ds_passCycle_118 : decode b_Ds_passCycle 118 = .ok (.aload_n 0, 1) := by decide +kernel
theorem d_Ds_passCycle_119 : decode b_Ds_passCycle 119 = .ok (.iload_n 2, 1) := by decide +kernel
theorem d_Ds_passCycle_120 : decode b_Ds_passCycle 120 = .ok (.invokevirtual 54, 3) := by decide +kernel
theorem d_Ds_passCycle_123 : decode b_Ds_passCycle 123 = .ok (.ifCond .eq 7, 3) := by decide +kernel
theorem d_Ds_passCycle_126 : decode b_Ds_passCycle 126 = .ok (.iconst 1, 1) := by decide +kernel
theorem d_Ds_passCycle_127 : decode b_Ds_passCycle 127 = .ok (.goto 4, 3) := by decide +kernel
theorem d_Ds_passCycle_130 : decode b_Ds_passCycle 130 = .ok (.iconst 0, 1) := by decide +kernel
theorem d_Ds_passCycle_131 : decode b_Ds_passCycle 131 = .ok (.ireturn, 1) := by decide +kernel
theorem d_Ds_finishRow_0 : decode b_Ds_finishRow 0 = .ok (.aload_n 0, 1) := by decide +kernel
theorem d_Ds_finishRow_1 : decode b_Ds_finishRow 1 = .ok (.invokevirtual 50, 3) := by decide +kernel
theorem d_Ds_finishRow_4 : decode b_Ds_finishRow 4 = .ok (.ifCond .eq 10, 3) := by decide +kernel
theorem d_Ds_finishRow_7 : decode b_Ds_finishRow 7 = .ok (.aload_n 0, 1) := by decide +kernel
theorem d_Ds_finishRow_8 : decode b_Ds_finishRow 8 = .ok (.invokevirtual 57, 3) := by decide +kernel
theorem d_Ds_finishRow_11 : decode b_Ds_finishRow 11 = .ok (.ifCond .ne 4, 3) := by decide +kernel
theorem d_Ds_finishRow_14 : decode b_Ds_finishRow 14 = .ok (.return_, 1) := by decide +kernel
theorem d_Ds_finishRow_15 : decode b_Ds_finishRow 15 = .ok (.aload_n 0, 1) := by decide +kernel
theorem d_Ds_finishRow_16 : decode b_Ds_finishRow 16 = .ok (.dup, 1) := by decide +kernel
theorem d_Ds_finishRow_17 : decode b_Ds_finishRow 17 = .ok (.getfield 60, 3) := by decide +kernel
theorem d_Ds_finishRow_20 : decode b_Ds_finishRow 20 = .ok (.iconst 1, 1) := by decide +kernel
theorem d_Ds_finishRow_21 : decode b_Ds_finishRow 21 = .ok (.iadd, 1) := by decide +kernel
theorem d_Ds_finishRow_22 : decode b_Ds_finishRow 22 = .ok (.putfield 60, 3) := by decide +kernel
theorem d_Ds_finishRow_25 : decode b_Ds_finishRow 25 = .ok (.aload_n 0, 1) := by decide +kernel
theorem d_Ds_finishRow_26 : decode b_Ds_finishRow 26 = .ok (.invokevirtual 64, 3) := by decide +kernel
theorem d_Ds_finishRow_29 : decode b_Ds_finishRow 29 = .ok (.iconst 1, 1) := by decide +kernel
theorem d_Ds_finishRow_30 : decode b_Ds_finishRow 30 = .ok (.if_icmp .ne 18, 3) := by decide +kernel
theorem d_Ds_finishRow_33 : decode b_Ds_finishRow 33 = .ok (.aload_n 0, 1) := by decide +kernel
theorem d_Ds_finishRow_34 : decode b_Ds_finishRow 34 = .ok (.getfield 68, 3) := by decide +kernel
theorem d_Ds_finishRow_37 : decode b_Ds_finishRow 37 = .ok (.bipush 64, 2) := by decide +kernel
theorem d_Ds_finishRow_39 : decode b_Ds_finishRow 39 = .ok (.iand, 1) := by decide +kernel
theorem d_Ds_finishRow_40 : decode b_Ds_finishRow 40 = .ok (.ifCond .eq 8, 3) := by decide +kernel
theorem d_Ds_finishRow_43 : decode b_Ds_finishRow 43 = .ok (.aload_n 0, 1) := by decide +kernel
theorem d_Ds_finishRow_44 : decode b_Ds_finishRow 44 = .ok (.iconst 1, 1) := by decide +kernel
theorem d_Ds_finishRow_45 : decode b_Ds_finishRow 45 = .ok (.putfield 71, 3) := by decide +kernel
theorem d_Ds_finishRow_48 : decode b_Ds_finishRow 48 = .ok (.return_, 1) := by decide +kernel
theorem d_Ds_shownByte_0 : decode b_Ds_shownByte 0 = .ok (.aload_n 0, 1) := by decide +kernel
theorem d_Ds_shownByte_1 : decode b_Ds_shownByte 1 = .ok (.invokevirtual 50, 3) := by decide +kernel
theorem d_Ds_shownByte_4 : decode b_Ds_shownByte 4 = .ok (.ifCond .eq 17, 3) := by decide +kernel
theorem d_Ds_shownByte_7 : decode b_Ds_shownByte 7 = .ok (.aload_n 0, 1) := by decide +kernel
theorem d_Ds_shownByte_8 : decode b_Ds_shownByte 8 = .ok (.invokevirtual 57, 3) := by decide +kernel
theorem d_Ds_shownByte_11 : decode b_Ds_shownByte 11 = .ok (.ifCond .eq 10, 3) := by decide +kernel
theorem d_Ds_shownByte_14 : decode b_Ds_shownByte 14 = .ok (.aload_n 0, 1) := by decide +kernel
theorem d_Ds_shownByte_15 : decode b_Ds_shownByte 15 = .ok (.invokevirtual 74, 3) := by decide +kernel
theorem d_Ds_shownByte_18 : decode b_Ds_shownByte 18 = .ok (.ifCond .ne 5, 3) := by decide +kernel
theorem d_Ds_shownByte_21 : decode b_Ds_shownByte 21 = .ok (.iconst 0, 1) := by decide +kernel
theorem d_Ds_shownByte_22 : decode b_Ds_shownByte 22 = .ok (.ireturn, 1) := by decide +kernel
theorem d_Ds_shownByte_23 : decode b_Ds_shownByte 23 = .ok (.aload_n 0, 1) := by decide +kernel
theorem d_Ds_shownByte_24 : decode b_Ds_shownByte 24 = .ok (.invokevirtual 64, 3) := by decide +kernel
theorem d_Ds_shownByte_27 : decode b_Ds_shownByte 27 = .ok (.iconst 2, 1) := by decide +kernel
theorem d_Ds_shownByte_28 : decode b_Ds_shownByte 28 = .ok (.if_icmp .ne 12, 3) := by decide +kernel
theorem d_Ds_shownByte_31 : decode b_Ds_shownByte 31 = .ok (.aload_n 0, 1) := by decide +kernel
theorem d_Ds_shownByte_32 : decode b_Ds_shownByte 32 = .ok (.getfield 15, 3) := by decide +kernel
theorem d_Ds_shownByte_35 : decode b_Ds_shownByte 35 = .ok (.iload_n 1, 1) := by decide +kernel
theorem d_Ds_shownByte_36 : decode b_Ds_shownByte 36 = .ok (.iaload, 1) := by decide +kernel
theorem d_Ds_shownByte_37 : decode b_Ds_shownByte 37 = .ok (.goto 9, 3) := by decide +kernel
theorem d_Ds_shownByte_40 : decode b_Ds_shownByte 40 = .ok (.aload_n 0, 1) := by decide +kernel
theorem d_Ds_shownByte_41 : decode b_Ds_shownByte 41 = .ok (.getfield 9, 3) := by decide +kernel
theorem d_Ds_shownByte_44 : decode b_Ds_shownByte 44 = .ok (.iload_n 1, 1) := by decide +kernel
theorem d_Ds_shownByte_45 : decode b_Ds_shownByte 45 = .ok (.iaload, 1) := by decide +kernel
theorem d_Ds_shownByte_46 : decode b_Ds_shownByte 46 = .ok (.ireturn, 1) := by decide +kernel
theorem d_Ds_presentMode_0 : decode b_Ds_presentMode 0 = .ok (.aload_n 0, 1) := by decide +kernel
theorem d_Ds_presentMode_1 : decode b_Ds_presentMode 1 = .ok (.invokevirtual 57, 3) := by decide +kernel
theorem d_Ds_presentMode_4 : decode b_Ds_presentMode 4 = .ok (.ifCond .eq 10, 3) := by decide +kernel
theorem d_Ds_presentMode_7 : decode b_Ds_presentMode 7 = .ok (.aload_n 0, 1) := by decide +kernel
theorem d_Ds_presentMode_8 : decode b_Ds_presentMode 8 = .ok (.invokevirtual 64, 3) := by decide +kernel
theorem d_Ds_presentMode_11 : decode b_Ds_presentMode 11 = .ok (.goto 4, 3) := by decide +kernel
theorem d_Ds_presentMode_14 : decode b_Ds_presentMode 14 = .ok (.iconst (-1), 1) := by decide +kernel
theorem d_Ds_presentMode_15 : decode b_Ds_presentMode 15 = .ok (.ireturn, 1) := by decide +kernel
theorem d_Ds_rowsDoneOfPresent_0 : decode b_Ds_rowsDoneOfPresent 0 = .ok (.aload_n 0, 1) := by decide +kernel
theorem d_Ds_rowsDoneOfPresent_1 : decode b_Ds_rowsDoneOfPresent 1 = .ok (.invokevirtual 57, 3) := by decide +kernel
theorem d_Ds_rowsDoneOfPresent_4 : decode b_Ds_rowsDoneOfPresent 4 = .ok (.ifCond .eq 10, 3) := by decide +kernel
theorem d_Ds_rowsDoneOfPresent_7 : decode b_Ds_rowsDoneOfPresent 7 = .ok (.aload_n 0, 1) := by decide +kernel
theorem d_Ds_rowsDoneOfPresent_8 : decode b_Ds_rowsDoneOfPresent 8 = .ok (.getfield 60, 3) := by decide +kernel
theorem d_Ds_rowsDoneOfPresent_11 : decode b_Ds_rowsDoneOfPresent 11 = .ok (.goto 4, 3) := by decide +kernel
theorem d_Ds_rowsDoneOfPresent_14 : decode b_Ds_rowsDoneOfPresent 14 = .ok (.iconst 0, 1) := by decide +kernel
theorem d_Ds_rowsDoneOfPresent_15 : decode b_Ds_rowsDoneOfPresent 15 = .ok (.ireturn, 1) := by decide +kernel
theorem d_Ds_isOn_0 : decode b_Ds_isOn 0 = .ok (.aload_n 0, 1) := by decide +kernel
theorem d_Ds_isOn_1 : decode b_Ds_isOn 1 = .ok (.getfield 22, 3) := by decide +kernel
theorem d_Ds_isOn_4 : decode b_Ds_isOn 4 = .ok (.iconst 0, 1) := by decide +kernel
theorem d_Ds_isOn_5 : decode b_Ds_isOn 5 = .ok (.iaload, 1) := by decide +kernel
theorem d_Ds_isOn_6 : decode b_Ds_isOn 6 = .ok (.iconst 1, 1) := by decide +kernel
theorem d_Ds_isOn_7 : decode b_Ds_isOn 7 = .ok (.iand, 1) := by decide +kernel
theorem d_Ds_isOn_8 : decode b_Ds_isOn 8 = .ok (.ifCond .eq 7, 3) := by decide +kernel
theorem d_Ds_isOn_11 : decode b_Ds_isOn 11 = .ok (.iconst 1, 1) := by decide +kernel
theorem d_Ds_isOn_12 : decode b_Ds_isOn 12 = .ok (.goto 4, 3) := by decide +kernel
theorem d_Ds_isOn_15 : decode b_Ds_isOn 15 = .ok (.iconst 0, 1) := by decide +kernel
theorem d_Ds_isOn_16 : decode b_Ds_isOn 16 = .ok (.ireturn, 1) := by decide +kernel
theorem d_Ds_hasRow_0 : decode b_Ds_hasRow 0 = .ok (.aload_n 0, 1) := by decide +kernel
theorem d_Ds_hasRow_1 : decode b_Ds_hasRow 1 = .ok (.getfield 60, 3) := by decide +kernel
theorem d_Ds_hasRow_4 : decode b_Ds_hasRow 4 = .ok (.aload_n 0, 1) := by decide +kernel
theorem d_Ds_hasRow_5 : decode b_Ds_hasRow 5 = .ok (.getfield 77, 3) := by decide +kernel
theorem d_Ds_hasRow_8 : decode b_Ds_hasRow 8 = .ok (.if_icmp .ge 7, 3) := by decide +kernel
theorem d_Ds_hasRow_11 : decode b_Ds_hasRow 11 = .ok (.iconst 1, 1) := by decide +kernel
theorem d_Ds_hasRow_12 : decode b_Ds_hasRow 12 = .ok (.goto 4, 3) := by decide +kernel
theorem d_Ds_hasRow_15 : decode b_Ds_hasRow 15 = .ok (.iconst 0, 1) := by decide +kernel
theorem d_Ds_hasRow_16 : decode b_Ds_hasRow 16 = .ok (.ireturn, 1) := by decide +kernel
theorem d_Ds_mode_0 : decode b_Ds_mode 0 = .ok (.aload_n 0, 1) := by decide +kernel
theorem d_Ds_mode_1 : decode b_Ds_mode 1 = .ok (.getfield 68, 3) := by decide +kernel
theorem d_Ds_mode_4 : decode b_Ds_mode 4 = .ok (.bipush 15, 2) := by decide +kernel
theorem d_Ds_mode_6 : decode b_Ds_mode 6 = .ok (.iand, 1) := by decide +kernel
theorem d_Ds_mode_7 : decode b_Ds_mode 7 = .ok (.ireturn, 1) := by decide +kernel
theorem d_Ds_modeHasData_0 : decode b_Ds_modeHasData 0 = .ok (.aload_n 0, 1) := by decide +kernel
theorem d_Ds_modeHasData_1 : decode b_Ds_modeHasData 1 = .ok (.invokevirtual 64, 3) := by decide +kernel
theorem d_Ds_modeHasData_4 : decode b_Ds_modeHasData 4 = .ok (.iconst 2, 1) := by decide +kernel
theorem d_Ds_modeHasData_5 : decode b_Ds_modeHasData 5 = .ok (.if_icmp .lt 15, 3) := by decide +kernel
theorem d_Ds_modeHasData_8 : decode b_Ds_modeHasData 8 = .ok (.aload_n 0, 1) := by decide +kernel
theorem d_Ds_modeHasData_9 : decode b_Ds_modeHasData 9 = .ok (.invokevirtual 64, 3) := by decide +kernel
theorem d_Ds_modeHasData_12 : decode b_Ds_modeHasData 12 = .ok (.iconst 4, 1) := by decide +kernel
theorem d_Ds_modeHasData_13 : decode b_Ds_modeHasData 13 = .ok (.if_icmp .gt 7, 3) := by decide +kernel
theorem d_Ds_modeHasData_16 : decode b_Ds_modeHasData 16 = .ok (.iconst 1, 1) := by decide +kernel
theorem d_Ds_modeHasData_17 : decode b_Ds_modeHasData 17 = .ok (.goto 4, 3) := by decide +kernel
theorem d_Ds_modeHasData_20 : decode b_Ds_modeHasData 20 = .ok (.iconst 0, 1) := by decide +kernel
theorem d_Ds_modeHasData_21 : decode b_Ds_modeHasData 21 = .ok (.ireturn, 1) := by decide +kernel
theorem d_Ds_beginLine_0 : decode b_Ds_beginLine 0 = .ok (.aload_n 0, 1) := by decide +kernel
theorem d_Ds_beginLine_1 : decode b_Ds_beginLine 1 = .ok (.iconst 0, 1) := by decide +kernel
theorem d_Ds_beginLine_2 : decode b_Ds_beginLine 2 = .ok (.putfield 80, 3) := by decide +kernel
theorem d_Ds_beginLine_5 : decode b_Ds_beginLine 5 = .ok (.iload_n 1, 1) := by decide +kernel
theorem d_Ds_beginLine_6 : decode b_Ds_beginLine 6 = .ok (.ifCond .ne 43, 3) := by decide +kernel
theorem d_Ds_beginLine_9 : decode b_Ds_beginLine 9 = .ok (.aload_n 0, 1) := by decide +kernel
theorem d_Ds_beginLine_10 : decode b_Ds_beginLine 10 = .ok (.sipush 256, 3) := by decide +kernel
theorem d_Ds_beginLine_13 : decode b_Ds_beginLine 13 = .ok (.aload_n 0, 1) := by decide +kernel
theorem d_Ds_beginLine_14 : decode b_Ds_beginLine 14 = .ok (.getfield 22, 3) := by decide +kernel
theorem d_Ds_beginLine_17 : decode b_Ds_beginLine 17 = .ok (.iconst 3, 1) := by decide +kernel
theorem d_Ds_beginLine_18 : decode b_Ds_beginLine 18 = .ok (.iaload, 1) := by decide +kernel
theorem d_Ds_beginLine_19 : decode b_Ds_beginLine 19 = .ok (.imul, 1) := by decide +kernel
theorem d_Ds_beginLine_20 : decode b_Ds_beginLine 20 = .ok (.aload_n 0, 1) := by decide +kernel
theorem d_Ds_beginLine_21 : decode b_Ds_beginLine 21 = .ok (.getfield 22, 3) := by decide +kernel
theorem d_Ds_beginLine_24 : decode b_Ds_beginLine 24 = .ok (.iconst 2, 1) := by decide +kernel
theorem d_Ds_beginLine_25 : decode b_Ds_beginLine 25 = .ok (.iaload, 1) := by decide +kernel
theorem d_Ds_beginLine_26 : decode b_Ds_beginLine 26 = .ok (.iadd, 1) := by decide +kernel
theorem d_Ds_beginLine_27 : decode b_Ds_beginLine 27 = .ok (.sipush 1023, 3) := by decide +kernel
theorem d_Ds_beginLine_30 : decode b_Ds_beginLine 30 = .ok (.iand, 1) := by decide +kernel
theorem d_Ds_beginLine_31 : decode b_Ds_beginLine 31 = .ok (.putfield 83, 3) := by decide +kernel
theorem d_Ds_beginLine_34 : decode b_Ds_beginLine 34 = .ok (.aload_n 0, 1) := by decide +kernel
theorem d_Ds_beginLine_35 : decode b_Ds_beginLine 35 = .ok (.iconst 0, 1) := by decide +kernel
theorem d_Ds_beginLine_36 : decode b_Ds_beginLine 36 = .ok (.putfield 77, 3) := by decide +kernel
theorem d_Ds_beginLine_39 : decode b_Ds_beginLine 39 = .ok (.aload_n 0, 1) := by decide +kernel
theorem d_Ds_beginLine_40 : decode b_Ds_beginLine 40 = .ok (.iconst 0, 1) := by decide +kernel
theorem d_Ds_beginLine_41 : decode b_Ds_beginLine 41 = .ok (.putfield 60, 3) := by decide +kernel
theorem d_Ds_beginLine_44 : decode b_Ds_beginLine 44 = .ok (.aload_n 0, 1) := by decide +kernel
theorem d_Ds_beginLine_45 : decode b_Ds_beginLine 45 = .ok (.iconst 0, 1) := by decide +kernel
theorem d_Ds_beginLine_46 : decode b_Ds_beginLine 46 = .ok (.putfield 71, 3) := by decide +kernel
theorem d_Ds_beginLine_49 : decode b_Ds_beginLine 49 = .ok (.return_, 1) := by decide +kernel
theorem d_Ds_fetchShape_0 : decode b_Ds_fetchShape 0 = .ok (.aload_n 0, 1) := by decide +kernel
theorem d_Ds_fetchShape_1 : decode b_Ds_fetchShape 1 = .ok (.getfield 22, 3) := by decide +kernel
theorem d_Ds_fetchShape_4 : decode b_Ds_fetchShape 4 = .ok (.iconst 0, 1) := by decide +kernel
theorem d_Ds_fetchShape_5 : decode b_Ds_fetchShape 5 = .ok (.iaload, 1) := by decide +kernel
theorem d_Ds_fetchShape_6 : decode b_Ds_fetchShape 6 = .ok (.iconst 2, 1) := by decide +kernel
theorem d_Ds_fetchShape_7 : decode b_Ds_fetchShape 7 = .ok (.iand, 1) := by decide +kernel
theorem d_Ds_fetchShape_8 : decode b_Ds_fetchShape 8 = .ok (.ifCond .ne 5, 3) := by decide +kernel
theorem d_Ds_fetchShape_11 : decode b_Ds_fetchShape 11 = .ok (.iconst 0, 1) := by decide +kernel
theorem d_Ds_fetchShape_12 : decode b_Ds_fetchShape 12 = .ok (.ireturn, 1) := by decide +kernel
theorem d_Ds_fetchShape_13 : decode b_Ds_fetchShape 13 = .ok (.aload_n 0, 1) := by decide +kernel
theorem d_Ds_fetchShape_14 : decode b_Ds_fetchShape 14 = .ok (.getfield 22, 3) := by decide +kernel
theorem d_Ds_fetchShape_17 : decode b_Ds_fetchShape 17 = .ok (.iload_n 1, 1) := by decide +kernel
theorem d_Ds_fetchShape_18 : decode b_Ds_fetchShape 18 = .ok (.aload_n 0, 1) := by decide +kernel
theorem d_Ds_fetchShape_19 : decode b_Ds_fetchShape 19 = .ok (.getfield 18, 3) := by decide +kernel
theorem d_Ds_fetchShape_22 : decode b_Ds_fetchShape 22 = .ok (.sipush 256, 3) := by decide +kernel
theorem d_Ds_fetchShape_25 : decode b_Ds_fetchShape 25 = .ok (.aload_n 0, 1) := by decide +kernel
theorem d_Ds_fetchShape_26 : decode b_Ds_fetchShape 26 = .ok (.getfield 22, 3) := by decide +kernel
theorem d_Ds_fetchShape_29 : decode b_Ds_fetchShape 29 = .ok (.iconst 4, 1) := by decide +kernel
theorem d_Ds_fetchShape_30 : decode b_Ds_fetchShape 30 = .ok (.iaload, 1) := by decide +kernel
theorem d_Ds_fetchShape_31 : decode b_Ds_fetchShape 31 = .ok (.imul, 1) := by decide +kernel
theorem d_Ds_fetchShape_32 : decode b_Ds_fetchShape 32 = .ok (.iload_n 2, 1) := by decide +kernel
theorem d_Ds_fetchShape_33 : decode b_Ds_fetchShape 33 = .ok (.iadd, 1) := by decide +kernel
theorem d_Ds_fetchShape_34 : decode b_Ds_fetchShape 34 = .ok (.invokevirtual 86, 3) := by decide +kernel
theorem d_Ds_fetchShape_37 : decode b_Ds_fetchShape 37 = .ok (.iastore, 1) := by decide +kernel
theorem d_Ds_fetchShape_38 : decode b_Ds_fetchShape 38 = .ok (.iconst 1, 1) := by decide +kernel
theorem d_Ds_fetchShape_39 : decode b_Ds_fetchShape 39 = .ok (.ireturn, 1) := by decide +kernel
theorem d_Ds_requestNmis_0 : decode b_Ds_requestNmis 0 = .ok (.iload_n 1, 1) := by decide +kernel
theorem d_Ds_requestNmis_1 : decode b_Ds_requestNmis 1 = .ok (.bipush 13, 2) := by decide +kernel
theorem d_Ds_requestNmis_3 : decode b_Ds_requestNmis 3 = .ok (.if_icmp .ne 12, 3) := by decide +kernel
theorem d_Ds_requestNmis_6 : decode b_Ds_requestNmis 6 = .ok (.aload_n 0, 1) := by decide +kernel
theorem d_Ds_requestNmis_7 : decode b_Ds_requestNmis 7 = .ok (.bipush 64, 2) := by decide +kernel
theorem d_Ds_requestNmis_9 : decode b_Ds_requestNmis 9 = .ok (.invokevirtual 92, 3) := by decide +kernel
theorem d_Ds_requestNmis_12 : decode b_Ds_requestNmis 12 = .ok (.goto 31, 3) := by decide +kernel
theorem d_Ds_requestNmis_15 : decode b_Ds_requestNmis 15 = .ok (.iload_n 1, 1) := by decide +kernel
theorem d_Ds_requestNmis_16 : decode b_Ds_requestNmis 16 = .ok (.invokestatic 46, 3) := by decide +kernel
theorem d_Ds_requestNmis_19 : decode b_Ds_requestNmis 19 = .ok (.ifCond .eq 24, 3) := by decide +kernel
theorem d_Ds_requestNmis_22 : decode b_Ds_requestNmis 22 = .ok (.aload_n 0, 1) := by decide +kernel
theorem d_Ds_requestNmis_23 : decode b_Ds_requestNmis 23 = .ok (.invokevirtual 50, 3) := by decide +kernel
theorem d_Ds_requestNmis_26 : decode b_Ds_requestNmis 26 = .ok (.ifCond .eq 17, 3) := by decide +kernel
theorem d_Ds_requestNmis_29 : decode b_Ds_requestNmis 29 = .ok (.aload_n 0, 1) := by decide +kernel
theorem d_Ds_requestNmis_30 : decode b_Ds_requestNmis 30 = .ok (.invokevirtual 95, 3) := by decide +kernel
theorem d_Ds_requestNmis_33 : decode b_Ds_requestNmis 33 = .ok (.ifCond .eq 10, 3) := by decide +kernel
theorem d_Ds_requestNmis_36 : decode b_Ds_requestNmis 36 = .ok (.aload_n 0, 1) := by decide +kernel
theorem d_Ds_requestNmis_37 : decode b_Ds_requestNmis 37 = .ok (.sipush 128, 3) := by decide +kernel
theorem d_Ds_requestNmis_40 : decode b_Ds_requestNmis 40 = .ok (.invokevirtual 92, 3) := by decide +kernel
theorem d_Ds_requestNmis_43 : decode b_Ds_requestNmis 43 = .ok (.return_, 1) := by decide +kernel
theorem d_Ds_isInMarkedLastRow_0 : decode b_Ds_isInMarkedLastRow 0 = .ok (.aload_n 0, 1) := by decide +kernel
theorem d_Ds_isInMarkedLastRow_1 : decode b_Ds_isInMarkedLastRow 1 = .ok (.getfield 60, 3) := by decide +kernel
theorem d_Ds_isInMarkedLastRow_4 : decode b_Ds_isInMarkedLastRow 4 = .ok (.iconst 1, 1) := by decide +kernel
theorem d_Ds_isInMarkedLastRow_5 : decode b_Ds_isInMarkedLastRow 5 = .ok (.iadd, 1) := by decide +kernel
theorem d_Ds_isInMarkedLastRow_6 : decode b_Ds_isInMarkedLastRow 6 = .ok (.aload_n 0, 1) := by decide +kernel
theorem d_Ds_isInMarkedLastRow_7 : decode b_Ds_isInMarkedLastRow 7 = .ok (.getfield 77, 3) := by decide +kernel
theorem d_Ds_isInMarkedLastRow_10 : decode b_Ds_isInMarkedLastRow 10 = .ok (.if_icmp .ne 18, 3) := by decide +kernel
theorem d_Ds_isInMarkedLastRow_13 : decode b_Ds_isInMarkedLastRow 13 = .ok (.aload_n 0, 1) := by decide +kernel
theorem d_Ds_isInMarkedLastRow_14 : decode b_Ds_isInMarkedLastRow 14 = .ok (.getfield 68, 3) := by decide +kernel
theorem d_Ds_isInMarkedLastRow_17 : decode b_Ds_isInMarkedLastRow 17 = .ok (.sipush 128, 3) := by decide +kernel
theorem d_Ds_isInMarkedLastRow_20 : decode b_Ds_isInMarkedLastRow 20 = .ok (.iand, 1) := by decide +kernel
theorem d_Ds_isInMarkedLastRow_21 : decode b_Ds_isInMarkedLastRow 21 = .ok (.ifCond .eq 7, 3) := by decide +kernel
theorem d_Ds_isInMarkedLastRow_24 : decode b_Ds_isInMarkedLastRow 24 = .ok (.iconst 1, 1) := by decide +kernel
theorem d_Ds_isInMarkedLastRow_25 : decode b_Ds_isInMarkedLastRow 25 = .ok (.goto 4, 3) := by decide +kernel
theorem d_Ds_isInMarkedLastRow_28 : decode b_Ds_isInMarkedLastRow 28 = .ok (.iconst 0, 1) := by decide +kernel
theorem d_Ds_isInMarkedLastRow_29 : decode b_Ds_isInMarkedLastRow 29 = .ok (.ireturn, 1) := by decide +kernel
theorem d_Ds_requestNmi_0 : decode b_Ds_requestNmi 0 = .ok (.aload_n 0, 1) := by decide +kernel
theorem d_Ds_requestNmi_1 : decode b_Ds_requestNmi 1 = .ok (.getfield 22, 3) := by decide +kernel
theorem d_Ds_requestNmi_4 : decode b_Ds_requestNmi 4 = .ok (.bipush 6, 2) := by decide +kernel
theorem d_Ds_requestNmi_6 : decode b_Ds_requestNmi 6 = .ok (.iaload, 1) := by decide +kernel
theorem d_Ds_requestNmi_7 : decode b_Ds_requestNmi 7 = .ok (.iload_n 1, 1) := by decide +kernel
theorem d_Ds_requestNmi_8 : decode b_Ds_requestNmi 8 = .ok (.iand, 1) := by decide +kernel
theorem d_Ds_requestNmi_9 : decode b_Ds_requestNmi 9 = .ok (.ifCond .eq 21, 3) := by decide +kernel
theorem d_Ds_requestNmi_12 : decode b_Ds_requestNmi 12 = .ok (.aload_n 0, 1) := by decide +kernel
theorem d_Ds_requestNmi_13 : decode b_Ds_requestNmi 13 = .ok (.dup, 1) := by decide +kernel
theorem d_Ds_requestNmi_14 : decode b_Ds_requestNmi 14 = .ok (.getfield 98, 3) := by decide +kernel
theorem d_Ds_requestNmi_17 : decode b_Ds_requestNmi 17 = .ok (.iload_n 1, 1) := by decide +kernel
theorem d_Ds_requestNmi_18 : decode b_Ds_requestNmi 18 = .ok (.ior, 1) := by decide +kernel
theorem d_Ds_requestNmi_19 : decode b_Ds_requestNmi 19 = .ok (.putfield 98, 3) := by decide +kernel
theorem d_Ds_requestNmi_22 : decode b_Ds_requestNmi 22 = .ok (.aload_n 0, 1) := by decide +kernel
theorem d_Ds_requestNmi_23 : decode b_Ds_requestNmi 23 = .ok (.getfield 25, 3) := by decide +kernel
theorem d_Ds_requestNmi_26 : decode b_Ds_requestNmi 26 = .ok (.iconst 1, 1) := by decide +kernel
theorem d_Ds_requestNmi_27 : decode b_Ds_requestNmi 27 = .ok (.putfield 101, 3) := by decide +kernel
theorem d_Ds_requestNmi_30 : decode b_Ds_requestNmi 30 = .ok (.return_, 1) := by decide +kernel
theorem d_Ds_fetchForLine_0 : decode b_Ds_fetchForLine 0 = .ok (.iload_n 1, 1) := by decide +kernel
theorem d_Ds_fetchForLine_1 : decode b_Ds_fetchForLine 1 = .ok (.iconst 1, 1) := by decide +kernel
theorem d_Ds_fetchForLine_2 : decode b_Ds_fetchForLine 2 = .ok (.if_icmp .ne 8, 3) := by decide +kernel
theorem d_Ds_fetchForLine_5 : decode b_Ds_fetchForLine 5 = .ok (.aload_n 0, 1) := by decide +kernel
theorem d_Ds_fetchForLine_6 : decode b_Ds_fetchForLine 6 = .ok (.invokevirtual 104, 3) := by decide +kernel
theorem d_Ds_fetchForLine_9 : decode b_Ds_fetchForLine 9 = .ok (.ireturn, 1) := by decide +kernel
theorem d_Ds_fetchForLine_10 : decode b_Ds_fetchForLine 10 = .ok (.iload_n 1, 1) := by decide +kernel
theorem d_Ds_fetchForLine_11 : decode b_Ds_fetchForLine 11 = .ok (.iconst 3, 1) := by decide +kernel
theorem d_Ds_fetchForLine_12 : decode b_Ds_fetchForLine 12 = .ok (.if_icmp .gt 18, 3) := by decide +kernel
theorem d_Ds_fetchForLine_15 : decode b_Ds_fetchForLine 15 = .ok (.aload_n 0, 1) := by decide +kernel
theorem d_Ds_fetchForLine_16 : decode b_Ds_fetchForLine 16 = .ok (.iload_n 1, 1) := by decide +kernel
theorem d_Ds_fetchForLine_17 : decode b_Ds_fetchForLine 17 = .ok (.iconst 3, 1) := by decide +kernel
theorem d_Ds_fetchForLine_18 : decode b_Ds_fetchForLine 18 = .ok (.if_icmp .ne 7, 3) := by decide +kernel
theorem d_Ds_fetchForLine_21 : decode b_Ds_fetchForLine 21 = .ok (.iconst 1, 1) := by decide +kernel
theorem d_Ds_fetchForLine_22 : decode b_Ds_fetchForLine 22 = .ok (.goto 4, 3) := by decide +kernel
theorem d_Ds_fetchForLine_25 : decode b_Ds_fetchForLine 25 = .ok (.iconst 0, 1) := by decide +kernel
theorem d_Ds_fetchForLine_26 : decode b_Ds_fetchForLine 26 = .ok (.invokevirtual 107, 3) := by decide +kernel
theorem d_Ds_fetchForLine_29 : decode b_Ds_fetchForLine 29 = .ok (.ireturn, 1) := by decide +kernel
theorem d_Ds_fetchForLine_30 : decode b_Ds_fetchForLine 30 = .ok (.aload_n 0, 1) := by decide +kernel
theorem d_Ds_fetchForLine_31 : decode b_Ds_fetchForLine 31 = .ok (.invokevirtual 57, 3) := by decide +kernel
theorem d_Ds_fetchForLine_34 : decode b_Ds_fetchForLine 34 = .ok (.ifCond .eq 10, 3) := by decide +kernel
theorem d_Ds_fetchForLine_37 : decode b_Ds_fetchForLine 37 = .ok (.aload_n 0, 1) := by decide +kernel
theorem d_Ds_fetchForLine_38 : decode b_Ds_fetchForLine 38 = .ok (.invokevirtual 74, 3) := by decide +kernel
theorem d_Ds_fetchForLine_41 : decode b_Ds_fetchForLine 41 = .ok (.ifCond .ne 5, 3) := by decide +kernel
theorem d_Ds_fetchForLine_44 : decode b_Ds_fetchForLine 44 = .ok (.iconst 0, 1) := by decide +kernel
theorem d_Ds_fetchForLine_45 : decode b_Ds_fetchForLine 45 = .ok (.ireturn, 1) := by decide +kernel
theorem d_Ds_fetchForLine_46 : decode b_Ds_fetchForLine 46 = .ok (.iload_n 1, 1) := by decide +kernel
theorem d_Ds_fetchForLine_47 : decode b_Ds_fetchForLine 47 = .ok (.iconst 4, 1) := by decide +kernel
theorem d_Ds_fetchForLine_48 : decode b_Ds_fetchForLine 48 = .ok (.isub, 1) := by decide +kernel
theorem d_Ds_fetchForLine_49 : decode b_Ds_fetchForLine 49 = .ok (.iconst 2, 1) := by decide +kernel
theorem d_Ds_fetchForLine_50 : decode b_Ds_fetchForLine 50 = .ok (.idiv, 1) := by decide +kernel
theorem d_Ds_fetchForLine_51 : decode b_Ds_fetchForLine 51 = .ok (.istore_n 2, 1) := by decide +kernel
theorem d_Ds_fetchForLine_52 : decode b_Ds_fetchForLine 52 = .ok (.iload_n 1, 1) := by decide +kernel
theorem d_Ds_fetchForLine_53 : decode b_Ds_fetchForLine 53 = .ok (.iconst 2, 1) := by decide +kernel
theorem d_Ds_fetchForLine_54 : decode b_Ds_fetchForLine 54 = .ok (.irem, 1) := by decide +kernel
theorem d_Ds_fetchForLine_55 : decode b_Ds_fetchForLine 55 = .ok (.ifCond .ne 11, 3) := by decide +kernel
theorem d_Ds_fetchForLine_58 : decode b_Ds_fetchForLine 58 = .ok (.aload_n 0, 1) := by decide +kernel
theorem d_Ds_fetchForLine_59 : decode b_Ds_fetchForLine 59 = .ok (.iload_n 2, 1) := by decide +kernel
theorem d_Ds_fetchForLine_60 : decode b_Ds_fetchForLine 60 = .ok (.invokevirtual 111, 3) := by decide +kernel
theorem d_Ds_fetchForLine_63 : decode b_Ds_fetchForLine 63 = .ok (.goto 8, 3) := by decide +kernel
theorem d_Ds_fetchForLine_66 : decode b_Ds_fetchForLine 66 = .ok (.aload_n 0, 1) := by decide +kernel
theorem d_Ds_fetchForLine_67 : decode b_Ds_fetchForLine 67 = .ok (.iload_n 2, 1) := by decide +kernel
theorem d_Ds_fetchForLine_68 : decode b_Ds_fetchForLine 68 = .ok (.invokevirtual 114, 3) := by decide +kernel
theorem d_Ds_fetchForLine_71 : decode b_Ds_fetchForLine 71 = .ok (.ireturn, 1) := by decide +kernel
theorem d_Ds_beginModeLine_0 : decode b_Ds_beginModeLine 0 = .ok (.aload_n 0, 1) := by decide +kernel
theorem d_Ds_beginModeLine_1 : decode b_Ds_beginModeLine 1 = .ok (.invokevirtual 57, 3) := by decide +kernel
theorem d_Ds_beginModeLine_4 : decode b_Ds_beginModeLine 4 = .ok (.ifCond .ne 10, 3) := by decide +kernel
theorem d_Ds_beginModeLine_7 : decode b_Ds_beginModeLine 7 = .ok (.aload_n 0, 1) := by decide +kernel
theorem d_Ds_beginModeLine_8 : decode b_Ds_beginModeLine 8 = .ok (.getfield 71, 3) := by decide +kernel
theorem d_Ds_beginModeLine_11 : decode b_Ds_beginModeLine 11 = .ok (.ifCond .eq 5, 3) := by decide +kernel
theorem d_Ds_beginModeLine_14 : decode b_Ds_beginModeLine 14 = .ok (.iconst 0, 1) := by decide +kernel
theorem d_Ds_beginModeLine_15 : decode b_Ds_beginModeLine 15 = .ok (.ireturn, 1) := by decide +kernel
theorem d_Ds_beginModeLine_16 : decode b_Ds_beginModeLine 16 = .ok (.aload_n 0, 1) := by decide +kernel
theorem d_Ds_beginModeLine_17 : decode b_Ds_beginModeLine 17 = .ok (.aload_n 0, 1) := by decide +kernel
theorem d_Ds_beginModeLine_18 : decode b_Ds_beginModeLine 18 = .ok (.invokevirtual 117, 3) := by decide +kernel
theorem d_Ds_beginModeLine_21 : decode b_Ds_beginModeLine 21 = .ok (.putfield 68, 3) := by decide +kernel
theorem d_Ds_beginModeLine_24 : decode b_Ds_beginModeLine 24 = .ok (.aload_n 0, 1) := by decide +kernel
theorem d_Ds_beginModeLine_25 : decode b_Ds_beginModeLine 25 = .ok (.aload_n 0, 1) := by decide +kernel
theorem d_Ds_beginModeLine_26 : decode b_Ds_beginModeLine 26 = .ok (.invokevirtual 120, 3) := by decide +kernel
theorem d_Ds_beginModeLine_29 : decode b_Ds_beginModeLine 29 = .ok (.putfield 77, 3) := by decide +kernel
theorem d_Ds_beginModeLine_32 : decode b_Ds_beginModeLine 32 = .ok (.aload_n 0, 1) := by decide +kernel
theorem d_Ds_beginModeLine_33 : decode b_Ds_beginModeLine 33 = .ok (.iconst 0, 1) := by decide +kernel
theorem d_Ds_beginModeLine_34 : decode b_Ds_beginModeLine 34 = .ok (.putfield 60, 3) := by decide +kernel
theorem d_Ds_beginModeLine_37 : decode b_Ds_beginModeLine 37 = .ok (.aload_n 0, 1) := by decide +kernel
theorem d_Ds_beginModeLine_38 : decode b_Ds_beginModeLine 38 = .ok (.aload_n 0, 1) := by decide +kernel
theorem d_Ds_beginModeLine_39 : decode b_Ds_beginModeLine 39 = .ok (.invokevirtual 64, 3) := by decide +kernel
theorem d_Ds_beginModeLine_42 : decode b_Ds_beginModeLine 42 = .ok (.iconst 1, 1) := by decide +kernel
theorem d_Ds_beginModeLine_43 : decode b_Ds_beginModeLine 43 = .ok (.if_icmp .eq 20, 3) := by decide +kernel
theorem d_Ds_beginModeLine_46 : decode b_Ds_beginModeLine 46 = .ok (.aload_n 0, 1) := by decide +kernel
theorem d_Ds_beginModeLine_47 : decode b_Ds_beginModeLine 47 = .ok (.invokevirtual 74, 3) := by decide +kernel
theorem d_Ds_beginModeLine_50 : decode b_Ds_beginModeLine 50 = .ok (.ifCond .eq 17, 3) := by decide +kernel
theorem d_Ds_beginModeLine_53 : decode b_Ds_beginModeLine 53 = .ok (.aload_n 0, 1) := by decide +kernel
theorem d_Ds_beginModeLine_54 : decode b_Ds_beginModeLine 54 = .ok (.getfield 68, 3) := by decide +kernel
theorem d_Ds_beginModeLine_57 : decode b_Ds_beginModeLine 57 = .ok (.bipush 64, 2) := by decide +kernel
theorem d_Ds_beginModeLine_59 : decode b_Ds_beginModeLine 59 = .ok (.iand, 1) := by decide +kernel
theorem d_Ds_beginModeLine_60 : decode b_Ds_beginModeLine 60 = .ok (.ifCond .eq 7, 3) := by decide +kernel
theorem d_Ds_beginModeLine_63 : decode b_Ds_beginModeLine 63 = .ok (.iconst 1, 1) := by decide +kernel
theorem d_Ds_beginModeLine_64 : decode b_Ds_beginModeLine 64 = .ok (.goto 4, 3) := by decide +kernel
theorem d_Ds_beginModeLine_67 : decode b_Ds_beginModeLine 67 = .ok (.iconst 0, 1) := by decide +kernel
theorem d_Ds_beginModeLine_68 : decode b_Ds_beginModeLine 68 = .ok (.putfield 80, 3) := by decide +kernel
theorem d_Ds_beginModeLine_71 : decode b_Ds_beginModeLine 71 = .ok (.iconst 1, 1) := by decide +kernel
theorem d_Ds_beginModeLine_72 : decode b_Ds_beginModeLine 72 = .ok (.ireturn, 1) := by decide +kernel
theorem d_Ds_rowsOfMode_0 : decode b_Ds_rowsOfMode 0 = .ok (.aload_n 0, 1) := by decide +kernel
theorem d_Ds_rowsOfMode_1 : decode b_Ds_rowsOfMode 1 = .ok (.invokevirtual 64, 3) := by decide +kernel
theorem d_Ds_rowsOfMode_4 : decode b_Ds_rowsOfMode 4 = .ok (.tableswitch 58 0 4 #[36, 58, 50, 58, 54], 36) := by decide +kernel
theorem d_Ds_rowsOfMode_40 : decode b_Ds_rowsOfMode 40 = .ok (.aload_n 0, 1) := by decide +kernel
theorem d_Ds_rowsOfMode_41 : decode b_Ds_rowsOfMode 41 = .ok (.getfield 68, 3) := by decide +kernel
theorem d_Ds_rowsOfMode_44 : decode b_Ds_rowsOfMode 44 = .ok (.iconst 4, 1) := by decide +kernel
theorem d_Ds_rowsOfMode_45 : decode b_Ds_rowsOfMode 45 = .ok (.ishr, 1) := by decide +kernel
theorem d_Ds_rowsOfMode_46 : decode b_Ds_rowsOfMode 46 = .ok (.bipush 7, 2) := by decide +kernel
theorem d_Ds_rowsOfMode_48 : decode b_Ds_rowsOfMode 48 = .ok (.iand, 1) := by decide +kernel
theorem d_Ds_rowsOfMode_49 : decode b_Ds_rowsOfMode 49 = .ok (.iconst 1, 1) := by decide +kernel
theorem d_Ds_rowsOfMode_50 : decode b_Ds_rowsOfMode 50 = .ok (.iadd, 1) := by decide +kernel
theorem d_Ds_rowsOfMode_51 : decode b_Ds_rowsOfMode 51 = .ok (.goto 12, 3) := by decide +kernel
theorem d_Ds_rowsOfMode_54 : decode b_Ds_rowsOfMode 54 = .ok (.iconst 4, 1) := by decide +kernel
theorem d_Ds_rowsOfMode_55 : decode b_Ds_rowsOfMode 55 = .ok (.goto 8, 3) := by decide +kernel
theorem d_Ds_rowsOfMode_58 : decode b_Ds_rowsOfMode 58 = .ok (.iconst 2, 1) := by decide +kernel
theorem d_Ds_rowsOfMode_59 : decode b_Ds_rowsOfMode 59 = .ok (.goto 4, 3) := by decide +kernel
theorem d_Ds_rowsOfMode_62 : decode b_Ds_rowsOfMode 62 = .ok (.iconst 1, 1) := by decide +kernel
theorem d_Ds_rowsOfMode_63 : decode b_Ds_rowsOfMode 63 = .ok (.ireturn, 1) := by decide +kernel
theorem d_Ds_fetchAddress_0 : decode b_Ds_fetchAddress 0 = .ok (.aload_n 0, 1) := by decide +kernel
theorem d_Ds_fetchAddress_1 : decode b_Ds_fetchAddress 1 = .ok (.getfield 80, 3) := by decide +kernel
theorem d_Ds_fetchAddress_4 : decode b_Ds_fetchAddress 4 = .ok (.ifCond .ne 5, 3) := by decide +kernel
theorem d_Ds_fetchAddress_7 : decode b_Ds_fetchAddress 7 = .ok (.iconst 0, 1) := by decide +kernel
theorem d_Ds_fetchAddress_8 : decode b_Ds_fetchAddress 8 = .ok (.ireturn, 1) := by decide +kernel
theorem d_Ds_fetchAddress_9 : decode b_Ds_fetchAddress 9 = .ok (.aload_n 0, 1) := by decide +kernel
theorem d_Ds_fetchAddress_10 : decode b_Ds_fetchAddress 10 = .ok (.invokevirtual 117, 3) := by decide +kernel
theorem d_Ds_fetchAddress_13 : decode b_Ds_fetchAddress 13 = .ok (.istore_n 2, 1) := by decide +kernel
theorem d_Ds_fetchAddress_14 : decode b_Ds_fetchAddress 14 = .ok (.iload_n 1, 1) := by decide +kernel
theorem d_Ds_fetchAddress_15 : decode b_Ds_fetchAddress 15 = .ok (.ifCond .ne 10, 3) := by decide +kernel
theorem d_Ds_fetchAddress_18 : decode b_Ds_fetchAddress 18 = .ok (.aload_n 0, 1) := by decide +kernel
theorem d_Ds_fetchAddress_19 : decode b_Ds_fetchAddress 19 = .ok (.iload_n 2, 1) := by decide +kernel
theorem d_Ds_fetchAddress_20 : decode b_Ds_fetchAddress 20 = .ok (.putfield 123, 3) := by decide +kernel
theorem d_Ds_fetchAddress_23 : decode b_Ds_fetchAddress 23 = .ok (.iconst 1, 1) := by decide +kernel
theorem d_Ds_fetchAddress_24 : decode b_Ds_fetchAddress 24 = .ok (.ireturn, 1) := by decide +kernel
theorem d_Ds_fetchAddress_25 : decode b_Ds_fetchAddress 25 = .ok (.sipush 256, 3) := by decide +kernel
theorem d_Ds_fetchAddress_28 : decode b_Ds_fetchAddress 28 = .ok (.iload_n 2, 1) := by decide +kernel
theorem d_Ds_fetchAddress_29 : decode b_Ds_fetchAddress 29 = .ok (.imul, 1) := by decide +kernel
theorem d_Ds_fetchAddress_30 : decode b_Ds_fetchAddress 30 = .ok (.aload_n 0, 1) := by decide +kernel
theorem d_Ds_fetchAddress_31 : decode b_Ds_fetchAddress 31 = .ok (.getfield 123, 3) := by decide +kernel
theorem d_Ds_fetchAddress_34 : decode b_Ds_fetchAddress 34 = .ok (.iadd, 1) := by decide +kernel
theorem d_Ds_fetchAddress_35 : decode b_Ds_fetchAddress 35 = .ok (.sipush 1023, 3) := by decide +kernel
theorem d_Ds_fetchAddress_38 : decode b_Ds_fetchAddress 38 = .ok (.iand, 1) := by decide +kernel
theorem d_Ds_fetchAddress_39 : decode b_Ds_fetchAddress 39 = .ok (.istore_n 3, 1) := by decide +kernel
theorem d_Ds_fetchAddress_40 : decode b_Ds_fetchAddress 40 = .ok (.aload_n 0, 1) := by decide +kernel
theorem d_Ds_fetchAddress_41 : decode b_Ds_fetchAddress 41 = .ok (.invokevirtual 64, 3) := by decide +kernel
theorem d_Ds_fetchAddress_44 : decode b_Ds_fetchAddress 44 = .ok (.iconst 1, 1) := by decide +kernel
theorem d_Ds_fetchAddress_45 : decode b_Ds_fetchAddress 45 = .ok (.if_icmp .ne 11, 3) := by decide +kernel
theorem d_Ds_fetchAddress_48 : decode b_Ds_fetchAddress 48 = .ok (.aload_n 0, 1) := by decide +kernel
theorem d_Ds_fetchAddress_49 : decode b_Ds_fetchAddress 49 = .ok (.iload_n 3, 1) := by decide +kernel
theorem d_Ds_fetchAddress_50 : decode b_Ds_fetchAddress 50 = .ok (.putfield 83, 3) := by decide +kernel
theorem d_Ds_fetchAddress_53 : decode b_Ds_fetchAddress 53 = .ok (.goto 8, 3) := by decide +kernel
theorem d_Ds_fetchAddress_56 : decode b_Ds_fetchAddress 56 = .ok (.aload_n 0, 1) := by decide +kernel
theorem d_Ds_fetchAddress_57 : decode b_Ds_fetchAddress 57 = .ok (.iload_n 3, 1) := by decide +kernel
theorem d_Ds_fetchAddress_58 : decode b_Ds_fetchAddress 58 = .ok (.putfield 126, 3) := by decide +kernel
theorem d_Ds_fetchAddress_61 : decode b_Ds_fetchAddress 61 = .ok (.iconst 1, 1) := by decide +kernel
theorem d_Ds_fetchAddress_62 : decode b_Ds_fetchAddress 62 = .ok (.ireturn, 1) := by decide +kernel
theorem d_Ds_fetchData_0 : decode b_Ds_fetchData 0 = .ok (.aload_n 0, 1) := by decide +kernel
theorem d_Ds_fetchData_1 : decode b_Ds_fetchData 1 = .ok (.getfield 60, 3) := by decide +kernel
theorem d_Ds_fetchData_4 : decode b_Ds_fetchData 4 = .ok (.ifCond .eq 5, 3) := by decide +kernel
theorem d_Ds_fetchData_7 : decode b_Ds_fetchData 7 = .ok (.iconst 0, 1) := by decide +kernel
theorem d_Ds_fetchData_8 : decode b_Ds_fetchData 8 = .ok (.ireturn, 1) := by decide +kernel
theorem d_Ds_fetchData_9 : decode b_Ds_fetchData 9 = .ok (.aload_n 0, 1) := by decide +kernel
theorem d_Ds_fetchData_10 : decode b_Ds_fetchData 10 = .ok (.getfield 9, 3) := by decide +kernel
theorem d_Ds_fetchData_13 : decode b_Ds_fetchData 13 = .ok (.iload_n 1, 1) := by decide +kernel
theorem d_Ds_fetchData_14 : decode b_Ds_fetchData 14 = .ok (.aload_n 0, 1) := by decide +kernel
theorem d_Ds_fetchData_15 : decode b_Ds_fetchData 15 = .ok (.getfield 18, 3) := by decide +kernel
theorem d_Ds_fetchData_18 : decode b_Ds_fetchData 18 = .ok (.aload_n 0, 1) := by decide +kernel
theorem d_Ds_fetchData_19 : decode b_Ds_fetchData 19 = .ok (.getfield 126, 3) := by decide +kernel
theorem d_Ds_fetchData_22 : decode b_Ds_fetchData 22 = .ok (.invokevirtual 86, 3) := by decide +kernel
theorem d_Ds_fetchData_25 : decode b_Ds_fetchData 25 = .ok (.iastore, 1) := by decide +kernel
theorem d_Ds_fetchData_26 : decode b_Ds_fetchData 26 = .ok (.aload_n 0, 1) := by decide +kernel
theorem d_Ds_fetchData_27 : decode b_Ds_fetchData 27 = .ok (.aload_n 0, 1) := by decide +kernel
theorem d_Ds_fetchData_28 : decode b_Ds_fetchData 28 = .ok (.getfield 126, 3) := by decide +kernel
theorem d_Ds_fetchData_31 : decode b_Ds_fetchData 31 = .ok (.invokestatic 129, 3) := by decide +kernel
theorem d_Ds_fetchData_34 : decode b_Ds_fetchData 34 = .ok (.putfield 126, 3) := by decide +kernel
theorem d_Ds_fetchData_37 : decode b_Ds_fetchData 37 = .ok (.iconst 1, 1) := by decide +kernel
theorem d_Ds_fetchData_38 : decode b_Ds_fetchData 38 = .ok (.ireturn, 1) := by decide +kernel
theorem d_Ds_fetchLetterRow_0 : decode b_Ds_fetchLetterRow 0 = .ok (.aload_n 0, 1) := by decide +kernel
theorem d_Ds_fetchLetterRow_1 : decode b_Ds_fetchLetterRow 1 = .ok (.invokevirtual 64, 3) := by decide +kernel
theorem d_Ds_fetchLetterRow_4 : decode b_Ds_fetchLetterRow 4 = .ok (.iconst 2, 1) := by decide +kernel
theorem d_Ds_fetchLetterRow_5 : decode b_Ds_fetchLetterRow 5 = .ok (.if_icmp .eq 5, 3) := by decide +kernel
theorem d_Ds_fetchLetterRow_8 : decode b_Ds_fetchLetterRow 8 = .ok (.iconst 0, 1) := by decide +kernel
theorem d_Ds_fetchLetterRow_9 : decode b_Ds_fetchLetterRow 9 = .ok (.ireturn, 1) := by decide +kernel
theorem d_Ds_fetchLetterRow_10 : decode b_Ds_fetchLetterRow 10 = .ok (.aload_n 0, 1) := by decide +kernel
theorem d_Ds_fetchLetterRow_11 : decode b_Ds_fetchLetterRow 11 = .ok (.getfield 15, 3) := by decide +kernel
theorem d_Ds_fetchLetterRow_14 : decode b_Ds_fetchLetterRow 14 = .ok (.iload_n 1, 1) := by decide +kernel
theorem d_Ds_fetchLetterRow_15 : decode b_Ds_fetchLetterRow 15 = .ok (.aload_n 0, 1) := by decide +kernel
theorem d_Ds_fetchLetterRow_16 : decode b_Ds_fetchLetterRow 16 = .ok (.getfield 18, 3) := by decide +kernel
theorem d_Ds_fetchLetterRow_19 : decode b_Ds_fetchLetterRow 19 = .ok (.sipush 256, 3) := by decide +kernel
theorem d_Ds_fetchLetterRow_22 : decode b_Ds_fetchLetterRow 22 = .ok (.aload_n 0, 1) := by decide +kernel
theorem d_Ds_fetchLetterRow_23 : decode b_Ds_fetchLetterRow 23 = .ok (.getfield 22, 3) := by decide +kernel
theorem d_Ds_fetchLetterRow_26 : decode b_Ds_fetchLetterRow 26 = .ok (.iconst 1, 1) := by decide +kernel
theorem d_Ds_fetchLetterRow_27 : decode b_Ds_fetchLetterRow 27 = .ok (.iaload, 1) := by decide +kernel
theorem d_Ds_fetchLetterRow_28 : decode b_Ds_fetchLetterRow 28 = .ok (.imul, 1) := by decide +kernel
theorem d_Ds_fetchLetterRow_29 : decode b_Ds_fetchLetterRow 29 = .ok (.iconst 4, 1) := by decide +kernel
theorem d_Ds_fetchLetterRow_30 : decode b_Ds_fetchLetterRow 30 = .ok (.aload_n 0, 1) := by decide +kernel
theorem d_Ds_fetchLetterRow_31 : decode b_Ds_fetchLetterRow 31 = .ok (.getfield 9, 3) := by decide +kernel
theorem d_Ds_fetchLetterRow_34 : decode b_Ds_fetchLetterRow 34 = .ok (.iload_n 1, 1) := by decide +kernel
theorem d_Ds_fetchLetterRow_35 : decode b_Ds_fetchLetterRow 35 = .ok (.iaload, 1) := by decide +kernel
theorem d_Ds_fetchLetterRow_36 : decode b_Ds_fetchLetterRow 36 = .ok (.bipush 63, 2) := by decide +kernel
theorem d_Ds_fetchLetterRow_38 : decode b_Ds_fetchLetterRow 38 = .ok (.iand, 1) := by decide +kernel
theorem d_Ds_fetchLetterRow_39 : decode b_Ds_fetchLetterRow 39 = .ok (.imul, 1) := by decide +kernel
theorem d_Ds_fetchLetterRow_40 : decode b_Ds_fetchLetterRow 40 = .ok (.iadd, 1) := by decide +kernel
theorem d_Ds_fetchLetterRow_41 : decode b_Ds_fetchLetterRow 41 = .ok (.aload_n 0, 1) := by decide +kernel
