theorem d_Pr_returnFromNmi_60 : decode b_Pr_returnFromNmi 60 = .ok (.iand, 1) := by decide +kernel
theorem d_Pr_returnFromNmi_61 : decode b_Pr_returnFromNmi 61 = .ok (.putfield 9, 3) := by decide +kernel
theorem d_Pr_returnFromNmi_64 : decode b_Pr_returnFromNmi 64 = .ok (.return_, 1) := by decide +kernel
theorem d_Pr_push_0 : decode b_Pr_push 0 = .ok (.aload_n 0, 1) := by decide +kernel
theorem d_Pr_push_1 : decode b_Pr_push 1 = .ok (.getfield 18, 3) := by decide +kernel
theorem d_Pr_push_4 : decode b_Pr_push 4 = .ok (.getfield 85, 3) := by decide +kernel
theorem d_Pr_push_7 : decode b_Pr_push 7 = .ok (.sipush 256, 3) := by decide +kernel
theorem d_Pr_push_10 : decode b_Pr_push 10 = .ok (.aload_n 0, 1) := by decide +kernel
theorem d_Pr_push_11 : decode b_Pr_push 11 = .ok (.getfield 15, 3) := by decide +kernel
theorem d_Pr_push_14 : decode b_Pr_push 14 = .ok (.iadd, 1) := by decide +kernel
theorem d_Pr_push_15 : decode b_Pr_push 15 = .ok (.iload_n 1, 1) := by decide +kernel
theorem d_Pr_push_16 : decode b_Pr_push 16 = .ok (.invokevirtual 144, 3) := by decide +kernel
theorem d_Pr_push_19 : decode b_Pr_push 19 = .ok (.aload_n 0, 1) := by decide +kernel
theorem d_Pr_push_20 : decode b_Pr_push 20 = .ok (.aload_n 0, 1) := by decide +kernel
theorem d_Pr_push_21 : decode b_Pr_push 21 = .ok (.getfield 15, 3) := by decide +kernel
theorem d_Pr_push_24 : decode b_Pr_push 24 = .ok (.iconst 1, 1) := by decide +kernel
theorem d_Pr_push_25 : decode b_Pr_push 25 = .ok (.isub, 1) := by decide +kernel
theorem d_Pr_push_26 : decode b_Pr_push 26 = .ok (.sipush 255, 3) := by decide +kernel
theorem d_Pr_push_29 : decode b_Pr_push 29 = .ok (.iand, 1) := by decide +kernel
theorem d_Pr_push_30 : decode b_Pr_push 30 = .ok (.putfield 15, 3) := by decide +kernel
theorem d_Pr_push_33 : decode b_Pr_push 33 = .ok (.return_, 1) := by decide +kernel
theorem d_Pr_pushPlace_0 : decode b_Pr_pushPlace 0 = .ok (.aload_n 0, 1) := by decide +kernel
theorem d_Pr_pushPlace_1 : decode b_Pr_pushPlace 1 = .ok (.iload_n 1, 1) := by decide +kernel
theorem d_Pr_pushPlace_2 : decode b_Pr_pushPlace 2 = .ok (.bipush 8, 2) := by decide +kernel
theorem d_Pr_pushPlace_4 : decode b_Pr_pushPlace 4 = .ok (.ishr, 1) := by decide +kernel
theorem d_Pr_pushPlace_5 : decode b_Pr_pushPlace 5 = .ok (.invokevirtual 82, 3) := by decide +kernel
theorem d_Pr_pushPlace_8 : decode b_Pr_pushPlace 8 = .ok (.aload_n 0, 1) := by decide +kernel
theorem d_Pr_pushPlace_9 : decode b_Pr_pushPlace 9 = .ok (.iload_n 1, 1) := by decide +kernel
theorem d_Pr_pushPlace_10 : decode b_Pr_pushPlace 10 = .ok (.sipush 255, 3) := by decide +kernel
theorem d_Pr_pushPlace_13 : decode b_Pr_pushPlace 13 = .ok (.iand, 1) := by decide +kernel
theorem d_Pr_pushPlace_14 : decode b_Pr_pushPlace 14 = .ok (.invokevirtual 82, 3) := by decide +kernel
theorem d_Pr_pushPlace_17 : decode b_Pr_pushPlace 17 = .ok (.return_, 1) := by decide +kernel
theorem d_Pr_pull_0 : decode b_Pr_pull 0 = .ok (.aload_n 0, 1) := by decide +kernel
theorem d_Pr_pull_1 : decode b_Pr_pull 1 = .ok (.aload_n 0, 1) := by decide +kernel
theorem d_Pr_pull_2 : decode b_Pr_pull 2 = .ok (.getfield 15, 3) := by decide +kernel
theorem d_Pr_pull_5 : decode b_Pr_pull 5 = .ok (.iconst 1, 1) := by decide +kernel
theorem d_Pr_pull_6 : decode b_Pr_pull 6 = .ok (.iadd, 1) := by decide +kernel
theorem d_Pr_pull_7 : decode b_Pr_pull 7 = .ok (.sipush 255, 3) := by decide +kernel
theorem d_Pr_pull_10 : decode b_Pr_pull 10 = .ok (.iand, 1) := by decide +kernel
theorem d_Pr_pull_11 : decode b_Pr_pull 11 = .ok (.putfield 15, 3) := by decide +kernel
theorem d_Pr_pull_14 : decode b_Pr_pull 14 = .ok (.aload_n 0, 1) := by decide +kernel
theorem d_Pr_pull_15 : decode b_Pr_pull 15 = .ok (.getfield 18, 3) := by decide +kernel
theorem d_Pr_pull_18 : decode b_Pr_pull 18 = .ok (.getfield 85, 3) := by decide +kernel
theorem d_Pr_pull_21 : decode b_Pr_pull 21 = .ok (.sipush 256, 3) := by decide +kernel
theorem d_Pr_pull_24 : decode b_Pr_pull 24 = .ok (.aload_n 0, 1) := by decide +kernel
theorem d_Pr_pull_25 : decode b_Pr_pull 25 = .ok (.getfield 15, 3) := by decide +kernel
theorem d_Pr_pull_28 : decode b_Pr_pull 28 = .ok (.iadd, 1) := by decide +kernel
theorem d_Pr_pull_29 : decode b_Pr_pull 29 = .ok (.invokevirtual 89, 3) := by decide +kernel
theorem d_Pr_pull_32 : decode b_Pr_pull 32 = .ok (.ireturn, 1) := by decide +kernel
theorem d_Pr_pullPlace_0 : decode b_Pr_pullPlace 0 = .ok (.aload_n 0, 1) := by decide +kernel
theorem d_Pr_pullPlace_1 : decode b_Pr_pullPlace 1 = .ok (.invokevirtual 125, 3) := by decide +kernel
theorem d_Pr_pullPlace_4 : decode b_Pr_pullPlace 4 = .ok (.istore_n 1, 1) := by decide +kernel
theorem d_Pr_pullPlace_5 : decode b_Pr_pullPlace 5 = .ok (.iload_n 1, 1) := by decide +kernel
theorem d_Pr_pullPlace_6 : decode b_Pr_pullPlace 6 = .ok (.sipush 256, 3) := by decide +kernel
theorem d_Pr_pullPlace_9 : decode b_Pr_pullPlace 9 = .ok (.aload_n 0, 1) := by decide +kernel
theorem d_Pr_pullPlace_10 : decode b_Pr_pullPlace 10 = .ok (.invokevirtual 125, 3) := by decide +kernel
theorem d_Pr_pullPlace_13 : decode b_Pr_pullPlace 13 = .ok (.imul, 1) := by decide +kernel
theorem d_Pr_pullPlace_14 : decode b_Pr_pullPlace 14 = .ok (.iadd, 1) := by decide +kernel
theorem d_Pr_pullPlace_15 : decode b_Pr_pullPlace 15 = .ok (.ireturn, 1) := by decide +kernel
theorem d_Mo_init_0 : decode b_Mo_init 0 = .ok (.aload_n 0, 1) := by decide +kernel
theorem d_Mo_init_1 : decode b_Mo_init 1 = .ok (.invokespecial 1, 3) := by decide +kernel
theorem d_Mo_init_4 : decode b_Mo_init 4 = .ok (.aload_n 0, 1) := by decide +kernel
theorem d_Mo_init_5 : decode b_Mo_init 5 = .ok (.sipush 768, 3) := by decide +kernel
theorem d_Mo_init_8 : decode b_Mo_init 8 = .ok (.newarray .int, 2) := by decide +kernel
theorem d_Mo_init_10 : decode b_Mo_init 10 = .ok (.putfield 7, 3) := by decide +kernel
theorem d_Mo_init_13 : decode b_Mo_init 13 = .ok (.aload_n 0, 1) := by decide +kernel
theorem d_Mo_init_14 : decode b_Mo_init 14 = .ok (.bipush 32, 2) := by decide +kernel
theorem d_Mo_init_16 : decode b_Mo_init 16 = .ok (.newarray .int, 2) := by decide +kernel
theorem d_Mo_init_18 : decode b_Mo_init 18 = .ok (.putfield 13, 3) := by decide +kernel
theorem d_Mo_init_21 : decode b_Mo_init 21 = .ok (.aload_n 0, 1) := by decide +kernel
theorem d_Mo_init_22 : decode b_Mo_init 22 = .ok (.sipush 255, 3) := by decide +kernel
theorem d_Mo_init_25 : decode b_Mo_init 25 = .ok (.putfield 16, 3) := by decide +kernel
theorem d_Mo_init_28 : decode b_Mo_init 28 = .ok (.aload_n 0, 1) := by decide +kernel
theorem d_Mo_init_29 : decode b_Mo_init 29 = .ok (.sipush 512, 3) := by decide +kernel
theorem d_Mo_init_32 : decode b_Mo_init 32 = .ok (.putfield 20, 3) := by decide +kernel
theorem d_Mo_init_35 : decode b_Mo_init 35 = .ok (.aload_n 0, 1) := by decide +kernel
theorem d_Mo_init_36 : decode b_Mo_init 36 = .ok (.bipush 8, 2) := by decide +kernel
theorem d_Mo_init_38 : decode b_Mo_init 38 = .ok (.newarray .int, 2) := by decide +kernel
theorem d_Mo_init_40 : decode b_Mo_init 40 = .ok (.putfield 23, 3) := by decide +kernel
theorem d_Mo_init_43 : decode b_Mo_init 43 = .ok (.aload_n 0, 1) := by decide +kernel
theorem d_Mo_init_44 : decode b_Mo_init 44 = .ok (.bipush 8, 2) := by decide +kernel
theorem d_Mo_init_46 : decode b_Mo_init 46 = .ok (.newarray .int, 2) := by decide +kernel
theorem d_Mo_init_48 : decode b_Mo_init 48 = .ok (.putfield 26, 3) := by decide +kernel
theorem d_Mo_init_51 : decode b_Mo_init 51 = .ok (.aload_n 0, 1) := by decide +kernel
theorem d_Mo_init_52 : decode b_Mo_init 52 = .ok (.iconst 2, 1) := by decide +kernel
theorem d_Mo_init_53 : decode b_Mo_init 53 = .ok (.newarray .int, 2) := by decide +kernel
theorem d_Mo_init_55 : decode b_Mo_init 55 = .ok (.putfield 29, 3) := by decide +kernel
theorem d_Mo_init_58 : decode b_Mo_init 58 = .ok (.aload_n 0, 1) := by decide +kernel
theorem d_Mo_init_59 : decode b_Mo_init 59 = .ok (.sipush 384, 3) := by decide +kernel
theorem d_Mo_init_62 : decode b_Mo_init 62 = .ok (.newarray .int, 2) := by decide +kernel
theorem d_Mo_init_64 : decode b_Mo_init 64 = .ok (.putfield 32, 3) := by decide +kernel
theorem d_Mo_init_67 : decode b_Mo_init 67 = .ok (.aload_n 0, 1) := by decide +kernel
theorem d_Mo_init_68 : decode b_Mo_init 68 = .ok (.sipush 511, 3) := by decide +kernel
theorem d_Mo_init_71 : decode b_Mo_init 71 = .ok (.putfield 35, 3) := by decide +kernel
theorem d_Mo_init_74 : decode b_Mo_init 74 = .ok (.aload_n 0, 1) := by decide +kernel
theorem d_Mo_init_75 : decode b_Mo_init 75 = .ok (.bipush 64, 2) := by decide +kernel
theorem d_Mo_init_77 : decode b_Mo_init 77 = .ok (.newarray .int, 2) := by decide +kernel
theorem d_Mo_init_79 : decode b_Mo_init 79 = .ok (.putfield 38, 3) := by decide +kernel
theorem d_Mo_init_82 : decode b_Mo_init 82 = .ok (.aload_n 0, 1) := by decide +kernel
theorem d_Mo_init_83 : decode b_Mo_init 83 = .ok (.bipush 9, 2) := by decide +kernel
theorem d_Mo_init_85 : decode b_Mo_init 85 = .ok (.newarray .int, 2) := by decide +kernel
theorem d_Mo_init_87 : decode b_Mo_init 87 = .ok (.putfield 41, 3) := by decide +kernel
theorem d_Mo_init_90 : decode b_Mo_init 90 = .ok (.aload_n 0, 1) := by decide +kernel
theorem d_Mo_init_91 : decode b_Mo_init 91 = .ok (.bipush 40, 2) := by decide +kernel
theorem d_Mo_init_93 : decode b_Mo_init 93 = .ok (.newarray .int, 2) := by decide +kernel
theorem d_Mo_init_95 : decode b_Mo_init 95 = .ok (.putfield 44, 3) := by decide +kernel
theorem d_Mo_init_98 : decode b_Mo_init 98 = .ok (.return_, 1) := by decide +kernel
theorem d_Mo_thrown_0 : decode b_Mo_thrown 0 = .ok (.aload_n 0, 1) := by decide +kernel
theorem d_Mo_thrown_1 : decode b_Mo_thrown 1 = .ok (.getfield 47, 3) := by decide +kernel
theorem d_Mo_thrown_4 : decode b_Mo_thrown 4 = .ok (.ireturn, 1) := by decide +kernel
theorem d_Mo_in_0 : decode b_Mo_in 0 = .ok (.iload_n 0, 1) := by decide +kernel
theorem d_Mo_in_1 : decode b_Mo_in 1 = .ok (.iload_n 1, 1) := by decide +kernel
theorem d_Mo_in_2 : decode b_Mo_in 2 = .ok (.if_icmp .lt 12, 3) := by decide +kernel
theorem d_Mo_in_5 : decode b_Mo_in 5 = .ok (.iload_n 0, 1) := by decide +kernel
theorem d_Mo_in_6 : decode b_Mo_in 6 = .ok (.iload_n 2, 1) := by decide +kernel
theorem d_Mo_in_7 : decode b_Mo_in 7 = .ok (.if_icmp .gt 7, 3) := by decide +kernel
theorem d_Mo_in_10 : decode b_Mo_in 10 = .ok (.iconst 1, 1) := by decide +kernel
theorem d_Mo_in_11 : decode b_Mo_in 11 = .ok (.goto 4, 3) := by decide +kernel
theorem d_Mo_in_14 : decode b_Mo_in 14 = .ok (.iconst 0, 1) := by decide +kernel
theorem d_Mo_in_15 : decode b_Mo_in 15 = .ok (.ireturn, 1) := by decide +kernel
theorem d_Mo_isByte_0 : decode b_Mo_isByte 0 = .ok (.iload_n 0, 1) := by decide +kernel
theorem d_Mo_isByte_1 : decode b_Mo_isByte 1 = .ok (.iconst 0, 1) := by decide +kernel
theorem d_Mo_isByte_2 : decode b_Mo_isByte 2 = .ok (.sipush 255, 3) := by decide +kernel
theorem d_Mo_isByte_5 : decode b_Mo_isByte 5 = .ok (.invokestatic 50, 3) := by decide +kernel
theorem d_Mo_isByte_8 : decode b_Mo_isByte 8 = .ok (.ireturn, 1) := by decide +kernel
theorem d_Mo_fails_0 : decode b_Mo_fails 0 = .ok (.aload_n 0, 1) := by decide +kernel
theorem d_Mo_fails_1 : decode b_Mo_fails 1 = .ok (.iconst 1, 1) := by decide +kernel
theorem d_Mo_fails_2 : decode b_Mo_fails 2 = .ok (.putfield 47, 3) := by decide +kernel
theorem d_Mo_fails_5 : decode b_Mo_fails 5 = .ok (.iconst 0, 1) := by decide +kernel
theorem d_Mo_fails_6 : decode b_Mo_fails 6 = .ok (.ireturn, 1) := by decide +kernel
theorem d_Mo_control_0 : decode b_Mo_control 0 = .ok (.aload_n 0, 1) := by decide +kernel
theorem d_Mo_control_1 : decode b_Mo_control 1 = .ok (.getfield 13, 3) := by decide +kernel
theorem d_Mo_control_4 : decode b_Mo_control 4 = .ok (.iconst 0, 1) := by decide +kernel
theorem d_Mo_control_5 : decode b_Mo_control 5 = .ok (.iaload, 1) := by decide +kernel
theorem d_Mo_control_6 : decode b_Mo_control 6 = .ok (.iload_n 1, 1) := by decide +kernel
theorem d_Mo_control_7 : decode b_Mo_control 7 = .ok (.ishr, 1) := by decide +kernel
theorem d_Mo_control_8 : decode b_Mo_control 8 = .ok (.iconst 1, 1) := by decide +kernel
theorem d_Mo_control_9 : decode b_Mo_control 9 = .ok (.iand, 1) := by decide +kernel
theorem d_Mo_control_10 : decode b_Mo_control 10 = .ok (.iconst 1, 1) := by decide +kernel
theorem d_Mo_control_11 : decode b_Mo_control 11 = .ok (.if_icmp .ne 7, 3) := by decide +kernel
theorem d_Mo_control_14 : decode b_Mo_control 14 = .ok (.iconst 1, 1) := by decide +kernel
theorem d_Mo_control_15 : decode b_Mo_control 15 = .ok (.goto 4, 3) := by decide +kernel
theorem d_Mo_control_18 : decode b_Mo_control 18 = .ok (.iconst 0, 1) := by decide +kernel
theorem d_Mo_control_19 : decode b_Mo_control 19 = .ok (.ireturn, 1) := by decide +kernel
theorem d_Mo_fetch_0 : decode b_Mo_fetch 0 = .ok (.iload_n 1, 1) := by decide +kernel
theorem d_Mo_fetch_1 : decode b_Mo_fetch 1 = .ok (.sipush 1023, 3) := by decide +kernel
theorem d_Mo_fetch_4 : decode b_Mo_fetch 4 = .ok (.iand, 1) := by decide +kernel
theorem d_Mo_fetch_5 : decode b_Mo_fetch 5 = .ok (.sipush 768, 3) := by decide +kernel
theorem d_Mo_fetch_8 : decode b_Mo_fetch 8 = .ok (.if_icmp .ge 16, 3) := by decide +kernel
theorem d_Mo_fetch_11 : decode b_Mo_fetch 11 = .ok (.aload_n 0, 1) := by decide +kernel
theorem d_Mo_fetch_12 : decode b_Mo_fetch 12 = .ok (.getfield 7, 3) := by decide +kernel
theorem d_Mo_fetch_15 : decode b_Mo_fetch 15 = .ok (.iload_n 1, 1) := by decide +kernel
theorem d_Mo_fetch_16 : decode b_Mo_fetch 16 = .ok (.sipush 1023, 3) := by decide +kernel
theorem d_Mo_fetch_19 : decode b_Mo_fetch 19 = .ok (.iand, 1) := by decide +kernel
theorem d_Mo_fetch_20 : decode b_Mo_fetch 20 = .ok (.iaload, 1) := by decide +kernel
theorem d_Mo_fetch_21 : decode b_Mo_fetch 21 = .ok (.goto 6, 3) := by decide +kernel
theorem d_Mo_fetch_24 : decode b_Mo_fetch 24 = .ok (.sipush 255, 3) := by decide +kernel
theorem d_Mo_fetch_27 : decode b_Mo_fetch 27 = .ok (.ireturn, 1) := by decide +kernel
theorem d_Mo_read_0 : decode b_Mo_read 0 = .ok (.iload_n 1, 1) := by decide +kernel
theorem d_Mo_read_1 : decode b_Mo_read 1 = .ok (.sipush 1023, 3) := by decide +kernel
theorem d_Mo_read_4 : decode b_Mo_read 4 = .ok (.iand, 1) := by decide +kernel
theorem d_Mo_read_5 : decode b_Mo_read 5 = .ok (.istore_n 2, 1) := by decide +kernel
theorem d_Mo_read_6 : decode b_Mo_read 6 = .ok (.iload_n 2, 1) := by decide +kernel
theorem d_Mo_read_7 : decode b_Mo_read 7 = .ok (.sipush 768, 3) := by decide +kernel
theorem d_Mo_read_10 : decode b_Mo_read 10 = .ok (.if_icmp .ge 12, 3) := by decide +kernel
theorem d_Mo_read_13 : decode b_Mo_read 13 = .ok (.aload_n 0, 1) := by decide +kernel
theorem d_Mo_read_14 : decode b_Mo_read 14 = .ok (.getfield 7, 3) := by decide +kernel
theorem d_Mo_read_17 : decode b_Mo_read 17 = .ok (.iload_n 2, 1) := by decide +kernel
theorem d_Mo_read_18 : decode b_Mo_read 18 = .ok (.iaload, 1) := by decide +kernel
theorem d_Mo_read_19 : decode b_Mo_read 19 = .ok (.goto 25, 3) := by decide +kernel
theorem d_Mo_read_22 : decode b_Mo_read 22 = .ok (.iload_n 2, 1) := by decide +kernel
theorem d_Mo_read_23 : decode b_Mo_read 23 = .ok (.sipush 800, 3) := by decide +kernel
theorem d_Mo_read_26 : decode b_Mo_read 26 = .ok (.if_icmp .ge 15, 3) := by decide +kernel
theorem d_Mo_read_29 : decode b_Mo_read 29 = .ok (.aload_n 0, 1) := by decide +kernel
theorem d_Mo_read_30 : decode b_Mo_read 30 = .ok (.iload_n 2, 1) := by decide +kernel
theorem d_Mo_read_31 : decode b_Mo_read 31 = .ok (.sipush 768, 3) := by decide +kernel
theorem d_Mo_read_34 : decode b_Mo_read 34 = .ok (.isub, 1) := by decide +kernel
theorem d_Mo_read_35 : decode b_Mo_read 35 = .ok (.invokevirtual 54, 3) := by decide +kernel
theorem d_Mo_read_38 : decode b_Mo_read 38 = .ok (.goto 6, 3) := by decide +kernel
theorem d_Mo_read_41 : decode b_Mo_read 41 = .ok (.sipush 255, 3) := by decide +kernel
theorem d_Mo_read_44 : decode b_Mo_read 44 = .ok (.ireturn, 1) := by decide +kernel
theorem d_Mo_readRegister_0 : decode b_Mo_readRegister 0 = .ok (.iload_n 1, 1) := by decide +kernel
theorem d_Mo_readRegister_1 : decode b_Mo_readRegister 1 = .ok (.ifCond .ne 8, 3) := by decide +kernel
theorem d_Mo_readRegister_4 : decode b_Mo_readRegister 4 = .ok (.aload_n 0, 1) := by decide +kernel
theorem d_Mo_readRegister_5 : decode b_Mo_readRegister 5 = .ok (.getfield 58, 3) := by decide +kernel
theorem d_Mo_readRegister_8 : decode b_Mo_readRegister 8 = .ok (.ireturn, 1) := by decide +kernel
theorem d_Mo_readRegister_9 : decode b_Mo_readRegister 9 = .ok (.iload_n 1, 1) := by decide +kernel
theorem d_Mo_readRegister_10 : decode b_Mo_readRegister 10 = .ok (.iconst 1, 1) := by decide +kernel
theorem d_Mo_readRegister_11 : decode b_Mo_readRegister 11 = .ok (.if_icmp .ne 8, 3) := by decide +kernel
theorem d_Mo_readRegister_14 : decode b_Mo_readRegister 14 = .ok (.aload_n 0, 1) := by decide +kernel
theorem d_Mo_readRegister_15 : decode b_Mo_readRegister 15 = .ok (.getfield 61, 3) := by decide +kernel
theorem d_Mo_readRegister_18 : decode b_Mo_readRegister 18 = .ok (.ireturn, 1) := by decide +kernel
theorem d_Mo_readRegister_19 : decode b_Mo_readRegister 19 = .ok (.iload_n 1, 1) := by decide +kernel
theorem d_Mo_readRegister_20 : decode b_Mo_readRegister 20 = .ok (.iconst 2, 1) := by decide +kernel
theorem d_Mo_readRegister_21 : decode b_Mo_readRegister 21 = .ok (.if_icmp .eq 8, 3) := by decide +kernel
theorem d_Mo_readRegister_24 : decode b_Mo_readRegister 24 = .ok (.iload_n 1, 1) := by decide +kernel
theorem d_Mo_readRegister_25 : decode b_Mo_readRegister 25 = .ok (.iconst 3, 1) := by decide +kernel
theorem d_Mo_readRegister_26 : decode b_Mo_readRegister 26 = .ok (.if_icmp .ne 12, 3) := by decide +kernel
theorem d_Mo_readRegister_29 : decode b_Mo_readRegister 29 = .ok (.aload_n 0, 1) := by decide +kernel
theorem d_Mo_readRegister_30 : decode b_Mo_readRegister 30 = .ok (.getfield 29, 3) := by decide +kernel
theorem d_Mo_readRegister_33 : decode b_Mo_readRegister 33 = .ok (.iload_n 1, 1) := by decide +kernel
theorem d_Mo_readRegister_34 : decode b_Mo_readRegister 34 = .ok (.iconst 2, 1) := by decide +kernel
theorem d_Mo_readRegister_35 : decode b_Mo_readRegister 35 = .ok (.isub, 1) := by decide +kernel
theorem d_Mo_readRegister_36 : decode b_Mo_readRegister 36 = .ok (.iaload, 1) := by decide +kernel
theorem d_Mo_readRegister_37 : decode b_Mo_readRegister 37 = .ok (.ireturn, 1) := by decide +kernel
theorem d_Mo_readRegister_38 : decode b_Mo_readRegister 38 = .ok (.iload_n 1, 1) := by decide +kernel
theorem d_Mo_readRegister_39 : decode b_Mo_readRegister 39 = .ok (.iconst 4, 1) := by decide +kernel
theorem d_Mo_readRegister_40 : decode b_Mo_readRegister 40 = .ok (.if_icmp .ne 8, 3) := by decide +kernel
theorem d_Mo_readRegister_43 : decode b_Mo_readRegister 43 = .ok (.aload_n 0, 1) := by decide +kernel
theorem d_Mo_readRegister_44 : decode b_Mo_readRegister 44 = .ok (.getfield 64, 3) := by decide +kernel
theorem d_Mo_readRegister_47 : decode b_Mo_readRegister 47 = .ok (.ireturn, 1) := by decide +kernel
theorem d_Mo_readRegister_48 : decode b_Mo_readRegister 48 = .ok (.iload_n 1, 1) := by decide +kernel
theorem d_Mo_readRegister_49 : decode b_Mo_readRegister 49 = .ok (.iconst 5, 1) := by decide +kernel
theorem d_Mo_readRegister_50 : decode b_Mo_readRegister 50 = .ok (.if_icmp .ne 12, 3) := by decide +kernel
theorem d_Mo_readRegister_53 : decode b_Mo_readRegister 53 = .ok (.aload_n 0, 1) := by decide +kernel
theorem d_Mo_readRegister_54 : decode b_Mo_readRegister 54 = .ok (.getfield 35, 3) := by decide +kernel
theorem d_Mo_readRegister_57 : decode b_Mo_readRegister 57 = .ok (.sipush 255, 3) := by decide +kernel
theorem d_Mo_readRegister_60 : decode b_Mo_readRegister 60 = .ok (.iand, 1) := by decide +kernel
theorem d_Mo_readRegister_61 : decode b_Mo_readRegister 61 = .ok (.ireturn, 1) := by decide +kernel
theorem d_Mo_readRegister_62 : decode b_Mo_readRegister 62 = .ok (.iload_n 1, 1) := by decide +kernel
theorem d_Mo_readRegister_63 : decode b_Mo_readRegister 63 = .ok (.bipush 6, 2) := by decide +kernel
theorem d_Mo_readRegister_65 : decode b_Mo_readRegister 65 = .ok (.if_icmp .ne 15, 3) := by decide +kernel
theorem d_Mo_readRegister_68 : decode b_Mo_readRegister 68 = .ok (.aload_n 0, 1) := by decide +kernel
theorem d_Mo_readRegister_69 : decode b_Mo_readRegister 69 = .ok (.getfield 67, 3) := by decide +kernel
theorem d_Mo_readRegister_72 : decode b_Mo_readRegister 72 = .ok (.istore_n 2, 1) := by decide +kernel
theorem d_Mo_readRegister_73 : decode b_Mo_readRegister 73 = .ok (.aload_n 0, 1) := by decide +kernel
theorem d_Mo_readRegister_74 : decode b_Mo_readRegister 74 = .ok (.iconst 0, 1) := by decide +kernel
theorem d_Mo_readRegister_75 : decode b_Mo_readRegister 75 = .ok (.putfield 67, 3) := by decide +kernel
theorem d_Mo_readRegister_78 : decode b_Mo_readRegister 78 = .ok (.iload_n 2, 1) := by decide +kernel
theorem d_Mo_readRegister_79 : decode b_Mo_readRegister 79 = .ok (.ireturn, 1) := by decide +kernel
theorem d_Mo_readRegister_80 : decode b_Mo_readRegister 80 = .ok (.iload_n 1, 1) := by decide +kernel
theorem d_Mo_readRegister_81 : decode b_Mo_readRegister 81 = .ok (.bipush 7, 2) := by decide +kernel
theorem d_Mo_readRegister_83 : decode b_Mo_readRegister 83 = .ok (.if_icmp .ne 26, 3) := by decide +kernel
theorem d_Mo_readRegister_86 : decode b_Mo_readRegister 86 = .ok (.aload_n 0, 1) := by decide +kernel
theorem d_Mo_readRegister_87 : decode b_Mo_readRegister 87 = .ok (.getfield 70, 3) := by decide +kernel
theorem d_Mo_readRegister_90 : decode b_Mo_readRegister 90 = .ok (.ifCond .eq 10, 3) := by decide +kernel
theorem d_Mo_readRegister_93 : decode b_Mo_readRegister 93 = .ok (.aload_n 0, 1) := by decide +kernel
theorem d_Mo_readRegister_94 : decode b_Mo_readRegister 94 = .ok (.getfield 74, 3) := by decide +kernel
theorem d_Mo_readRegister_97 : decode b_Mo_readRegister 97 = .ok (.goto 4, 3) := by decide +kernel
theorem d_Mo_readRegister_100 : decode b_Mo_readRegister 100 = .ok (.iconst 0, 1) := by decide +kernel
theorem d_Mo_readRegister_101 : decode b_Mo_readRegister 101 = .ok (.istore_n 2, 1) := by decide +kernel
theorem d_Mo_readRegister_102 : decode b_Mo_readRegister 102 = .ok (.aload_n 0, 1) := by decide +kernel
theorem d_Mo_readRegister_103 : decode b_Mo_readRegister 103 = .ok (.iconst 0, 1) := by decide +kernel
theorem d_Mo_readRegister_104 : decode b_Mo_readRegister 104 = .ok (.putfield 70, 3) := by decide +kernel
theorem d_Mo_readRegister_107 : decode b_Mo_readRegister 107 = .ok (.iload_n 2, 1) := by decide +kernel
theorem d_Mo_readRegister_108 : decode b_Mo_readRegister 108 = .ok (.ireturn, 1) := by decide +kernel
theorem d_Mo_readRegister_109 : decode b_Mo_readRegister 109 = .ok (.iload_n 1, 1) := by decide +kernel
theorem d_Mo_readRegister_110 : decode b_Mo_readRegister 110 = .ok (.bipush 8, 2) := by decide +kernel
theorem d_Mo_readRegister_112 : decode b_Mo_readRegister 112 = .ok (.if_icmp .ne 18, 3) := by decide +kernel
theorem d_Mo_readRegister_115 : decode b_Mo_readRegister 115 = .ok (.aload_n 0, 1) := by decide +kernel
theorem d_Mo_readRegister_116 : decode b_Mo_readRegister 116 = .ok (.getfield 70, 3) := by decide +kernel
theorem d_Mo_readRegister_119 : decode b_Mo_readRegister 119 = .ok (.ifCond .eq 7, 3) := by decide +kernel
theorem d_Mo_readRegister_122 : decode b_Mo_readRegister 122 = .ok (.iconst 1, 1) := by decide +kernel
theorem d_Mo_readRegister_123 : decode b_Mo_readRegister 123 = .ok (.goto 23, 3) := by decide +kernel
theorem d_Mo_readRegister_126 : decode b_Mo_readRegister 126 = .ok (.iconst 0, 1) := by decide +kernel
theorem d_Mo_readRegister_127 : decode b_Mo_readRegister 127 = .ok (.goto 19, 3) := by decide +kernel
theorem d_Mo_readRegister_130 : decode b_Mo_readRegister 130 = .ok (.iload_n 1, 1) := by decide +kernel
theorem d_Mo_readRegister_131 : decode b_Mo_readRegister 131 = .ok (.bipush 9, 2) := by decide +kernel
theorem d_Mo_readRegister_133 : decode b_Mo_readRegister 133 = .ok (.if_icmp .ne 10, 3) := by decide +kernel
theorem d_Mo_readRegister_136 : decode b_Mo_readRegister 136 = .ok (.aload_n 0, 1) := by decide +kernel
theorem d_Mo_readRegister_137 : decode b_Mo_readRegister 137 = .ok (.getfield 77, 3) := by decide +kernel
theorem d_Mo_readRegister_140 : decode b_Mo_readRegister 140 = .ok (.goto 6, 3) := by decide +kernel
theorem d_Mo_readRegister_143 : decode b_Mo_readRegister 143 = .ok (.sipush 255, 3) := by decide +kernel
theorem d_Mo_readRegister_146 : decode b_Mo_readRegister 146 = .ok (.ireturn, 1) := by decide +kernel
theorem d_Mo_store_0 : decode b_Mo_store 0 = .ok (.iload_n 1, 1) := by decide +kernel
theorem d_Mo_store_1 : decode b_Mo_store 1 = .ok (.sipush 1023, 3) := by decide +kernel
theorem d_Mo_store_4 : decode b_Mo_store 4 = .ok (.iand, 1) := by decide +kernel
theorem d_Mo_store_5 : decode b_Mo_store 5 = .ok (.istore_n 3, 1) := by decide +kernel
theorem d_Mo_store_6 : decode b_Mo_store 6 = .ok (.iload_n 3, 1) := by decide +kernel
theorem d_Mo_store_7 : decode b_Mo_store 7 = .ok (.sipush 768, 3) := by decide +kernel
theorem d_Mo_store_10 : decode b_Mo_store 10 = .ok (.if_icmp .ge 13, 3) := by decide +kernel
theorem d_Mo_store_13 : decode b_Mo_store 13 = .ok (.aload_n 0, 1) := by decide +kernel
theorem d_Mo_store_14 : decode b_Mo_store 14 = .ok (.getfield 7, 3) := by decide +kernel
theorem d_Mo_store_17 : decode b_Mo_store 17 = .ok (.iload_n 3, 1) := by decide +kernel
theorem d_Mo_store_18 : decode b_Mo_store 18 = .ok (.iload_n 2, 1) := by decide +kernel
theorem d_Mo_store_19 : decode b_Mo_store 19 = .ok (.iastore, 1) := by decide +kernel
theorem d_Mo_store_20 : decode b_Mo_store 20 = .ok (.goto 20, 3) := by decide +kernel
theorem d_Mo_store_23 : decode b_Mo_store 23 = .ok (.iload_n 3, 1) := by decide +kernel
theorem d_Mo_store_24 : decode b_Mo_store 24 = .ok (.sipush 800, 3) := by decide +kernel
theorem d_Mo_store_27 : decode b_Mo_store 27 = .ok (.if_icmp .ge 13, 3) := by decide +kernel
theorem d_Mo_store_30 : decode b_Mo_store 30 = .ok (.aload_n 0, 1) := by decide +kernel
theorem d_Mo_store_31 : decode b_Mo_store 31 = .ok (.iload_n 3, 1) := by decide +kernel
theorem d_Mo_store_32 : decode b_Mo_store 32 = .ok (.sipush 768, 3) := by decide +kernel
theorem d_Mo_store_35 : decode b_Mo_store 35 = .ok (.isub, 1) := by decide +kernel
theorem d_Mo_store_36 : decode b_Mo_store 36 = .ok (.iload_n 2, 1) := by decide +kernel
theorem d_Mo_store_37 : decode b_Mo_store 37 = .ok (.invokevirtual 80, 3) := by decide +kernel
theorem d_Mo_store_40 : decode b_Mo_store 40 = .ok (.return_, 1) := by decide +kernel
theorem d_Mo_change_0 : decode b_Mo_change 0 = .ok (.aload_n 0, 1) := by decide +kernel
theorem d_Mo_change_1 : decode b_Mo_change 1 = .ok (.getfield 13, 3) := by decide +kernel
theorem d_Mo_change_4 : decode b_Mo_change 4 = .ok (.iload_n 1, 1) := by decide +kernel
theorem d_Mo_change_5 : decode b_Mo_change 5 = .ok (.iload_n 2, 1) := by decide +kernel
theorem d_Mo_change_6 : decode b_Mo_change 6 = .ok (.iastore, 1) := by decide +kernel
theorem d_Mo_change_7 : decode b_Mo_change 7 = .ok (.iload_n 1, 1) := by decide +kernel
theorem d_Mo_change_8 : decode b_Mo_change 8 = .ok (.iconst 5, 1) := by decide +kernel
theorem d_Mo_change_9 : decode b_Mo_change 9 = .ok (.if_icmp .ne 8, 3) := by decide +kernel
theorem d_Mo_change_12 : decode b_Mo_change 12 = .ok (.aload_n 0, 1) := by decide +kernel
theorem d_Mo_change_13 : decode b_Mo_change 13 = .ok (.iconst 1, 1) := by decide +kernel
theorem d_Mo_change_14 : decode b_Mo_change 14 = .ok (.putfield 84, 3) := by decide +kernel
theorem d_Mo_change_17 : decode b_Mo_change 17 = .ok (.iload_n 1, 1) := by decide +kernel
theorem d_Mo_change_18 : decode b_Mo_change 18 = .ok (.bipush 7, 2) := by decide +kernel
theorem d_Mo_change_20 : decode b_Mo_change 20 = .ok (.if_icmp .ne 8, 3) := by decide +kernel
theorem d_Mo_change_23 : decode b_Mo_change 23 = .ok (.aload_n 0, 1) := by decide +kernel
theorem d_Mo_change_24 : decode b_Mo_change 24 = .ok (.iconst 0, 1) := by decide +kernel
theorem d_Mo_change_25 : decode b_Mo_change 25 = .ok (.putfield 61, 3) := by decide +kernel
theorem d_Mo_change_28 : decode b_Mo_change 28 = .ok (.iload_n 1, 1) := by decide +kernel
theorem d_Mo_change_29 : decode b_Mo_change 29 = .ok (.bipush 18, 2) := by decide +kernel
theorem d_Mo_change_31 : decode b_Mo_change 31 = .ok (.if_icmp .ne 22, 3) := by decide +kernel
theorem d_Mo_change_34 : decode b_Mo_change 34 = .ok (.aload_n 0, 1) := by decide +kernel
theorem d_Mo_change_35 : decode b_Mo_change 35 = .ok (.getfield 29, 3) := by decide +kernel
theorem d_Mo_change_38 : decode b_Mo_change 38 = .ok (.iconst 0, 1) := by decide +kernel
theorem d_Mo_change_39 : decode b_Mo_change 39 = .ok (.iconst 0, 1) := by decide +kernel
theorem d_Mo_change_40 : decode b_Mo_change 40 = .ok (.iastore, 1) := by decide +kernel
theorem d_Mo_change_41 : decode b_Mo_change 41 = .ok (.aload_n 0, 1) := by decide +kernel
theorem d_Mo_change_42 : decode b_Mo_change 42 = .ok (.getfield 29, 3) := by decide +kernel
theorem d_Mo_change_45 : decode b_Mo_change 45 = .ok (.iconst 1, 1) := by decide +kernel
theorem d_Mo_change_46 : decode b_Mo_change 46 = .ok (.iconst 0, 1) := by decide +kernel
theorem d_Mo_change_47 : decode b_Mo_change 47 = .ok (.iastore, 1) := by decide +kernel
theorem d_Mo_change_48 : decode b_Mo_change 48 = .ok (.aload_n 0, 1) := by decide +kernel
theorem d_Mo_change_49 : decode b_Mo_change 49 = .ok (.iconst 0, 1) := by decide +kernel
theorem d_Mo_change_50 : decode b_Mo_change 50 = .ok (.putfield 64, 3) := by decide +kernel
theorem d_Mo_change_53 : decode b_Mo_change 53 = .ok (.iload_n 1, 1) := by decide +kernel
theorem d_Mo_change_54 : decode b_Mo_change 54 = .ok (.bipush 22, 2) := by decide +kernel
theorem d_Mo_change_56 : decode b_Mo_change 56 = .ok (.if_icmp .ne 19, 3) := by decide +kernel
theorem d_Mo_change_59 : decode b_Mo_change 59 = .ok (.aload_n 0, 1) := by decide +kernel
theorem d_Mo_change_60 : decode b_Mo_change 60 = .ok (.aload_n 0, 1) := by decide +kernel
theorem d_Mo_change_61 : decode b_Mo_change 61 = .ok (.getfield 13, 3) := by decide +kernel
theorem d_Mo_change_64 : decode b_Mo_change 64 = .ok (.bipush 21, 2) := by decide +kernel
theorem d_Mo_change_66 : decode b_Mo_change 66 = .ok (.iaload, 1) := by decide +kernel
theorem d_Mo_change_67 : decode b_Mo_change 67 = .ok (.putfield 87, 3) := by decide +kernel
theorem d_Mo_change_70 : decode b_Mo_change 70 = .ok (.aload_n 0, 1) := by decide +kernel
theorem d_Mo_change_71 : decode b_Mo_change 71 = .ok (.iconst 0, 1) := by decide +kernel
theorem d_Mo_change_72 : decode b_Mo_change 72 = .ok (.putfield 67, 3) := by decide +kernel
theorem d_Mo_change_75 : decode b_Mo_change 75 = .ok (.iload_n 1, 1) := by decide +kernel
theorem d_Mo_change_76 : decode b_Mo_change 76 = .ok (.bipush 23, 2) := by decide +kernel
theorem d_Mo_change_78 : decode b_Mo_change 78 = .ok (.if_icmp .ne 8, 3) := by decide +kernel
theorem d_Mo_change_81 : decode b_Mo_change 81 = .ok (.aload_n 0, 1) := by decide +kernel
theorem d_Mo_change_82 : decode b_Mo_change 82 = .ok (.iload_n 2, 1) := by decide +kernel
theorem d_Mo_change_83 : decode b_Mo_change 83 = .ok (.invokevirtual 90, 3) := by decide +kernel
theorem d_Mo_change_86 : decode b_Mo_change 86 = .ok (.return_, 1) := by decide +kernel
theorem d_Mo_summed_0 : decode b_Mo_summed 0 = .ok (.iload_n 0, 1) := by decide +kernel
theorem d_Mo_summed_1 : decode b_Mo_summed 1 = .ok (.iload_n 1, 1) := by decide +kernel
theorem d_Mo_summed_2 : decode b_Mo_summed 2 = .ok (.iadd, 1) := by decide +kernel
theorem d_Mo_summed_3 : decode b_Mo_summed 3 = .ok (.sipush 255, 3) := by decide +kernel
theorem d_Mo_summed_6 : decode b_Mo_summed 6 = .ok (.if_icmp .le 13, 3) := by decide +kernel
theorem d_Mo_summed_9 : decode b_Mo_summed 9 = .ok (.iload_n 0, 1) := by decide +kernel
theorem d_Mo_summed_10 : decode b_Mo_summed 10 = .ok (.iload_n 1, 1) := by decide +kernel
theorem d_Mo_summed_11 : decode b_Mo_summed 11 = .ok (.iadd, 1) := by decide +kernel
theorem d_Mo_summed_12 : decode b_Mo_summed 12 = .ok (.sipush 255, 3) := by decide +kernel
theorem d_Mo_summed_15 : decode b_Mo_summed 15 = .ok (.isub, 1) := by decide +kernel
theorem d_Mo_summed_16 : decode b_Mo_summed 16 = .ok (.goto 6, 3) := by decide +kernel
theorem d_Mo_summed_19 : decode b_Mo_summed 19 = .ok (.iload_n 0, 1) := by decide +kernel
theorem d_Mo_summed_20 : decode b_Mo_summed 20 = .ok (.iload_n 1, 1) := by decide +kernel
theorem d_Mo_summed_21 : decode b_Mo_summed 21 = .ok (.iadd, 1) := by decide +kernel
theorem d_Mo_summed_22 : decode b_Mo_summed 22 = .ok (.ireturn, 1) := by decide +kernel
theorem d_Mo_answer_0 : decode b_Mo_answer 0 = .ok (.aload_n 0, 1) := by decide +kernel
theorem d_Mo_answer_1 : decode b_Mo_answer 1 = .ok (.getfield 94, 3) := by decide +kernel
theorem d_Mo_answer_4 : decode b_Mo_answer 4 = .ok (.bipush 40, 2) := by decide +kernel
theorem d_Mo_answer_6 : decode b_Mo_answer 6 = .ok (.if_icmp .ne 4, 3) := by decide +kernel
theorem d_Mo_answer_9 : decode b_Mo_answer 9 = .ok (.return_, 1) := by decide +kernel
theorem d_Mo_answer_10 : decode b_Mo_answer 10 = .ok (.aload_n 0, 1) := by decide +kernel
theorem d_Mo_answer_11 : decode b_Mo_answer 11 = .ok (.getfield 44, 3) := by decide +kernel
theorem d_Mo_answer_14 : decode b_Mo_answer 14 = .ok (.aload_n 0, 1) := by decide +kernel
theorem d_Mo_answer_15 : decode b_Mo_answer 15 = .ok (.getfield 94, 3) := by decide +kernel
theorem d_Mo_answer_18 : decode b_Mo_answer 18 = .ok (.iload_n 1, 1) := by decide +kernel
theorem d_Mo_answer_19 : decode b_Mo_answer 19 = .ok (.iastore, 1) := by decide +kernel
theorem d_Mo_answer_20 : decode b_Mo_answer 20 = .ok (.aload_n 0, 1) := by decide +kernel
theorem d_Mo_answer_21 : decode b_Mo_answer 21 = .ok (.dup, 1) := by decide +kernel
theorem d_Mo_answer_22 : decode b_Mo_answer 22 = .ok (.getfield 94, 3) := by decide +kernel
theorem d_Mo_answer_25 : decode b_Mo_answer 25 = .ok (.iconst 1, 1) := by decide +kernel
theorem d_Mo_answer_26 : decode b_Mo_answer 26 = .ok (.iadd, 1) := by decide +kernel
theorem d_Mo_answer_27 : decode b_Mo_answer 27 = .ok (.putfield 94, 3) := by decide +kernel
theorem d_Mo_answer_30 : decode b_Mo_answer 30 = .ok (.return_, 1) := by decide +kernel
theorem d_Mo_sumOf_0 : decode b_Mo_sumOf 0 = .ok (.iconst 0, 1) := by decide +kernel
theorem d_Mo_sumOf_1 : decode b_Mo_sumOf 1 = .ok (.istore_n 2, 1) := by decide +kernel
theorem d_Mo_sumOf_2 : decode b_Mo_sumOf 2 = .ok (.iconst 0, 1) := by decide +kernel
theorem d_Mo_sumOf_3 : decode b_Mo_sumOf 3 = .ok (.istore_n 3, 1) := by decide +kernel
theorem d_Mo_sumOf_4 : decode b_Mo_sumOf 4 = .ok (.iload_n 3, 1) := by decide +kernel
theorem d_Mo_sumOf_5 : decode b_Mo_sumOf 5 = .ok (.iload_n 1, 1) := by decide +kernel
theorem d_Mo_sumOf_6 : decode b_Mo_sumOf 6 = .ok (.if_icmp .ge 20, 3) := by decide +kernel
theorem d_Mo_sumOf_9 : decode b_Mo_sumOf 9 = .ok (.iload_n 2, 1) := by decide +kernel
theorem d_Mo_sumOf_10 : decode b_Mo_sumOf 10 = .ok (.aload_n 0, 1) := by decide +kernel
theorem d_Mo_sumOf_11 : decode b_Mo_sumOf 11 = .ok (.getfield 41, 3) := by decide +kernel
theorem d_Mo_sumOf_14 : decode b_Mo_sumOf 14 = .ok (.iload_n 3, 1) := by decide +kernel
theorem d_Mo_sumOf_15 : decode b_Mo_sumOf 15 = .ok (.iaload, 1) := by decide +kernel
theorem d_Mo_sumOf_16 : decode b_Mo_sumOf 16 = .ok (.invokestatic 97, 3) := by decide +kernel
theorem d_Mo_sumOf_19 : decode b_Mo_sumOf 19 = .ok (.istore_n 2, 1) := by decide +kernel
theorem d_Mo_sumOf_20 : decode b_Mo_sumOf 20 = .ok (.iinc 3 1, 3) := by decide +kernel
theorem d_Mo_sumOf_23 : decode b_Mo_sumOf 23 = .ok (.goto (-19), 3) := by decide +kernel
theorem d_Mo_sumOf_26 : decode b_Mo_sumOf 26 = .ok (.iload_n 2, 1) := by decide +kernel
theorem d_Mo_sumOf_27 : decode b_Mo_sumOf 27 = .ok (.ireturn, 1) := by decide +kernel
theorem d_Mo_sent_0 : decode b_Mo_sent 0 = .ok (.aload_n 0, 1) := by decide +kernel
theorem d_Mo_sent_1 : decode b_Mo_sent 1 = .ok (.getfield 41, 3) := by decide +kernel
theorem d_Mo_sent_4 : decode b_Mo_sent 4 = .ok (.aload_n 0, 1) := by decide +kernel
theorem d_Mo_sent_5 : decode b_Mo_sent 5 = .ok (.getfield 101, 3) := by decide +kernel
theorem d_Mo_sent_8 : decode b_Mo_sent 8 = .ok (.iload_n 1, 1) := by decide +kernel
theorem d_Mo_sent_9 : decode b_Mo_sent 9 = .ok (.iastore, 1) := by decide +kernel
theorem d_Mo_sent_10 : decode b_Mo_sent 10 = .ok (.aload_n 0, 1) := by decide +kernel
theorem d_Mo_sent_11 : decode b_Mo_sent 11 = .ok (.dup, 1) := by decide +kernel
theorem d_Mo_sent_12 : decode b_Mo_sent 12 = .ok (.getfield 101, 3) := by decide +kernel
theorem d_Mo_sent_15 : decode b_Mo_sent 15 = .ok (.iconst 1, 1) := by decide +kernel
theorem d_Mo_sent_16 : decode b_Mo_sent 16 = .ok (.iadd, 1) := by decide +kernel
theorem d_Mo_sent_17 : decode b_Mo_sent 17 = .ok (.putfield 101, 3) := by decide +kernel
theorem d_Mo_sent_20 : decode b_Mo_sent 20 = .ok (.aload_n 0, 1) := by decide +kernel
theorem d_Mo_sent_21 : decode b_Mo_sent 21 = .ok (.getfield 104, 3) := by decide +kernel
theorem d_Mo_sent_24 : decode b_Mo_sent 24 = .ok (.ifCond .ne 23, 3) := by decide +kernel
theorem d_Mo_sent_27 : decode b_Mo_sent 27 = .ok (.aload_n 0, 1) := by decide +kernel
theorem d_Mo_sent_28 : decode b_Mo_sent 28 = .ok (.getfield 101, 3) := by decide +kernel
theorem d_Mo_sent_31 : decode b_Mo_sent 31 = .ok (.iconst 4, 1) := by decide +kernel
theorem d_Mo_sent_32 : decode b_Mo_sent 32 = .ok (.if_icmp .ne 15, 3) := by decide +kernel
theorem d_Mo_sent_35 : decode b_Mo_sent 35 = .ok (.aload_n 0, 1) := by decide +kernel
theorem d_Mo_sent_36 : decode b_Mo_sent 36 = .ok (.iconst 0, 1) := by decide +kernel
theorem d_Mo_sent_37 : decode b_Mo_sent 37 = .ok (.putfield 101, 3) := by decide +kernel
theorem d_Mo_sent_40 : decode b_Mo_sent 40 = .ok (.aload_n 0, 1) := by decide +kernel
theorem d_Mo_sent_41 : decode b_Mo_sent 41 = .ok (.invokevirtual 107, 3) := by decide +kernel
theorem d_Mo_sent_44 : decode b_Mo_sent 44 = .ok (.goto 110, 3) := by decide +kernel
theorem d_Mo_sent_47 : decode b_Mo_sent 47 = .ok (.aload_n 0, 1) := by decide +kernel
theorem d_Mo_sent_48 : decode b_Mo_sent 48 = .ok (.getfield 101, 3) := by decide +kernel
theorem d_Mo_sent_51 : decode b_Mo_sent 51 = .ok (.bipush 9, 2) := by decide +kernel
theorem d_Mo_sent_53 : decode b_Mo_sent 53 = .ok (.if_icmp .ne 101, 3) := by decide +kernel
theorem d_Mo_sent_56 : decode b_Mo_sent 56 = .ok (.aload_n 0, 1) := by decide +kernel
theorem d_Mo_sent_57 : decode b_Mo_sent 57 = .ok (.iconst 0, 1) := by decide +kernel
theorem d_Mo_sent_58 : decode b_Mo_sent 58 = .ok (.putfield 101, 3) := by decide +kernel
theorem d_Mo_sent_61 : decode b_Mo_sent 61 = .ok (.aload_n 0, 1) := by decide +kernel
theorem d_Mo_sent_62 : decode b_Mo_sent 62 = .ok (.bipush 8, 2) := by decide +kernel
theorem d_Mo_sent_64 : decode b_Mo_sent 64 = .ok (.invokevirtual 110, 3) := by decide +kernel
theorem d_Mo_sent_67 : decode b_Mo_sent 67 = .ok (.aload_n 0, 1) := by decide +kernel
theorem d_Mo_sent_68 : decode b_Mo_sent 68 = .ok (.getfield 41, 3) := by decide +kernel
theorem d_Mo_sent_71 : decode b_Mo_sent 71 = .ok (.bipush 8, 2) := by decide +kernel
theorem d_Mo_sent_73 : decode b_Mo_sent 73 = .ok (.iaload, 1) := by decide +kernel
theorem d_Mo_sent_74 : decode b_Mo_sent 74 = .ok (.if_icmp .ne 7, 3) := by decide +kernel
theorem d_Mo_sent_77 : decode b_Mo_sent 77 = .ok (.iconst 1, 1) := by decide +kernel
theorem d_Mo_sent_78 : decode b_Mo_sent 78 = .ok (.goto 4, 3) := by decide +kernel
theorem d_Mo_sent_81 : decode b_Mo_sent 81 = .ok (.iconst 0, 1) := by decide +kernel
theorem d_Mo_sent_82 : decode b_Mo_sent 82 = .ok (.istore_n 2, 1) := by decide +kernel
theorem d_Mo_sent_83 : decode b_Mo_sent 83 = .ok (.iconst 0, 1) := by decide +kernel
theorem d_Mo_sent_84 : decode b_Mo_sent 84 = .ok (.istore_n 3, 1) := by decide +kernel
theorem d_Mo_sent_85 : decode b_Mo_sent 85 = .ok (.iload_n 3, 1) := by decide +kernel
theorem d_Mo_sent_86 : decode b_Mo_sent 86 = .ok (.bipush 8, 2) := by decide +kernel
theorem d_Mo_sent_88 : decode b_Mo_sent 88 = .ok (.if_icmp .ge 36, 3) := by decide +kernel
theorem d_Mo_sent_91 : decode b_Mo_sent 91 = .ok (.iload_n 2, 1) := by decide +kernel
theorem d_Mo_sent_92 : decode b_Mo_sent 92 = .ok (.ifCond .eq 32, 3) := by decide +kernel
theorem d_Mo_sent_95 : decode b_Mo_sent 95 = .ok (.aload_n 0, 1) := by decide +kernel
theorem d_Mo_sent_96 : decode b_Mo_sent 96 = .ok (.getfield 38, 3) := by decide +kernel
theorem d_Mo_sent_99 : decode b_Mo_sent 99 = .ok (.bipush 8, 2) := by decide +kernel
theorem d_Mo_sent_101 : decode b_Mo_sent 101 = .ok (.aload_n 0, 1) := by decide +kernel
theorem d_Mo_sent_102 : decode b_Mo_sent 102 = .ok (.getfield 104, 3) := by decide +kernel
theorem d_Mo_sent_105 : decode b_Mo_sent 105 = .ok (.imul, 1) := by decide +kernel
theorem d_Mo_sent_106 : decode b_Mo_sent 106 = .ok (.bipush 8, 2) := by decide +kernel
theorem d_Mo_sent_108 : decode b_Mo_sent 108 = .ok (.isub, 1) := by decide +kernel
theorem d_Mo_sent_109 : decode b_Mo_sent 109 = .ok (.iload_n 3, 1) := by decide +kernel
theorem d_Mo_sent_110 : decode b_Mo_sent 110 = .ok (.iadd, 1) := by decide +kernel
theorem d_Mo_sent_111 : decode b_Mo_sent 111 = .ok (.aload_n 0, 1) := by decide +kernel
theorem d_Mo_sent_112 : decode b_Mo_sent 112 = .ok (.getfield 41, 3) := by decide +kernel
theorem d_Mo_sent_115 : decode b_Mo_sent 115 = .ok (.iload_n 3, 1) := by decide +kernel
theorem d_Mo_sent_116 : decode b_Mo_sent 116 = .ok (.iaload, 1) := by decide +kernel
theorem d_Mo_sent_117 : decode b_Mo_sent 117 = .ok (.iastore, 1) := by decide +kernel
theorem d_Mo_sent_118 : decode b_Mo_sent 118 = .ok (.iinc 3 1, 3) := by decide +kernel
theorem d_Mo_sent_121 : decode b_Mo_sent 121 = .ok (.goto (-36), 3) := by decide +kernel
theorem d_Mo_sent_124 : decode b_Mo_sent 124 = .ok (.aload_n 0, 1) := by decide +kernel
theorem d_Mo_sent_125 : decode b_Mo_sent 125 = .ok (.iconst 0, 1) := by decide +kernel
theorem d_Mo_sent_126 : decode b_Mo_sent 126 = .ok (.putfield 104, 3) := by decide +kernel
theorem d_Mo_sent_129 : decode b_Mo_sent 129 = .ok (.aload_n 0, 1) := by decide +kernel
theorem d_Mo_sent_130 : decode b_Mo_sent 130 = .ok (.iload_n 2, 1) := by decide +kernel
theorem d_Mo_sent_131 : decode b_Mo_sent 131 = .ok (.ifCond .eq 8, 3) := by decide +kernel
theorem d_Mo_sent_134 : decode b_Mo_sent 134 = .ok (.bipush 65, 2) := by decide +kernel
theorem d_Mo_sent_136 : decode b_Mo_sent 136 = .ok (.goto 5, 3) := by decide +kernel
theorem d_Mo_sent_139 : decode b_Mo_sent 139 = .ok (.bipush 78, 2) := by decide +kernel
theorem d_Mo_sent_141 : decode b_Mo_sent 141 = .ok (.invokevirtual 113, 3) := by decide +kernel
theorem d_Mo_sent_144 : decode b_Mo_sent 144 = .ok (.iload_n 2, 1) := by decide +kernel
theorem d_Mo_sent_145 : decode b_Mo_sent 145 = .ok (.ifCond .eq 9, 3) := by decide +kernel
theorem d_Mo_sent_148 : decode b_Mo_sent 148 = .ok (.aload_n 0, 1) := by decide +kernel
theorem d_Mo_sent_149 : decode b_Mo_sent 149 = .ok (.bipush 67, 2) := by decide +kernel
theorem d_Mo_sent_151 : decode b_Mo_sent 151 = .ok (.invokevirtual 113, 3) := by decide +kernel
theorem d_Mo_sent_154 : decode b_Mo_sent 154 = .ok (.return_, 1) := by decide +kernel
theorem d_Mo_command_0 : decode b_Mo_command 0 = .ok (.aload_n 0, 1) := by decide +kernel
theorem d_Mo_command_1 : decode b_Mo_command 1 = .ok (.iconst 3, 1) := by decide +kernel
theorem d_Mo_command_2 : decode b_Mo_command 2 = .ok (.invokevirtual 110, 3) := by decide +kernel
theorem d_Mo_command_5 : decode b_Mo_command 5 = .ok (.aload_n 0, 1) := by decide +kernel
theorem d_Mo_command_6 : decode b_Mo_command 6 = .ok (.getfield 41, 3) := by decide +kernel
theorem d_Mo_command_9 : decode b_Mo_command 9 = .ok (.iconst 3, 1) := by decide +kernel
theorem d_Mo_command_10 : decode b_Mo_command 10 = .ok (.iaload, 1) := by decide +kernel
theorem d_Mo_command_11 : decode b_Mo_command 11 = .ok (.if_icmp .ne 14, 3) := by decide +kernel
theorem d_Mo_command_14 : decode b_Mo_command 14 = .ok (.aload_n 0, 1) := by decide +kernel
theorem d_Mo_command_15 : decode b_Mo_command 15 = .ok (.getfield 41, 3) := by decide +kernel
theorem d_Mo_command_18 : decode b_Mo_command 18 = .ok (.iconst 0, 1) := by decide +kernel
theorem d_Mo_command_19 : decode b_Mo_command 19 = .ok (.iaload, 1) := by decide +kernel
theorem d_Mo_command_20 : decode b_Mo_command 20 = .ok (.bipush 49, 2) := by decide +kernel
theorem d_Mo_command_22 : decode b_Mo_command 22 = .ok (.if_icmp .eq 4, 3) := by decide +kernel
theorem d_Mo_command_25 : decode b_Mo_command 25 = .ok (.return_, 1) := by decide +kernel
theorem d_Mo_command_26 : decode b_Mo_command 26 = .ok (.aload_n 0, 1) := by decide +kernel
theorem d_Mo_command_27 : decode b_Mo_command 27 = .ok (.getfield 41, 3) := by decide +kernel
theorem d_Mo_command_30 : decode b_Mo_command 30 = .ok (.iconst 1, 1) := by decide +kernel
theorem d_Mo_command_31 : decode b_Mo_command 31 = .ok (.iaload, 1) := by decide +kernel
theorem d_Mo_command_32 : decode b_Mo_command 32 = .ok (.bipush 82, 2) := by decide +kernel
theorem d_Mo_command_34 : decode b_Mo_command 34 = .ok (.if_icmp .ne 7, 3) := by decide +kernel
theorem d_Mo_command_37 : decode b_Mo_command 37 = .ok (.iconst 1, 1) := by decide +kernel
theorem d_Mo_command_38 : decode b_Mo_command 38 = .ok (.goto 4, 3) := by decide +kernel
theorem d_Mo_command_41 : decode b_Mo_command 41 = .ok (.iconst 0, 1) := by decide +kernel
theorem d_Mo_command_42 : decode b_Mo_command 42 = .ok (.istore_n 1, 1) := by decide +kernel
theorem d_Mo_command_43 : decode b_Mo_command 43 = .ok (.iload_n 1, 1) := by decide +kernel
theorem d_Mo_command_44 : decode b_Mo_command 44 = .ok (.ifCond .ne 14, 3) := by decide +kernel
theorem d_Mo_command_47 : decode b_Mo_command 47 = .ok (.aload_n 0, 1) := by decide +kernel
theorem d_Mo_command_48 : decode b_Mo_command 48 = .ok (.getfield 41, 3) := by decide +kernel
theorem d_Mo_command_51 : decode b_Mo_command 51 = .ok (.iconst 1, 1) := by decide +kernel
theorem d_Mo_command_52 : decode b_Mo_command 52 = .ok (.iaload, 1) := by decide +kernel
theorem d_Mo_command_53 : decode b_Mo_command 53 = .ok (.bipush 87, 2) := by decide +kernel
theorem d_Mo_command_55 : decode b_Mo_command 55 = .ok (.if_icmp .ne 18, 3) := by decide +kernel
theorem d_Mo_command_58 : decode b_Mo_command 58 = .ok (.aload_n 0, 1) := by decide +kernel
theorem d_Mo_command_59 : decode b_Mo_command 59 = .ok (.getfield 41, 3) := by decide +kernel
theorem d_Mo_command_62 : decode b_Mo_command 62 = .ok (.iconst 2, 1) := by decide +kernel
theorem d_Mo_command_63 : decode b_Mo_command 63 = .ok (.iaload, 1) := by decide +kernel
theorem d_Mo_command_64 : decode b_Mo_command 64 = .ok (.iconst 1, 1) := by decide +kernel
theorem d_Mo_command_65 : decode b_Mo_command 65 = .ok (.bipush 8, 2) := by decide +kernel
theorem d_Mo_command_67 : decode b_Mo_command 67 = .ok (.invokestatic 50, 3) := by decide +kernel
theorem d_Mo_command_70 : decode b_Mo_command 70 = .ok (.ifCond .ne 10, 3) := by decide +kernel
theorem d_Mo_command_73 : decode b_Mo_command 73 = .ok (.aload_n 0, 1) := by decide +kernel
theorem d_Mo_command_74 : decode b_Mo_command 74 = .ok (.bipush 78, 2) := by decide +kernel
theorem d_Mo_command_76 : decode b_Mo_command 76 = .ok (.invokevirtual 113, 3) := by decide +kernel
theorem d_Mo_command_79 : decode b_Mo_command 79 = .ok (.return_, 1) := by decide +kernel
theorem d_Mo_command_80 : decode b_Mo_command 80 = .ok (.aload_n 0, 1) := by decide +kernel
theorem d_Mo_command_81 : decode b_Mo_command 81 = .ok (.bipush 65, 2) := by decide +kernel
theorem d_Mo_command_83 : decode b_Mo_command 83 = .ok (.invokevirtual 113, 3) := by decide +kernel
theorem d_Mo_command_86 : decode b_Mo_command 86 = .ok (.iload_n 1, 1) := by decide +kernel
theorem d_Mo_command_87 : decode b_Mo_command 87 = .ok (.ifCond .ne 14, 3) := by decide +kernel
theorem d_Mo_command_90 : decode b_Mo_command 90 = .ok (.aload_n 0, 1) := by decide +kernel
theorem d_Mo_command_91 : decode b_Mo_command 91 = .ok (.aload_n 0, 1) := by decide +kernel
theorem d_Mo_command_92 : decode b_Mo_command 92 = .ok (.getfield 41, 3) := by decide +kernel
theorem d_Mo_command_95 : decode b_Mo_command 95 = .ok (.iconst 2, 1) := by decide +kernel
theorem d_Mo_command_96 : decode b_Mo_command 96 = .ok (.iaload, 1) := by decide +kernel
theorem d_Mo_command_97 : decode b_Mo_command 97 = .ok (.putfield 104, 3) := by decide +kernel
theorem d_Mo_command_100 : decode b_Mo_command 100 = .ok (.return_, 1) := by decide +kernel
theorem d_Mo_command_101 : decode b_Mo_command 101 = .ok (.aload_n 0, 1) := by decide +kernel
theorem d_Mo_command_102 : decode b_Mo_command 102 = .ok (.bipush 67, 2) := by decide +kernel
theorem d_Mo_command_104 : decode b_Mo_command 104 = .ok (.invokevirtual 113, 3) := by decide +kernel
theorem d_Mo_command_107 : decode b_Mo_command 107 = .ok (.iconst 0, 1) := by decide +kernel
theorem d_Mo_command_108 : decode b_Mo_command 108 = .ok (.istore_n 2, 1) := by decide +kernel
theorem d_Mo_command_109 : decode b_Mo_command 109 = .ok (.bipush 8, 2) := by decide +kernel
theorem d_Mo_command_111 : decode b_Mo_command 111 = .ok (.aload_n 0, 1) := by decide +kernel
theorem d_Mo_command_112 : decode b_Mo_command 112 = .ok (.getfield 41, 3) := by decide +kernel
theorem d_Mo_command_115 : decode b_Mo_command 115 = .ok (.iconst 2, 1) := by decide +kernel
theorem d_Mo_command_116 : decode b_Mo_command 116 = .ok (.iaload, 1) := by decide +kernel
theorem d_Mo_command_117 : decode b_Mo_command 117 = .ok (.imul, 1) := by decide +kernel
theorem d_Mo_command_118 : decode b_Mo_command 118 = .ok (.bipush 8, 2) := by decide +kernel
theorem d_Mo_command_120 : decode b_Mo_command 120 = .ok (.isub, 1) := by decide +kernel
theorem d_Mo_command_121 : decode b_Mo_command 121 = .ok (.istore_n 3, 1) := by decide +kernel
theorem d_Mo_command_122 : decode b_Mo_command 122 = .ok (.iload_n 3, 1) := by decide +kernel
theorem d_Mo_command_123 : decode b_Mo_command 123 = .ok (.bipush 8, 2) := by decide +kernel
theorem d_Mo_command_125 : decode b_Mo_command 125 = .ok (.aload_n 0, 1) := by decide +kernel
theorem d_Mo_command_126 : decode b_Mo_command 126 = .ok (.getfield 41, 3) := by decide +kernel
theorem d_Mo_command_129 : decode b_Mo_command 129 = .ok (.iconst 2, 1) := by decide +kernel
theorem d_Mo_command_130 : decode b_Mo_command 130 = .ok (.iaload, 1) := by decide +kernel
theorem d_Mo_command_131 : decode b_Mo_command 131 = .ok (.imul, 1) := by decide +kernel
theorem d_Mo_command_132 : decode b_Mo_command 132 = .ok (.if_icmp .ge 30, 3) := by decide +kernel
theorem d_Mo_command_135 : decode b_Mo_command 135 = .ok (.aload_n 0, 1) := by decide +kernel
theorem d_Mo_command_136 : decode b_Mo_command 136 = .ok (.aload_n 0, 1) := by decide +kernel
theorem d_Mo_command_137 : decode b_Mo_command 137 = .ok (.getfield 38, 3) := by decide +kernel
theorem d_Mo_command_140 : decode b_Mo_command 140 = .ok (.iload_n 3, 1) := by decide +kernel
theorem d_Mo_command_141 : decode b_Mo_command 141 = .ok (.iaload, 1) := by decide +kernel
theorem d_Mo_command_142 : decode b_Mo_command 142 = .ok (.invokevirtual 113, 3) := by decide +kernel
theorem d_Mo_command_145 : decode b_Mo_command 145 = .ok (.iload_n 2, 1) := by decide +kernel
theorem d_Mo_command_146 : decode b_Mo_command 146 = .ok (.aload_n 0, 1) := by decide +kernel
theorem d_Mo_command_147 : decode b_Mo_command 147 = .ok (.getfield 38, 3) := by decide +kernel
theorem d_Mo_command_150 : decode b_Mo_command 150 = .ok (.iload_n 3, 1) := by decide +kernel
theorem d_Mo_command_151 : decode b_Mo_command 151 = .ok (.iaload, 1) := by decide +kernel
theorem d_Mo_command_152 : decode b_Mo_command 152 = .ok (.invokestatic 97, 3) := by decide +kernel
theorem d_Mo_command_155 : decode b_Mo_command 155 = .ok (.istore_n 2, 1) := by decide +kernel
theorem d_Mo_command_156 : decode b_Mo_command 156 = .ok (.iinc 3 1, 3) := by decide +kernel
theorem d_Mo_command_159 : decode b_Mo_command 159 = .ok (.goto (-37), 3) := by decide +kernel
theorem d_Mo_command_162 : decode b_Mo_command 162 = .ok (.aload_n 0, 1) := by decide +kernel
theorem d_Mo_command_163 : decode b_Mo_command 163 = .ok (.iload_n 2, 1) := by decide +kernel
theorem d_Mo_command_164 : decode b_Mo_command 164 = .ok (.invokevirtual 113, 3) := by decide +kernel
theorem d_Mo_command_167 : decode b_Mo_command 167 = .ok (.return_, 1) := by decide +kernel
theorem d_Mo_deliver_0 : decode b_Mo_deliver 0 = .ok (.aload_n 0, 1) := by decide +kernel
theorem d_Mo_deliver_1 : decode b_Mo_deliver 1 = .ok (.getfield 70, 3) := by decide +kernel
theorem d_Mo_deliver_4 : decode b_Mo_deliver 4 = .ok (.ifCond .ne 10, 3) := by decide +kernel
theorem d_Mo_deliver_7 : decode b_Mo_deliver 7 = .ok (.aload_n 0, 1) := by decide +kernel
theorem d_Mo_deliver_8 : decode b_Mo_deliver 8 = .ok (.getfield 94, 3) := by decide +kernel
theorem d_Mo_deliver_11 : decode b_Mo_deliver 11 = .ok (.ifCond .ne 4, 3) := by decide +kernel
theorem d_Mo_deliver_14 : decode b_Mo_deliver 14 = .ok (.return_, 1) := by decide +kernel
theorem d_Mo_deliver_15 : decode b_Mo_deliver 15 = .ok (.aload_n 0, 1) := by decide +kernel
theorem d_Mo_deliver_16 : decode b_Mo_deliver 16 = .ok (.iconst 1, 1) := by decide +kernel
theorem d_Mo_deliver_17 : decode b_Mo_deliver 17 = .ok (.putfield 70, 3) := by decide +kernel
theorem d_Mo_deliver_20 : decode b_Mo_deliver 20 = .ok (.aload_n 0, 1) := by decide +kernel
theorem d_Mo_deliver_21 : decode b_Mo_deliver 21 = .ok (.aload_n 0, 1) := by decide +kernel
theorem d_Mo_deliver_22 : decode b_Mo_deliver 22 = .ok (.getfield 44, 3) := by decide +kernel
theorem d_Mo_deliver_25 : decode b_Mo_deliver 25 = .ok (.iconst 0, 1) := by decide +kernel
theorem d_Mo_deliver_26 : decode b_Mo_deliver 26 = .ok (.iaload, 1) := by decide +kernel
theorem d_Mo_deliver_27 : decode b_Mo_deliver 27 = .ok (.putfield 74, 3) := by decide +kernel
theorem d_Mo_deliver_30 : decode b_Mo_deliver 30 = .ok (.aload_n 0, 1) := by decide +kernel
theorem d_Mo_deliver_31 : decode b_Mo_deliver 31 = .ok (.dup, 1) := by decide +kernel
theorem d_Mo_deliver_32 : decode b_Mo_deliver 32 = .ok (.getfield 94, 3) := by decide +kernel
theorem d_Mo_deliver_35 : decode b_Mo_deliver 35 = .ok (.iconst 1, 1) := by decide +kernel
theorem d_Mo_deliver_36 : decode b_Mo_deliver 36 = .ok (.isub, 1) := by decide +kernel
theorem d_Mo_deliver_37 : decode b_Mo_deliver 37 = .ok (.putfield 94, 3) := by decide +kernel
theorem d_Mo_deliver_40 : decode b_Mo_deliver 40 = .ok (.iconst 0, 1) := by decide +kernel
theorem d_Mo_deliver_41 : decode b_Mo_deliver 41 = .ok (.istore_n 1, 1) := by decide +kernel
theorem d_Mo_deliver_42 : decode b_Mo_deliver 42 = .ok (.iload_n 1, 1) := by decide +kernel
theorem d_Mo_deliver_43 : decode b_Mo_deliver 43 = .ok (.aload_n 0, 1) := by decide +kernel
theorem d_Mo_deliver_44 : decode b_Mo_deliver 44 = .ok (.getfield 94, 3) := by decide +kernel
theorem d_Mo_deliver_47 : decode b_Mo_deliver 47 = .ok (.if_icmp .ge 23, 3) := by decide +kernel
theorem d_Mo_deliver_50 : decode b_Mo_deliver 50 = .ok (.aload_n 0, 1) := by decide +kernel
theorem d_Mo_deliver_51 : decode b_Mo_deliver 51 = .ok (.getfield 44, 3) := by decide +kernel
theorem d_Mo_deliver_54 : decode b_Mo_deliver 54 = .ok (.iload_n 1, 1) := by decide +kernel
theorem d_Mo_deliver_55 : decode b_Mo_deliver 55 = .ok (.aload_n 0, 1) := by decide +kernel
theorem d_Mo_deliver_56 : decode b_Mo_deliver 56 = .ok (.getfield 44, 3) := by decide +kernel
theorem d_Mo_deliver_59 : decode b_Mo_deliver 59 = .ok (.iload_n 1, 1) := by decide +kernel
theorem d_Mo_deliver_60 : decode b_Mo_deliver 60 = .ok (.iconst 1, 1) := by decide +kernel
theorem d_Mo_deliver_61 : decode b_Mo_deliver 61 = .ok (.iadd, 1) := by decide +kernel
theorem d_Mo_deliver_62 : decode b_Mo_deliver 62 = .ok (.iaload, 1) := by decide +kernel
theorem d_Mo_deliver_63 : decode b_Mo_deliver 63 = .ok (.iastore, 1) := by decide +kernel
theorem d_Mo_deliver_64 : decode b_Mo_deliver 64 = .ok (.iinc 1 1, 3) := by decide +kernel
theorem d_Mo_deliver_67 : decode b_Mo_deliver 67 = .ok (.goto (-25), 3) := by decide +kernel
theorem d_Mo_deliver_70 : decode b_Mo_deliver 70 = .ok (.return_, 1) := by decide +kernel
theorem d_Mo_coded_0 : decode b_Mo_coded 0 = .ok (.bipush 100, 2) := by decide +kernel
theorem d_Mo_coded_2 : decode b_Mo_coded 2 = .ok (.iload_n 0, 1) := by decide +kernel
theorem d_Mo_coded_3 : decode b_Mo_coded 3 = .ok (.imul, 1) := by decide +kernel
theorem d_Mo_coded_4 : decode b_Mo_coded 4 = .ok (.bipush 10, 2) := by decide +kernel
theorem d_Mo_coded_6 : decode b_Mo_coded 6 = .ok (.iload_n 1, 1) := by decide +kernel
theorem d_Mo_coded_7 : decode b_Mo_coded 7 = .ok (.imul, 1) := by decide +kernel
theorem d_Mo_coded_8 : decode b_Mo_coded 8 = .ok (.iadd, 1) := by decide +kernel
theorem d_Mo_coded_9 : decode b_Mo_coded 9 = .ok (.iload_n 2, 1) := by decide +kernel
theorem d_Mo_coded_10 : decode b_Mo_coded 10 = .ok (.iadd, 1) := by decide +kernel
theorem d_Mo_coded_11 : decode b_Mo_coded 11 = .ok (.ireturn, 1) := by decide +kernel
theorem d_Mo_meaning_0 : decode b_Mo_meaning 0 = .ok (.iload_n 0, 1) := by decide +kernel
theorem d_Mo_meaning_1 : decode b_Mo_meaning 1 = .ok (.lookupswitch 352 #[(9, 296), (41, 288), (73, 304), (101, 272), (105, 264), (133, 236), (141, 243), (142, 257), (157, 250), (160, 229), (162, 215), (165, 194), (166, 222), (169, 187), (173, 201), (189, 208), (197, 320), (198, 344), (201, 312), (224, 328), (230, 336), (233, 280)], 187) := by decide +kernel
theorem d_Mo_meaning_188 : decode b_Mo_meaning 188 = .ok (.iconst 1, 1) := by decide +kernel
theorem d_Mo_meaning_189 : decode b_Mo_meaning 189 = .ok (.iconst 1, 1) := by decide +kernel
theorem d_Mo_meaning_190 : decode b_Mo_meaning 190 = .ok (.iconst 2, 1) := by decide +kernel
theorem d_Mo_meaning_191 : decode b_Mo_meaning 191 = .ok (.invokestatic 116, 3) := by decide +kernel
theorem d_Mo_meaning_194 : decode b_Mo_meaning 194 = .ok (.ireturn, 1) := by decide +kernel
theorem d_Mo_meaning_195 : decode b_Mo_meaning 195 = .ok (.iconst 1, 1) := by decide +kernel
theorem d_Mo_meaning_196 : decode b_Mo_meaning 196 = .ok (.iconst 2, 1) := by decide +kernel
theorem d_Mo_meaning_197 : decode b_Mo_meaning 197 = .ok (.iconst 3, 1) := by decide +kernel
theorem d_Mo_meaning_198 : decode b_Mo_meaning 198 = .ok (.invokestatic 116, 3) := by decide +kernel
theorem d_Mo_meaning_201 : decode b_Mo_meaning 201 = .ok (.ireturn, 1) := by decide +kernel
theorem d_Mo_meaning_202 : decode b_Mo_meaning 202 = .ok (.iconst 1, 1) := by decide +kernel
theorem d_Mo_meaning_203 : decode b_Mo_meaning 203 = .ok (.iconst 3, 1) := by decide +kernel
theorem d_Mo_meaning_204 : decode b_Mo_meaning 204 = .ok (.iconst 4, 1) := by decide +kernel
theorem d_Mo_meaning_205 : decode b_Mo_meaning 205 = .ok (.invokestatic 116, 3) := by decide +kernel
theorem d_Mo_meaning_208 : decode b_Mo_meaning 208 = .ok (.ireturn, 1) := by decide +kernel
theorem d_Mo_meaning_209 : decode b_Mo_meaning 209 = .ok (.iconst 1, 1) := by decide +kernel
theorem d_Mo_meaning_210 : decode b_Mo_meaning 210 = .ok (.iconst 4, 1) := by decide +kernel
theorem d_Mo_meaning_211 : decode b_Mo_meaning 211 = .ok (.iconst 4, 1) := by decide +kernel
theorem d_Mo_meaning_212 : decode b_Mo_meaning 212 = .ok (.invokestatic 116, 3) := by decide +kernel
theorem d_Mo_meaning_215 : decode b_Mo_meaning 215 = .ok (.ireturn, 1) := by decide +kernel
theorem d_Mo_meaning_216 : decode b_Mo_meaning 216 = .ok (.iconst 2, 1) := by decide +kernel
theorem d_Mo_meaning_217 : decode b_Mo_meaning 217 = .ok (.iconst 1, 1) := by decide +kernel
theorem d_Mo_meaning_218 : decode b_Mo_meaning 218 = .ok (.iconst 2, 1) := by decide +kernel
theorem d_Mo_meaning_219 : decode b_Mo_meaning 219 = .ok (.invokestatic 116, 3) := by decide +kernel
theorem d_Mo_meaning_222 : decode b_Mo_meaning 222 = .ok (.ireturn, 1) := by decide +kernel
theorem d_Mo_meaning_223 : decode b_Mo_meaning 223 = .ok (.iconst 2, 1) := by decide +kernel
theorem d_Mo_meaning_224 : decode b_Mo_meaning 224 = .ok (.iconst 2, 1) := by decide +kernel
theorem d_Mo_meaning_225 : decode b_Mo_meaning 225 = .ok (.iconst 3, 1) := by decide +kernel
theorem d_Mo_meaning_226 : decode b_Mo_meaning 226 = .ok (.invokestatic 116, 3) := by decide +kernel
theorem d_Mo_meaning_229 : decode b_Mo_meaning 229 = .ok (.ireturn, 1) := by decide +kernel
theorem d_Mo_meaning_230 : decode b_Mo_meaning 230 = .ok (.iconst 3, 1) := by decide +kernel
theorem d_Mo_meaning_231 : decode b_Mo_meaning 231 = .ok (.iconst 1, 1) := by decide +kernel
theorem d_Mo_meaning_232 : decode b_Mo_meaning 232 = .ok (.iconst 2, 1) := by decide +kernel
theorem d_Mo_meaning_233 : decode b_Mo_meaning 233 = .ok (.invokestatic 116, 3) := by decide +kernel
theorem d_Mo_meaning_236 : decode b_Mo_meaning 236 = .ok (.ireturn, 1) := by decide +kernel
theorem d_Mo_meaning_237 : decode b_Mo_meaning 237 = .ok (.iconst 4, 1) := by decide +kernel
theorem d_Mo_meaning_238 : decode b_Mo_meaning 238 = .ok (.iconst 2, 1) := by decide +kernel
theorem d_Mo_meaning_239 : decode b_Mo_meaning 239 = .ok (.iconst 3, 1) := by decide +kernel
theorem d_Mo_meaning_240 : decode b_Mo_meaning 240 = .ok (.invokestatic 116, 3) := by decide +kernel
theorem d_Mo_meaning_243 : decode b_Mo_meaning 243 = .ok (.ireturn, 1) := by decide +kernel
theorem d_Mo_meaning_244 : decode b_Mo_meaning 244 = .ok (.iconst 4, 1) := by decide +kernel
theorem d_Mo_meaning_245 : decode b_Mo_meaning 245 = .ok (.iconst 3, 1) := by decide +kernel
theorem d_Mo_meaning_246 : decode b_Mo_meaning 246 = .ok (.iconst 4, 1) := by decide +kernel
theorem d_Mo_meaning_247 : decode b_Mo_meaning 247 = .ok (.invokestatic 116, 3) := by decide +kernel
theorem d_Mo_meaning_250 : decode b_Mo_meaning 250 = .ok (.ireturn, 1) := by decide +kernel
theorem d_Mo_meaning_251 : decode b_Mo_meaning 251 = .ok (.iconst 4, 1) := by decide +kernel
theorem d_Mo_meaning_252 : decode b_Mo_meaning 252 = .ok (.iconst 4, 1) := by decide +kernel
theorem d_Mo_meaning_253 : decode b_Mo_meaning 253 = .ok (.iconst 5, 1) := by decide +kernel
theorem d_Mo_meaning_254 : decode b_Mo_meaning 254 = .ok (.invokestatic 116, 3) := by decide +kernel
theorem d_Mo_meaning_257 : decode b_Mo_meaning 257 = .ok (.ireturn, 1) := by decide +kernel
theorem d_Mo_meaning_258 : decode b_Mo_meaning 258 = .ok (.iconst 5, 1) := by decide +kernel
theorem d_Mo_meaning_259 : decode b_Mo_meaning 259 = .ok (.iconst 3, 1) := by decide +kernel
theorem d_Mo_meaning_260 : decode b_Mo_meaning 260 = .ok (.iconst 4, 1) := by decide +kernel
theorem d_Mo_meaning_261 : decode b_Mo_meaning 261 = .ok (.invokestatic 116, 3) := by decide +kernel
theorem d_Mo_meaning_264 : decode b_Mo_meaning 264 = .ok (.ireturn, 1) := by decide +kernel
theorem d_Mo_meaning_265 : decode b_Mo_meaning 265 = .ok (.bipush 6, 2) := by decide +kernel
theorem d_Mo_meaning_267 : decode b_Mo_meaning 267 = .ok (.iconst 1, 1) := by decide +kernel
theorem d_Mo_meaning_268 : decode b_Mo_meaning 268 = .ok (.iconst 2, 1) := by decide +kernel
theorem d_Mo_meaning_269 : decode b_Mo_meaning 269 = .ok (.invokestatic 116, 3) := by decide +kernel
theorem d_Mo_meaning_272 : decode b_Mo_meaning 272 = .ok (.ireturn, 1) := by decide +kernel
theorem d_Mo_meaning_273 : decode b_Mo_meaning 273 = .ok (.bipush 6, 2) := by decide +kernel
theorem d_Mo_meaning_275 : decode b_Mo_meaning 275 = .ok (.iconst 2, 1) := by decide +kernel
theorem d_Mo_meaning_276 : decode b_Mo_meaning 276 = .ok (.iconst 3, 1) := by decide +kernel
theorem d_Mo_meaning_277 : decode b_Mo_meaning 277 = .ok (.invokestatic 116, 3) := by decide +kernel
theorem d_Mo_meaning_280 : decode b_Mo_meaning 280 = .ok (.ireturn, 1) := by decide +kernel
theorem d_Mo_meaning_281 : decode b_Mo_meaning 281 = .ok (.bipush 7, 2) := by decide +kernel
theorem d_Mo_meaning_283 : decode b_Mo_meaning 283 = .ok (.iconst 1, 1) := by decide +kernel
theorem d_Mo_meaning_284 : decode b_Mo_meaning 284 = .ok (.iconst 2, 1) := by decide +kernel
theorem d_Mo_meaning_285 : decode b_Mo_meaning 285 = .ok (.invokestatic 116, 3) := by decide +kernel
theorem d_Mo_meaning_288 : decode b_Mo_meaning 288 = .ok (.ireturn, 1) := by decide +kernel
theorem d_Mo_meaning_289 : decode b_Mo_meaning 289 = .ok (.bipush 8, 2) := by decide +kernel
theorem d_Mo_meaning_291 : decode b_Mo_meaning 291 = .ok (.iconst 1, 1) := by decide +kernel
theorem d_Mo_meaning_292 : decode b_Mo_meaning 292 = .ok (.iconst 2, 1) := by decide +kernel
theorem d_Mo_meaning_293 : decode b_Mo_meaning 293 = .ok (.invokestatic 116, 3) := by decide +kernel
theorem d_Mo_meaning_296 : decode b_Mo_meaning 296 = .ok (.ireturn, 1) := by decide +kernel
theorem d_Mo_meaning_297 : decode b_Mo_meaning 297 = .ok (.bipush 9, 2) := by decide +kernel
theorem d_Mo_meaning_299 : decode b_Mo_meaning 299 = .ok (.iconst 1, 1) := by decide +kernel
theorem d_Mo_meaning_300 : decode b_Mo_meaning 300 = .ok (.iconst 2, 1) := by decide +kernel
theorem d_Mo_meaning_301 : decode b_Mo_meaning 301 = .ok (.invokestatic 116, 3) := by decide +kernel
theorem d_Mo_meaning_304 : decode b_Mo_meaning 304 = .ok (.ireturn, 1) := by decide +kernel
theorem d_Mo_meaning_305 : decode b_Mo_meaning 305 = .ok (.bipush 10, 2) := by decide +kernel
theorem d_Mo_meaning_307 : decode b_Mo_meaning 307 = .ok (.iconst 1, 1) := by decide +kernel
theorem d_Mo_meaning_308 : decode b_Mo_meaning 308 = .ok (.iconst 2, 1) := by decide +kernel
theorem d_Mo_meaning_309 : decode b_Mo_meaning 309 = .ok (.invokestatic 116, 3) := by decide +kernel
theorem d_Mo_meaning_312 : decode b_Mo_meaning 312 = .ok (.ireturn, 1) := by decide +kernel
theorem d_Mo_meaning_313 : decode b_Mo_meaning 313 = .ok (.bipush 11, 2) := by decide +kernel
theorem d_Mo_meaning_315 : decode b_Mo_meaning 315 = .ok (.iconst 1, 1) := by decide +kernel
theorem d_Mo_meaning_316 : decode b_Mo_meaning 316 = .ok (.iconst 2, 1) := by decide +kernel
theorem d_Mo_meaning_317 : decode b_Mo_meaning 317 = .ok (.invokestatic 116, 3) := by decide +kernel
theorem d_Mo_meaning_320 : decode b_Mo_meaning 320 = .ok (.ireturn, 1) := by decide +kernel
theorem d_Mo_meaning_321 : decode b_Mo_meaning 321 = .ok (.bipush 11, 2) := by decide +kernel
theorem d_Mo_meaning_323 : decode b_Mo_meaning 323 = .ok (.iconst 2, 1) := by decide +kernel
theorem d_Mo_meaning_324 : decode b_Mo_meaning 324 = .ok (.iconst 3, 1) := by decide +kernel
theorem d_Mo_meaning_325 : decode b_Mo_meaning 325 = .ok (.invokestatic 116, 3) := by decide +kernel
theorem d_Mo_meaning_328 : decode b_Mo_meaning 328 = .ok (.ireturn, 1) := by decide +kernel
theorem d_Mo_meaning_329 : decode b_Mo_meaning 329 = .ok (.bipush 12, 2) := by decide +kernel
theorem d_Mo_meaning_331 : decode b_Mo_meaning 331 = .ok (.iconst 1, 1) := by decide +kernel
theorem d_Mo_meaning_332 : decode b_Mo_meaning 332 = .ok (.iconst 2, 1) := by decide +kernel
theorem d_Mo_meaning_333 : decode b_Mo_meaning 333 = .ok (.invokestatic 116, 3) := by decide +kernel
theorem d_Mo_meaning_336 : decode b_Mo_meaning 336 = .ok (.ireturn, 1) := by decide +kernel
theorem d_Mo_meaning_337 : decode b_Mo_meaning 337 = .ok (.bipush 17, 2) := by decide +kernel
theorem d_Mo_meaning_339 : decode b_Mo_meaning 339 = .ok (.iconst 2, 1) := by decide +kernel
theorem d_Mo_meaning_340 : decode b_Mo_meaning 340 = .ok (.iconst 5, 1) := by decide +kernel
theorem d_Mo_meaning_341 : decode b_Mo_meaning 341 = .ok (.invokestatic 116, 3) := by decide +kernel
theorem d_Mo_meaning_344 : decode b_Mo_meaning 344 = .ok (.ireturn, 1) := by decide +kernel
theorem d_Mo_meaning_345 : decode b_Mo_meaning 345 = .ok (.bipush 18, 2) := by decide +kernel
theorem d_Mo_meaning_347 : decode b_Mo_meaning 347 = .ok (.iconst 2, 1) := by decide +kernel
theorem d_Mo_meaning_348 : decode b_Mo_meaning 348 = .ok (.iconst 5, 1) := by decide +kernel
theorem d_Mo_meaning_349 : decode b_Mo_meaning 349 = .ok (.invokestatic 116, 3) := by decide +kernel
theorem d_Mo_meaning_352 : decode b_Mo_meaning 352 = .ok (.ireturn, 1) := by decide +kernel
theorem d_Mo_meaning_353 : decode b_Mo_meaning 353 = .ok (.iload_n 0, 1) := by decide +kernel
theorem d_Mo_meaning_354 : decode b_Mo_meaning 354 = .ok (.invokestatic 120, 3) := by decide +kernel
theorem d_Mo_meaning_357 : decode b_Mo_meaning 357 = .ok (.ireturn, 1) := by decide +kernel
theorem d_Mo_single_0 : decode b_Mo_single 0 = .ok (.iload_n 0, 1) := by decide +kernel
theorem d_Mo_single_1 : decode b_Mo_single 1 = .ok (.lookupswitch 310 #[(16, 259), (24, 243), (32, 275), (48, 259), (56, 251), (64, 293), (72, 227), (76, 267), (96, 284), (104, 235), (136, 203), (138, 219), (144, 259), (170, 211), (176, 259), (200, 195), (202, 187), (208, 259), (232, 179), (234, 302), (240, 259)], 179) := by decide +kernel
theorem d_Mo_single_180 : decode b_Mo_single 180 = .ok (.bipush 13, 2) := by decide +kernel
theorem d_Mo_single_182 : decode b_Mo_single 182 = .ok (.iconst 0, 1) := by decide +kernel
theorem d_Mo_single_183 : decode b_Mo_single 183 = .ok (.iconst 2, 1) := by decide +kernel
theorem d_Mo_single_184 : decode b_Mo_single 184 = .ok (.invokestatic 116, 3) := by decide +kernel
theorem d_Mo_single_187 : decode b_Mo_single 187 = .ok (.ireturn, 1) := by decide +kernel
theorem d_Mo_single_188 : decode b_Mo_single 188 = .ok (.bipush 14, 2) := by decide +kernel
theorem d_Mo_single_190 : decode b_Mo_single 190 = .ok (.iconst 0, 1) := by decide +kernel
theorem d_Mo_single_191 : decode b_Mo_single 191 = .ok (.iconst 2, 1) := by decide +kernel
theorem d_Mo_single_192 : decode b_Mo_single 192 = .ok (.invokestatic 116, 3) := by decide +kernel
theorem d_Mo_single_195 : decode b_Mo_single 195 = .ok (.ireturn, 1) := by decide +kernel
theorem d_Mo_single_196 : decode b_Mo_single 196 = .ok (.bipush 15, 2) := by decide +kernel
theorem d_Mo_single_198 : decode b_Mo_single 198 = .ok (.iconst 0, 1) := by decide +kernel
theorem d_Mo_single_199 : decode b_Mo_single 199 = .ok (.iconst 2, 1) := by decide +kernel
theorem d_Mo_single_200 : decode b_Mo_single 200 = .ok (.invokestatic 116, 3) := by decide +kernel
theorem d_Mo_single_203 : decode b_Mo_single 203 = .ok (.ireturn, 1) := by decide +kernel
theorem d_Mo_single_204 : decode b_Mo_single 204 = .ok (.bipush 16, 2) := by decide +kernel
theorem d_Mo_single_206 : decode b_Mo_single 206 = .ok (.iconst 0, 1) := by decide +kernel
theorem d_Mo_single_207 : decode b_Mo_single 207 = .ok (.iconst 2, 1) := by decide +kernel
theorem d_Mo_single_208 : decode b_Mo_single 208 = .ok (.invokestatic 116, 3) := by decide +kernel
theorem d_Mo_single_211 : decode b_Mo_single 211 = .ok (.ireturn, 1) := by decide +kernel
theorem d_Mo_single_212 : decode b_Mo_single 212 = .ok (.bipush 19, 2) := by decide +kernel
theorem d_Mo_single_214 : decode b_Mo_single 214 = .ok (.iconst 0, 1) := by decide +kernel
theorem d_Mo_single_215 : decode b_Mo_single 215 = .ok (.iconst 2, 1) := by decide +kernel
theorem d_Mo_single_216 : decode b_Mo_single 216 = .ok (.invokestatic 116, 3) := by decide +kernel
theorem d_Mo_single_219 : decode b_Mo_single 219 = .ok (.ireturn, 1) := by decide +kernel
theorem d_Mo_single_220 : decode b_Mo_single 220 = .ok (.bipush 20, 2) := by decide +kernel
theorem d_Mo_single_222 : decode b_Mo_single 222 = .ok (.iconst 0, 1) := by decide +kernel
theorem d_Mo_single_223 : decode b_Mo_single 223 = .ok (.iconst 2, 1) := by decide +kernel
theorem d_Mo_single_224 : decode b_Mo_single 224 = .ok (.invokestatic 116, 3) := by decide +kernel
theorem d_Mo_single_227 : decode b_Mo_single 227 = .ok (.ireturn, 1) := by decide +kernel
theorem d_Mo_single_228 : decode b_Mo_single 228 = .ok (.bipush 21, 2) := by decide +kernel
theorem d_Mo_single_230 : decode b_Mo_single 230 = .ok (.iconst 0, 1) := by decide +kernel
theorem d_Mo_single_231 : decode b_Mo_single 231 = .ok (.iconst 3, 1) := by decide +kernel
theorem d_Mo_single_232 : decode b_Mo_single 232 = .ok (.invokestatic 116, 3) := by decide +kernel
theorem d_Mo_single_235 : decode b_Mo_single 235 = .ok (.ireturn, 1) := by decide +kernel
theorem d_Mo_single_236 : decode b_Mo_single 236 = .ok (.bipush 22, 2) := by decide +kernel
theorem d_Mo_single_238 : decode b_Mo_single 238 = .ok (.iconst 0, 1) := by decide +kernel
theorem d_Mo_single_239 : decode b_Mo_single 239 = .ok (.iconst 4, 1) := by decide +kernel
theorem d_Mo_single_240 : decode b_Mo_single 240 = .ok (.invokestatic 116, 3) := by decide +kernel
theorem d_Mo_single_243 : decode b_Mo_single 243 = .ok (.ireturn, 1) := by decide +kernel
theorem d_Mo_single_244 : decode b_Mo_single 244 = .ok (.bipush 23, 2) := by decide +kernel
theorem d_Mo_single_246 : decode b_Mo_single 246 = .ok (.iconst 0, 1) := by decide +kernel
theorem d_Mo_single_247 : decode b_Mo_single 247 = .ok (.iconst 2, 1) := by decide +kernel
theorem d_Mo_single_248 : decode b_Mo_single 248 = .ok (.invokestatic 116, 3) := by decide +kernel
theorem d_Mo_single_251 : decode b_Mo_single 251 = .ok (.ireturn, 1) := by decide +kernel
theorem d_Mo_single_252 : decode b_Mo_single 252 = .ok (.bipush 24, 2) := by decide +kernel
theorem d_Mo_single_254 : decode b_Mo_single 254 = .ok (.iconst 0, 1) := by decide +kernel
theorem d_Mo_single_255 : decode b_Mo_single 255 = .ok (.iconst 2, 1) := by decide +kernel
theorem d_Mo_single_256 : decode b_Mo_single 256 = .ok (.invokestatic 116, 3) := by decide +kernel
theorem d_Mo_single_259 : decode b_Mo_single 259 = .ok (.ireturn, 1) := by decide +kernel
theorem d_Mo_single_260 : decode b_Mo_single 260 = .ok (.bipush 25, 2) := by decide +kernel
theorem d_Mo_single_262 : decode b_Mo_single 262 = .ok (.iconst 1, 1) := by decide +kernel
theorem d_Mo_single_263 : decode b_Mo_single 263 = .ok (.iconst 2, 1) := by decide +kernel
theorem d_Mo_single_264 : decode b_Mo_single 264 = .ok (.invokestatic 116, 3) := by decide +kernel
theorem d_Mo_single_267 : decode b_Mo_single 267 = .ok (.ireturn, 1) := by decide +kernel
theorem d_Mo_single_268 : decode b_Mo_single 268 = .ok (.bipush 26, 2) := by decide +kernel
theorem d_Mo_single_270 : decode b_Mo_single 270 = .ok (.iconst 3, 1) := by decide +kernel
theorem d_Mo_single_271 : decode b_Mo_single 271 = .ok (.iconst 3, 1) := by decide +kernel
theorem d_Mo_single_272 : decode b_Mo_single 272 = .ok (.invokestatic 116, 3) := by decide +kernel
theorem d_Mo_single_275 : decode b_Mo_single 275 = .ok (.ireturn, 1) := by decide +kernel
theorem d_Mo_single_276 : decode b_Mo_single 276 = .ok (.bipush 27, 2) := by decide +kernel
theorem d_Mo_single_278 : decode b_Mo_single 278 = .ok (.iconst 3, 1) := by decide +kernel
theorem d_Mo_single_279 : decode b_Mo_single 279 = .ok (.bipush 6, 2) := by decide +kernel
theorem d_Mo_single_281 : decode b_Mo_single 281 = .ok (.invokestatic 116, 3) := by decide +kernel
theorem d_Mo_single_284 : decode b_Mo_single 284 = .ok (.ireturn, 1) := by decide +kernel
theorem d_Mo_single_285 : decode b_Mo_single 285 = .ok (.bipush 28, 2) := by decide +kernel
theorem d_Mo_single_287 : decode b_Mo_single 287 = .ok (.iconst 0, 1) := by decide +kernel
theorem d_Mo_single_288 : decode b_Mo_single 288 = .ok (.bipush 6, 2) := by decide +kernel
theorem d_Mo_single_290 : decode b_Mo_single 290 = .ok (.invokestatic 116, 3) := by decide +kernel
theorem d_Mo_single_293 : decode b_Mo_single 293 = .ok (.ireturn, 1) := by decide +kernel
theorem d_Mo_single_294 : decode b_Mo_single 294 = .ok (.bipush 29, 2) := by decide +kernel
theorem d_Mo_single_296 : decode b_Mo_single 296 = .ok (.iconst 0, 1) := by decide +kernel
theorem d_Mo_single_297 : decode b_Mo_single 297 = .ok (.bipush 6, 2) := by decide +kernel
theorem d_Mo_single_299 : decode b_Mo_single 299 = .ok (.invokestatic 116, 3) := by decide +kernel
theorem d_Mo_single_302 : decode b_Mo_single 302 = .ok (.ireturn, 1) := by decide +kernel
theorem d_Mo_single_303 : decode b_Mo_single 303 = .ok (.bipush 30, 2) := by decide +kernel
theorem d_Mo_single_305 : decode b_Mo_single 305 = .ok (.iconst 0, 1) := by decide +kernel
theorem d_Mo_single_306 : decode b_Mo_single 306 = .ok (.iconst 2, 1) := by decide +kernel
theorem d_Mo_single_307 : decode b_Mo_single 307 = .ok (.invokestatic 116, 3) := by decide +kernel
theorem d_Mo_single_310 : decode b_Mo_single 310 = .ok (.ireturn, 1) := by decide +kernel
theorem d_Mo_single_311 : decode b_Mo_single 311 = .ok (.iconst 2, 1) := by decide +kernel
theorem d_Mo_single_312 : decode b_Mo_single 312 = .ok (.ireturn, 1) := by decide +kernel
theorem d_Mo_push_0 : decode b_Mo_push 0 = .ok (.aload_n 0, 1) := by decide +kernel
theorem d_Mo_push_1 : decode b_Mo_push 1 = .ok (.getfield 7, 3) := by decide +kernel
theorem d_Mo_push_4 : decode b_Mo_push 4 = .ok (.sipush 256, 3) := by decide +kernel
theorem d_Mo_push_7 : decode b_Mo_push 7 = .ok (.aload_n 0, 1) := by decide +kernel
theorem d_Mo_push_8 : decode b_Mo_push 8 = .ok (.getfield 16, 3) := by decide +kernel
theorem d_Mo_push_11 : decode b_Mo_push 11 = .ok (.iadd, 1) := by decide +kernel
theorem d_Mo_push_12 : decode b_Mo_push 12 = .ok (.iload_n 1, 1) := by decide +kernel
theorem d_Mo_push_13 : decode b_Mo_push 13 = .ok (.iastore, 1) := by decide +kernel
theorem d_Mo_push_14 : decode b_Mo_push 14 = .ok (.aload_n 0, 1) := by decide +kernel
theorem d_Mo_push_15 : decode b_Mo_push 15 = .ok (.aload_n 0, 1) := by decide +kernel
theorem d_Mo_push_16 : decode b_Mo_push 16 = .ok (.getfield 16, 3) := by decide +kernel
theorem d_Mo_push_19 : decode b_Mo_push 19 = .ok (.iconst 1, 1) := by decide +kernel
theorem d_Mo_push_20 : decode b_Mo_push 20 = .ok (.isub, 1) := by decide +kernel
theorem d_Mo_push_21 : decode b_Mo_push 21 = .ok (.sipush 255, 3) := by decide +kernel
theorem d_Mo_push_24 : decode b_Mo_push 24 = .ok (.iand, 1) := by decide +kernel
theorem d_Mo_push_25 : decode b_Mo_push 25 = .ok (.putfield 16, 3) := by decide +kernel
theorem d_Mo_push_28 : decode b_Mo_push 28 = .ok (.return_, 1) := by decide +kernel
theorem d_Mo_pull_0 : decode b_Mo_pull 0 = .ok (.aload_n 0, 1) := by decide +kernel
theorem d_Mo_pull_1 : decode b_Mo_pull 1 = .ok (.aload_n 0, 1) := by decide +kernel
theorem d_Mo_pull_2 : decode b_Mo_pull 2 = .ok (.getfield 16, 3) := by decide +kernel
theorem d_Mo_pull_5 : decode b_Mo_pull 5 = .ok (.iconst 1, 1) := by decide +kernel
theorem d_Mo_pull_6 : decode b_Mo_pull 6 = .ok (.iadd, 1) := by decide +kernel
theorem d_Mo_pull_7 : decode b_Mo_pull 7 = .ok (.sipush 255, 3) := by decide +kernel
theorem d_Mo_pull_10 : decode b_Mo_pull 10 = .ok (.iand, 1) := by decide +kernel
theorem d_Mo_pull_11 : decode b_Mo_pull 11 = .ok (.putfield 16, 3) := by decide +kernel
theorem d_Mo_pull_14 : decode b_Mo_pull 14 = .ok (.aload_n 0, 1) := by decide +kernel
theorem d_Mo_pull_15 : decode b_Mo_pull 15 = .ok (.getfield 7, 3) := by decide +kernel
theorem d_Mo_pull_18 : decode b_Mo_pull 18 = .ok (.sipush 256, 3) := by decide +kernel
theorem d_Mo_pull_21 : decode b_Mo_pull 21 = .ok (.aload_n 0, 1) := by decide +kernel
theorem d_Mo_pull_22 : decode b_Mo_pull 22 = .ok (.getfield 16, 3) := by decide +kernel
theorem d_Mo_pull_25 : decode b_Mo_pull 25 = .ok (.iadd, 1) := by decide +kernel
theorem d_Mo_pull_26 : decode b_Mo_pull 26 = .ok (.iaload, 1) := by decide +kernel
theorem d_Mo_pull_27 : decode b_Mo_pull 27 = .ok (.ireturn, 1) := by decide +kernel
theorem d_Mo_flags_0 : decode b_Mo_flags 0 = .ok (.aload_n 0, 1) := by decide +kernel
theorem d_Mo_flags_1 : decode b_Mo_flags 1 = .ok (.getfield 123, 3) := by decide +kernel
theorem d_Mo_flags_4 : decode b_Mo_flags 4 = .ok (.ifCond .eq 9, 3) := by decide +kernel
theorem d_Mo_flags_7 : decode b_Mo_flags 7 = .ok (.sipush 128, 3) := by decide +kernel
theorem d_Mo_flags_10 : decode b_Mo_flags 10 = .ok (.goto 4, 3) := by decide +kernel
theorem d_Mo_flags_13 : decode b_Mo_flags 13 = .ok (.iconst 0, 1) := by decide +kernel
theorem d_Mo_flags_14 : decode b_Mo_flags 14 = .ok (.aload_n 0, 1) := by decide +kernel
theorem d_Mo_flags_15 : decode b_Mo_flags 15 = .ok (.getfield 126, 3) := by decide +kernel
theorem d_Mo_flags_18 : decode b_Mo_flags 18 = .ok (.ifCond .eq 7, 3) := by decide +kernel
theorem d_Mo_flags_21 : decode b_Mo_flags 21 = .ok (.iconst 2, 1) := by decide +kernel
theorem d_Mo_flags_22 : decode b_Mo_flags 22 = .ok (.goto 4, 3) := by decide +kernel
theorem d_Mo_flags_25 : decode b_Mo_flags 25 = .ok (.iconst 0, 1) := by decide +kernel
theorem d_Mo_flags_26 : decode b_Mo_flags 26 = .ok (.iadd, 1) := by decide +kernel
theorem d_Mo_flags_27 : decode b_Mo_flags 27 = .ok (.aload_n 0, 1) := by decide +kernel
theorem d_Mo_flags_28 : decode b_Mo_flags 28 = .ok (.getfield 129, 3) := by decide +kernel
theorem d_Mo_flags_31 : decode b_Mo_flags 31 = .ok (.ifCond .eq 7, 3) := by decide +kernel
theorem d_Mo_flags_34 : decode b_Mo_flags 34 = .ok (.iconst 1, 1) := by decide +kernel
theorem d_Mo_flags_35 : decode b_Mo_flags 35 = .ok (.goto 4, 3) := by decide +kernel
theorem d_Mo_flags_38 : decode b_Mo_flags 38 = .ok (.iconst 0, 1) := by decide +kernel
theorem d_Mo_flags_39 : decode b_Mo_flags 39 = .ok (.iadd, 1) := by decide +kernel
theorem d_Mo_flags_40 : decode b_Mo_flags 40 = .ok (.ireturn, 1) := by decide +kernel
theorem d_Mo_set_0 : decode b_Mo_set 0 = .ok (.aload_n 0, 1) := by decide +kernel
theorem d_Mo_set_1 : decode b_Mo_set 1 = .ok (.iload_n 1, 1) := by decide +kernel
theorem d_Mo_set_2 : decode b_Mo_set 2 = .ok (.sipush 128, 3) := by decide +kernel
theorem d_Mo_set_5 : decode b_Mo_set 5 = .ok (.iand, 1) := by decide +kernel
theorem d_Mo_set_6 : decode b_Mo_set 6 = .ok (.ifCond .eq 7, 3) := by decide +kernel
theorem d_Mo_set_9 : decode b_Mo_set 9 = .ok (.iconst 1, 1) := by decide +kernel
theorem d_Mo_set_10 : decode b_Mo_set 10 = .ok (.goto 4, 3) := by decide +kernel
theorem d_Mo_set_13 : decode b_Mo_set 13 = .ok (.iconst 0, 1) := by decide +kernel
theorem d_Mo_set_14 : decode b_Mo_set 14 = .ok (.putfield 123, 3) := by decide +kernel
theorem d_Mo_set_17 : decode b_Mo_set 17 = .ok (.aload_n 0, 1) := by decide +kernel
theorem d_Mo_set_18 : decode b_Mo_set 18 = .ok (.iload_n 1, 1) := by decide +kernel
theorem d_Mo_set_19 : decode b_Mo_set 19 = .ok (.sipush 255, 3) := by decide +kernel
theorem d_Mo_set_22 : decode b_Mo_set 22 = .ok (.iand, 1) := by decide +kernel
theorem d_Mo_set_23 : decode b_Mo_set 23 = .ok (.ifCond .ne 7, 3) := by decide +kernel
theorem d_Mo_set_26 : decode b_Mo_set 26 = .ok (.iconst 1, 1) := by decide +kernel
theorem d_Mo_set_27 : decode b_Mo_set 27 = .ok (.goto 4, 3) := by decide +kernel
theorem d_Mo_set_30 : decode b_Mo_set 30 = .ok (.iconst 0, 1) := by decide +kernel
theorem d_Mo_set_31 : decode b_Mo_set 31 = .ok (.putfield 126, 3) := by decide +kernel
theorem d_Mo_set_34 : decode b_Mo_set 34 = .ok (.iload_n 1, 1) := by decide +kernel
theorem d_Mo_set_35 : decode b_Mo_set 35 = .ok (.sipush 255, 3) := by decide +kernel
theorem d_Mo_set_38 : decode b_Mo_set 38 = .ok (.iand, 1) := by decide +kernel
theorem d_Mo_set_39 : decode b_Mo_set 39 = .ok (.ireturn, 1) := by decide +kernel
theorem d_Mo_sum_0 : decode b_Mo_sum 0 = .ok (.aload_n 0, 1) := by decide +kernel
theorem d_Mo_sum_1 : decode b_Mo_sum 1 = .ok (.getfield 132, 3) := by decide +kernel
theorem d_Mo_sum_4 : decode b_Mo_sum 4 = .ok (.iload_n 1, 1) := by decide +kernel
theorem d_Mo_sum_5 : decode b_Mo_sum 5 = .ok (.iadd, 1) := by decide +kernel
theorem d_Mo_sum_6 : decode b_Mo_sum 6 = .ok (.aload_n 0, 1) := by decide +kernel
theorem d_Mo_sum_7 : decode b_Mo_sum 7 = .ok (.getfield 129, 3) := by decide +kernel
theorem d_Mo_sum_10 : decode b_Mo_sum 10 = .ok (.ifCond .eq 7, 3) := by decide +kernel
theorem d_Mo_sum_13 : decode b_Mo_sum 13 = .ok (.iconst 1, 1) := by decide +kernel
theorem d_Mo_sum_14 : decode b_Mo_sum 14 = .ok (.goto 4, 3) := by decide +kernel
theorem d_Mo_sum_17 : decode b_Mo_sum 17 = .ok (.iconst 0, 1) := by decide +kernel
theorem d_Mo_sum_18 : decode b_Mo_sum 18 = .ok (.iadd, 1) := by decide +kernel
theorem d_Mo_sum_19 : decode b_Mo_sum 19 = .ok (.istore_n 2, 1) := by decide +kernel
theorem d_Mo_sum_20 : decode b_Mo_sum 20 = .ok (.aload_n 0, 1) := by decide +kernel
theorem d_Mo_sum_21 : decode b_Mo_sum 21 = .ok (.iload_n 2, 1) := by decide +kernel
theorem d_Mo_sum_22 : decode b_Mo_sum 22 = .ok (.sipush 255, 3) := by decide +kernel
theorem d_Mo_sum_25 : decode b_Mo_sum 25 = .ok (.if_icmp .le 7, 3) := by decide +kernel
theorem d_Mo_sum_28 : decode b_Mo_sum 28 = .ok (.iconst 1, 1) := by decide +kernel
theorem d_Mo_sum_29 : decode b_Mo_sum 29 = .ok (.goto 4, 3) := by decide +kernel
theorem d_Mo_sum_32 : decode b_Mo_sum 32 = .ok (.iconst 0, 1) := by decide +kernel
theorem d_Mo_sum_33 : decode b_Mo_sum 33 = .ok (.putfield 129, 3) := by decide +kernel
theorem d_Mo_sum_36 : decode b_Mo_sum 36 = .ok (.aload_n 0, 1) := by decide +kernel
theorem d_Mo_sum_37 : decode b_Mo_sum 37 = .ok (.iload_n 2, 1) := by decide +kernel
theorem d_Mo_sum_38 : decode b_Mo_sum 38 = .ok (.invokevirtual 135, 3) := by decide +kernel
theorem d_Mo_sum_41 : decode b_Mo_sum 41 = .ok (.ireturn, 1) := by decide +kernel
theorem d_Mo_compare_0 : decode b_Mo_compare 0 = .ok (.aload_n 0, 1) := by decide +kernel
theorem d_Mo_compare_1 : decode b_Mo_compare 1 = .ok (.iload_n 1, 1) := by decide +kernel
theorem d_Mo_compare_2 : decode b_Mo_compare 2 = .ok (.iload_n 2, 1) := by decide +kernel
theorem d_Mo_compare_3 : decode b_Mo_compare 3 = .ok (.isub, 1) := by decide +kernel
theorem d_Mo_compare_4 : decode b_Mo_compare 4 = .ok (.invokevirtual 135, 3) := by decide +kernel
theorem d_Mo_compare_7 : decode b_Mo_compare 7 = .ok (.pop, 1) := by decide +kernel
theorem d_Mo_compare_8 : decode b_Mo_compare 8 = .ok (.aload_n 0, 1) := by decide +kernel
theorem d_Mo_compare_9 : decode b_Mo_compare 9 = .ok (.iload_n 2, 1) := by decide +kernel
theorem d_Mo_compare_10 : decode b_Mo_compare 10 = .ok (.iload_n 1, 1) := by decide +kernel
theorem d_Mo_compare_11 : decode b_Mo_compare 11 = .ok (.if_icmp .gt 7, 3) := by decide +kernel
theorem d_Mo_compare_14 : decode b_Mo_compare 14 = .ok (.iconst 1, 1) := by decide +kernel
theorem d_Mo_compare_15 : decode b_Mo_compare 15 = .ok (.goto 4, 3) := by decide +kernel
theorem d_Mo_compare_18 : decode b_Mo_compare 18 = .ok (.iconst 0, 1) := by decide +kernel
theorem d_Mo_compare_19 : decode b_Mo_compare 19 = .ok (.putfield 129, 3) := by decide +kernel
theorem d_Mo_compare_22 : decode b_Mo_compare 22 = .ok (.return_, 1) := by decide +kernel
theorem d_Mo_interrupt_0 : decode b_Mo_interrupt 0 = .ok (.aload_n 0, 1) := by decide +kernel
theorem d_Mo_interrupt_1 : decode b_Mo_interrupt 1 = .ok (.aload_n 0, 1) := by decide +kernel
theorem d_Mo_interrupt_2 : decode b_Mo_interrupt 2 = .ok (.getfield 20, 3) := by decide +kernel
theorem d_Mo_interrupt_5 : decode b_Mo_interrupt 5 = .ok (.bipush 8, 2) := by decide +kernel
theorem d_Mo_interrupt_7 : decode b_Mo_interrupt 7 = .ok (.ishr, 1) := by decide +kernel
theorem d_Mo_interrupt_8 : decode b_Mo_interrupt 8 = .ok (.invokevirtual 138, 3) := by decide +kernel
theorem d_Mo_interrupt_11 : decode b_Mo_interrupt 11 = .ok (.aload_n 0, 1) := by decide +kernel
theorem d_Mo_interrupt_12 : decode b_Mo_interrupt 12 = .ok (.aload_n 0, 1) := by decide +kernel
theorem d_Mo_interrupt_13 : decode b_Mo_interrupt 13 = .ok (.getfield 20, 3) := by decide +kernel
theorem d_Mo_interrupt_16 : decode b_Mo_interrupt 16 = .ok (.sipush 255, 3) := by decide +kernel
theorem d_Mo_interrupt_19 : decode b_Mo_interrupt 19 = .ok (.iand, 1) := by decide +kernel
theorem d_Mo_interrupt_20 : decode b_Mo_interrupt 20 = .ok (.invokevirtual 138, 3) := by decide +kernel
theorem d_Mo_interrupt_23 : decode b_Mo_interrupt 23 = .ok (.aload_n 0, 1) := by decide +kernel
theorem d_Mo_interrupt_24 : decode b_Mo_interrupt 24 = .ok (.aload_n 0, 1) := by decide +kernel
theorem d_Mo_interrupt_25 : decode b_Mo_interrupt 25 = .ok (.invokevirtual 141, 3) := by decide +kernel
theorem d_Mo_interrupt_28 : decode b_Mo_interrupt 28 = .ok (.invokevirtual 138, 3) := by decide +kernel
theorem d_Mo_interrupt_31 : decode b_Mo_interrupt 31 = .ok (.aload_n 0, 1) := by decide +kernel
theorem d_Mo_interrupt_32 : decode b_Mo_interrupt 32 = .ok (.sipush 256, 3) := by decide +kernel
theorem d_Mo_interrupt_35 : decode b_Mo_interrupt 35 = .ok (.aload_n 0, 1) := by decide +kernel
theorem d_Mo_interrupt_36 : decode b_Mo_interrupt 36 = .ok (.getfield 7, 3) := by decide +kernel
theorem d_Mo_interrupt_39 : decode b_Mo_interrupt 39 = .ok (.sipush 761, 3) := by decide +kernel
theorem d_Mo_interrupt_42 : decode b_Mo_interrupt 42 = .ok (.iaload, 1) := by decide +kernel
theorem d_Mo_interrupt_43 : decode b_Mo_interrupt 43 = .ok (.imul, 1) := by decide +kernel
theorem d_Mo_interrupt_44 : decode b_Mo_interrupt 44 = .ok (.aload_n 0, 1) := by decide +kernel
theorem d_Mo_interrupt_45 : decode b_Mo_interrupt 45 = .ok (.getfield 7, 3) := by decide +kernel
theorem d_Mo_interrupt_48 : decode b_Mo_interrupt 48 = .ok (.sipush 760, 3) := by decide +kernel
theorem d_Mo_interrupt_51 : decode b_Mo_interrupt 51 = .ok (.iaload, 1) := by decide +kernel
theorem d_Mo_interrupt_52 : decode b_Mo_interrupt 52 = .ok (.iadd, 1) := by decide +kernel
theorem d_Mo_interrupt_53 : decode b_Mo_interrupt 53 = .ok (.sipush 1023, 3) := by decide +kernel
theorem d_Mo_interrupt_56 : decode b_Mo_interrupt 56 = .ok (.iand, 1) := by decide +kernel
theorem d_Mo_interrupt_57 : decode b_Mo_interrupt 57 = .ok (.putfield 20, 3) := by decide +kernel
theorem d_Mo_interrupt_60 : decode b_Mo_interrupt 60 = .ok (.aload_n 0, 1) := by decide +kernel
theorem d_Mo_interrupt_61 : decode b_Mo_interrupt 61 = .ok (.iconst 0, 1) := by decide +kernel
theorem d_Mo_interrupt_62 : decode b_Mo_interrupt 62 = .ok (.putfield 145, 3) := by decide +kernel
theorem d_Mo_interrupt_65 : decode b_Mo_interrupt 65 = .ok (.aload_n 0, 1) := by decide +kernel
theorem d_Mo_interrupt_66 : decode b_Mo_interrupt 66 = .ok (.iconst 0, 1) := by decide +kernel
theorem d_Mo_interrupt_67 : decode b_Mo_interrupt 67 = .ok (.putfield 148, 3) := by decide +kernel
theorem d_Mo_interrupt_70 : decode b_Mo_interrupt 70 = .ok (.return_, 1) := by decide +kernel
theorem d_Mo_steps_0 : decode b_Mo_steps 0 = .ok (.aload_n 0, 1) := by decide +kernel
theorem d_Mo_steps_1 : decode b_Mo_steps 1 = .ok (.getfield 84, 3) := by decide +kernel
theorem d_Mo_steps_4 : decode b_Mo_steps 4 = .ok (.ifCond .ne 10, 3) := by decide +kernel
theorem d_Mo_steps_7 : decode b_Mo_steps 7 = .ok (.aload_n 0, 1) := by decide +kernel
theorem d_Mo_steps_8 : decode b_Mo_steps 8 = .ok (.getfield 151, 3) := by decide +kernel
theorem d_Mo_steps_11 : decode b_Mo_steps 11 = .ok (.ifCond .eq 5, 3) := by decide +kernel
theorem d_Mo_steps_14 : decode b_Mo_steps 14 = .ok (.iconst 0, 1) := by decide +kernel
theorem d_Mo_steps_15 : decode b_Mo_steps 15 = .ok (.ireturn, 1) := by decide +kernel
theorem d_Mo_steps_16 : decode b_Mo_steps 16 = .ok (.aload_n 0, 1) := by decide +kernel
theorem d_Mo_steps_17 : decode b_Mo_steps 17 = .ok (.getfield 154, 3) := by decide +kernel
theorem d_Mo_steps_20 : decode b_Mo_steps 20 = .ok (.ifCond .ne 60, 3) := by decide +kernel
theorem d_Mo_steps_23 : decode b_Mo_steps 23 = .ok (.aload_n 0, 1) := by decide +kernel
theorem d_Mo_steps_24 : decode b_Mo_steps 24 = .ok (.aload_n 0, 1) := by decide +kernel
theorem d_Mo_steps_25 : decode b_Mo_steps 25 = .ok (.getfield 145, 3) := by decide +kernel
theorem d_Mo_steps_28 : decode b_Mo_steps 28 = .ok (.putfield 148, 3) := by decide +kernel
theorem d_Mo_steps_31 : decode b_Mo_steps 31 = .ok (.aload_n 0, 1) := by decide +kernel
theorem d_Mo_steps_32 : decode b_Mo_steps 32 = .ok (.aload_n 0, 1) := by decide +kernel
theorem d_Mo_steps_33 : decode b_Mo_steps 33 = .ok (.getfield 148, 3) := by decide +kernel
theorem d_Mo_steps_36 : decode b_Mo_steps 36 = .ok (.ifCond .eq 7, 3) := by decide +kernel
theorem d_Mo_steps_39 : decode b_Mo_steps 39 = .ok (.iconst 0, 1) := by decide +kernel
theorem d_Mo_steps_40 : decode b_Mo_steps 40 = .ok (.goto 11, 3) := by decide +kernel
theorem d_Mo_steps_43 : decode b_Mo_steps 43 = .ok (.aload_n 0, 1) := by decide +kernel
theorem d_Mo_steps_44 : decode b_Mo_steps 44 = .ok (.aload_n 0, 1) := by decide +kernel
theorem d_Mo_steps_45 : decode b_Mo_steps 45 = .ok (.getfield 20, 3) := by decide +kernel
theorem d_Mo_steps_48 : decode b_Mo_steps 48 = .ok (.invokevirtual 157, 3) := by decide +kernel
theorem d_Mo_steps_51 : decode b_Mo_steps 51 = .ok (.putfield 160, 3) := by decide +kernel
theorem d_Mo_steps_54 : decode b_Mo_steps 54 = .ok (.aload_n 0, 1) := by decide +kernel
theorem d_Mo_steps_55 : decode b_Mo_steps 55 = .ok (.aload_n 0, 1) := by decide +kernel
theorem d_Mo_steps_56 : decode b_Mo_steps 56 = .ok (.getfield 148, 3) := by decide +kernel
theorem d_Mo_steps_59 : decode b_Mo_steps 59 = .ok (.ifCond .eq 8, 3) := by decide +kernel
theorem d_Mo_steps_62 : decode b_Mo_steps 62 = .ok (.bipush 7, 2) := by decide +kernel
theorem d_Mo_steps_64 : decode b_Mo_steps 64 = .ok (.goto 13, 3) := by decide +kernel
theorem d_Mo_steps_67 : decode b_Mo_steps 67 = .ok (.aload_n 0, 1) := by decide +kernel
theorem d_Mo_steps_68 : decode b_Mo_steps 68 = .ok (.getfield 160, 3) := by decide +kernel
theorem d_Mo_steps_71 : decode b_Mo_steps 71 = .ok (.invokestatic 163, 3) := by decide +kernel
theorem d_Mo_steps_74 : decode b_Mo_steps 74 = .ok (.bipush 10, 2) := by decide +kernel
theorem d_Mo_steps_76 : decode b_Mo_steps 76 = .ok (.irem, 1) := by decide +kernel
theorem d_Mo_steps_77 : decode b_Mo_steps 77 = .ok (.putfield 154, 3) := by decide +kernel
theorem d_Mo_steps_80 : decode b_Mo_steps 80 = .ok (.aload_n 0, 1) := by decide +kernel
theorem d_Mo_steps_81 : decode b_Mo_steps 81 = .ok (.dup, 1) := by decide +kernel
theorem d_Mo_steps_82 : decode b_Mo_steps 82 = .ok (.getfield 154, 3) := by decide +kernel
theorem d_Mo_steps_85 : decode b_Mo_steps 85 = .ok (.iconst 1, 1) := by decide +kernel
theorem d_Mo_steps_86 : decode b_Mo_steps 86 = .ok (.isub, 1) := by decide +kernel
theorem d_Mo_steps_87 : decode b_Mo_steps 87 = .ok (.putfield 154, 3) := by decide +kernel
theorem d_Mo_steps_90 : decode b_Mo_steps 90 = .ok (.aload_n 0, 1) := by decide +kernel
theorem d_Mo_steps_91 : decode b_Mo_steps 91 = .ok (.getfield 154, 3) := by decide +kernel
theorem d_Mo_steps_94 : decode b_Mo_steps 94 = .ok (.ifCond .ne 17, 3) := by decide +kernel
theorem d_Mo_steps_97 : decode b_Mo_steps 97 = .ok (.aload_n 0, 1) := by decide +kernel
theorem d_Mo_steps_98 : decode b_Mo_steps 98 = .ok (.getfield 148, 3) := by decide +kernel
theorem d_Mo_steps_101 : decode b_Mo_steps 101 = .ok (.ifCond .eq 10, 3) := by decide +kernel
theorem d_Mo_steps_104 : decode b_Mo_steps 104 = .ok (.aload_n 0, 1) := by decide +kernel
theorem d_Mo_steps_105 : decode b_Mo_steps 105 = .ok (.invokevirtual 166, 3) := by decide +kernel
theorem d_Mo_steps_108 : decode b_Mo_steps 108 = .ok (.goto 14, 3) := by decide +kernel
theorem d_Mo_steps_111 : decode b_Mo_steps 111 = .ok (.aload_n 0, 1) := by decide +kernel
theorem d_Mo_steps_112 : decode b_Mo_steps 112 = .ok (.getfield 154, 3) := by decide +kernel
theorem d_Mo_steps_115 : decode b_Mo_steps 115 = .ok (.ifCond .ne 7, 3) := by decide +kernel
theorem d_Mo_steps_118 : decode b_Mo_steps 118 = .ok (.aload_n 0, 1) := by decide +kernel
theorem d_Mo_steps_119 : decode b_Mo_steps 119 = .ok (.invokevirtual 169, 3) := by decide +kernel
theorem d_Mo_steps_122 : decode b_Mo_steps 122 = .ok (.iconst 1, 1) := by decide +kernel
theorem d_Mo_steps_123 : decode b_Mo_steps 123 = .ok (.ireturn, 1) := by decide +kernel
theorem d_Mo_execute_0 : decode b_Mo_execute 0 = .ok (.aload_n 0, 1) := by decide +kernel
theorem d_Mo_execute_1 : decode b_Mo_execute 1 = .ok (.getfield 160, 3) := by decide +kernel
theorem d_Mo_execute_4 : decode b_Mo_execute 4 = .ok (.invokestatic 163, 3) := by decide +kernel
theorem d_Mo_execute_7 : decode b_Mo_execute 7 = .ok (.istore_n 1, 1) := by decide +kernel
theorem d_Mo_execute_8 : decode b_Mo_execute 8 = .ok (.iload_n 1, 1) := by decide +kernel
theorem d_Mo_execute_9 : decode b_Mo_execute 9 = .ok (.bipush 100, 2) := by decide +kernel
theorem d_Mo_execute_11 : decode b_Mo_execute 11 = .ok (.idiv, 1) := by decide +kernel
theorem d_Mo_execute_12 : decode b_Mo_execute 12 = .ok (.istore_n 2, 1) := by decide +kernel
theorem d_Mo_execute_13 : decode b_Mo_execute 13 = .ok (.iload_n 1, 1) := by decide +kernel
theorem d_Mo_execute_14 : decode b_Mo_execute 14 = .ok (.bipush 10, 2) := by decide +kernel
theorem d_Mo_execute_16 : decode b_Mo_execute 16 = .ok (.idiv, 1) := by decide +kernel
theorem d_Mo_execute_17 : decode b_Mo_execute 17 = .ok (.bipush 10, 2) := by decide +kernel
theorem d_Mo_execute_19 : decode b_Mo_execute 19 = .ok (.irem, 1) := by decide +kernel
theorem d_Mo_execute_20 : decode b_Mo_execute 20 = .ok (.istore_n 3, 1) := by decide +kernel
theorem d_Mo_execute_21 : decode b_Mo_execute 21 = .ok (.iload_n 2, 1) := by decide +kernel
theorem d_Mo_execute_22 : decode b_Mo_execute 22 = .ok (.ifCond .ne 9, 3) := by decide +kernel
theorem d_Mo_execute_25 : decode b_Mo_execute 25 = .ok (.aload_n 0, 1) := by decide +kernel
theorem d_Mo_execute_26 : decode b_Mo_execute 26 = .ok (.iconst 1, 1) := by decide +kernel
theorem d_Mo_execute_27 : decode b_Mo_execute 27 = .ok (.putfield 151, 3) := by decide +kernel
theorem d_Mo_execute_30 : decode b_Mo_execute 30 = .ok (.return_, 1) := by decide +kernel
theorem d_Mo_execute_31 : decode b_Mo_execute 31 = .ok (.iload_n 3, 1) := by decide +kernel
theorem d_Mo_execute_32 : decode b_Mo_execute 32 = .ok (.ifCond .le 16, 3) := by decide +kernel
theorem d_Mo_execute_35 : decode b_Mo_execute 35 = .ok (.aload_n 0, 1) := by decide +kernel
theorem d_Mo_execute_36 : decode b_Mo_execute 36 = .ok (.aload_n 0, 1) := by decide +kernel
theorem d_Mo_execute_37 : decode b_Mo_execute 37 = .ok (.getfield 20, 3) := by decide +kernel
theorem d_Mo_execute_40 : decode b_Mo_execute 40 = .ok (.iconst 1, 1) := by decide +kernel
theorem d_Mo_execute_41 : decode b_Mo_execute 41 = .ok (.iadd, 1) := by decide +kernel
theorem d_Mo_execute_42 : decode b_Mo_execute 42 = .ok (.invokevirtual 157, 3) := by decide +kernel
theorem d_Mo_execute_45 : decode b_Mo_execute 45 = .ok (.goto 4, 3) := by decide +kernel
theorem d_Mo_execute_48 : decode b_Mo_execute 48 = .ok (.iconst 0, 1) := by decide +kernel
theorem d_Mo_execute_49 : decode b_Mo_execute 49 = .ok (.istore 4, 2) := by decide +kernel
theorem d_Mo_execute_51 : decode b_Mo_execute 51 = .ok (.iload_n 3, 1) := by decide +kernel
theorem d_Mo_execute_52 : decode b_Mo_execute 52 = .ok (.iconst 3, 1) := by decide +kernel
theorem d_Mo_execute_53 : decode b_Mo_execute 53 = .ok (.if_icmp .lt 23, 3) := by decide +kernel
theorem d_Mo_execute_56 : decode b_Mo_execute 56 = .ok (.iload 4, 2) := by decide +kernel
theorem d_Mo_execute_58 : decode b_Mo_execute 58 = .ok (.sipush 256, 3) := by decide +kernel
theorem d_Mo_execute_61 : decode b_Mo_execute 61 = .ok (.aload_n 0, 1) := by decide +kernel
theorem d_Mo_execute_62 : decode b_Mo_execute 62 = .ok (.aload_n 0, 1) := by decide +kernel
theorem d_Mo_execute_63 : decode b_Mo_execute 63 = .ok (.getfield 20, 3) := by decide +kernel
theorem d_Mo_execute_66 : decode b_Mo_execute 66 = .ok (.iconst 2, 1) := by decide +kernel
theorem d_Mo_execute_67 : decode b_Mo_execute 67 = .ok (.iadd, 1) := by decide +kernel
theorem d_Mo_execute_68 : decode b_Mo_execute 68 = .ok (.invokevirtual 157, 3) := by decide +kernel
theorem d_Mo_execute_71 : decode b_Mo_execute 71 = .ok (.imul, 1) := by decide +kernel
theorem d_Mo_execute_72 : decode b_Mo_execute 72 = .ok (.iadd, 1) := by decide +kernel
theorem d_Mo_execute_73 : decode b_Mo_execute 73 = .ok (.goto 5, 3) := by decide +kernel
theorem d_Mo_execute_76 : decode b_Mo_execute 76 = .ok (.iload 4, 2) := by decide +kernel
theorem d_Mo_execute_78 : decode b_Mo_execute 78 = .ok (.istore 5, 2) := by decide +kernel
theorem d_Mo_execute_80 : decode b_Mo_execute 80 = .ok (.iload_n 3, 1) := by decide +kernel
theorem d_Mo_execute_81 : decode b_Mo_execute 81 = .ok (.iconst 4, 1) := by decide +kernel
theorem d_Mo_execute_82 : decode b_Mo_execute 82 = .ok (.if_icmp .ne 12, 3) := by decide +kernel
theorem d_Mo_execute_85 : decode b_Mo_execute 85 = .ok (.iload 5, 2) := by decide +kernel
theorem d_Mo_execute_87 : decode b_Mo_execute 87 = .ok (.aload_n 0, 1) := by decide +kernel
theorem d_Mo_execute_88 : decode b_Mo_execute 88 = .ok (.getfield 172, 3) := by decide +kernel
theorem d_Mo_execute_91 : decode b_Mo_execute 91 = .ok (.iadd, 1) := by decide +kernel
theorem d_Mo_execute_92 : decode b_Mo_execute 92 = .ok (.istore 5, 2) := by decide +kernel
theorem d_Mo_execute_94 : decode b_Mo_execute 94 = .ok (.aload_n 0, 1) := by decide +kernel
theorem d_Mo_execute_95 : decode b_Mo_execute 95 = .ok (.getfield 20, 3) := by decide +kernel
theorem d_Mo_execute_98 : decode b_Mo_execute 98 = .ok (.istore 6, 2) := by decide +kernel
theorem d_Mo_execute_100 : decode b_Mo_execute 100 = .ok (.aload_n 0, 1) := by decide +kernel
theorem d_Mo_execute_101 : decode b_Mo_execute 101 = .ok (.aload_n 0, 1) := by decide +kernel
theorem d_Mo_execute_102 : decode b_Mo_execute 102 = .ok (.getfield 20, 3) := by decide +kernel
theorem d_Mo_execute_105 : decode b_Mo_execute 105 = .ok (.iload_n 3, 1) := by decide +kernel
theorem d_Mo_execute_106 : decode b_Mo_execute 106 = .ok (.ifCond .ne 7, 3) := by decide +kernel
theorem d_Mo_execute_109 : decode b_Mo_execute 109 = .ok (.iconst 1, 1) := by decide +kernel
theorem d_Mo_execute_110 : decode b_Mo_execute 110 = .ok (.goto 13, 3) := by decide +kernel
theorem d_Mo_execute_113 : decode b_Mo_execute 113 = .ok (.iload_n 3, 1) := by decide +kernel
theorem d_Mo_execute_114 : decode b_Mo_execute 114 = .ok (.iconst 3, 1) := by decide +kernel
theorem d_Mo_execute_115 : decode b_Mo_execute 115 = .ok (.if_icmp .ge 7, 3) := by decide +kernel
theorem d_Mo_execute_118 : decode b_Mo_execute 118 = .ok (.iconst 2, 1) := by decide +kernel
theorem d_Mo_execute_119 : decode b_Mo_execute 119 = .ok (.goto 4, 3) := by decide +kernel
theorem d_Mo_execute_122 : decode b_Mo_execute 122 = .ok (.iconst 3, 1) := by decide +kernel
theorem d_Mo_execute_123 : decode b_Mo_execute 123 = .ok (.iadd, 1) := by decide +kernel
theorem d_Mo_execute_124 : decode b_Mo_execute 124 = .ok (.sipush 1023, 3) := by decide +kernel
theorem d_Mo_execute_127 : decode b_Mo_execute 127 = .ok (.iand, 1) := by decide +kernel
theorem d_Mo_execute_128 : decode b_Mo_execute 128 = .ok (.putfield 20, 3) := by decide +kernel
theorem d_Mo_execute_131 : decode b_Mo_execute 131 = .ok (.iload_n 2, 1) := by decide +kernel
theorem d_Mo_execute_132 : decode b_Mo_execute 132 = .ok (.bipush 25, 2) := by decide +kernel
theorem d_Mo_execute_134 : decode b_Mo_execute 134 = .ok (.if_icmp .lt 15, 3) := by decide +kernel
theorem d_Mo_execute_137 : decode b_Mo_execute 137 = .ok (.aload_n 0, 1) := by decide +kernel
theorem d_Mo_execute_138 : decode b_Mo_execute 138 = .ok (.iload_n 2, 1) := by decide +kernel
theorem d_Mo_execute_139 : decode b_Mo_execute 139 = .ok (.iload 6, 2) := by decide +kernel
theorem d_Mo_execute_141 : decode b_Mo_execute 141 = .ok (.iload 5, 2) := by decide +kernel
theorem d_Mo_execute_143 : decode b_Mo_execute 143 = .ok (.invokevirtual 175, 3) := by decide +kernel
theorem d_Mo_execute_146 : decode b_Mo_execute 146 = .ok (.goto 116, 3) := by decide +kernel
theorem d_Mo_execute_149 : decode b_Mo_execute 149 = .ok (.iload_n 2, 1) := by decide +kernel
theorem d_Mo_execute_150 : decode b_Mo_execute 150 = .ok (.iconst 4, 1) := by decide +kernel
theorem d_Mo_execute_151 : decode b_Mo_execute 151 = .ok (.if_icmp .eq 8, 3) := by decide +kernel
theorem d_Mo_execute_154 : decode b_Mo_execute 154 = .ok (.iload_n 2, 1) := by decide +kernel
theorem d_Mo_execute_155 : decode b_Mo_execute 155 = .ok (.iconst 5, 1) := by decide +kernel
theorem d_Mo_execute_156 : decode b_Mo_execute 156 = .ok (.if_icmp .ne 28, 3) := by decide +kernel
theorem d_Mo_execute_159 : decode b_Mo_execute 159 = .ok (.aload_n 0, 1) := by decide +kernel
theorem d_Mo_execute_160 : decode b_Mo_execute 160 = .ok (.iload 5, 2) := by decide +kernel
theorem d_Mo_execute_162 : decode b_Mo_execute 162 = .ok (.iload_n 2, 1) := by decide +kernel
theorem d_Mo_execute_163 : decode b_Mo_execute 163 = .ok (.iconst 4, 1) := by decide +kernel
theorem d_Mo_execute_164 : decode b_Mo_execute 164 = .ok (.if_icmp .ne 10, 3) := by decide +kernel
theorem d_Mo_execute_167 : decode b_Mo_execute 167 = .ok (.aload_n 0, 1) := by decide +kernel
theorem d_Mo_execute_168 : decode b_Mo_execute 168 = .ok (.getfield 132, 3) := by decide +kernel
theorem d_Mo_execute_171 : decode b_Mo_execute 171 = .ok (.goto 7, 3) := by decide +kernel
theorem d_Mo_execute_174 : decode b_Mo_execute 174 = .ok (.aload_n 0, 1) := by decide +kernel
theorem d_Mo_execute_175 : decode b_Mo_execute 175 = .ok (.getfield 172, 3) := by decide +kernel
theorem d_Mo_execute_178 : decode b_Mo_execute 178 = .ok (.invokevirtual 179, 3) := by decide +kernel
theorem d_Mo_execute_181 : decode b_Mo_execute 181 = .ok (.goto 81, 3) := by decide +kernel
theorem d_Mo_execute_184 : decode b_Mo_execute 184 = .ok (.iload_n 2, 1) := by decide +kernel
theorem d_Mo_execute_185 : decode b_Mo_execute 185 = .ok (.bipush 17, 2) := by decide +kernel
theorem d_Mo_execute_187 : decode b_Mo_execute 187 = .ok (.if_icmp .eq 9, 3) := by decide +kernel
theorem d_Mo_execute_190 : decode b_Mo_execute 190 = .ok (.iload_n 2, 1) := by decide +kernel
theorem d_Mo_execute_191 : decode b_Mo_execute 191 = .ok (.bipush 18, 2) := by decide +kernel
theorem d_Mo_execute_193 : decode b_Mo_execute 193 = .ok (.if_icmp .ne 36, 3) := by decide +kernel
theorem d_Mo_execute_196 : decode b_Mo_execute 196 = .ok (.aload_n 0, 1) := by decide +kernel
theorem d_Mo_execute_197 : decode b_Mo_execute 197 = .ok (.getfield 7, 3) := by decide +kernel
theorem d_Mo_execute_200 : decode b_Mo_execute 200 = .ok (.iload 5, 2) := by decide +kernel
theorem d_Mo_execute_202 : decode b_Mo_execute 202 = .ok (.aload_n 0, 1) := by decide +kernel
theorem d_Mo_execute_203 : decode b_Mo_execute 203 = .ok (.aload_n 0, 1) := by decide +kernel
theorem d_Mo_execute_204 : decode b_Mo_execute 204 = .ok (.getfield 7, 3) := by decide +kernel
theorem d_Mo_execute_207 : decode b_Mo_execute 207 = .ok (.iload 5, 2) := by decide +kernel
theorem d_Mo_execute_209 : decode b_Mo_execute 209 = .ok (.iaload, 1) := by decide +kernel
theorem d_Mo_execute_210 : decode b_Mo_execute 210 = .ok (.iload_n 2, 1) := by decide +kernel
theorem d_Mo_execute_211 : decode b_Mo_execute 211 = .ok (.bipush 17, 2) := by decide +kernel
theorem d_Mo_execute_213 : decode b_Mo_execute 213 = .ok (.if_icmp .ne 7, 3) := by decide +kernel
theorem d_Mo_execute_216 : decode b_Mo_execute 216 = .ok (.iconst 1, 1) := by decide +kernel
theorem d_Mo_execute_217 : decode b_Mo_execute 217 = .ok (.goto 4, 3) := by decide +kernel
theorem d_Mo_execute_220 : decode b_Mo_execute 220 = .ok (.iconst (-1), 1) := by decide +kernel
theorem d_Mo_execute_221 : decode b_Mo_execute 221 = .ok (.iadd, 1) := by decide +kernel
theorem d_Mo_execute_222 : decode b_Mo_execute 222 = .ok (.invokevirtual 135, 3) := by decide +kernel
theorem d_Mo_execute_225 : decode b_Mo_execute 225 = .ok (.iastore, 1) := by decide +kernel
theorem d_Mo_execute_226 : decode b_Mo_execute 226 = .ok (.goto 36, 3) := by decide +kernel
theorem d_Mo_execute_229 : decode b_Mo_execute 229 = .ok (.iload_n 3, 1) := by decide +kernel
theorem d_Mo_execute_230 : decode b_Mo_execute 230 = .ok (.ifCond .le 27, 3) := by decide +kernel
theorem d_Mo_execute_233 : decode b_Mo_execute 233 = .ok (.aload_n 0, 1) := by decide +kernel
theorem d_Mo_execute_234 : decode b_Mo_execute 234 = .ok (.iload_n 2, 1) := by decide +kernel
theorem d_Mo_execute_235 : decode b_Mo_execute 235 = .ok (.iload_n 3, 1) := by decide +kernel
theorem d_Mo_execute_236 : decode b_Mo_execute 236 = .ok (.iconst 1, 1) := by decide +kernel
theorem d_Mo_execute_237 : decode b_Mo_execute 237 = .ok (.if_icmp .ne 8, 3) := by decide +kernel
theorem d_Mo_execute_240 : decode b_Mo_execute 240 = .ok (.iload 4, 2) := by decide +kernel
theorem d_Mo_execute_242 : decode b_Mo_execute 242 = .ok (.goto 9, 3) := by decide +kernel
theorem d_Mo_execute_245 : decode b_Mo_execute 245 = .ok (.aload_n 0, 1) := by decide +kernel
theorem d_Mo_execute_246 : decode b_Mo_execute 246 = .ok (.iload 5, 2) := by decide +kernel
theorem d_Mo_execute_248 : decode b_Mo_execute 248 = .ok (.invokevirtual 157, 3) := by decide +kernel
theorem d_Mo_execute_251 : decode b_Mo_execute 251 = .ok (.invokevirtual 182, 3) := by decide +kernel
theorem d_Mo_execute_254 : decode b_Mo_execute 254 = .ok (.goto 8, 3) := by decide +kernel
theorem d_Mo_execute_257 : decode b_Mo_execute 257 = .ok (.aload_n 0, 1) := by decide +kernel
theorem d_Mo_execute_258 : decode b_Mo_execute 258 = .ok (.iload_n 2, 1) := by decide +kernel
theorem d_Mo_execute_259 : decode b_Mo_execute 259 = .ok (.invokevirtual 185, 3) := by decide +kernel
theorem d_Mo_execute_262 : decode b_Mo_execute 262 = .ok (.return_, 1) := by decide +kernel
theorem d_Mo_use_0 : decode b_Mo_use 0 = .ok (.iload_n 1, 1) := by decide +kernel
theorem d_Mo_use_1 : decode b_Mo_use 1 = .ok (.tableswitch 186 1 11 #[59, 71, 83, 186, 186, 95, 107, 123, 140, 157, 174], 59) := by decide +kernel
theorem d_Mo_use_60 : decode b_Mo_use 60 = .ok (.aload_n 0, 1) := by decide +kernel
theorem d_Mo_use_61 : decode b_Mo_use 61 = .ok (.aload_n 0, 1) := by decide +kernel
theorem d_Mo_use_62 : decode b_Mo_use 62 = .ok (.iload_n 2, 1) := by decide +kernel
theorem d_Mo_use_63 : decode b_Mo_use 63 = .ok (.invokevirtual 135, 3) := by decide +kernel
theorem d_Mo_use_66 : decode b_Mo_use 66 = .ok (.putfield 132, 3) := by decide +kernel
theorem d_Mo_use_69 : decode b_Mo_use 69 = .ok (.goto 127, 3) := by decide +kernel
theorem d_Mo_use_72 : decode b_Mo_use 72 = .ok (.aload_n 0, 1) := by decide +kernel
theorem d_Mo_use_73 : decode b_Mo_use 73 = .ok (.aload_n 0, 1) := by decide +kernel
theorem d_Mo_use_74 : decode b_Mo_use 74 = .ok (.iload_n 2, 1) := by decide +kernel
theorem d_Mo_use_75 : decode b_Mo_use 75 = .ok (.invokevirtual 135, 3) := by decide +kernel
theorem d_Mo_use_78 : decode b_Mo_use 78 = .ok (.putfield 172, 3) := by decide +kernel
theorem d_Mo_use_81 : decode b_Mo_use 81 = .ok (.goto 115, 3) := by decide +kernel
theorem d_Mo_use_84 : decode b_Mo_use 84 = .ok (.aload_n 0, 1) := by decide +kernel
theorem d_Mo_use_85 : decode b_Mo_use 85 = .ok (.aload_n 0, 1) := by decide +kernel
theorem d_Mo_use_86 : decode b_Mo_use 86 = .ok (.iload_n 2, 1) := by decide +kernel
theorem d_Mo_use_87 : decode b_Mo_use 87 = .ok (.invokevirtual 135, 3) := by decide +kernel
theorem d_Mo_use_90 : decode b_Mo_use 90 = .ok (.putfield 188, 3) := by decide +kernel
theorem d_Mo_use_93 : decode b_Mo_use 93 = .ok (.goto 103, 3) := by decide +kernel
theorem d_Mo_use_96 : decode b_Mo_use 96 = .ok (.aload_n 0, 1) := by decide +kernel
