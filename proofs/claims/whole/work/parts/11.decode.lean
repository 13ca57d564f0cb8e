theorem d_Ds_fetchLetterRow_42 : decode b_Ds_fetchLetterRow 42 = .ok (.getfield 60, 3) := by decide +kernel
theorem d_Ds_fetchLetterRow_45 : decode b_Ds_fetchLetterRow 45 = .ok (.iadd, 1) := by decide +kernel
theorem d_Ds_fetchLetterRow_46 : decode b_Ds_fetchLetterRow 46 = .ok (.invokevirtual 86, 3) := by decide +kernel
theorem d_Ds_fetchLetterRow_49 : decode b_Ds_fetchLetterRow 49 = .ok (.iastore, 1) := by decide +kernel
theorem d_Ds_fetchLetterRow_50 : decode b_Ds_fetchLetterRow 50 = .ok (.iconst 1, 1) := by decide +kernel
theorem d_Ds_fetchLetterRow_51 : decode b_Ds_fetchLetterRow 51 = .ok (.ireturn, 1) := by decide +kernel
theorem d_Ds_nextOfList_0 : decode b_Ds_nextOfList 0 = .ok (.aload_n 0, 1) := by decide +kernel
theorem d_Ds_nextOfList_1 : decode b_Ds_nextOfList 1 = .ok (.getfield 18, 3) := by decide +kernel
theorem d_Ds_nextOfList_4 : decode b_Ds_nextOfList 4 = .ok (.aload_n 0, 1) := by decide +kernel
theorem d_Ds_nextOfList_5 : decode b_Ds_nextOfList 5 = .ok (.getfield 83, 3) := by decide +kernel
theorem d_Ds_nextOfList_8 : decode b_Ds_nextOfList 8 = .ok (.invokevirtual 86, 3) := by decide +kernel
theorem d_Ds_nextOfList_11 : decode b_Ds_nextOfList 11 = .ok (.istore_n 1, 1) := by decide +kernel
theorem d_Ds_nextOfList_12 : decode b_Ds_nextOfList 12 = .ok (.aload_n 0, 1) := by decide +kernel
theorem d_Ds_nextOfList_13 : decode b_Ds_nextOfList 13 = .ok (.aload_n 0, 1) := by decide +kernel
theorem d_Ds_nextOfList_14 : decode b_Ds_nextOfList 14 = .ok (.getfield 83, 3) := by decide +kernel
theorem d_Ds_nextOfList_17 : decode b_Ds_nextOfList 17 = .ok (.invokestatic 129, 3) := by decide +kernel
theorem d_Ds_nextOfList_20 : decode b_Ds_nextOfList 20 = .ok (.putfield 83, 3) := by decide +kernel
theorem d_Ds_nextOfList_23 : decode b_Ds_nextOfList 23 = .ok (.iload_n 1, 1) := by decide +kernel
theorem d_Ds_nextOfList_24 : decode b_Ds_nextOfList 24 = .ok (.ireturn, 1) := by decide +kernel
theorem d_Ds_movedOn_0 : decode b_Ds_movedOn 0 = .ok (.iload_n 0, 1) := by decide +kernel
theorem d_Ds_movedOn_1 : decode b_Ds_movedOn 1 = .ok (.sipush (-256), 3) := by decide +kernel
theorem d_Ds_movedOn_4 : decode b_Ds_movedOn 4 = .ok (.iand, 1) := by decide +kernel
theorem d_Ds_movedOn_5 : decode b_Ds_movedOn 5 = .ok (.iload_n 0, 1) := by decide +kernel
theorem d_Ds_movedOn_6 : decode b_Ds_movedOn 6 = .ok (.iconst 1, 1) := by decide +kernel
theorem d_Ds_movedOn_7 : decode b_Ds_movedOn 7 = .ok (.iadd, 1) := by decide +kernel
theorem d_Ds_movedOn_8 : decode b_Ds_movedOn 8 = .ok (.sipush 255, 3) := by decide +kernel
theorem d_Ds_movedOn_11 : decode b_Ds_movedOn 11 = .ok (.iand, 1) := by decide +kernel
theorem d_Ds_movedOn_12 : decode b_Ds_movedOn 12 = .ok (.ior, 1) := by decide +kernel
theorem d_Ds_movedOn_13 : decode b_Ds_movedOn 13 = .ok (.ireturn, 1) := by decide +kernel
theorem d_Pc_init_0 : decode b_Pc_init 0 = .ok (.aload_n 0, 1) := by decide +kernel
theorem d_Pc_init_1 : decode b_Pc_init 1 = .ok (.invokespecial 3, 3) := by decide +kernel
theorem d_Pc_init_4 : decode b_Pc_init 4 = .ok (.aload_n 0, 1) := by decide +kernel
theorem d_Pc_init_5 : decode b_Pc_init 5 = .ok (.sipush 384, 3) := by decide +kernel
theorem d_Pc_init_8 : decode b_Pc_init 8 = .ok (.newarray .int, 2) := by decide +kernel
theorem d_Pc_init_10 : decode b_Pc_init 10 = .ok (.putfield 9, 3) := by decide +kernel
theorem d_Pc_init_13 : decode b_Pc_init 13 = .ok (.aload_n 0, 1) := by decide +kernel
theorem d_Pc_init_14 : decode b_Pc_init 14 = .ok (.iconst 2, 1) := by decide +kernel
theorem d_Pc_init_15 : decode b_Pc_init 15 = .ok (.newarray .int, 2) := by decide +kernel
theorem d_Pc_init_17 : decode b_Pc_init 17 = .ok (.putfield 15, 3) := by decide +kernel
theorem d_Pc_init_20 : decode b_Pc_init 20 = .ok (.aload_n 0, 1) := by decide +kernel
theorem d_Pc_init_21 : decode b_Pc_init 21 = .ok (.aload_n 1, 1) := by decide +kernel
theorem d_Pc_init_22 : decode b_Pc_init 22 = .ok (.putfield 18, 3) := by decide +kernel
theorem d_Pc_init_25 : decode b_Pc_init 25 = .ok (.aload_n 0, 1) := by decide +kernel
theorem d_Pc_init_26 : decode b_Pc_init 26 = .ok (.aload_n 2, 1) := by decide +kernel
theorem d_Pc_init_27 : decode b_Pc_init 27 = .ok (.putfield 22, 3) := by decide +kernel
theorem d_Pc_init_30 : decode b_Pc_init 30 = .ok (.return_, 1) := by decide +kernel
theorem d_Pc_dotAt_0 : decode b_Pc_dotAt 0 = .ok (.aload_n 0, 1) := by decide +kernel
theorem d_Pc_dotAt_1 : decode b_Pc_dotAt 1 = .ok (.getfield 9, 3) := by decide +kernel
theorem d_Pc_dotAt_4 : decode b_Pc_dotAt 4 = .ok (.iload_n 1, 1) := by decide +kernel
theorem d_Pc_dotAt_5 : decode b_Pc_dotAt 5 = .ok (.invokestatic 25, 3) := by decide +kernel
theorem d_Pc_dotAt_8 : decode b_Pc_dotAt 8 = .ok (.iload_n 2, 1) := by decide +kernel
theorem d_Pc_dotAt_9 : decode b_Pc_dotAt 9 = .ok (.iadd, 1) := by decide +kernel
theorem d_Pc_dotAt_10 : decode b_Pc_dotAt 10 = .ok (.iaload, 1) := by decide +kernel
theorem d_Pc_dotAt_11 : decode b_Pc_dotAt 11 = .ok (.ireturn, 1) := by decide +kernel
theorem d_Pc_forgetCollisions_0 : decode b_Pc_forgetCollisions 0 = .ok (.aload_n 0, 1) := by decide +kernel
theorem d_Pc_forgetCollisions_1 : decode b_Pc_forgetCollisions 1 = .ok (.getfield 15, 3) := by decide +kernel
theorem d_Pc_forgetCollisions_4 : decode b_Pc_forgetCollisions 4 = .ok (.iconst 0, 1) := by decide +kernel
theorem d_Pc_forgetCollisions_5 : decode b_Pc_forgetCollisions 5 = .ok (.iconst 0, 1) := by decide +kernel
theorem d_Pc_forgetCollisions_6 : decode b_Pc_forgetCollisions 6 = .ok (.iastore, 1) := by decide +kernel
theorem d_Pc_forgetCollisions_7 : decode b_Pc_forgetCollisions 7 = .ok (.aload_n 0, 1) := by decide +kernel
theorem d_Pc_forgetCollisions_8 : decode b_Pc_forgetCollisions 8 = .ok (.getfield 15, 3) := by decide +kernel
theorem d_Pc_forgetCollisions_11 : decode b_Pc_forgetCollisions 11 = .ok (.iconst 1, 1) := by decide +kernel
theorem d_Pc_forgetCollisions_12 : decode b_Pc_forgetCollisions 12 = .ok (.iconst 0, 1) := by decide +kernel
theorem d_Pc_forgetCollisions_13 : decode b_Pc_forgetCollisions 13 = .ok (.iastore, 1) := by decide +kernel
theorem d_Pc_forgetCollisions_14 : decode b_Pc_forgetCollisions 14 = .ok (.aload_n 0, 1) := by decide +kernel
theorem d_Pc_forgetCollisions_15 : decode b_Pc_forgetCollisions 15 = .ok (.iconst 0, 1) := by decide +kernel
theorem d_Pc_forgetCollisions_16 : decode b_Pc_forgetCollisions 16 = .ok (.putfield 29, 3) := by decide +kernel
theorem d_Pc_forgetCollisions_19 : decode b_Pc_forgetCollisions 19 = .ok (.return_, 1) := by decide +kernel
theorem d_Pc_drawLine_0 : decode b_Pc_drawLine 0 = .ok (.iload_n 1, 1) := by decide +kernel
theorem d_Pc_drawLine_1 : decode b_Pc_drawLine 1 = .ok (.invokestatic 25, 3) := by decide +kernel
theorem d_Pc_drawLine_4 : decode b_Pc_drawLine 4 = .ok (.istore_n 2, 1) := by decide +kernel
theorem d_Pc_drawLine_5 : decode b_Pc_drawLine 5 = .ok (.iconst 0, 1) := by decide +kernel
theorem d_Pc_drawLine_6 : decode b_Pc_drawLine 6 = .ok (.istore_n 3, 1) := by decide +kernel
theorem d_Pc_drawLine_7 : decode b_Pc_drawLine 7 = .ok (.iload_n 3, 1) := by decide +kernel
theorem d_Pc_drawLine_8 : decode b_Pc_drawLine 8 = .ok (.bipush 8, 2) := by decide +kernel
theorem d_Pc_drawLine_10 : decode b_Pc_drawLine 10 = .ok (.if_icmp .ge 73, 3) := by decide +kernel
theorem d_Pc_drawLine_13 : decode b_Pc_drawLine 13 = .ok (.aload_n 0, 1) := by decide +kernel
theorem d_Pc_drawLine_14 : decode b_Pc_drawLine 14 = .ok (.getfield 18, 3) := by decide +kernel
theorem d_Pc_drawLine_17 : decode b_Pc_drawLine 17 = .ok (.iload_n 3, 1) := by decide +kernel
theorem d_Pc_drawLine_18 : decode b_Pc_drawLine 18 = .ok (.invokevirtual 33, 3) := by decide +kernel
theorem d_Pc_drawLine_21 : decode b_Pc_drawLine 21 = .ok (.istore 4, 2) := by decide +kernel
theorem d_Pc_drawLine_23 : decode b_Pc_drawLine 23 = .ok (.iconst 0, 1) := by decide +kernel
theorem d_Pc_drawLine_24 : decode b_Pc_drawLine 24 = .ok (.istore 5, 2) := by decide +kernel
theorem d_Pc_drawLine_26 : decode b_Pc_drawLine 26 = .ok (.iload 5, 2) := by decide +kernel
theorem d_Pc_drawLine_28 : decode b_Pc_drawLine 28 = .ok (.iconst 4, 1) := by decide +kernel
theorem d_Pc_drawLine_29 : decode b_Pc_drawLine 29 = .ok (.if_icmp .ge 48, 3) := by decide +kernel
theorem d_Pc_drawLine_32 : decode b_Pc_drawLine 32 = .ok (.iconst 4, 1) := by decide +kernel
theorem d_Pc_drawLine_33 : decode b_Pc_drawLine 33 = .ok (.iload_n 3, 1) := by decide +kernel
theorem d_Pc_drawLine_34 : decode b_Pc_drawLine 34 = .ok (.imul, 1) := by decide +kernel
theorem d_Pc_drawLine_35 : decode b_Pc_drawLine 35 = .ok (.iload 5, 2) := by decide +kernel
theorem d_Pc_drawLine_37 : decode b_Pc_drawLine 37 = .ok (.iadd, 1) := by decide +kernel
theorem d_Pc_drawLine_38 : decode b_Pc_drawLine 38 = .ok (.istore 6, 2) := by decide +kernel
theorem d_Pc_drawLine_40 : decode b_Pc_drawLine 40 = .ok (.iload 4, 2) := by decide +kernel
theorem d_Pc_drawLine_42 : decode b_Pc_drawLine 42 = .ok (.bipush 6, 2) := by decide +kernel
theorem d_Pc_drawLine_44 : decode b_Pc_drawLine 44 = .ok (.iconst 2, 1) := by decide +kernel
theorem d_Pc_drawLine_45 : decode b_Pc_drawLine 45 = .ok (.iload 5, 2) := by decide +kernel
theorem d_Pc_drawLine_47 : decode b_Pc_drawLine 47 = .ok (.imul, 1) := by decide +kernel
theorem d_Pc_drawLine_48 : decode b_Pc_drawLine 48 = .ok (.isub, 1) := by decide +kernel
theorem d_Pc_drawLine_49 : decode b_Pc_drawLine 49 = .ok (.ishr, 1) := by decide +kernel
theorem d_Pc_drawLine_50 : decode b_Pc_drawLine 50 = .ok (.iconst 3, 1) := by decide +kernel
theorem d_Pc_drawLine_51 : decode b_Pc_drawLine 51 = .ok (.iand, 1) := by decide +kernel
theorem d_Pc_drawLine_52 : decode b_Pc_drawLine 52 = .ok (.istore 7, 2) := by decide +kernel
theorem d_Pc_drawLine_54 : decode b_Pc_drawLine 54 = .ok (.aload_n 0, 1) := by decide +kernel
theorem d_Pc_drawLine_55 : decode b_Pc_drawLine 55 = .ok (.getfield 9, 3) := by decide +kernel
theorem d_Pc_drawLine_58 : decode b_Pc_drawLine 58 = .ok (.iload_n 2, 1) := by decide +kernel
theorem d_Pc_drawLine_59 : decode b_Pc_drawLine 59 = .ok (.iload 6, 2) := by decide +kernel
theorem d_Pc_drawLine_61 : decode b_Pc_drawLine 61 = .ok (.iadd, 1) := by decide +kernel
theorem d_Pc_drawLine_62 : decode b_Pc_drawLine 62 = .ok (.aload_n 0, 1) := by decide +kernel
theorem d_Pc_drawLine_63 : decode b_Pc_drawLine 63 = .ok (.iload 6, 2) := by decide +kernel
theorem d_Pc_drawLine_65 : decode b_Pc_drawLine 65 = .ok (.iload 7, 2) := by decide +kernel
theorem d_Pc_drawLine_67 : decode b_Pc_drawLine 67 = .ok (.invokevirtual 38, 3) := by decide +kernel
theorem d_Pc_drawLine_70 : decode b_Pc_drawLine 70 = .ok (.iastore, 1) := by decide +kernel
theorem d_Pc_drawLine_71 : decode b_Pc_drawLine 71 = .ok (.iinc 5 1, 3) := by decide +kernel
theorem d_Pc_drawLine_74 : decode b_Pc_drawLine 74 = .ok (.goto (-48), 3) := by decide +kernel
theorem d_Pc_drawLine_77 : decode b_Pc_drawLine 77 = .ok (.iinc 3 1, 3) := by decide +kernel
theorem d_Pc_drawLine_80 : decode b_Pc_drawLine 80 = .ok (.goto (-73), 3) := by decide +kernel
theorem d_Pc_drawLine_83 : decode b_Pc_drawLine 83 = .ok (.return_, 1) := by decide +kernel
theorem d_Pc_firstDotOf_0 : decode b_Pc_firstDotOf 0 = .ok (.iload_n 0, 1) := by decide +kernel
theorem d_Pc_firstDotOf_1 : decode b_Pc_firstDotOf 1 = .ok (.iconst 1, 1) := by decide +kernel
theorem d_Pc_firstDotOf_2 : decode b_Pc_firstDotOf 2 = .ok (.isub, 1) := by decide +kernel
theorem d_Pc_firstDotOf_3 : decode b_Pc_firstDotOf 3 = .ok (.bipush 32, 2) := by decide +kernel
theorem d_Pc_firstDotOf_5 : decode b_Pc_firstDotOf 5 = .ok (.imul, 1) := by decide +kernel
theorem d_Pc_firstDotOf_6 : decode b_Pc_firstDotOf 6 = .ok (.ireturn, 1) := by decide +kernel
theorem d_Pc_drawnDot_0 : decode b_Pc_drawnDot 0 = .ok (.aload_n 0, 1) := by decide +kernel
theorem d_Pc_drawnDot_1 : decode b_Pc_drawnDot 1 = .ok (.iconst 0, 1) := by decide +kernel
theorem d_Pc_drawnDot_2 : decode b_Pc_drawnDot 2 = .ok (.iload_n 1, 1) := by decide +kernel
theorem d_Pc_drawnDot_3 : decode b_Pc_drawnDot 3 = .ok (.invokevirtual 42, 3) := by decide +kernel
theorem d_Pc_drawnDot_6 : decode b_Pc_drawnDot 6 = .ok (.istore_n 3, 1) := by decide +kernel
theorem d_Pc_drawnDot_7 : decode b_Pc_drawnDot 7 = .ok (.aload_n 0, 1) := by decide +kernel
theorem d_Pc_drawnDot_8 : decode b_Pc_drawnDot 8 = .ok (.iconst 1, 1) := by decide +kernel
theorem d_Pc_drawnDot_9 : decode b_Pc_drawnDot 9 = .ok (.iload_n 1, 1) := by decide +kernel
theorem d_Pc_drawnDot_10 : decode b_Pc_drawnDot 10 = .ok (.invokevirtual 42, 3) := by decide +kernel
theorem d_Pc_drawnDot_13 : decode b_Pc_drawnDot 13 = .ok (.istore 4, 2) := by decide +kernel
theorem d_Pc_drawnDot_15 : decode b_Pc_drawnDot 15 = .ok (.iload_n 3, 1) := by decide +kernel
theorem d_Pc_drawnDot_16 : decode b_Pc_drawnDot 16 = .ok (.ifCond .eq 9, 3) := by decide +kernel
theorem d_Pc_drawnDot_19 : decode b_Pc_drawnDot 19 = .ok (.aload_n 0, 1) := by decide +kernel
theorem d_Pc_drawnDot_20 : decode b_Pc_drawnDot 20 = .ok (.iconst 0, 1) := by decide +kernel
theorem d_Pc_drawnDot_21 : decode b_Pc_drawnDot 21 = .ok (.iload_n 2, 1) := by decide +kernel
theorem d_Pc_drawnDot_22 : decode b_Pc_drawnDot 22 = .ok (.invokevirtual 46, 3) := by decide +kernel
theorem d_Pc_drawnDot_25 : decode b_Pc_drawnDot 25 = .ok (.iload 4, 2) := by decide +kernel
theorem d_Pc_drawnDot_27 : decode b_Pc_drawnDot 27 = .ok (.ifCond .eq 9, 3) := by decide +kernel
theorem d_Pc_drawnDot_30 : decode b_Pc_drawnDot 30 = .ok (.aload_n 0, 1) := by decide +kernel
theorem d_Pc_drawnDot_31 : decode b_Pc_drawnDot 31 = .ok (.iconst 1, 1) := by decide +kernel
theorem d_Pc_drawnDot_32 : decode b_Pc_drawnDot 32 = .ok (.iload_n 2, 1) := by decide +kernel
theorem d_Pc_drawnDot_33 : decode b_Pc_drawnDot 33 = .ok (.invokevirtual 46, 3) := by decide +kernel
theorem d_Pc_drawnDot_36 : decode b_Pc_drawnDot 36 = .ok (.iload_n 3, 1) := by decide +kernel
theorem d_Pc_drawnDot_37 : decode b_Pc_drawnDot 37 = .ok (.ifCond .eq 13, 3) := by decide +kernel
theorem d_Pc_drawnDot_40 : decode b_Pc_drawnDot 40 = .ok (.iload 4, 2) := by decide +kernel
theorem d_Pc_drawnDot_42 : decode b_Pc_drawnDot 42 = .ok (.ifCond .eq 8, 3) := by decide +kernel
theorem d_Pc_drawnDot_45 : decode b_Pc_drawnDot 45 = .ok (.aload_n 0, 1) := by decide +kernel
theorem d_Pc_drawnDot_46 : decode b_Pc_drawnDot 46 = .ok (.iconst 1, 1) := by decide +kernel
theorem d_Pc_drawnDot_47 : decode b_Pc_drawnDot 47 = .ok (.putfield 29, 3) := by decide +kernel
theorem d_Pc_drawnDot_50 : decode b_Pc_drawnDot 50 = .ok (.aload_n 0, 1) := by decide +kernel
theorem d_Pc_drawnDot_51 : decode b_Pc_drawnDot 51 = .ok (.getfield 22, 3) := by decide +kernel
theorem d_Pc_drawnDot_54 : decode b_Pc_drawnDot 54 = .ok (.bipush 17, 2) := by decide +kernel
theorem d_Pc_drawnDot_56 : decode b_Pc_drawnDot 56 = .ok (.iaload, 1) := by decide +kernel
theorem d_Pc_drawnDot_57 : decode b_Pc_drawnDot 57 = .ok (.iconst 1, 1) := by decide +kernel
theorem d_Pc_drawnDot_58 : decode b_Pc_drawnDot 58 = .ok (.iand, 1) := by decide +kernel
theorem d_Pc_drawnDot_59 : decode b_Pc_drawnDot 59 = .ok (.ifCond .eq 11, 3) := by decide +kernel
theorem d_Pc_drawnDot_62 : decode b_Pc_drawnDot 62 = .ok (.iload_n 2, 1) := by decide +kernel
theorem d_Pc_drawnDot_63 : decode b_Pc_drawnDot 63 = .ok (.ifCond .eq 7, 3) := by decide +kernel
theorem d_Pc_drawnDot_66 : decode b_Pc_drawnDot 66 = .ok (.iconst 1, 1) := by decide +kernel
theorem d_Pc_drawnDot_67 : decode b_Pc_drawnDot 67 = .ok (.goto 4, 3) := by decide +kernel
theorem d_Pc_drawnDot_70 : decode b_Pc_drawnDot 70 = .ok (.iconst 0, 1) := by decide +kernel
theorem d_Pc_drawnDot_71 : decode b_Pc_drawnDot 71 = .ok (.istore 5, 2) := by decide +kernel
theorem d_Pc_drawnDot_73 : decode b_Pc_drawnDot 73 = .ok (.iload 5, 2) := by decide +kernel
theorem d_Pc_drawnDot_75 : decode b_Pc_drawnDot 75 = .ok (.ifCond .ne 12, 3) := by decide +kernel
theorem d_Pc_drawnDot_78 : decode b_Pc_drawnDot 78 = .ok (.iload_n 3, 1) := by decide +kernel
theorem d_Pc_drawnDot_79 : decode b_Pc_drawnDot 79 = .ok (.ifCond .ne 18, 3) := by decide +kernel
theorem d_Pc_drawnDot_82 : decode b_Pc_drawnDot 82 = .ok (.iload 4, 2) := by decide +kernel
theorem d_Pc_drawnDot_84 : decode b_Pc_drawnDot 84 = .ok (.ifCond .ne 13, 3) := by decide +kernel
theorem d_Pc_drawnDot_87 : decode b_Pc_drawnDot 87 = .ok (.aload_n 0, 1) := by decide +kernel
theorem d_Pc_drawnDot_88 : decode b_Pc_drawnDot 88 = .ok (.getfield 22, 3) := by decide +kernel
theorem d_Pc_drawnDot_91 : decode b_Pc_drawnDot 91 = .ok (.bipush 8, 2) := by decide +kernel
theorem d_Pc_drawnDot_93 : decode b_Pc_drawnDot 93 = .ok (.iload_n 2, 1) := by decide +kernel
theorem d_Pc_drawnDot_94 : decode b_Pc_drawnDot 94 = .ok (.iadd, 1) := by decide +kernel
theorem d_Pc_drawnDot_95 : decode b_Pc_drawnDot 95 = .ok (.iaload, 1) := by decide +kernel
theorem d_Pc_drawnDot_96 : decode b_Pc_drawnDot 96 = .ok (.ireturn, 1) := by decide +kernel
theorem d_Pc_drawnDot_97 : decode b_Pc_drawnDot 97 = .ok (.aload_n 0, 1) := by decide +kernel
theorem d_Pc_drawnDot_98 : decode b_Pc_drawnDot 98 = .ok (.getfield 22, 3) := by decide +kernel
theorem d_Pc_drawnDot_101 : decode b_Pc_drawnDot 101 = .ok (.iload_n 3, 1) := by decide +kernel
theorem d_Pc_drawnDot_102 : decode b_Pc_drawnDot 102 = .ok (.ifCond .eq 8, 3) := by decide +kernel
theorem d_Pc_drawnDot_105 : decode b_Pc_drawnDot 105 = .ok (.bipush 12, 2) := by decide +kernel
theorem d_Pc_drawnDot_107 : decode b_Pc_drawnDot 107 = .ok (.goto 5, 3) := by decide +kernel
theorem d_Pc_drawnDot_110 : decode b_Pc_drawnDot 110 = .ok (.bipush 13, 2) := by decide +kernel
theorem d_Pc_drawnDot_112 : decode b_Pc_drawnDot 112 = .ok (.iaload, 1) := by decide +kernel
theorem d_Pc_drawnDot_113 : decode b_Pc_drawnDot 113 = .ok (.ireturn, 1) := by decide +kernel
theorem d_Pc_collide_0 : decode b_Pc_collide 0 = .ok (.iload_n 2, 1) := by decide +kernel
theorem d_Pc_collide_1 : decode b_Pc_collide 1 = .ok (.ifCond .eq 15, 3) := by decide +kernel
theorem d_Pc_collide_4 : decode b_Pc_collide 4 = .ok (.aload_n 0, 1) := by decide +kernel
theorem d_Pc_collide_5 : decode b_Pc_collide 5 = .ok (.getfield 15, 3) := by decide +kernel
theorem d_Pc_collide_8 : decode b_Pc_collide 8 = .ok (.iload_n 1, 1) := by decide +kernel
theorem d_Pc_collide_9 : decode b_Pc_collide 9 = .ok (.dup2, 1) := by decide +kernel
theorem d_Pc_collide_10 : decode b_Pc_collide 10 = .ok (.iaload, 1) := by decide +kernel
theorem d_Pc_collide_11 : decode b_Pc_collide 11 = .ok (.iconst 1, 1) := by decide +kernel
theorem d_Pc_collide_12 : decode b_Pc_collide 12 = .ok (.iload_n 2, 1) := by decide +kernel
theorem d_Pc_collide_13 : decode b_Pc_collide 13 = .ok (.ishl, 1) := by decide +kernel
theorem d_Pc_collide_14 : decode b_Pc_collide 14 = .ok (.ior, 1) := by decide +kernel
theorem d_Pc_collide_15 : decode b_Pc_collide 15 = .ok (.iastore, 1) := by decide +kernel
theorem d_Pc_collide_16 : decode b_Pc_collide 16 = .ok (.return_, 1) := by decide +kernel
theorem d_Pc_covers_0 : decode b_Pc_covers 0 = .ok (.aload_n 0, 1) := by decide +kernel
theorem d_Pc_covers_1 : decode b_Pc_covers 1 = .ok (.getfield 22, 3) := by decide +kernel
theorem d_Pc_covers_4 : decode b_Pc_covers 4 = .ok (.bipush 19, 2) := by decide +kernel
theorem d_Pc_covers_6 : decode b_Pc_covers 6 = .ok (.iload_n 1, 1) := by decide +kernel
theorem d_Pc_covers_7 : decode b_Pc_covers 7 = .ok (.iadd, 1) := by decide +kernel
theorem d_Pc_covers_8 : decode b_Pc_covers 8 = .ok (.iaload, 1) := by decide +kernel
theorem d_Pc_covers_9 : decode b_Pc_covers 9 = .ok (.istore_n 3, 1) := by decide +kernel
theorem d_Pc_covers_10 : decode b_Pc_covers 10 = .ok (.iload_n 2, 1) := by decide +kernel
theorem d_Pc_covers_11 : decode b_Pc_covers 11 = .ok (.aload_n 0, 1) := by decide +kernel
theorem d_Pc_covers_12 : decode b_Pc_covers 12 = .ok (.getfield 22, 3) := by decide +kernel
theorem d_Pc_covers_15 : decode b_Pc_covers 15 = .ok (.bipush 14, 2) := by decide +kernel
theorem d_Pc_covers_17 : decode b_Pc_covers 17 = .ok (.iload_n 1, 1) := by decide +kernel
theorem d_Pc_covers_18 : decode b_Pc_covers 18 = .ok (.iadd, 1) := by decide +kernel
theorem d_Pc_covers_19 : decode b_Pc_covers 19 = .ok (.iaload, 1) := by decide +kernel
theorem d_Pc_covers_20 : decode b_Pc_covers 20 = .ok (.isub, 1) := by decide +kernel
theorem d_Pc_covers_21 : decode b_Pc_covers 21 = .ok (.istore 4, 2) := by decide +kernel
theorem d_Pc_covers_23 : decode b_Pc_covers 23 = .ok (.iload_n 3, 1) := by decide +kernel
theorem d_Pc_covers_24 : decode b_Pc_covers 24 = .ok (.ifCond .eq 8, 3) := by decide +kernel
theorem d_Pc_covers_27 : decode b_Pc_covers 27 = .ok (.iload 4, 2) := by decide +kernel
theorem d_Pc_covers_29 : decode b_Pc_covers 29 = .ok (.ifCond .ge 5, 3) := by decide +kernel
theorem d_Pc_covers_32 : decode b_Pc_covers 32 = .ok (.iconst 0, 1) := by decide +kernel
theorem d_Pc_covers_33 : decode b_Pc_covers 33 = .ok (.ireturn, 1) := by decide +kernel
theorem d_Pc_covers_34 : decode b_Pc_covers 34 = .ok (.aload_n 0, 1) := by decide +kernel
theorem d_Pc_covers_35 : decode b_Pc_covers 35 = .ok (.getfield 22, 3) := by decide +kernel
theorem d_Pc_covers_38 : decode b_Pc_covers 38 = .ok (.bipush 16, 2) := by decide +kernel
theorem d_Pc_covers_40 : decode b_Pc_covers 40 = .ok (.iaload, 1) := by decide +kernel
theorem d_Pc_covers_41 : decode b_Pc_covers 41 = .ok (.iload_n 1, 1) := by decide +kernel
theorem d_Pc_covers_42 : decode b_Pc_covers 42 = .ok (.ishr, 1) := by decide +kernel
theorem d_Pc_covers_43 : decode b_Pc_covers 43 = .ok (.iconst 1, 1) := by decide +kernel
theorem d_Pc_covers_44 : decode b_Pc_covers 44 = .ok (.iand, 1) := by decide +kernel
theorem d_Pc_covers_45 : decode b_Pc_covers 45 = .ok (.ifCond .eq 10, 3) := by decide +kernel
theorem d_Pc_covers_48 : decode b_Pc_covers 48 = .ok (.iload 4, 2) := by decide +kernel
theorem d_Pc_covers_50 : decode b_Pc_covers 50 = .ok (.iconst 2, 1) := by decide +kernel
theorem d_Pc_covers_51 : decode b_Pc_covers 51 = .ok (.idiv, 1) := by decide +kernel
theorem d_Pc_covers_52 : decode b_Pc_covers 52 = .ok (.goto 5, 3) := by decide +kernel
theorem d_Pc_covers_55 : decode b_Pc_covers 55 = .ok (.iload 4, 2) := by decide +kernel
theorem d_Pc_covers_57 : decode b_Pc_covers 57 = .ok (.istore 5, 2) := by decide +kernel
theorem d_Pc_covers_59 : decode b_Pc_covers 59 = .ok (.iload 5, 2) := by decide +kernel
theorem d_Pc_covers_61 : decode b_Pc_covers 61 = .ok (.bipush 8, 2) := by decide +kernel
theorem d_Pc_covers_63 : decode b_Pc_covers 63 = .ok (.if_icmp .ge 19, 3) := by decide +kernel
theorem d_Pc_covers_66 : decode b_Pc_covers 66 = .ok (.iload_n 3, 1) := by decide +kernel
theorem d_Pc_covers_67 : decode b_Pc_covers 67 = .ok (.bipush 7, 2) := by decide +kernel
theorem d_Pc_covers_69 : decode b_Pc_covers 69 = .ok (.iload 5, 2) := by decide +kernel
theorem d_Pc_covers_71 : decode b_Pc_covers 71 = .ok (.isub, 1) := by decide +kernel
theorem d_Pc_covers_72 : decode b_Pc_covers 72 = .ok (.ishr, 1) := by decide +kernel
theorem d_Pc_covers_73 : decode b_Pc_covers 73 = .ok (.iconst 1, 1) := by decide +kernel
theorem d_Pc_covers_74 : decode b_Pc_covers 74 = .ok (.iand, 1) := by decide +kernel
theorem d_Pc_covers_75 : decode b_Pc_covers 75 = .ok (.ifCond .eq 7, 3) := by decide +kernel
theorem d_Pc_covers_78 : decode b_Pc_covers 78 = .ok (.iconst 1, 1) := by decide +kernel
theorem d_Pc_covers_79 : decode b_Pc_covers 79 = .ok (.goto 4, 3) := by decide +kernel
theorem d_Pc_covers_82 : decode b_Pc_covers 82 = .ok (.iconst 0, 1) := by decide +kernel
theorem d_Pc_covers_83 : decode b_Pc_covers 83 = .ok (.ireturn, 1) := by decide +kernel
theorem d_Dr_init_0 : decode b_Dr_init 0 = .ok (.aload_n 0, 1) := by decide +kernel
theorem d_Dr_init_1 : decode b_Dr_init 1 = .ok (.invokespecial 3, 3) := by decide +kernel
theorem d_Dr_init_4 : decode b_Dr_init 4 = .ok (.aload_n 0, 1) := by decide +kernel
theorem d_Dr_init_5 : decode b_Dr_init 5 = .ok (.bipush 64, 2) := by decide +kernel
theorem d_Dr_init_7 : decode b_Dr_init 7 = .ok (.newarray .int, 2) := by decide +kernel
theorem d_Dr_init_9 : decode b_Dr_init 9 = .ok (.putfield 9, 3) := by decide +kernel
theorem d_Dr_init_12 : decode b_Dr_init 12 = .ok (.aload_n 0, 1) := by decide +kernel
theorem d_Dr_init_13 : decode b_Dr_init 13 = .ok (.bipush 9, 2) := by decide +kernel
theorem d_Dr_init_15 : decode b_Dr_init 15 = .ok (.newarray .int, 2) := by decide +kernel
theorem d_Dr_init_17 : decode b_Dr_init 17 = .ok (.putfield 15, 3) := by decide +kernel
theorem d_Dr_init_20 : decode b_Dr_init 20 = .ok (.aload_n 0, 1) := by decide +kernel
theorem d_Dr_init_21 : decode b_Dr_init 21 = .ok (.bipush 40, 2) := by decide +kernel
theorem d_Dr_init_23 : decode b_Dr_init 23 = .ok (.newarray .int, 2) := by decide +kernel
theorem d_Dr_init_25 : decode b_Dr_init 25 = .ok (.putfield 18, 3) := by decide +kernel
theorem d_Dr_init_28 : decode b_Dr_init 28 = .ok (.aload_n 0, 1) := by decide +kernel
theorem d_Dr_init_29 : decode b_Dr_init 29 = .ok (.iconst 1, 1) := by decide +kernel
theorem d_Dr_init_30 : decode b_Dr_init 30 = .ok (.putfield 21, 3) := by decide +kernel
theorem d_Dr_init_33 : decode b_Dr_init 33 = .ok (.return_, 1) := by decide +kernel
theorem d_Dr_byteOf_0 : decode b_Dr_byteOf 0 = .ok (.aload_n 0, 1) := by decide +kernel
theorem d_Dr_byteOf_1 : decode b_Dr_byteOf 1 = .ok (.getfield 9, 3) := by decide +kernel
theorem d_Dr_byteOf_4 : decode b_Dr_byteOf 4 = .ok (.iload_n 1, 1) := by decide +kernel
theorem d_Dr_byteOf_5 : decode b_Dr_byteOf 5 = .ok (.invokestatic 25, 3) := by decide +kernel
theorem d_Dr_byteOf_8 : decode b_Dr_byteOf 8 = .ok (.iload_n 2, 1) := by decide +kernel
theorem d_Dr_byteOf_9 : decode b_Dr_byteOf 9 = .ok (.iadd, 1) := by decide +kernel
theorem d_Dr_byteOf_10 : decode b_Dr_byteOf 10 = .ok (.iaload, 1) := by decide +kernel
theorem d_Dr_byteOf_11 : decode b_Dr_byteOf 11 = .ok (.ireturn, 1) := by decide +kernel
theorem d_Dr_putByte_0 : decode b_Dr_putByte 0 = .ok (.aload_n 0, 1) := by decide +kernel
theorem d_Dr_putByte_1 : decode b_Dr_putByte 1 = .ok (.getfield 9, 3) := by decide +kernel
theorem d_Dr_putByte_4 : decode b_Dr_putByte 4 = .ok (.iload_n 1, 1) := by decide +kernel
theorem d_Dr_putByte_5 : decode b_Dr_putByte 5 = .ok (.invokestatic 25, 3) := by decide +kernel
theorem d_Dr_putByte_8 : decode b_Dr_putByte 8 = .ok (.iload_n 2, 1) := by decide +kernel
theorem d_Dr_putByte_9 : decode b_Dr_putByte 9 = .ok (.iadd, 1) := by decide +kernel
theorem d_Dr_putByte_10 : decode b_Dr_putByte 10 = .ok (.iload_n 3, 1) := by decide +kernel
theorem d_Dr_putByte_11 : decode b_Dr_putByte 11 = .ok (.iastore, 1) := by decide +kernel
theorem d_Dr_putByte_12 : decode b_Dr_putByte 12 = .ok (.return_, 1) := by decide +kernel
theorem d_Dr_gather_0 : decode b_Dr_gather 0 = .ok (.aload_n 0, 1) := by decide +kernel
theorem d_Dr_gather_1 : decode b_Dr_gather 1 = .ok (.getfield 15, 3) := by decide +kernel
theorem d_Dr_gather_4 : decode b_Dr_gather 4 = .ok (.aload_n 0, 1) := by decide +kernel
theorem d_Dr_gather_5 : decode b_Dr_gather 5 = .ok (.getfield 29, 3) := by decide +kernel
theorem d_Dr_gather_8 : decode b_Dr_gather 8 = .ok (.iload_n 1, 1) := by decide +kernel
theorem d_Dr_gather_9 : decode b_Dr_gather 9 = .ok (.iastore, 1) := by decide +kernel
theorem d_Dr_gather_10 : decode b_Dr_gather 10 = .ok (.aload_n 0, 1) := by decide +kernel
theorem d_Dr_gather_11 : decode b_Dr_gather 11 = .ok (.dup, 1) := by decide +kernel
theorem d_Dr_gather_12 : decode b_Dr_gather 12 = .ok (.getfield 29, 3) := by decide +kernel
theorem d_Dr_gather_15 : decode b_Dr_gather 15 = .ok (.iconst 1, 1) := by decide +kernel
theorem d_Dr_gather_16 : decode b_Dr_gather 16 = .ok (.iadd, 1) := by decide +kernel
theorem d_Dr_gather_17 : decode b_Dr_gather 17 = .ok (.putfield 29, 3) := by decide +kernel
theorem d_Dr_gather_20 : decode b_Dr_gather 20 = .ok (.aload_n 0, 1) := by decide +kernel
theorem d_Dr_gather_21 : decode b_Dr_gather 21 = .ok (.getfield 32, 3) := by decide +kernel
theorem d_Dr_gather_24 : decode b_Dr_gather 24 = .ok (.ifCond .eq 8, 3) := by decide +kernel
theorem d_Dr_gather_27 : decode b_Dr_gather 27 = .ok (.bipush 9, 2) := by decide +kernel
theorem d_Dr_gather_29 : decode b_Dr_gather 29 = .ok (.goto 4, 3) := by decide +kernel
theorem d_Dr_gather_32 : decode b_Dr_gather 32 = .ok (.iconst 4, 1) := by decide +kernel
theorem d_Dr_gather_33 : decode b_Dr_gather 33 = .ok (.istore_n 2, 1) := by decide +kernel
theorem d_Dr_gather_34 : decode b_Dr_gather 34 = .ok (.aload_n 0, 1) := by decide +kernel
theorem d_Dr_gather_35 : decode b_Dr_gather 35 = .ok (.getfield 29, 3) := by decide +kernel
theorem d_Dr_gather_38 : decode b_Dr_gather 38 = .ok (.iload_n 2, 1) := by decide +kernel
theorem d_Dr_gather_39 : decode b_Dr_gather 39 = .ok (.if_icmp .ge 4, 3) := by decide +kernel
theorem d_Dr_gather_42 : decode b_Dr_gather 42 = .ok (.return_, 1) := by decide +kernel
theorem d_Dr_gather_43 : decode b_Dr_gather 43 = .ok (.aload_n 0, 1) := by decide +kernel
theorem d_Dr_gather_44 : decode b_Dr_gather 44 = .ok (.iconst 0, 1) := by decide +kernel
theorem d_Dr_gather_45 : decode b_Dr_gather 45 = .ok (.putfield 29, 3) := by decide +kernel
theorem d_Dr_gather_48 : decode b_Dr_gather 48 = .ok (.aload_n 0, 1) := by decide +kernel
theorem d_Dr_gather_49 : decode b_Dr_gather 49 = .ok (.getfield 32, 3) := by decide +kernel
theorem d_Dr_gather_52 : decode b_Dr_gather 52 = .ok (.ifCond .eq 10, 3) := by decide +kernel
theorem d_Dr_gather_55 : decode b_Dr_gather 55 = .ok (.aload_n 0, 1) := by decide +kernel
theorem d_Dr_gather_56 : decode b_Dr_gather 56 = .ok (.invokevirtual 36, 3) := by decide +kernel
theorem d_Dr_gather_59 : decode b_Dr_gather 59 = .ok (.goto 7, 3) := by decide +kernel
theorem d_Dr_gather_62 : decode b_Dr_gather 62 = .ok (.aload_n 0, 1) := by decide +kernel
theorem d_Dr_gather_63 : decode b_Dr_gather 63 = .ok (.invokevirtual 39, 3) := by decide +kernel
theorem d_Dr_gather_66 : decode b_Dr_gather 66 = .ok (.return_, 1) := by decide +kernel
theorem d_Dr_sendAnswer_0 : decode b_Dr_sendAnswer 0 = .ok (.aload_n 0, 1) := by decide +kernel
theorem d_Dr_sendAnswer_1 : decode b_Dr_sendAnswer 1 = .ok (.getfield 42, 3) := by decide +kernel
theorem d_Dr_sendAnswer_4 : decode b_Dr_sendAnswer 4 = .ok (.ifCond .ne 10, 3) := by decide +kernel
theorem d_Dr_sendAnswer_7 : decode b_Dr_sendAnswer 7 = .ok (.aload_n 0, 1) := by decide +kernel
theorem d_Dr_sendAnswer_8 : decode b_Dr_sendAnswer 8 = .ok (.getfield 45, 3) := by decide +kernel
theorem d_Dr_sendAnswer_11 : decode b_Dr_sendAnswer 11 = .ok (.ifCond .ne 4, 3) := by decide +kernel
theorem d_Dr_sendAnswer_14 : decode b_Dr_sendAnswer 14 = .ok (.return_, 1) := by decide +kernel
theorem d_Dr_sendAnswer_15 : decode b_Dr_sendAnswer 15 = .ok (.aload_n 0, 1) := by decide +kernel
theorem d_Dr_sendAnswer_16 : decode b_Dr_sendAnswer 16 = .ok (.aload_n 0, 1) := by decide +kernel
theorem d_Dr_sendAnswer_17 : decode b_Dr_sendAnswer 17 = .ok (.getfield 18, 3) := by decide +kernel
theorem d_Dr_sendAnswer_20 : decode b_Dr_sendAnswer 20 = .ok (.aload_n 0, 1) := by decide +kernel
theorem d_Dr_sendAnswer_21 : decode b_Dr_sendAnswer 21 = .ok (.getfield 48, 3) := by decide +kernel
theorem d_Dr_sendAnswer_24 : decode b_Dr_sendAnswer 24 = .ok (.iaload, 1) := by decide +kernel
theorem d_Dr_sendAnswer_25 : decode b_Dr_sendAnswer 25 = .ok (.putfield 51, 3) := by decide +kernel
theorem d_Dr_sendAnswer_28 : decode b_Dr_sendAnswer 28 = .ok (.aload_n 0, 1) := by decide +kernel
theorem d_Dr_sendAnswer_29 : decode b_Dr_sendAnswer 29 = .ok (.aload_n 0, 1) := by decide +kernel
theorem d_Dr_sendAnswer_30 : decode b_Dr_sendAnswer 30 = .ok (.getfield 48, 3) := by decide +kernel
theorem d_Dr_sendAnswer_33 : decode b_Dr_sendAnswer 33 = .ok (.iconst 1, 1) := by decide +kernel
theorem d_Dr_sendAnswer_34 : decode b_Dr_sendAnswer 34 = .ok (.iadd, 1) := by decide +kernel
theorem d_Dr_sendAnswer_35 : decode b_Dr_sendAnswer 35 = .ok (.bipush 40, 2) := by decide +kernel
theorem d_Dr_sendAnswer_37 : decode b_Dr_sendAnswer 37 = .ok (.irem, 1) := by decide +kernel
theorem d_Dr_sendAnswer_38 : decode b_Dr_sendAnswer 38 = .ok (.putfield 48, 3) := by decide +kernel
theorem d_Dr_sendAnswer_41 : decode b_Dr_sendAnswer 41 = .ok (.aload_n 0, 1) := by decide +kernel
theorem d_Dr_sendAnswer_42 : decode b_Dr_sendAnswer 42 = .ok (.dup, 1) := by decide +kernel
theorem d_Dr_sendAnswer_43 : decode b_Dr_sendAnswer 43 = .ok (.getfield 45, 3) := by decide +kernel
theorem d_Dr_sendAnswer_46 : decode b_Dr_sendAnswer 46 = .ok (.iconst 1, 1) := by decide +kernel
theorem d_Dr_sendAnswer_47 : decode b_Dr_sendAnswer 47 = .ok (.isub, 1) := by decide +kernel
theorem d_Dr_sendAnswer_48 : decode b_Dr_sendAnswer 48 = .ok (.putfield 45, 3) := by decide +kernel
theorem d_Dr_sendAnswer_51 : decode b_Dr_sendAnswer 51 = .ok (.aload_n 0, 1) := by decide +kernel
theorem d_Dr_sendAnswer_52 : decode b_Dr_sendAnswer 52 = .ok (.iconst 1, 1) := by decide +kernel
theorem d_Dr_sendAnswer_53 : decode b_Dr_sendAnswer 53 = .ok (.putfield 42, 3) := by decide +kernel
theorem d_Dr_sendAnswer_56 : decode b_Dr_sendAnswer 56 = .ok (.return_, 1) := by decide +kernel
theorem d_Dr_takeByte_0 : decode b_Dr_takeByte 0 = .ok (.aload_n 0, 1) := by decide +kernel
theorem d_Dr_takeByte_1 : decode b_Dr_takeByte 1 = .ok (.getfield 42, 3) := by decide +kernel
theorem d_Dr_takeByte_4 : decode b_Dr_takeByte 4 = .ok (.ifCond .eq 10, 3) := by decide +kernel
theorem d_Dr_takeByte_7 : decode b_Dr_takeByte 7 = .ok (.aload_n 0, 1) := by decide +kernel
theorem d_Dr_takeByte_8 : decode b_Dr_takeByte 8 = .ok (.getfield 51, 3) := by decide +kernel
theorem d_Dr_takeByte_11 : decode b_Dr_takeByte 11 = .ok (.goto 4, 3) := by decide +kernel
theorem d_Dr_takeByte_14 : decode b_Dr_takeByte 14 = .ok (.iconst 0, 1) := by decide +kernel
theorem d_Dr_takeByte_15 : decode b_Dr_takeByte 15 = .ok (.istore_n 1, 1) := by decide +kernel
theorem d_Dr_takeByte_16 : decode b_Dr_takeByte 16 = .ok (.aload_n 0, 1) := by decide +kernel
theorem d_Dr_takeByte_17 : decode b_Dr_takeByte 17 = .ok (.iconst 0, 1) := by decide +kernel
theorem d_Dr_takeByte_18 : decode b_Dr_takeByte 18 = .ok (.putfield 42, 3) := by decide +kernel
theorem d_Dr_takeByte_21 : decode b_Dr_takeByte 21 = .ok (.iload_n 1, 1) := by decide +kernel
theorem d_Dr_takeByte_22 : decode b_Dr_takeByte 22 = .ok (.ireturn, 1) := by decide +kernel
theorem d_Dr_obeyCommand_0 : decode b_Dr_obeyCommand 0 = .ok (.aload_n 0, 1) := by decide +kernel
theorem d_Dr_obeyCommand_1 : decode b_Dr_obeyCommand 1 = .ok (.getfield 15, 3) := by decide +kernel
theorem d_Dr_obeyCommand_4 : decode b_Dr_obeyCommand 4 = .ok (.iconst 2, 1) := by decide +kernel
theorem d_Dr_obeyCommand_5 : decode b_Dr_obeyCommand 5 = .ok (.iaload, 1) := by decide +kernel
theorem d_Dr_obeyCommand_6 : decode b_Dr_obeyCommand 6 = .ok (.istore_n 1, 1) := by decide +kernel
theorem d_Dr_obeyCommand_7 : decode b_Dr_obeyCommand 7 = .ok (.aload_n 0, 1) := by decide +kernel
theorem d_Dr_obeyCommand_8 : decode b_Dr_obeyCommand 8 = .ok (.getfield 15, 3) := by decide +kernel
theorem d_Dr_obeyCommand_11 : decode b_Dr_obeyCommand 11 = .ok (.iconst 0, 1) := by decide +kernel
theorem d_Dr_obeyCommand_12 : decode b_Dr_obeyCommand 12 = .ok (.iaload, 1) := by decide +kernel
theorem d_Dr_obeyCommand_13 : decode b_Dr_obeyCommand 13 = .ok (.bipush 49, 2) := by decide +kernel
theorem d_Dr_obeyCommand_15 : decode b_Dr_obeyCommand 15 = .ok (.if_icmp .ne 21, 3) := by decide +kernel
theorem d_Dr_obeyCommand_18 : decode b_Dr_obeyCommand 18 = .ok (.aload_n 0, 1) := by decide +kernel
theorem d_Dr_obeyCommand_19 : decode b_Dr_obeyCommand 19 = .ok (.getfield 15, 3) := by decide +kernel
theorem d_Dr_obeyCommand_22 : decode b_Dr_obeyCommand 22 = .ok (.iconst 3, 1) := by decide +kernel
theorem d_Dr_obeyCommand_23 : decode b_Dr_obeyCommand 23 = .ok (.iaload, 1) := by decide +kernel
theorem d_Dr_obeyCommand_24 : decode b_Dr_obeyCommand 24 = .ok (.aload_n 0, 1) := by decide +kernel
theorem d_Dr_obeyCommand_25 : decode b_Dr_obeyCommand 25 = .ok (.getfield 15, 3) := by decide +kernel
theorem d_Dr_obeyCommand_28 : decode b_Dr_obeyCommand 28 = .ok (.iconst 0, 1) := by decide +kernel
theorem d_Dr_obeyCommand_29 : decode b_Dr_obeyCommand 29 = .ok (.iconst 3, 1) := by decide +kernel
theorem d_Dr_obeyCommand_30 : decode b_Dr_obeyCommand 30 = .ok (.invokestatic 54, 3) := by decide +kernel
theorem d_Dr_obeyCommand_33 : decode b_Dr_obeyCommand 33 = .ok (.if_icmp .eq 4, 3) := by decide +kernel
theorem d_Dr_obeyCommand_36 : decode b_Dr_obeyCommand 36 = .ok (.return_, 1) := by decide +kernel
theorem d_Dr_obeyCommand_37 : decode b_Dr_obeyCommand 37 = .ok (.iload_n 1, 1) := by decide +kernel
theorem d_Dr_obeyCommand_38 : decode b_Dr_obeyCommand 38 = .ok (.iconst 0, 1) := by decide +kernel
theorem d_Dr_obeyCommand_39 : decode b_Dr_obeyCommand 39 = .ok (.invokestatic 58, 3) := by decide +kernel
theorem d_Dr_obeyCommand_42 : decode b_Dr_obeyCommand 42 = .ok (.istore_n 2, 1) := by decide +kernel
theorem d_Dr_obeyCommand_43 : decode b_Dr_obeyCommand 43 = .ok (.iload_n 2, 1) := by decide +kernel
theorem d_Dr_obeyCommand_44 : decode b_Dr_obeyCommand 44 = .ok (.ifCond .eq 75, 3) := by decide +kernel
theorem d_Dr_obeyCommand_47 : decode b_Dr_obeyCommand 47 = .ok (.aload_n 0, 1) := by decide +kernel
theorem d_Dr_obeyCommand_48 : decode b_Dr_obeyCommand 48 = .ok (.getfield 15, 3) := by decide +kernel
theorem d_Dr_obeyCommand_51 : decode b_Dr_obeyCommand 51 = .ok (.iconst 1, 1) := by decide +kernel
theorem d_Dr_obeyCommand_52 : decode b_Dr_obeyCommand 52 = .ok (.iaload, 1) := by decide +kernel
theorem d_Dr_obeyCommand_53 : decode b_Dr_obeyCommand 53 = .ok (.bipush 82, 2) := by decide +kernel
theorem d_Dr_obeyCommand_55 : decode b_Dr_obeyCommand 55 = .ok (.if_icmp .ne 64, 3) := by decide +kernel
theorem d_Dr_obeyCommand_58 : decode b_Dr_obeyCommand 58 = .ok (.aload_n 0, 1) := by decide +kernel
theorem d_Dr_obeyCommand_59 : decode b_Dr_obeyCommand 59 = .ok (.bipush 65, 2) := by decide +kernel
theorem d_Dr_obeyCommand_61 : decode b_Dr_obeyCommand 61 = .ok (.invokevirtual 62, 3) := by decide +kernel
theorem d_Dr_obeyCommand_64 : decode b_Dr_obeyCommand 64 = .ok (.aload_n 0, 1) := by decide +kernel
theorem d_Dr_obeyCommand_65 : decode b_Dr_obeyCommand 65 = .ok (.bipush 67, 2) := by decide +kernel
theorem d_Dr_obeyCommand_67 : decode b_Dr_obeyCommand 67 = .ok (.invokevirtual 62, 3) := by decide +kernel
theorem d_Dr_obeyCommand_70 : decode b_Dr_obeyCommand 70 = .ok (.iconst 0, 1) := by decide +kernel
theorem d_Dr_obeyCommand_71 : decode b_Dr_obeyCommand 71 = .ok (.istore_n 3, 1) := by decide +kernel
theorem d_Dr_obeyCommand_72 : decode b_Dr_obeyCommand 72 = .ok (.iload_n 3, 1) := by decide +kernel
theorem d_Dr_obeyCommand_73 : decode b_Dr_obeyCommand 73 = .ok (.bipush 8, 2) := by decide +kernel
theorem d_Dr_obeyCommand_75 : decode b_Dr_obeyCommand 75 = .ok (.if_icmp .ge 24, 3) := by decide +kernel
theorem d_Dr_obeyCommand_78 : decode b_Dr_obeyCommand 78 = .ok (.aload_n 0, 1) := by decide +kernel
theorem d_Dr_obeyCommand_79 : decode b_Dr_obeyCommand 79 = .ok (.aload_n 0, 1) := by decide +kernel
theorem d_Dr_obeyCommand_80 : decode b_Dr_obeyCommand 80 = .ok (.getfield 9, 3) := by decide +kernel
theorem d_Dr_obeyCommand_83 : decode b_Dr_obeyCommand 83 = .ok (.iload_n 1, 1) := by decide +kernel
theorem d_Dr_obeyCommand_84 : decode b_Dr_obeyCommand 84 = .ok (.invokestatic 25, 3) := by decide +kernel
theorem d_Dr_obeyCommand_87 : decode b_Dr_obeyCommand 87 = .ok (.iload_n 3, 1) := by decide +kernel
theorem d_Dr_obeyCommand_88 : decode b_Dr_obeyCommand 88 = .ok (.iadd, 1) := by decide +kernel
theorem d_Dr_obeyCommand_89 : decode b_Dr_obeyCommand 89 = .ok (.iaload, 1) := by decide +kernel
theorem d_Dr_obeyCommand_90 : decode b_Dr_obeyCommand 90 = .ok (.invokevirtual 62, 3) := by decide +kernel
theorem d_Dr_obeyCommand_93 : decode b_Dr_obeyCommand 93 = .ok (.iinc 3 1, 3) := by decide +kernel
theorem d_Dr_obeyCommand_96 : decode b_Dr_obeyCommand 96 = .ok (.goto (-24), 3) := by decide +kernel
theorem d_Dr_obeyCommand_99 : decode b_Dr_obeyCommand 99 = .ok (.aload_n 0, 1) := by decide +kernel
theorem d_Dr_obeyCommand_100 : decode b_Dr_obeyCommand 100 = .ok (.aload_n 0, 1) := by decide +kernel
theorem d_Dr_obeyCommand_101 : decode b_Dr_obeyCommand 101 = .ok (.getfield 9, 3) := by decide +kernel
theorem d_Dr_obeyCommand_104 : decode b_Dr_obeyCommand 104 = .ok (.iload_n 1, 1) := by decide +kernel
theorem d_Dr_obeyCommand_105 : decode b_Dr_obeyCommand 105 = .ok (.invokestatic 25, 3) := by decide +kernel
theorem d_Dr_obeyCommand_108 : decode b_Dr_obeyCommand 108 = .ok (.bipush 8, 2) := by decide +kernel
theorem d_Dr_obeyCommand_110 : decode b_Dr_obeyCommand 110 = .ok (.invokestatic 54, 3) := by decide +kernel
theorem d_Dr_obeyCommand_113 : decode b_Dr_obeyCommand 113 = .ok (.invokevirtual 62, 3) := by decide +kernel
theorem d_Dr_obeyCommand_116 : decode b_Dr_obeyCommand 116 = .ok (.goto 43, 3) := by decide +kernel
theorem d_Dr_obeyCommand_119 : decode b_Dr_obeyCommand 119 = .ok (.iload_n 2, 1) := by decide +kernel
theorem d_Dr_obeyCommand_120 : decode b_Dr_obeyCommand 120 = .ok (.ifCond .eq 33, 3) := by decide +kernel
theorem d_Dr_obeyCommand_123 : decode b_Dr_obeyCommand 123 = .ok (.aload_n 0, 1) := by decide +kernel
theorem d_Dr_obeyCommand_124 : decode b_Dr_obeyCommand 124 = .ok (.getfield 15, 3) := by decide +kernel
theorem d_Dr_obeyCommand_127 : decode b_Dr_obeyCommand 127 = .ok (.iconst 1, 1) := by decide +kernel
theorem d_Dr_obeyCommand_128 : decode b_Dr_obeyCommand 128 = .ok (.iaload, 1) := by decide +kernel
theorem d_Dr_obeyCommand_129 : decode b_Dr_obeyCommand 129 = .ok (.bipush 87, 2) := by decide +kernel
theorem d_Dr_obeyCommand_131 : decode b_Dr_obeyCommand 131 = .ok (.if_icmp .ne 22, 3) := by decide +kernel
theorem d_Dr_obeyCommand_134 : decode b_Dr_obeyCommand 134 = .ok (.aload_n 0, 1) := by decide +kernel
theorem d_Dr_obeyCommand_135 : decode b_Dr_obeyCommand 135 = .ok (.bipush 65, 2) := by decide +kernel
theorem d_Dr_obeyCommand_137 : decode b_Dr_obeyCommand 137 = .ok (.invokevirtual 62, 3) := by decide +kernel
theorem d_Dr_obeyCommand_140 : decode b_Dr_obeyCommand 140 = .ok (.aload_n 0, 1) := by decide +kernel
theorem d_Dr_obeyCommand_141 : decode b_Dr_obeyCommand 141 = .ok (.iconst 1, 1) := by decide +kernel
theorem d_Dr_obeyCommand_142 : decode b_Dr_obeyCommand 142 = .ok (.putfield 32, 3) := by decide +kernel
theorem d_Dr_obeyCommand_145 : decode b_Dr_obeyCommand 145 = .ok (.aload_n 0, 1) := by decide +kernel
theorem d_Dr_obeyCommand_146 : decode b_Dr_obeyCommand 146 = .ok (.iload_n 1, 1) := by decide +kernel
theorem d_Dr_obeyCommand_147 : decode b_Dr_obeyCommand 147 = .ok (.putfield 21, 3) := by decide +kernel
theorem d_Dr_obeyCommand_150 : decode b_Dr_obeyCommand 150 = .ok (.goto 9, 3) := by decide +kernel
theorem d_Dr_obeyCommand_153 : decode b_Dr_obeyCommand 153 = .ok (.aload_n 0, 1) := by decide +kernel
theorem d_Dr_obeyCommand_154 : decode b_Dr_obeyCommand 154 = .ok (.bipush 78, 2) := by decide +kernel
theorem d_Dr_obeyCommand_156 : decode b_Dr_obeyCommand 156 = .ok (.invokevirtual 62, 3) := by decide +kernel
theorem d_Dr_obeyCommand_159 : decode b_Dr_obeyCommand 159 = .ok (.return_, 1) := by decide +kernel
theorem d_Dr_storeSector_0 : decode b_Dr_storeSector 0 = .ok (.aload_n 0, 1) := by decide +kernel
theorem d_Dr_storeSector_1 : decode b_Dr_storeSector 1 = .ok (.iconst 0, 1) := by decide +kernel
theorem d_Dr_storeSector_2 : decode b_Dr_storeSector 2 = .ok (.putfield 32, 3) := by decide +kernel
theorem d_Dr_storeSector_5 : decode b_Dr_storeSector 5 = .ok (.aload_n 0, 1) := by decide +kernel
theorem d_Dr_storeSector_6 : decode b_Dr_storeSector 6 = .ok (.getfield 15, 3) := by decide +kernel
theorem d_Dr_storeSector_9 : decode b_Dr_storeSector 9 = .ok (.bipush 8, 2) := by decide +kernel
theorem d_Dr_storeSector_11 : decode b_Dr_storeSector 11 = .ok (.iaload, 1) := by decide +kernel
theorem d_Dr_storeSector_12 : decode b_Dr_storeSector 12 = .ok (.aload_n 0, 1) := by decide +kernel
theorem d_Dr_storeSector_13 : decode b_Dr_storeSector 13 = .ok (.getfield 15, 3) := by decide +kernel
theorem d_Dr_storeSector_16 : decode b_Dr_storeSector 16 = .ok (.iconst 0, 1) := by decide +kernel
theorem d_Dr_storeSector_17 : decode b_Dr_storeSector 17 = .ok (.bipush 8, 2) := by decide +kernel
theorem d_Dr_storeSector_19 : decode b_Dr_storeSector 19 = .ok (.invokestatic 54, 3) := by decide +kernel
theorem d_Dr_storeSector_22 : decode b_Dr_storeSector 22 = .ok (.if_icmp .eq 10, 3) := by decide +kernel
theorem d_Dr_storeSector_25 : decode b_Dr_storeSector 25 = .ok (.aload_n 0, 1) := by decide +kernel
theorem d_Dr_storeSector_26 : decode b_Dr_storeSector 26 = .ok (.bipush 78, 2) := by decide +kernel
theorem d_Dr_storeSector_28 : decode b_Dr_storeSector 28 = .ok (.invokevirtual 62, 3) := by decide +kernel
theorem d_Dr_storeSector_31 : decode b_Dr_storeSector 31 = .ok (.return_, 1) := by decide +kernel
theorem d_Dr_storeSector_32 : decode b_Dr_storeSector 32 = .ok (.aload_n 0, 1) := by decide +kernel
theorem d_Dr_storeSector_33 : decode b_Dr_storeSector 33 = .ok (.getfield 15, 3) := by decide +kernel
theorem d_Dr_storeSector_36 : decode b_Dr_storeSector 36 = .ok (.iconst 0, 1) := by decide +kernel
theorem d_Dr_storeSector_37 : decode b_Dr_storeSector 37 = .ok (.aload_n 0, 1) := by decide +kernel
theorem d_Dr_storeSector_38 : decode b_Dr_storeSector 38 = .ok (.getfield 9, 3) := by decide +kernel
theorem d_Dr_storeSector_41 : decode b_Dr_storeSector 41 = .ok (.aload_n 0, 1) := by decide +kernel
theorem d_Dr_storeSector_42 : decode b_Dr_storeSector 42 = .ok (.getfield 21, 3) := by decide +kernel
theorem d_Dr_storeSector_45 : decode b_Dr_storeSector 45 = .ok (.invokestatic 25, 3) := by decide +kernel
theorem d_Dr_storeSector_48 : decode b_Dr_storeSector 48 = .ok (.bipush 8, 2) := by decide +kernel
theorem d_Dr_storeSector_50 : decode b_Dr_storeSector 50 = .ok (.invokestatic 66, 3) := by decide +kernel
theorem d_Dr_storeSector_53 : decode b_Dr_storeSector 53 = .ok (.aload_n 0, 1) := by decide +kernel
theorem d_Dr_storeSector_54 : decode b_Dr_storeSector 54 = .ok (.bipush 65, 2) := by decide +kernel
theorem d_Dr_storeSector_56 : decode b_Dr_storeSector 56 = .ok (.invokevirtual 62, 3) := by decide +kernel
theorem d_Dr_storeSector_59 : decode b_Dr_storeSector 59 = .ok (.aload_n 0, 1) := by decide +kernel
theorem d_Dr_storeSector_60 : decode b_Dr_storeSector 60 = .ok (.bipush 67, 2) := by decide +kernel
theorem d_Dr_storeSector_62 : decode b_Dr_storeSector 62 = .ok (.invokevirtual 62, 3) := by decide +kernel
theorem d_Dr_storeSector_65 : decode b_Dr_storeSector 65 = .ok (.return_, 1) := by decide +kernel
theorem d_Dr_answer_0 : decode b_Dr_answer 0 = .ok (.aload_n 0, 1) := by decide +kernel
theorem d_Dr_answer_1 : decode b_Dr_answer 1 = .ok (.getfield 45, 3) := by decide +kernel
theorem d_Dr_answer_4 : decode b_Dr_answer 4 = .ok (.bipush 40, 2) := by decide +kernel
theorem d_Dr_answer_6 : decode b_Dr_answer 6 = .ok (.if_icmp .ge 31, 3) := by decide +kernel
theorem d_Dr_answer_9 : decode b_Dr_answer 9 = .ok (.aload_n 0, 1) := by decide +kernel
theorem d_Dr_answer_10 : decode b_Dr_answer 10 = .ok (.getfield 18, 3) := by decide +kernel
theorem d_Dr_answer_13 : decode b_Dr_answer 13 = .ok (.aload_n 0, 1) := by decide +kernel
theorem d_Dr_answer_14 : decode b_Dr_answer 14 = .ok (.getfield 48, 3) := by decide +kernel
theorem d_Dr_answer_17 : decode b_Dr_answer 17 = .ok (.aload_n 0, 1) := by decide +kernel
theorem d_Dr_answer_18 : decode b_Dr_answer 18 = .ok (.getfield 45, 3) := by decide +kernel
theorem d_Dr_answer_21 : decode b_Dr_answer 21 = .ok (.iadd, 1) := by decide +kernel
theorem d_Dr_answer_22 : decode b_Dr_answer 22 = .ok (.bipush 40, 2) := by decide +kernel
theorem d_Dr_answer_24 : decode b_Dr_answer 24 = .ok (.irem, 1) := by decide +kernel
theorem d_Dr_answer_25 : decode b_Dr_answer 25 = .ok (.iload_n 1, 1) := by decide +kernel
theorem d_Dr_answer_26 : decode b_Dr_answer 26 = .ok (.iastore, 1) := by decide +kernel
theorem d_Dr_answer_27 : decode b_Dr_answer 27 = .ok (.aload_n 0, 1) := by decide +kernel
theorem d_Dr_answer_28 : decode b_Dr_answer 28 = .ok (.dup, 1) := by decide +kernel
theorem d_Dr_answer_29 : decode b_Dr_answer 29 = .ok (.getfield 45, 3) := by decide +kernel
theorem d_Dr_answer_32 : decode b_Dr_answer 32 = .ok (.iconst 1, 1) := by decide +kernel
theorem d_Dr_answer_33 : decode b_Dr_answer 33 = .ok (.iadd, 1) := by decide +kernel
theorem d_Dr_answer_34 : decode b_Dr_answer 34 = .ok (.putfield 45, 3) := by decide +kernel
theorem d_Dr_answer_37 : decode b_Dr_answer 37 = .ok (.return_, 1) := by decide +kernel
theorem d_Dr_firstByteOf_0 : decode b_Dr_firstByteOf 0 = .ok (.iload_n 0, 1) := by decide +kernel
theorem d_Dr_firstByteOf_1 : decode b_Dr_firstByteOf 1 = .ok (.iconst 1, 1) := by decide +kernel
theorem d_Dr_firstByteOf_2 : decode b_Dr_firstByteOf 2 = .ok (.isub, 1) := by decide +kernel
theorem d_Dr_firstByteOf_3 : decode b_Dr_firstByteOf 3 = .ok (.bipush 8, 2) := by decide +kernel
theorem d_Dr_firstByteOf_5 : decode b_Dr_firstByteOf 5 = .ok (.imul, 1) := by decide +kernel
theorem d_Dr_firstByteOf_6 : decode b_Dr_firstByteOf 6 = .ok (.ireturn, 1) := by decide +kernel
theorem d_Dr_sum_0 : decode b_Dr_sum 0 = .ok (.iconst 0, 1) := by decide +kernel
theorem d_Dr_sum_1 : decode b_Dr_sum 1 = .ok (.istore_n 3, 1) := by decide +kernel
theorem d_Dr_sum_2 : decode b_Dr_sum 2 = .ok (.iload_n 1, 1) := by decide +kernel
theorem d_Dr_sum_3 : decode b_Dr_sum 3 = .ok (.istore 4, 2) := by decide +kernel
theorem d_Dr_sum_5 : decode b_Dr_sum 5 = .ok (.iload 4, 2) := by decide +kernel
theorem d_Dr_sum_7 : decode b_Dr_sum 7 = .ok (.iload_n 1, 1) := by decide +kernel
theorem d_Dr_sum_8 : decode b_Dr_sum 8 = .ok (.iload_n 2, 1) := by decide +kernel
theorem d_Dr_sum_9 : decode b_Dr_sum 9 = .ok (.iadd, 1) := by decide +kernel
theorem d_Dr_sum_10 : decode b_Dr_sum 10 = .ok (.if_icmp .ge 29, 3) := by decide +kernel
theorem d_Dr_sum_13 : decode b_Dr_sum 13 = .ok (.iload_n 3, 1) := by decide +kernel
theorem d_Dr_sum_14 : decode b_Dr_sum 14 = .ok (.aload_n 0, 1) := by decide +kernel
theorem d_Dr_sum_15 : decode b_Dr_sum 15 = .ok (.iload 4, 2) := by decide +kernel
theorem d_Dr_sum_17 : decode b_Dr_sum 17 = .ok (.iaload, 1) := by decide +kernel
theorem d_Dr_sum_18 : decode b_Dr_sum 18 = .ok (.iadd, 1) := by decide +kernel
theorem d_Dr_sum_19 : decode b_Dr_sum 19 = .ok (.istore_n 3, 1) := by decide +kernel
theorem d_Dr_sum_20 : decode b_Dr_sum 20 = .ok (.iload_n 3, 1) := by decide +kernel
theorem d_Dr_sum_21 : decode b_Dr_sum 21 = .ok (.sipush 255, 3) := by decide +kernel
theorem d_Dr_sum_24 : decode b_Dr_sum 24 = .ok (.if_icmp .le 9, 3) := by decide +kernel
theorem d_Dr_sum_27 : decode b_Dr_sum 27 = .ok (.iinc 3 (-255), 6) := by decide +kernel
theorem d_Dr_sum_33 : decode b_Dr_sum 33 = .ok (.iinc 4 1, 3) := by decide +kernel
theorem d_Dr_sum_36 : decode b_Dr_sum 36 = .ok (.goto (-31), 3) := by decide +kernel
theorem d_Dr_sum_39 : decode b_Dr_sum 39 = .ok (.iload_n 3, 1) := by decide +kernel
theorem d_Dr_sum_40 : decode b_Dr_sum 40 = .ok (.ireturn, 1) := by decide +kernel
theorem d_Pr_init_0 : decode b_Pr_init 0 = .ok (.aload_n 0, 1) := by decide +kernel
theorem d_Pr_init_1 : decode b_Pr_init 1 = .ok (.invokespecial 3, 3) := by decide +kernel
theorem d_Pr_init_4 : decode b_Pr_init 4 = .ok (.aload_n 0, 1) := by decide +kernel
theorem d_Pr_init_5 : decode b_Pr_init 5 = .ok (.sipush 512, 3) := by decide +kernel
theorem d_Pr_init_8 : decode b_Pr_init 8 = .ok (.putfield 9, 3) := by decide +kernel
theorem d_Pr_init_11 : decode b_Pr_init 11 = .ok (.aload_n 0, 1) := by decide +kernel
theorem d_Pr_init_12 : decode b_Pr_init 12 = .ok (.sipush 255, 3) := by decide +kernel
theorem d_Pr_init_15 : decode b_Pr_init 15 = .ok (.putfield 15, 3) := by decide +kernel
theorem d_Pr_init_18 : decode b_Pr_init 18 = .ok (.aload_n 0, 1) := by decide +kernel
theorem d_Pr_init_19 : decode b_Pr_init 19 = .ok (.aload_n 1, 1) := by decide +kernel
theorem d_Pr_init_20 : decode b_Pr_init 20 = .ok (.putfield 18, 3) := by decide +kernel
theorem d_Pr_init_23 : decode b_Pr_init 23 = .ok (.return_, 1) := by decide +kernel
theorem d_Pr_flags_0 : decode b_Pr_flags 0 = .ok (.aload_n 0, 1) := by decide +kernel
theorem d_Pr_flags_1 : decode b_Pr_flags 1 = .ok (.getfield 22, 3) := by decide +kernel
theorem d_Pr_flags_4 : decode b_Pr_flags 4 = .ok (.ifCond .eq 9, 3) := by decide +kernel
theorem d_Pr_flags_7 : decode b_Pr_flags 7 = .ok (.sipush 128, 3) := by decide +kernel
theorem d_Pr_flags_10 : decode b_Pr_flags 10 = .ok (.goto 4, 3) := by decide +kernel
theorem d_Pr_flags_13 : decode b_Pr_flags 13 = .ok (.iconst 0, 1) := by decide +kernel
theorem d_Pr_flags_14 : decode b_Pr_flags 14 = .ok (.aload_n 0, 1) := by decide +kernel
theorem d_Pr_flags_15 : decode b_Pr_flags 15 = .ok (.getfield 26, 3) := by decide +kernel
theorem d_Pr_flags_18 : decode b_Pr_flags 18 = .ok (.ifCond .eq 7, 3) := by decide +kernel
theorem d_Pr_flags_21 : decode b_Pr_flags 21 = .ok (.iconst 2, 1) := by decide +kernel
theorem d_Pr_flags_22 : decode b_Pr_flags 22 = .ok (.goto 4, 3) := by decide +kernel
theorem d_Pr_flags_25 : decode b_Pr_flags 25 = .ok (.iconst 0, 1) := by decide +kernel
theorem d_Pr_flags_26 : decode b_Pr_flags 26 = .ok (.ior, 1) := by decide +kernel
theorem d_Pr_flags_27 : decode b_Pr_flags 27 = .ok (.aload_n 0, 1) := by decide +kernel
theorem d_Pr_flags_28 : decode b_Pr_flags 28 = .ok (.getfield 29, 3) := by decide +kernel
theorem d_Pr_flags_31 : decode b_Pr_flags 31 = .ok (.ifCond .eq 7, 3) := by decide +kernel
theorem d_Pr_flags_34 : decode b_Pr_flags 34 = .ok (.iconst 1, 1) := by decide +kernel
theorem d_Pr_flags_35 : decode b_Pr_flags 35 = .ok (.goto 4, 3) := by decide +kernel
theorem d_Pr_flags_38 : decode b_Pr_flags 38 = .ok (.iconst 0, 1) := by decide +kernel
theorem d_Pr_flags_39 : decode b_Pr_flags 39 = .ok (.ior, 1) := by decide +kernel
theorem d_Pr_flags_40 : decode b_Pr_flags 40 = .ok (.ireturn, 1) := by decide +kernel
theorem d_Pr_passCycle_0 : decode b_Pr_passCycle 0 = .ok (.aload_n 0, 1) := by decide +kernel
theorem d_Pr_passCycle_1 : decode b_Pr_passCycle 1 = .ok (.getfield 32, 3) := by decide +kernel
theorem d_Pr_passCycle_4 : decode b_Pr_passCycle 4 = .ok (.ifCond .ne 16, 3) := by decide +kernel
theorem d_Pr_passCycle_7 : decode b_Pr_passCycle 7 = .ok (.aload_n 0, 1) := by decide +kernel
theorem d_Pr_passCycle_8 : decode b_Pr_passCycle 8 = .ok (.getfield 18, 3) := by decide +kernel
theorem d_Pr_passCycle_11 : decode b_Pr_passCycle 11 = .ok (.getfield 35, 3) := by decide +kernel
theorem d_Pr_passCycle_14 : decode b_Pr_passCycle 14 = .ok (.getfield 41, 3) := by decide +kernel
theorem d_Pr_passCycle_17 : decode b_Pr_passCycle 17 = .ok (.ifCond .eq 5, 3) := by decide +kernel
theorem d_Pr_passCycle_20 : decode b_Pr_passCycle 20 = .ok (.iconst 0, 1) := by decide +kernel
theorem d_Pr_passCycle_21 : decode b_Pr_passCycle 21 = .ok (.ireturn, 1) := by decide +kernel
theorem d_Pr_passCycle_22 : decode b_Pr_passCycle 22 = .ok (.aload_n 0, 1) := by decide +kernel
theorem d_Pr_passCycle_23 : decode b_Pr_passCycle 23 = .ok (.getfield 46, 3) := by decide +kernel
theorem d_Pr_passCycle_26 : decode b_Pr_passCycle 26 = .ok (.ifCond .ne 7, 3) := by decide +kernel
theorem d_Pr_passCycle_29 : decode b_Pr_passCycle 29 = .ok (.aload_n 0, 1) := by decide +kernel
theorem d_Pr_passCycle_30 : decode b_Pr_passCycle 30 = .ok (.invokevirtual 49, 3) := by decide +kernel
theorem d_Pr_passCycle_33 : decode b_Pr_passCycle 33 = .ok (.aload_n 0, 1) := by decide +kernel
theorem d_Pr_passCycle_34 : decode b_Pr_passCycle 34 = .ok (.dup, 1) := by decide +kernel
theorem d_Pr_passCycle_35 : decode b_Pr_passCycle 35 = .ok (.getfield 46, 3) := by decide +kernel
theorem d_Pr_passCycle_38 : decode b_Pr_passCycle 38 = .ok (.iconst 1, 1) := by decide +kernel
theorem d_Pr_passCycle_39 : decode b_Pr_passCycle 39 = .ok (.isub, 1) := by decide +kernel
theorem d_Pr_passCycle_40 : decode b_Pr_passCycle 40 = .ok (.putfield 46, 3) := by decide +kernel
theorem d_Pr_passCycle_43 : decode b_Pr_passCycle 43 = .ok (.aload_n 0, 1) := by decide +kernel
theorem d_Pr_passCycle_44 : decode b_Pr_passCycle 44 = .ok (.getfield 46, 3) := by decide +kernel
theorem d_Pr_passCycle_47 : decode b_Pr_passCycle 47 = .ok (.ifCond .le 5, 3) := by decide +kernel
theorem d_Pr_passCycle_50 : decode b_Pr_passCycle 50 = .ok (.iconst 1, 1) := by decide +kernel
theorem d_Pr_passCycle_51 : decode b_Pr_passCycle 51 = .ok (.ireturn, 1) := by decide +kernel
theorem d_Pr_passCycle_52 : decode b_Pr_passCycle 52 = .ok (.aload_n 0, 1) := by decide +kernel
theorem d_Pr_passCycle_53 : decode b_Pr_passCycle 53 = .ok (.getfield 52, 3) := by decide +kernel
theorem d_Pr_passCycle_56 : decode b_Pr_passCycle 56 = .ok (.ifCond .eq 10, 3) := by decide +kernel
theorem d_Pr_passCycle_59 : decode b_Pr_passCycle 59 = .ok (.aload_n 0, 1) := by decide +kernel
theorem d_Pr_passCycle_60 : decode b_Pr_passCycle 60 = .ok (.invokevirtual 55, 3) := by decide +kernel
theorem d_Pr_passCycle_63 : decode b_Pr_passCycle 63 = .ok (.goto 7, 3) := by decide +kernel
theorem d_Pr_passCycle_66 : decode b_Pr_passCycle 66 = .ok (.aload_n 0, 1) := by decide +kernel
theorem d_Pr_passCycle_67 : decode b_Pr_passCycle 67 = .ok (.invokevirtual 58, 3) := by decide +kernel
theorem d_Pr_passCycle_70 : decode b_Pr_passCycle 70 = .ok (.iconst 1, 1) := by decide +kernel
theorem d_Pr_passCycle_71 : decode b_Pr_passCycle 71 = .ok (.ireturn, 1) := by decide +kernel
theorem d_Pr_begin_0 : decode b_Pr_begin 0 = .ok (.aload_n 0, 1) := by decide +kernel
theorem d_Pr_begin_1 : decode b_Pr_begin 1 = .ok (.aload_n 0, 1) := by decide +kernel
theorem d_Pr_begin_2 : decode b_Pr_begin 2 = .ok (.getfield 18, 3) := by decide +kernel
theorem d_Pr_begin_5 : decode b_Pr_begin 5 = .ok (.getfield 35, 3) := by decide +kernel
theorem d_Pr_begin_8 : decode b_Pr_begin 8 = .ok (.getfield 61, 3) := by decide +kernel
theorem d_Pr_begin_11 : decode b_Pr_begin 11 = .ok (.putfield 52, 3) := by decide +kernel
theorem d_Pr_begin_14 : decode b_Pr_begin 14 = .ok (.aload_n 0, 1) := by decide +kernel
theorem d_Pr_begin_15 : decode b_Pr_begin 15 = .ok (.getfield 52, 3) := by decide +kernel
theorem d_Pr_begin_18 : decode b_Pr_begin 18 = .ok (.ifCond .eq 12, 3) := by decide +kernel
theorem d_Pr_begin_21 : decode b_Pr_begin 21 = .ok (.aload_n 0, 1) := by decide +kernel
theorem d_Pr_begin_22 : decode b_Pr_begin 22 = .ok (.bipush 7, 2) := by decide +kernel
theorem d_Pr_begin_24 : decode b_Pr_begin 24 = .ok (.putfield 46, 3) := by decide +kernel
theorem d_Pr_begin_27 : decode b_Pr_begin 27 = .ok (.goto 29, 3) := by decide +kernel
theorem d_Pr_begin_30 : decode b_Pr_begin 30 = .ok (.aload_n 0, 1) := by decide +kernel
theorem d_Pr_begin_31 : decode b_Pr_begin 31 = .ok (.aload_n 0, 1) := by decide +kernel
theorem d_Pr_begin_32 : decode b_Pr_begin 32 = .ok (.getfield 18, 3) := by decide +kernel
theorem d_Pr_begin_35 : decode b_Pr_begin 35 = .ok (.aload_n 0, 1) := by decide +kernel
theorem d_Pr_begin_36 : decode b_Pr_begin 36 = .ok (.getfield 9, 3) := by decide +kernel
theorem d_Pr_begin_39 : decode b_Pr_begin 39 = .ok (.invokevirtual 64, 3) := by decide +kernel
theorem d_Pr_begin_42 : decode b_Pr_begin 42 = .ok (.putfield 68, 3) := by decide +kernel
theorem d_Pr_begin_45 : decode b_Pr_begin 45 = .ok (.aload_n 0, 1) := by decide +kernel
theorem d_Pr_begin_46 : decode b_Pr_begin 46 = .ok (.aload_n 0, 1) := by decide +kernel
theorem d_Pr_begin_47 : decode b_Pr_begin 47 = .ok (.getfield 68, 3) := by decide +kernel
theorem d_Pr_begin_50 : decode b_Pr_begin 50 = .ok (.invokestatic 71, 3) := by decide +kernel
theorem d_Pr_begin_53 : decode b_Pr_begin 53 = .ok (.putfield 46, 3) := by decide +kernel
theorem d_Pr_begin_56 : decode b_Pr_begin 56 = .ok (.return_, 1) := by decide +kernel
theorem d_Pr_cyclesOf_0 : decode b_Pr_cyclesOf 0 = .ok (.iload_n 0, 1) := by decide +kernel
theorem d_Pr_cyclesOf_1 : decode b_Pr_cyclesOf 1 = .ok (.lookupswitch 172 #[(32, 167), (64, 167), (72, 155), (76, 155), (96, 167), (101, 155), (104, 159), (133, 155), (141, 159), (142, 159), (157, 163), (165, 155), (166, 155), (173, 159), (189, 159), (197, 155), (198, 163), (230, 163)], 155) := by decide +kernel
theorem d_Pr_cyclesOf_156 : decode b_Pr_cyclesOf 156 = .ok (.iconst 3, 1) := by decide +kernel
theorem d_Pr_cyclesOf_157 : decode b_Pr_cyclesOf 157 = .ok (.goto 17, 3) := by decide +kernel
theorem d_Pr_cyclesOf_160 : decode b_Pr_cyclesOf 160 = .ok (.iconst 4, 1) := by decide +kernel
theorem d_Pr_cyclesOf_161 : decode b_Pr_cyclesOf 161 = .ok (.goto 13, 3) := by decide +kernel
theorem d_Pr_cyclesOf_164 : decode b_Pr_cyclesOf 164 = .ok (.iconst 5, 1) := by decide +kernel
theorem d_Pr_cyclesOf_165 : decode b_Pr_cyclesOf 165 = .ok (.goto 9, 3) := by decide +kernel
theorem d_Pr_cyclesOf_168 : decode b_Pr_cyclesOf 168 = .ok (.bipush 6, 2) := by decide +kernel
theorem d_Pr_cyclesOf_170 : decode b_Pr_cyclesOf 170 = .ok (.goto 4, 3) := by decide +kernel
theorem d_Pr_cyclesOf_173 : decode b_Pr_cyclesOf 173 = .ok (.iconst 2, 1) := by decide +kernel
theorem d_Pr_cyclesOf_174 : decode b_Pr_cyclesOf 174 = .ok (.ireturn, 1) := by decide +kernel
theorem d_Pr_enterNmi_0 : decode b_Pr_enterNmi 0 = .ok (.aload_n 0, 1) := by decide +kernel
theorem d_Pr_enterNmi_1 : decode b_Pr_enterNmi 1 = .ok (.aload_n 0, 1) := by decide +kernel
theorem d_Pr_enterNmi_2 : decode b_Pr_enterNmi 2 = .ok (.getfield 9, 3) := by decide +kernel
theorem d_Pr_enterNmi_5 : decode b_Pr_enterNmi 5 = .ok (.invokevirtual 74, 3) := by decide +kernel
theorem d_Pr_enterNmi_8 : decode b_Pr_enterNmi 8 = .ok (.aload_n 0, 1) := by decide +kernel
theorem d_Pr_enterNmi_9 : decode b_Pr_enterNmi 9 = .ok (.aload_n 0, 1) := by decide +kernel
theorem d_Pr_enterNmi_10 : decode b_Pr_enterNmi 10 = .ok (.invokevirtual 78, 3) := by decide +kernel
theorem d_Pr_enterNmi_13 : decode b_Pr_enterNmi 13 = .ok (.invokevirtual 82, 3) := by decide +kernel
theorem d_Pr_enterNmi_16 : decode b_Pr_enterNmi 16 = .ok (.aload_n 0, 1) := by decide +kernel
theorem d_Pr_enterNmi_17 : decode b_Pr_enterNmi 17 = .ok (.sipush 256, 3) := by decide +kernel
theorem d_Pr_enterNmi_20 : decode b_Pr_enterNmi 20 = .ok (.aload_n 0, 1) := by decide +kernel
theorem d_Pr_enterNmi_21 : decode b_Pr_enterNmi 21 = .ok (.getfield 18, 3) := by decide +kernel
theorem d_Pr_enterNmi_24 : decode b_Pr_enterNmi 24 = .ok (.getfield 85, 3) := by decide +kernel
theorem d_Pr_enterNmi_27 : decode b_Pr_enterNmi 27 = .ok (.sipush 761, 3) := by decide +kernel
theorem d_Pr_enterNmi_30 : decode b_Pr_enterNmi 30 = .ok (.invokevirtual 89, 3) := by decide +kernel
theorem d_Pr_enterNmi_33 : decode b_Pr_enterNmi 33 = .ok (.imul, 1) := by decide +kernel
theorem d_Pr_enterNmi_34 : decode b_Pr_enterNmi 34 = .ok (.aload_n 0, 1) := by decide +kernel
theorem d_Pr_enterNmi_35 : decode b_Pr_enterNmi 35 = .ok (.getfield 18, 3) := by decide +kernel
theorem d_Pr_enterNmi_38 : decode b_Pr_enterNmi 38 = .ok (.getfield 85, 3) := by decide +kernel
theorem d_Pr_enterNmi_41 : decode b_Pr_enterNmi 41 = .ok (.sipush 760, 3) := by decide +kernel
theorem d_Pr_enterNmi_44 : decode b_Pr_enterNmi 44 = .ok (.invokevirtual 89, 3) := by decide +kernel
theorem d_Pr_enterNmi_47 : decode b_Pr_enterNmi 47 = .ok (.iadd, 1) := by decide +kernel
theorem d_Pr_enterNmi_48 : decode b_Pr_enterNmi 48 = .ok (.sipush 1023, 3) := by decide +kernel
theorem d_Pr_enterNmi_51 : decode b_Pr_enterNmi 51 = .ok (.iand, 1) := by decide +kernel
theorem d_Pr_enterNmi_52 : decode b_Pr_enterNmi 52 = .ok (.putfield 9, 3) := by decide +kernel
theorem d_Pr_enterNmi_55 : decode b_Pr_enterNmi 55 = .ok (.aload_n 0, 1) := by decide +kernel
theorem d_Pr_enterNmi_56 : decode b_Pr_enterNmi 56 = .ok (.getfield 18, 3) := by decide +kernel
theorem d_Pr_enterNmi_59 : decode b_Pr_enterNmi 59 = .ok (.getfield 35, 3) := by decide +kernel
theorem d_Pr_enterNmi_62 : decode b_Pr_enterNmi 62 = .ok (.iconst 0, 1) := by decide +kernel
theorem d_Pr_enterNmi_63 : decode b_Pr_enterNmi 63 = .ok (.putfield 61, 3) := by decide +kernel
theorem d_Pr_enterNmi_66 : decode b_Pr_enterNmi 66 = .ok (.return_, 1) := by decide +kernel
theorem d_Pr_perform_0 : decode b_Pr_perform 0 = .ok (.aload_n 0, 1) := by decide +kernel
theorem d_Pr_perform_1 : decode b_Pr_perform 1 = .ok (.aload_n 0, 1) := by decide +kernel
theorem d_Pr_perform_2 : decode b_Pr_perform 2 = .ok (.getfield 9, 3) := by decide +kernel
theorem d_Pr_perform_5 : decode b_Pr_perform 5 = .ok (.iconst 1, 1) := by decide +kernel
theorem d_Pr_perform_6 : decode b_Pr_perform 6 = .ok (.iadd, 1) := by decide +kernel
theorem d_Pr_perform_7 : decode b_Pr_perform 7 = .ok (.sipush 1023, 3) := by decide +kernel
theorem d_Pr_perform_10 : decode b_Pr_perform 10 = .ok (.iand, 1) := by decide +kernel
theorem d_Pr_perform_11 : decode b_Pr_perform 11 = .ok (.putfield 9, 3) := by decide +kernel
theorem d_Pr_perform_14 : decode b_Pr_perform 14 = .ok (.aload_n 0, 1) := by decide +kernel
theorem d_Pr_perform_15 : decode b_Pr_perform 15 = .ok (.getfield 68, 3) := by decide +kernel
theorem d_Pr_perform_18 : decode b_Pr_perform 18 = .ok (.lookupswitch 1032 #[(9, 633), (16, 963), (24, 873), (32, 997), (41, 613), (48, 952), (56, 881), (64, 1025), (72, 847), (73, 653), (76, 982), (96, 1008), (101, 580), (104, 858), (105, 569), (133, 492), (136, 800), (138, 832), (141, 510), (142, 551), (144, 922), (157, 528), (160, 477), (162, 440), (165, 369), (166, 455), (169, 354), (170, 817), (173, 391), (176, 941), (189, 413), (197, 688), (198, 737), (200, 783), (201, 673), (202, 766), (208, 892), (224, 710), (230, 725), (232, 749), (233, 598), (234, 889), (240, 911)], 354) := by decide +kernel
theorem d_Pr_perform_372 : decode b_Pr_perform 372 = .ok (.aload_n 0, 1) := by decide +kernel
theorem d_Pr_perform_373 : decode b_Pr_perform 373 = .ok (.aload_n 0, 1) := by decide +kernel
theorem d_Pr_perform_374 : decode b_Pr_perform 374 = .ok (.aload_n 0, 1) := by decide +kernel
theorem d_Pr_perform_375 : decode b_Pr_perform 375 = .ok (.invokevirtual 94, 3) := by decide +kernel
theorem d_Pr_perform_378 : decode b_Pr_perform 378 = .ok (.invokevirtual 97, 3) := by decide +kernel
theorem d_Pr_perform_381 : decode b_Pr_perform 381 = .ok (.putfield 100, 3) := by decide +kernel
theorem d_Pr_perform_384 : decode b_Pr_perform 384 = .ok (.goto 670, 3) := by decide +kernel
theorem d_Pr_perform_387 : decode b_Pr_perform 387 = .ok (.aload_n 0, 1) := by decide +kernel
theorem d_Pr_perform_388 : decode b_Pr_perform 388 = .ok (.aload_n 0, 1) := by decide +kernel
theorem d_Pr_perform_389 : decode b_Pr_perform 389 = .ok (.aload_n 0, 1) := by decide +kernel
theorem d_Pr_perform_390 : decode b_Pr_perform 390 = .ok (.getfield 18, 3) := by decide +kernel
theorem d_Pr_perform_393 : decode b_Pr_perform 393 = .ok (.aload_n 0, 1) := by decide +kernel
theorem d_Pr_perform_394 : decode b_Pr_perform 394 = .ok (.invokevirtual 94, 3) := by decide +kernel
theorem d_Pr_perform_397 : decode b_Pr_perform 397 = .ok (.invokevirtual 64, 3) := by decide +kernel
theorem d_Pr_perform_400 : decode b_Pr_perform 400 = .ok (.invokevirtual 97, 3) := by decide +kernel
theorem d_Pr_perform_403 : decode b_Pr_perform 403 = .ok (.putfield 100, 3) := by decide +kernel
theorem d_Pr_perform_406 : decode b_Pr_perform 406 = .ok (.goto 648, 3) := by decide +kernel
theorem d_Pr_perform_409 : decode b_Pr_perform 409 = .ok (.aload_n 0, 1) := by decide +kernel
theorem d_Pr_perform_410 : decode b_Pr_perform 410 = .ok (.aload_n 0, 1) := by decide +kernel
theorem d_Pr_perform_411 : decode b_Pr_perform 411 = .ok (.aload_n 0, 1) := by decide +kernel
theorem d_Pr_perform_412 : decode b_Pr_perform 412 = .ok (.getfield 18, 3) := by decide +kernel
theorem d_Pr_perform_415 : decode b_Pr_perform 415 = .ok (.aload_n 0, 1) := by decide +kernel
theorem d_Pr_perform_416 : decode b_Pr_perform 416 = .ok (.invokevirtual 103, 3) := by decide +kernel
theorem d_Pr_perform_419 : decode b_Pr_perform 419 = .ok (.invokevirtual 64, 3) := by decide +kernel
theorem d_Pr_perform_422 : decode b_Pr_perform 422 = .ok (.invokevirtual 97, 3) := by decide +kernel
theorem d_Pr_perform_425 : decode b_Pr_perform 425 = .ok (.putfield 100, 3) := by decide +kernel
theorem d_Pr_perform_428 : decode b_Pr_perform 428 = .ok (.goto 626, 3) := by decide +kernel
theorem d_Pr_perform_431 : decode b_Pr_perform 431 = .ok (.aload_n 0, 1) := by decide +kernel
theorem d_Pr_perform_432 : decode b_Pr_perform 432 = .ok (.aload_n 0, 1) := by decide +kernel
theorem d_Pr_perform_433 : decode b_Pr_perform 433 = .ok (.aload_n 0, 1) := by decide +kernel
theorem d_Pr_perform_434 : decode b_Pr_perform 434 = .ok (.getfield 18, 3) := by decide +kernel
theorem d_Pr_perform_437 : decode b_Pr_perform 437 = .ok (.aload_n 0, 1) := by decide +kernel
theorem d_Pr_perform_438 : decode b_Pr_perform 438 = .ok (.invokevirtual 103, 3) := by decide +kernel
theorem d_Pr_perform_441 : decode b_Pr_perform 441 = .ok (.aload_n 0, 1) := by decide +kernel
theorem d_Pr_perform_442 : decode b_Pr_perform 442 = .ok (.getfield 106, 3) := by decide +kernel
theorem d_Pr_perform_445 : decode b_Pr_perform 445 = .ok (.iadd, 1) := by decide +kernel
theorem d_Pr_perform_446 : decode b_Pr_perform 446 = .ok (.invokevirtual 64, 3) := by decide +kernel
theorem d_Pr_perform_449 : decode b_Pr_perform 449 = .ok (.invokevirtual 97, 3) := by decide +kernel
theorem d_Pr_perform_452 : decode b_Pr_perform 452 = .ok (.putfield 100, 3) := by decide +kernel
theorem d_Pr_perform_455 : decode b_Pr_perform 455 = .ok (.goto 599, 3) := by decide +kernel
theorem d_Pr_perform_458 : decode b_Pr_perform 458 = .ok (.aload_n 0, 1) := by decide +kernel
theorem d_Pr_perform_459 : decode b_Pr_perform 459 = .ok (.aload_n 0, 1) := by decide +kernel
theorem d_Pr_perform_460 : decode b_Pr_perform 460 = .ok (.aload_n 0, 1) := by decide +kernel
theorem d_Pr_perform_461 : decode b_Pr_perform 461 = .ok (.invokevirtual 94, 3) := by decide +kernel
theorem d_Pr_perform_464 : decode b_Pr_perform 464 = .ok (.invokevirtual 97, 3) := by decide +kernel
theorem d_Pr_perform_467 : decode b_Pr_perform 467 = .ok (.putfield 106, 3) := by decide +kernel
theorem d_Pr_perform_470 : decode b_Pr_perform 470 = .ok (.goto 584, 3) := by decide +kernel
theorem d_Pr_perform_473 : decode b_Pr_perform 473 = .ok (.aload_n 0, 1) := by decide +kernel
theorem d_Pr_perform_474 : decode b_Pr_perform 474 = .ok (.aload_n 0, 1) := by decide +kernel
theorem d_Pr_perform_475 : decode b_Pr_perform 475 = .ok (.aload_n 0, 1) := by decide +kernel
theorem d_Pr_perform_476 : decode b_Pr_perform 476 = .ok (.getfield 18, 3) := by decide +kernel
theorem d_Pr_perform_479 : decode b_Pr_perform 479 = .ok (.aload_n 0, 1) := by decide +kernel
theorem d_Pr_perform_480 : decode b_Pr_perform 480 = .ok (.invokevirtual 94, 3) := by decide +kernel
theorem d_Pr_perform_483 : decode b_Pr_perform 483 = .ok (.invokevirtual 64, 3) := by decide +kernel
theorem d_Pr_perform_486 : decode b_Pr_perform 486 = .ok (.invokevirtual 97, 3) := by decide +kernel
theorem d_Pr_perform_489 : decode b_Pr_perform 489 = .ok (.putfield 106, 3) := by decide +kernel
theorem d_Pr_perform_492 : decode b_Pr_perform 492 = .ok (.goto 562, 3) := by decide +kernel
theorem d_Pr_perform_495 : decode b_Pr_perform 495 = .ok (.aload_n 0, 1) := by decide +kernel
theorem d_Pr_perform_496 : decode b_Pr_perform 496 = .ok (.aload_n 0, 1) := by decide +kernel
theorem d_Pr_perform_497 : decode b_Pr_perform 497 = .ok (.aload_n 0, 1) := by decide +kernel
theorem d_Pr_perform_498 : decode b_Pr_perform 498 = .ok (.invokevirtual 94, 3) := by decide +kernel
theorem d_Pr_perform_501 : decode b_Pr_perform 501 = .ok (.invokevirtual 97, 3) := by decide +kernel
theorem d_Pr_perform_504 : decode b_Pr_perform 504 = .ok (.putfield 109, 3) := by decide +kernel
theorem d_Pr_perform_507 : decode b_Pr_perform 507 = .ok (.goto 547, 3) := by decide +kernel
theorem d_Pr_perform_510 : decode b_Pr_perform 510 = .ok (.aload_n 0, 1) := by decide +kernel
theorem d_Pr_perform_511 : decode b_Pr_perform 511 = .ok (.getfield 18, 3) := by decide +kernel
theorem d_Pr_perform_514 : decode b_Pr_perform 514 = .ok (.aload_n 0, 1) := by decide +kernel
theorem d_Pr_perform_515 : decode b_Pr_perform 515 = .ok (.invokevirtual 94, 3) := by decide +kernel
theorem d_Pr_perform_518 : decode b_Pr_perform 518 = .ok (.aload_n 0, 1) := by decide +kernel
theorem d_Pr_perform_519 : decode b_Pr_perform 519 = .ok (.getfield 100, 3) := by decide +kernel
theorem d_Pr_perform_522 : decode b_Pr_perform 522 = .ok (.invokevirtual 112, 3) := by decide +kernel
theorem d_Pr_perform_525 : decode b_Pr_perform 525 = .ok (.goto 529, 3) := by decide +kernel
theorem d_Pr_perform_528 : decode b_Pr_perform 528 = .ok (.aload_n 0, 1) := by decide +kernel
theorem d_Pr_perform_529 : decode b_Pr_perform 529 = .ok (.getfield 18, 3) := by decide +kernel
theorem d_Pr_perform_532 : decode b_Pr_perform 532 = .ok (.aload_n 0, 1) := by decide +kernel
theorem d_Pr_perform_533 : decode b_Pr_perform 533 = .ok (.invokevirtual 103, 3) := by decide +kernel
theorem d_Pr_perform_536 : decode b_Pr_perform 536 = .ok (.aload_n 0, 1) := by decide +kernel
theorem d_Pr_perform_537 : decode b_Pr_perform 537 = .ok (.getfield 100, 3) := by decide +kernel
theorem d_Pr_perform_540 : decode b_Pr_perform 540 = .ok (.invokevirtual 112, 3) := by decide +kernel
theorem d_Pr_perform_543 : decode b_Pr_perform 543 = .ok (.goto 511, 3) := by decide +kernel
theorem d_Pr_perform_546 : decode b_Pr_perform 546 = .ok (.aload_n 0, 1) := by decide +kernel
theorem d_Pr_perform_547 : decode b_Pr_perform 547 = .ok (.getfield 18, 3) := by decide +kernel
theorem d_Pr_perform_550 : decode b_Pr_perform 550 = .ok (.aload_n 0, 1) := by decide +kernel
theorem d_Pr_perform_551 : decode b_Pr_perform 551 = .ok (.invokevirtual 103, 3) := by decide +kernel
theorem d_Pr_perform_554 : decode b_Pr_perform 554 = .ok (.aload_n 0, 1) := by decide +kernel
theorem d_Pr_perform_555 : decode b_Pr_perform 555 = .ok (.getfield 106, 3) := by decide +kernel
theorem d_Pr_perform_558 : decode b_Pr_perform 558 = .ok (.iadd, 1) := by decide +kernel
theorem d_Pr_perform_559 : decode b_Pr_perform 559 = .ok (.aload_n 0, 1) := by decide +kernel
theorem d_Pr_perform_560 : decode b_Pr_perform 560 = .ok (.getfield 100, 3) := by decide +kernel
theorem d_Pr_perform_563 : decode b_Pr_perform 563 = .ok (.invokevirtual 112, 3) := by decide +kernel
theorem d_Pr_perform_566 : decode b_Pr_perform 566 = .ok (.goto 488, 3) := by decide +kernel
theorem d_Pr_perform_569 : decode b_Pr_perform 569 = .ok (.aload_n 0, 1) := by decide +kernel
theorem d_Pr_perform_570 : decode b_Pr_perform 570 = .ok (.getfield 18, 3) := by decide +kernel
theorem d_Pr_perform_573 : decode b_Pr_perform 573 = .ok (.aload_n 0, 1) := by decide +kernel
theorem d_Pr_perform_574 : decode b_Pr_perform 574 = .ok (.invokevirtual 103, 3) := by decide +kernel
theorem d_Pr_perform_577 : decode b_Pr_perform 577 = .ok (.aload_n 0, 1) := by decide +kernel
theorem d_Pr_perform_578 : decode b_Pr_perform 578 = .ok (.getfield 106, 3) := by decide +kernel
theorem d_Pr_perform_581 : decode b_Pr_perform 581 = .ok (.invokevirtual 112, 3) := by decide +kernel
theorem d_Pr_perform_584 : decode b_Pr_perform 584 = .ok (.goto 470, 3) := by decide +kernel
theorem d_Pr_perform_587 : decode b_Pr_perform 587 = .ok (.aload_n 0, 1) := by decide +kernel
theorem d_Pr_perform_588 : decode b_Pr_perform 588 = .ok (.aload_n 0, 1) := by decide +kernel
theorem d_Pr_perform_589 : decode b_Pr_perform 589 = .ok (.invokevirtual 94, 3) := by decide +kernel
theorem d_Pr_perform_592 : decode b_Pr_perform 592 = .ok (.invokevirtual 116, 3) := by decide +kernel
theorem d_Pr_perform_595 : decode b_Pr_perform 595 = .ok (.goto 459, 3) := by decide +kernel
theorem d_Pr_perform_598 : decode b_Pr_perform 598 = .ok (.aload_n 0, 1) := by decide +kernel
theorem d_Pr_perform_599 : decode b_Pr_perform 599 = .ok (.aload_n 0, 1) := by decide +kernel
theorem d_Pr_perform_600 : decode b_Pr_perform 600 = .ok (.getfield 18, 3) := by decide +kernel
theorem d_Pr_perform_603 : decode b_Pr_perform 603 = .ok (.aload_n 0, 1) := by decide +kernel
theorem d_Pr_perform_604 : decode b_Pr_perform 604 = .ok (.invokevirtual 94, 3) := by decide +kernel
theorem d_Pr_perform_607 : decode b_Pr_perform 607 = .ok (.invokevirtual 64, 3) := by decide +kernel
theorem d_Pr_perform_610 : decode b_Pr_perform 610 = .ok (.invokevirtual 116, 3) := by decide +kernel
theorem d_Pr_perform_613 : decode b_Pr_perform 613 = .ok (.goto 441, 3) := by decide +kernel
theorem d_Pr_perform_616 : decode b_Pr_perform 616 = .ok (.aload_n 0, 1) := by decide +kernel
theorem d_Pr_perform_617 : decode b_Pr_perform 617 = .ok (.sipush 255, 3) := by decide +kernel
theorem d_Pr_perform_620 : decode b_Pr_perform 620 = .ok (.aload_n 0, 1) := by decide +kernel
theorem d_Pr_perform_621 : decode b_Pr_perform 621 = .ok (.invokevirtual 94, 3) := by decide +kernel
theorem d_Pr_perform_624 : decode b_Pr_perform 624 = .ok (.isub, 1) := by decide +kernel
theorem d_Pr_perform_625 : decode b_Pr_perform 625 = .ok (.invokevirtual 116, 3) := by decide +kernel
theorem d_Pr_perform_628 : decode b_Pr_perform 628 = .ok (.goto 426, 3) := by decide +kernel
theorem d_Pr_perform_631 : decode b_Pr_perform 631 = .ok (.aload_n 0, 1) := by decide +kernel
theorem d_Pr_perform_632 : decode b_Pr_perform 632 = .ok (.aload_n 0, 1) := by decide +kernel
theorem d_Pr_perform_633 : decode b_Pr_perform 633 = .ok (.aload_n 0, 1) := by decide +kernel
theorem d_Pr_perform_634 : decode b_Pr_perform 634 = .ok (.getfield 100, 3) := by decide +kernel
theorem d_Pr_perform_637 : decode b_Pr_perform 637 = .ok (.aload_n 0, 1) := by decide +kernel
theorem d_Pr_perform_638 : decode b_Pr_perform 638 = .ok (.invokevirtual 94, 3) := by decide +kernel
theorem d_Pr_perform_641 : decode b_Pr_perform 641 = .ok (.iand, 1) := by decide +kernel
theorem d_Pr_perform_642 : decode b_Pr_perform 642 = .ok (.invokevirtual 97, 3) := by decide +kernel
theorem d_Pr_perform_645 : decode b_Pr_perform 645 = .ok (.putfield 100, 3) := by decide +kernel
theorem d_Pr_perform_648 : decode b_Pr_perform 648 = .ok (.goto 406, 3) := by decide +kernel
theorem d_Pr_perform_651 : decode b_Pr_perform 651 = .ok (.aload_n 0, 1) := by decide +kernel
theorem d_Pr_perform_652 : decode b_Pr_perform 652 = .ok (.aload_n 0, 1) := by decide +kernel
theorem d_Pr_perform_653 : decode b_Pr_perform 653 = .ok (.aload_n 0, 1) := by decide +kernel
theorem d_Pr_perform_654 : decode b_Pr_perform 654 = .ok (.getfield 100, 3) := by decide +kernel
theorem d_Pr_perform_657 : decode b_Pr_perform 657 = .ok (.aload_n 0, 1) := by decide +kernel
theorem d_Pr_perform_658 : decode b_Pr_perform 658 = .ok (.invokevirtual 94, 3) := by decide +kernel
theorem d_Pr_perform_661 : decode b_Pr_perform 661 = .ok (.ior, 1) := by decide +kernel
theorem d_Pr_perform_662 : decode b_Pr_perform 662 = .ok (.invokevirtual 97, 3) := by decide +kernel
theorem d_Pr_perform_665 : decode b_Pr_perform 665 = .ok (.putfield 100, 3) := by decide +kernel
theorem d_Pr_perform_668 : decode b_Pr_perform 668 = .ok (.goto 386, 3) := by decide +kernel
theorem d_Pr_perform_671 : decode b_Pr_perform 671 = .ok (.aload_n 0, 1) := by decide +kernel
theorem d_Pr_perform_672 : decode b_Pr_perform 672 = .ok (.aload_n 0, 1) := by decide +kernel
theorem d_Pr_perform_673 : decode b_Pr_perform 673 = .ok (.aload_n 0, 1) := by decide +kernel
theorem d_Pr_perform_674 : decode b_Pr_perform 674 = .ok (.getfield 100, 3) := by decide +kernel
theorem d_Pr_perform_677 : decode b_Pr_perform 677 = .ok (.aload_n 0, 1) := by decide +kernel
theorem d_Pr_perform_678 : decode b_Pr_perform 678 = .ok (.invokevirtual 94, 3) := by decide +kernel
theorem d_Pr_perform_681 : decode b_Pr_perform 681 = .ok (.ixor, 1) := by decide +kernel
theorem d_Pr_perform_682 : decode b_Pr_perform 682 = .ok (.invokevirtual 97, 3) := by decide +kernel
theorem d_Pr_perform_685 : decode b_Pr_perform 685 = .ok (.putfield 100, 3) := by decide +kernel
theorem d_Pr_perform_688 : decode b_Pr_perform 688 = .ok (.goto 366, 3) := by decide +kernel
theorem d_Pr_perform_691 : decode b_Pr_perform 691 = .ok (.aload_n 0, 1) := by decide +kernel
theorem d_Pr_perform_692 : decode b_Pr_perform 692 = .ok (.aload_n 0, 1) := by decide +kernel
theorem d_Pr_perform_693 : decode b_Pr_perform 693 = .ok (.getfield 100, 3) := by decide +kernel
theorem d_Pr_perform_696 : decode b_Pr_perform 696 = .ok (.aload_n 0, 1) := by decide +kernel
theorem d_Pr_perform_697 : decode b_Pr_perform 697 = .ok (.invokevirtual 94, 3) := by decide +kernel
theorem d_Pr_perform_700 : decode b_Pr_perform 700 = .ok (.invokevirtual 119, 3) := by decide +kernel
theorem d_Pr_perform_703 : decode b_Pr_perform 703 = .ok (.goto 351, 3) := by decide +kernel
theorem d_Pr_perform_706 : decode b_Pr_perform 706 = .ok (.aload_n 0, 1) := by decide +kernel
theorem d_Pr_perform_707 : decode b_Pr_perform 707 = .ok (.aload_n 0, 1) := by decide +kernel
theorem d_Pr_perform_708 : decode b_Pr_perform 708 = .ok (.getfield 100, 3) := by decide +kernel
theorem d_Pr_perform_711 : decode b_Pr_perform 711 = .ok (.aload_n 0, 1) := by decide +kernel
theorem d_Pr_perform_712 : decode b_Pr_perform 712 = .ok (.getfield 18, 3) := by decide +kernel
theorem d_Pr_perform_715 : decode b_Pr_perform 715 = .ok (.aload_n 0, 1) := by decide +kernel
theorem d_Pr_perform_716 : decode b_Pr_perform 716 = .ok (.invokevirtual 94, 3) := by decide +kernel
theorem d_Pr_perform_719 : decode b_Pr_perform 719 = .ok (.invokevirtual 64, 3) := by decide +kernel
theorem d_Pr_perform_722 : decode b_Pr_perform 722 = .ok (.invokevirtual 119, 3) := by decide +kernel
theorem d_Pr_perform_725 : decode b_Pr_perform 725 = .ok (.goto 329, 3) := by decide +kernel
theorem d_Pr_perform_728 : decode b_Pr_perform 728 = .ok (.aload_n 0, 1) := by decide +kernel
theorem d_Pr_perform_729 : decode b_Pr_perform 729 = .ok (.aload_n 0, 1) := by decide +kernel
theorem d_Pr_perform_730 : decode b_Pr_perform 730 = .ok (.getfield 106, 3) := by decide +kernel
theorem d_Pr_perform_733 : decode b_Pr_perform 733 = .ok (.aload_n 0, 1) := by decide +kernel
theorem d_Pr_perform_734 : decode b_Pr_perform 734 = .ok (.invokevirtual 94, 3) := by decide +kernel
theorem d_Pr_perform_737 : decode b_Pr_perform 737 = .ok (.invokevirtual 119, 3) := by decide +kernel
theorem d_Pr_perform_740 : decode b_Pr_perform 740 = .ok (.goto 314, 3) := by decide +kernel
theorem d_Pr_perform_743 : decode b_Pr_perform 743 = .ok (.aload_n 0, 1) := by decide +kernel
theorem d_Pr_perform_744 : decode b_Pr_perform 744 = .ok (.aload_n 0, 1) := by decide +kernel
theorem d_Pr_perform_745 : decode b_Pr_perform 745 = .ok (.invokevirtual 94, 3) := by decide +kernel
theorem d_Pr_perform_748 : decode b_Pr_perform 748 = .ok (.iconst 1, 1) := by decide +kernel
theorem d_Pr_perform_749 : decode b_Pr_perform 749 = .ok (.invokevirtual 122, 3) := by decide +kernel
theorem d_Pr_perform_752 : decode b_Pr_perform 752 = .ok (.goto 302, 3) := by decide +kernel
theorem d_Pr_perform_755 : decode b_Pr_perform 755 = .ok (.aload_n 0, 1) := by decide +kernel
theorem d_Pr_perform_756 : decode b_Pr_perform 756 = .ok (.aload_n 0, 1) := by decide +kernel
theorem d_Pr_perform_757 : decode b_Pr_perform 757 = .ok (.invokevirtual 94, 3) := by decide +kernel
theorem d_Pr_perform_760 : decode b_Pr_perform 760 = .ok (.iconst (-1), 1) := by decide +kernel
theorem d_Pr_perform_761 : decode b_Pr_perform 761 = .ok (.invokevirtual 122, 3) := by decide +kernel
theorem d_Pr_perform_764 : decode b_Pr_perform 764 = .ok (.goto 290, 3) := by decide +kernel
theorem d_Pr_perform_767 : decode b_Pr_perform 767 = .ok (.aload_n 0, 1) := by decide +kernel
theorem d_Pr_perform_768 : decode b_Pr_perform 768 = .ok (.aload_n 0, 1) := by decide +kernel
theorem d_Pr_perform_769 : decode b_Pr_perform 769 = .ok (.aload_n 0, 1) := by decide +kernel
theorem d_Pr_perform_770 : decode b_Pr_perform 770 = .ok (.getfield 106, 3) := by decide +kernel
theorem d_Pr_perform_773 : decode b_Pr_perform 773 = .ok (.iconst 1, 1) := by decide +kernel
theorem d_Pr_perform_774 : decode b_Pr_perform 774 = .ok (.iadd, 1) := by decide +kernel
theorem d_Pr_perform_775 : decode b_Pr_perform 775 = .ok (.invokevirtual 97, 3) := by decide +kernel
theorem d_Pr_perform_778 : decode b_Pr_perform 778 = .ok (.putfield 106, 3) := by decide +kernel
theorem d_Pr_perform_781 : decode b_Pr_perform 781 = .ok (.goto 273, 3) := by decide +kernel
theorem d_Pr_perform_784 : decode b_Pr_perform 784 = .ok (.aload_n 0, 1) := by decide +kernel
theorem d_Pr_perform_785 : decode b_Pr_perform 785 = .ok (.aload_n 0, 1) := by decide +kernel
theorem d_Pr_perform_786 : decode b_Pr_perform 786 = .ok (.aload_n 0, 1) := by decide +kernel
theorem d_Pr_perform_787 : decode b_Pr_perform 787 = .ok (.getfield 106, 3) := by decide +kernel
theorem d_Pr_perform_790 : decode b_Pr_perform 790 = .ok (.iconst 1, 1) := by decide +kernel
theorem d_Pr_perform_791 : decode b_Pr_perform 791 = .ok (.isub, 1) := by decide +kernel
theorem d_Pr_perform_792 : decode b_Pr_perform 792 = .ok (.invokevirtual 97, 3) := by decide +kernel
theorem d_Pr_perform_795 : decode b_Pr_perform 795 = .ok (.putfield 106, 3) := by decide +kernel
theorem d_Pr_perform_798 : decode b_Pr_perform 798 = .ok (.goto 256, 3) := by decide +kernel
theorem d_Pr_perform_801 : decode b_Pr_perform 801 = .ok (.aload_n 0, 1) := by decide +kernel
theorem d_Pr_perform_802 : decode b_Pr_perform 802 = .ok (.aload_n 0, 1) := by decide +kernel
theorem d_Pr_perform_803 : decode b_Pr_perform 803 = .ok (.aload_n 0, 1) := by decide +kernel
theorem d_Pr_perform_804 : decode b_Pr_perform 804 = .ok (.getfield 109, 3) := by decide +kernel
theorem d_Pr_perform_807 : decode b_Pr_perform 807 = .ok (.iconst 1, 1) := by decide +kernel
theorem d_Pr_perform_808 : decode b_Pr_perform 808 = .ok (.iadd, 1) := by decide +kernel
theorem d_Pr_perform_809 : decode b_Pr_perform 809 = .ok (.invokevirtual 97, 3) := by decide +kernel
theorem d_Pr_perform_812 : decode b_Pr_perform 812 = .ok (.putfield 109, 3) := by decide +kernel
theorem d_Pr_perform_815 : decode b_Pr_perform 815 = .ok (.goto 239, 3) := by decide +kernel
theorem d_Pr_perform_818 : decode b_Pr_perform 818 = .ok (.aload_n 0, 1) := by decide +kernel
theorem d_Pr_perform_819 : decode b_Pr_perform 819 = .ok (.aload_n 0, 1) := by decide +kernel
theorem d_Pr_perform_820 : decode b_Pr_perform 820 = .ok (.aload_n 0, 1) := by decide +kernel
theorem d_Pr_perform_821 : decode b_Pr_perform 821 = .ok (.getfield 109, 3) := by decide +kernel
theorem d_Pr_perform_824 : decode b_Pr_perform 824 = .ok (.iconst 1, 1) := by decide +kernel
theorem d_Pr_perform_825 : decode b_Pr_perform 825 = .ok (.isub, 1) := by decide +kernel
theorem d_Pr_perform_826 : decode b_Pr_perform 826 = .ok (.invokevirtual 97, 3) := by decide +kernel
theorem d_Pr_perform_829 : decode b_Pr_perform 829 = .ok (.putfield 109, 3) := by decide +kernel
theorem d_Pr_perform_832 : decode b_Pr_perform 832 = .ok (.goto 222, 3) := by decide +kernel
theorem d_Pr_perform_835 : decode b_Pr_perform 835 = .ok (.aload_n 0, 1) := by decide +kernel
theorem d_Pr_perform_836 : decode b_Pr_perform 836 = .ok (.aload_n 0, 1) := by decide +kernel
theorem d_Pr_perform_837 : decode b_Pr_perform 837 = .ok (.aload_n 0, 1) := by decide +kernel
theorem d_Pr_perform_838 : decode b_Pr_perform 838 = .ok (.getfield 100, 3) := by decide +kernel
theorem d_Pr_perform_841 : decode b_Pr_perform 841 = .ok (.invokevirtual 97, 3) := by decide +kernel
theorem d_Pr_perform_844 : decode b_Pr_perform 844 = .ok (.putfield 106, 3) := by decide +kernel
theorem d_Pr_perform_847 : decode b_Pr_perform 847 = .ok (.goto 207, 3) := by decide +kernel
theorem d_Pr_perform_850 : decode b_Pr_perform 850 = .ok (.aload_n 0, 1) := by decide +kernel
theorem d_Pr_perform_851 : decode b_Pr_perform 851 = .ok (.aload_n 0, 1) := by decide +kernel
theorem d_Pr_perform_852 : decode b_Pr_perform 852 = .ok (.aload_n 0, 1) := by decide +kernel
theorem d_Pr_perform_853 : decode b_Pr_perform 853 = .ok (.getfield 106, 3) := by decide +kernel
theorem d_Pr_perform_856 : decode b_Pr_perform 856 = .ok (.invokevirtual 97, 3) := by decide +kernel
theorem d_Pr_perform_859 : decode b_Pr_perform 859 = .ok (.putfield 100, 3) := by decide +kernel
theorem d_Pr_perform_862 : decode b_Pr_perform 862 = .ok (.goto 192, 3) := by decide +kernel
theorem d_Pr_perform_865 : decode b_Pr_perform 865 = .ok (.aload_n 0, 1) := by decide +kernel
theorem d_Pr_perform_866 : decode b_Pr_perform 866 = .ok (.aload_n 0, 1) := by decide +kernel
theorem d_Pr_perform_867 : decode b_Pr_perform 867 = .ok (.getfield 100, 3) := by decide +kernel
theorem d_Pr_perform_870 : decode b_Pr_perform 870 = .ok (.invokevirtual 82, 3) := by decide +kernel
theorem d_Pr_perform_873 : decode b_Pr_perform 873 = .ok (.goto 181, 3) := by decide +kernel
theorem d_Pr_perform_876 : decode b_Pr_perform 876 = .ok (.aload_n 0, 1) := by decide +kernel
theorem d_Pr_perform_877 : decode b_Pr_perform 877 = .ok (.aload_n 0, 1) := by decide +kernel
theorem d_Pr_perform_878 : decode b_Pr_perform 878 = .ok (.aload_n 0, 1) := by decide +kernel
theorem d_Pr_perform_879 : decode b_Pr_perform 879 = .ok (.invokevirtual 125, 3) := by decide +kernel
theorem d_Pr_perform_882 : decode b_Pr_perform 882 = .ok (.invokevirtual 97, 3) := by decide +kernel
theorem d_Pr_perform_885 : decode b_Pr_perform 885 = .ok (.putfield 100, 3) := by decide +kernel
theorem d_Pr_perform_888 : decode b_Pr_perform 888 = .ok (.goto 166, 3) := by decide +kernel
theorem d_Pr_perform_891 : decode b_Pr_perform 891 = .ok (.aload_n 0, 1) := by decide +kernel
theorem d_Pr_perform_892 : decode b_Pr_perform 892 = .ok (.iconst 0, 1) := by decide +kernel
theorem d_Pr_perform_893 : decode b_Pr_perform 893 = .ok (.putfield 29, 3) := by decide +kernel
theorem d_Pr_perform_896 : decode b_Pr_perform 896 = .ok (.goto 158, 3) := by decide +kernel
theorem d_Pr_perform_899 : decode b_Pr_perform 899 = .ok (.aload_n 0, 1) := by decide +kernel
theorem d_Pr_perform_900 : decode b_Pr_perform 900 = .ok (.iconst 1, 1) := by decide +kernel
theorem d_Pr_perform_901 : decode b_Pr_perform 901 = .ok (.putfield 29, 3) := by decide +kernel
theorem d_Pr_perform_904 : decode b_Pr_perform 904 = .ok (.goto 150, 3) := by decide +kernel
theorem d_Pr_perform_907 : decode b_Pr_perform 907 = .ok (.goto 147, 3) := by decide +kernel
theorem d_Pr_perform_910 : decode b_Pr_perform 910 = .ok (.aload_n 0, 1) := by decide +kernel
theorem d_Pr_perform_911 : decode b_Pr_perform 911 = .ok (.aload_n 0, 1) := by decide +kernel
theorem d_Pr_perform_912 : decode b_Pr_perform 912 = .ok (.getfield 26, 3) := by decide +kernel
theorem d_Pr_perform_915 : decode b_Pr_perform 915 = .ok (.ifCond .ne 7, 3) := by decide +kernel
theorem d_Pr_perform_918 : decode b_Pr_perform 918 = .ok (.iconst 1, 1) := by decide +kernel
theorem d_Pr_perform_919 : decode b_Pr_perform 919 = .ok (.goto 4, 3) := by decide +kernel
theorem d_Pr_perform_922 : decode b_Pr_perform 922 = .ok (.iconst 0, 1) := by decide +kernel
theorem d_Pr_perform_923 : decode b_Pr_perform 923 = .ok (.invokevirtual 128, 3) := by decide +kernel
theorem d_Pr_perform_926 : decode b_Pr_perform 926 = .ok (.goto 128, 3) := by decide +kernel
theorem d_Pr_perform_929 : decode b_Pr_perform 929 = .ok (.aload_n 0, 1) := by decide +kernel
theorem d_Pr_perform_930 : decode b_Pr_perform 930 = .ok (.aload_n 0, 1) := by decide +kernel
theorem d_Pr_perform_931 : decode b_Pr_perform 931 = .ok (.getfield 26, 3) := by decide +kernel
theorem d_Pr_perform_934 : decode b_Pr_perform 934 = .ok (.invokevirtual 128, 3) := by decide +kernel
theorem d_Pr_perform_937 : decode b_Pr_perform 937 = .ok (.goto 117, 3) := by decide +kernel
theorem d_Pr_perform_940 : decode b_Pr_perform 940 = .ok (.aload_n 0, 1) := by decide +kernel
theorem d_Pr_perform_941 : decode b_Pr_perform 941 = .ok (.aload_n 0, 1) := by decide +kernel
theorem d_Pr_perform_942 : decode b_Pr_perform 942 = .ok (.getfield 29, 3) := by decide +kernel
theorem d_Pr_perform_945 : decode b_Pr_perform 945 = .ok (.ifCond .ne 7, 3) := by decide +kernel
theorem d_Pr_perform_948 : decode b_Pr_perform 948 = .ok (.iconst 1, 1) := by decide +kernel
theorem d_Pr_perform_949 : decode b_Pr_perform 949 = .ok (.goto 4, 3) := by decide +kernel
theorem d_Pr_perform_952 : decode b_Pr_perform 952 = .ok (.iconst 0, 1) := by decide +kernel
theorem d_Pr_perform_953 : decode b_Pr_perform 953 = .ok (.invokevirtual 128, 3) := by decide +kernel
theorem d_Pr_perform_956 : decode b_Pr_perform 956 = .ok (.goto 98, 3) := by decide +kernel
theorem d_Pr_perform_959 : decode b_Pr_perform 959 = .ok (.aload_n 0, 1) := by decide +kernel
theorem d_Pr_perform_960 : decode b_Pr_perform 960 = .ok (.aload_n 0, 1) := by decide +kernel
theorem d_Pr_perform_961 : decode b_Pr_perform 961 = .ok (.getfield 29, 3) := by decide +kernel
theorem d_Pr_perform_964 : decode b_Pr_perform 964 = .ok (.invokevirtual 128, 3) := by decide +kernel
theorem d_Pr_perform_967 : decode b_Pr_perform 967 = .ok (.goto 87, 3) := by decide +kernel
theorem d_Pr_perform_970 : decode b_Pr_perform 970 = .ok (.aload_n 0, 1) := by decide +kernel
theorem d_Pr_perform_971 : decode b_Pr_perform 971 = .ok (.aload_n 0, 1) := by decide +kernel
theorem d_Pr_perform_972 : decode b_Pr_perform 972 = .ok (.getfield 22, 3) := by decide +kernel
theorem d_Pr_perform_975 : decode b_Pr_perform 975 = .ok (.invokevirtual 128, 3) := by decide +kernel
theorem d_Pr_perform_978 : decode b_Pr_perform 978 = .ok (.goto 76, 3) := by decide +kernel
theorem d_Pr_perform_981 : decode b_Pr_perform 981 = .ok (.aload_n 0, 1) := by decide +kernel
theorem d_Pr_perform_982 : decode b_Pr_perform 982 = .ok (.aload_n 0, 1) := by decide +kernel
theorem d_Pr_perform_983 : decode b_Pr_perform 983 = .ok (.getfield 22, 3) := by decide +kernel
theorem d_Pr_perform_986 : decode b_Pr_perform 986 = .ok (.ifCond .ne 7, 3) := by decide +kernel
theorem d_Pr_perform_989 : decode b_Pr_perform 989 = .ok (.iconst 1, 1) := by decide +kernel
theorem d_Pr_perform_990 : decode b_Pr_perform 990 = .ok (.goto 4, 3) := by decide +kernel
theorem d_Pr_perform_993 : decode b_Pr_perform 993 = .ok (.iconst 0, 1) := by decide +kernel
theorem d_Pr_perform_994 : decode b_Pr_perform 994 = .ok (.invokevirtual 128, 3) := by decide +kernel
theorem d_Pr_perform_997 : decode b_Pr_perform 997 = .ok (.goto 57, 3) := by decide +kernel
theorem d_Pr_perform_1000 : decode b_Pr_perform 1000 = .ok (.aload_n 0, 1) := by decide +kernel
theorem d_Pr_perform_1001 : decode b_Pr_perform 1001 = .ok (.aload_n 0, 1) := by decide +kernel
theorem d_Pr_perform_1002 : decode b_Pr_perform 1002 = .ok (.invokevirtual 103, 3) := by decide +kernel
theorem d_Pr_perform_1005 : decode b_Pr_perform 1005 = .ok (.sipush 1023, 3) := by decide +kernel
theorem d_Pr_perform_1008 : decode b_Pr_perform 1008 = .ok (.iand, 1) := by decide +kernel
theorem d_Pr_perform_1009 : decode b_Pr_perform 1009 = .ok (.putfield 9, 3) := by decide +kernel
theorem d_Pr_perform_1012 : decode b_Pr_perform 1012 = .ok (.goto 42, 3) := by decide +kernel
theorem d_Pr_perform_1015 : decode b_Pr_perform 1015 = .ok (.aload_n 0, 1) := by decide +kernel
theorem d_Pr_perform_1016 : decode b_Pr_perform 1016 = .ok (.aload_n 0, 1) := by decide +kernel
theorem d_Pr_perform_1017 : decode b_Pr_perform 1017 = .ok (.invokevirtual 103, 3) := by decide +kernel
theorem d_Pr_perform_1020 : decode b_Pr_perform 1020 = .ok (.invokevirtual 132, 3) := by decide +kernel
theorem d_Pr_perform_1023 : decode b_Pr_perform 1023 = .ok (.goto 31, 3) := by decide +kernel
theorem d_Pr_perform_1026 : decode b_Pr_perform 1026 = .ok (.aload_n 0, 1) := by decide +kernel
theorem d_Pr_perform_1027 : decode b_Pr_perform 1027 = .ok (.aload_n 0, 1) := by decide +kernel
theorem d_Pr_perform_1028 : decode b_Pr_perform 1028 = .ok (.invokevirtual 135, 3) := by decide +kernel
theorem d_Pr_perform_1031 : decode b_Pr_perform 1031 = .ok (.iconst 1, 1) := by decide +kernel
theorem d_Pr_perform_1032 : decode b_Pr_perform 1032 = .ok (.iadd, 1) := by decide +kernel
theorem d_Pr_perform_1033 : decode b_Pr_perform 1033 = .ok (.sipush 1023, 3) := by decide +kernel
theorem d_Pr_perform_1036 : decode b_Pr_perform 1036 = .ok (.iand, 1) := by decide +kernel
theorem d_Pr_perform_1037 : decode b_Pr_perform 1037 = .ok (.putfield 9, 3) := by decide +kernel
theorem d_Pr_perform_1040 : decode b_Pr_perform 1040 = .ok (.goto 14, 3) := by decide +kernel
theorem d_Pr_perform_1043 : decode b_Pr_perform 1043 = .ok (.aload_n 0, 1) := by decide +kernel
theorem d_Pr_perform_1044 : decode b_Pr_perform 1044 = .ok (.invokevirtual 138, 3) := by decide +kernel
theorem d_Pr_perform_1047 : decode b_Pr_perform 1047 = .ok (.goto 7, 3) := by decide +kernel
theorem d_Pr_perform_1050 : decode b_Pr_perform 1050 = .ok (.aload_n 0, 1) := by decide +kernel
theorem d_Pr_perform_1051 : decode b_Pr_perform 1051 = .ok (.invokevirtual 141, 3) := by decide +kernel
theorem d_Pr_perform_1054 : decode b_Pr_perform 1054 = .ok (.return_, 1) := by decide +kernel
theorem d_Pr_jam_0 : decode b_Pr_jam 0 = .ok (.aload_n 0, 1) := by decide +kernel
theorem d_Pr_jam_1 : decode b_Pr_jam 1 = .ok (.iconst 1, 1) := by decide +kernel
theorem d_Pr_jam_2 : decode b_Pr_jam 2 = .ok (.putfield 32, 3) := by decide +kernel
theorem d_Pr_jam_5 : decode b_Pr_jam 5 = .ok (.aload_n 0, 1) := by decide +kernel
theorem d_Pr_jam_6 : decode b_Pr_jam 6 = .ok (.aload_n 0, 1) := by decide +kernel
theorem d_Pr_jam_7 : decode b_Pr_jam 7 = .ok (.getfield 9, 3) := by decide +kernel
theorem d_Pr_jam_10 : decode b_Pr_jam 10 = .ok (.iconst 1, 1) := by decide +kernel
theorem d_Pr_jam_11 : decode b_Pr_jam 11 = .ok (.isub, 1) := by decide +kernel
theorem d_Pr_jam_12 : decode b_Pr_jam 12 = .ok (.sipush 1023, 3) := by decide +kernel
theorem d_Pr_jam_15 : decode b_Pr_jam 15 = .ok (.iand, 1) := by decide +kernel
theorem d_Pr_jam_16 : decode b_Pr_jam 16 = .ok (.putfield 9, 3) := by decide +kernel
theorem d_Pr_jam_19 : decode b_Pr_jam 19 = .ok (.return_, 1) := by decide +kernel
theorem d_Pr_nextByte_0 : decode b_Pr_nextByte 0 = .ok (.aload_n 0, 1) := by decide +kernel
theorem d_Pr_nextByte_1 : decode b_Pr_nextByte 1 = .ok (.getfield 18, 3) := by decide +kernel
theorem d_Pr_nextByte_4 : decode b_Pr_nextByte 4 = .ok (.aload_n 0, 1) := by decide +kernel
theorem d_Pr_nextByte_5 : decode b_Pr_nextByte 5 = .ok (.getfield 9, 3) := by decide +kernel
theorem d_Pr_nextByte_8 : decode b_Pr_nextByte 8 = .ok (.invokevirtual 64, 3) := by decide +kernel
theorem d_Pr_nextByte_11 : decode b_Pr_nextByte 11 = .ok (.istore_n 1, 1) := by decide +kernel
theorem d_Pr_nextByte_12 : decode b_Pr_nextByte 12 = .ok (.aload_n 0, 1) := by decide +kernel
theorem d_Pr_nextByte_13 : decode b_Pr_nextByte 13 = .ok (.aload_n 0, 1) := by decide +kernel
theorem d_Pr_nextByte_14 : decode b_Pr_nextByte 14 = .ok (.getfield 9, 3) := by decide +kernel
theorem d_Pr_nextByte_17 : decode b_Pr_nextByte 17 = .ok (.iconst 1, 1) := by decide +kernel
theorem d_Pr_nextByte_18 : decode b_Pr_nextByte 18 = .ok (.iadd, 1) := by decide +kernel
theorem d_Pr_nextByte_19 : decode b_Pr_nextByte 19 = .ok (.sipush 1023, 3) := by decide +kernel
theorem d_Pr_nextByte_22 : decode b_Pr_nextByte 22 = .ok (.iand, 1) := by decide +kernel
theorem d_Pr_nextByte_23 : decode b_Pr_nextByte 23 = .ok (.putfield 9, 3) := by decide +kernel
theorem d_Pr_nextByte_26 : decode b_Pr_nextByte 26 = .ok (.iload_n 1, 1) := by decide +kernel
theorem d_Pr_nextByte_27 : decode b_Pr_nextByte 27 = .ok (.ireturn, 1) := by decide +kernel
theorem d_Pr_nextAddress_0 : decode b_Pr_nextAddress 0 = .ok (.aload_n 0, 1) := by decide +kernel
theorem d_Pr_nextAddress_1 : decode b_Pr_nextAddress 1 = .ok (.invokevirtual 94, 3) := by decide +kernel
theorem d_Pr_nextAddress_4 : decode b_Pr_nextAddress 4 = .ok (.istore_n 1, 1) := by decide +kernel
theorem d_Pr_nextAddress_5 : decode b_Pr_nextAddress 5 = .ok (.iload_n 1, 1) := by decide +kernel
theorem d_Pr_nextAddress_6 : decode b_Pr_nextAddress 6 = .ok (.sipush 256, 3) := by decide +kernel
theorem d_Pr_nextAddress_9 : decode b_Pr_nextAddress 9 = .ok (.aload_n 0, 1) := by decide +kernel
theorem d_Pr_nextAddress_10 : decode b_Pr_nextAddress 10 = .ok (.invokevirtual 94, 3) := by decide +kernel
theorem d_Pr_nextAddress_13 : decode b_Pr_nextAddress 13 = .ok (.imul, 1) := by decide +kernel
theorem d_Pr_nextAddress_14 : decode b_Pr_nextAddress 14 = .ok (.iadd, 1) := by decide +kernel
theorem d_Pr_nextAddress_15 : decode b_Pr_nextAddress 15 = .ok (.ireturn, 1) := by decide +kernel
theorem d_Pr_result_0 : decode b_Pr_result 0 = .ok (.iload_n 1, 1) := by decide +kernel
theorem d_Pr_result_1 : decode b_Pr_result 1 = .ok (.sipush 255, 3) := by decide +kernel
theorem d_Pr_result_4 : decode b_Pr_result 4 = .ok (.iand, 1) := by decide +kernel
theorem d_Pr_result_5 : decode b_Pr_result 5 = .ok (.istore_n 2, 1) := by decide +kernel
theorem d_Pr_result_6 : decode b_Pr_result 6 = .ok (.aload_n 0, 1) := by decide +kernel
theorem d_Pr_result_7 : decode b_Pr_result 7 = .ok (.iload_n 2, 1) := by decide +kernel
theorem d_Pr_result_8 : decode b_Pr_result 8 = .ok (.sipush 128, 3) := by decide +kernel
theorem d_Pr_result_11 : decode b_Pr_result 11 = .ok (.if_icmp .lt 7, 3) := by decide +kernel
theorem d_Pr_result_14 : decode b_Pr_result 14 = .ok (.iconst 1, 1) := by decide +kernel
theorem d_Pr_result_15 : decode b_Pr_result 15 = .ok (.goto 4, 3) := by decide +kernel
theorem d_Pr_result_18 : decode b_Pr_result 18 = .ok (.iconst 0, 1) := by decide +kernel
theorem d_Pr_result_19 : decode b_Pr_result 19 = .ok (.putfield 22, 3) := by decide +kernel
theorem d_Pr_result_22 : decode b_Pr_result 22 = .ok (.aload_n 0, 1) := by decide +kernel
theorem d_Pr_result_23 : decode b_Pr_result 23 = .ok (.iload_n 2, 1) := by decide +kernel
theorem d_Pr_result_24 : decode b_Pr_result 24 = .ok (.ifCond .ne 7, 3) := by decide +kernel
theorem d_Pr_result_27 : decode b_Pr_result 27 = .ok (.iconst 1, 1) := by decide +kernel
theorem d_Pr_result_28 : decode b_Pr_result 28 = .ok (.goto 4, 3) := by decide +kernel
theorem d_Pr_result_31 : decode b_Pr_result 31 = .ok (.iconst 0, 1) := by decide +kernel
theorem d_Pr_result_32 : decode b_Pr_result 32 = .ok (.putfield 26, 3) := by decide +kernel
theorem d_Pr_result_35 : decode b_Pr_result 35 = .ok (.iload_n 2, 1) := by decide +kernel
theorem d_Pr_result_36 : decode b_Pr_result 36 = .ok (.ireturn, 1) := by decide +kernel
theorem d_Pr_add_0 : decode b_Pr_add 0 = .ok (.aload_n 0, 1) := by decide +kernel
theorem d_Pr_add_1 : decode b_Pr_add 1 = .ok (.getfield 100, 3) := by decide +kernel
theorem d_Pr_add_4 : decode b_Pr_add 4 = .ok (.iload_n 1, 1) := by decide +kernel
theorem d_Pr_add_5 : decode b_Pr_add 5 = .ok (.iadd, 1) := by decide +kernel
theorem d_Pr_add_6 : decode b_Pr_add 6 = .ok (.aload_n 0, 1) := by decide +kernel
theorem d_Pr_add_7 : decode b_Pr_add 7 = .ok (.getfield 29, 3) := by decide +kernel
theorem d_Pr_add_10 : decode b_Pr_add 10 = .ok (.ifCond .eq 7, 3) := by decide +kernel
theorem d_Pr_add_13 : decode b_Pr_add 13 = .ok (.iconst 1, 1) := by decide +kernel
theorem d_Pr_add_14 : decode b_Pr_add 14 = .ok (.goto 4, 3) := by decide +kernel
theorem d_Pr_add_17 : decode b_Pr_add 17 = .ok (.iconst 0, 1) := by decide +kernel
theorem d_Pr_add_18 : decode b_Pr_add 18 = .ok (.iadd, 1) := by decide +kernel
theorem d_Pr_add_19 : decode b_Pr_add 19 = .ok (.istore_n 2, 1) := by decide +kernel
theorem d_Pr_add_20 : decode b_Pr_add 20 = .ok (.aload_n 0, 1) := by decide +kernel
theorem d_Pr_add_21 : decode b_Pr_add 21 = .ok (.iload_n 2, 1) := by decide +kernel
theorem d_Pr_add_22 : decode b_Pr_add 22 = .ok (.sipush 255, 3) := by decide +kernel
theorem d_Pr_add_25 : decode b_Pr_add 25 = .ok (.if_icmp .le 7, 3) := by decide +kernel
theorem d_Pr_add_28 : decode b_Pr_add 28 = .ok (.iconst 1, 1) := by decide +kernel
theorem d_Pr_add_29 : decode b_Pr_add 29 = .ok (.goto 4, 3) := by decide +kernel
theorem d_Pr_add_32 : decode b_Pr_add 32 = .ok (.iconst 0, 1) := by decide +kernel
theorem d_Pr_add_33 : decode b_Pr_add 33 = .ok (.putfield 29, 3) := by decide +kernel
theorem d_Pr_add_36 : decode b_Pr_add 36 = .ok (.aload_n 0, 1) := by decide +kernel
theorem d_Pr_add_37 : decode b_Pr_add 37 = .ok (.aload_n 0, 1) := by decide +kernel
theorem d_Pr_add_38 : decode b_Pr_add 38 = .ok (.iload_n 2, 1) := by decide +kernel
theorem d_Pr_add_39 : decode b_Pr_add 39 = .ok (.invokevirtual 97, 3) := by decide +kernel
theorem d_Pr_add_42 : decode b_Pr_add 42 = .ok (.putfield 100, 3) := by decide +kernel
theorem d_Pr_add_45 : decode b_Pr_add 45 = .ok (.return_, 1) := by decide +kernel
theorem d_Pr_compare_0 : decode b_Pr_compare 0 = .ok (.aload_n 0, 1) := by decide +kernel
theorem d_Pr_compare_1 : decode b_Pr_compare 1 = .ok (.iload_n 1, 1) := by decide +kernel
theorem d_Pr_compare_2 : decode b_Pr_compare 2 = .ok (.iload_n 2, 1) := by decide +kernel
theorem d_Pr_compare_3 : decode b_Pr_compare 3 = .ok (.isub, 1) := by decide +kernel
theorem d_Pr_compare_4 : decode b_Pr_compare 4 = .ok (.invokevirtual 97, 3) := by decide +kernel
theorem d_Pr_compare_7 : decode b_Pr_compare 7 = .ok (.pop, 1) := by decide +kernel
theorem d_Pr_compare_8 : decode b_Pr_compare 8 = .ok (.aload_n 0, 1) := by decide +kernel
theorem d_Pr_compare_9 : decode b_Pr_compare 9 = .ok (.iload_n 2, 1) := by decide +kernel
theorem d_Pr_compare_10 : decode b_Pr_compare 10 = .ok (.iload_n 1, 1) := by decide +kernel
theorem d_Pr_compare_11 : decode b_Pr_compare 11 = .ok (.if_icmp .gt 7, 3) := by decide +kernel
theorem d_Pr_compare_14 : decode b_Pr_compare 14 = .ok (.iconst 1, 1) := by decide +kernel
theorem d_Pr_compare_15 : decode b_Pr_compare 15 = .ok (.goto 4, 3) := by decide +kernel
theorem d_Pr_compare_18 : decode b_Pr_compare 18 = .ok (.iconst 0, 1) := by decide +kernel
theorem d_Pr_compare_19 : decode b_Pr_compare 19 = .ok (.putfield 29, 3) := by decide +kernel
theorem d_Pr_compare_22 : decode b_Pr_compare 22 = .ok (.return_, 1) := by decide +kernel
theorem d_Pr_change_0 : decode b_Pr_change 0 = .ok (.aload_n 0, 1) := by decide +kernel
theorem d_Pr_change_1 : decode b_Pr_change 1 = .ok (.getfield 18, 3) := by decide +kernel
theorem d_Pr_change_4 : decode b_Pr_change 4 = .ok (.getfield 85, 3) := by decide +kernel
theorem d_Pr_change_7 : decode b_Pr_change 7 = .ok (.iload_n 1, 1) := by decide +kernel
theorem d_Pr_change_8 : decode b_Pr_change 8 = .ok (.aload_n 0, 1) := by decide +kernel
theorem d_Pr_change_9 : decode b_Pr_change 9 = .ok (.aload_n 0, 1) := by decide +kernel
theorem d_Pr_change_10 : decode b_Pr_change 10 = .ok (.getfield 18, 3) := by decide +kernel
theorem d_Pr_change_13 : decode b_Pr_change 13 = .ok (.getfield 85, 3) := by decide +kernel
theorem d_Pr_change_16 : decode b_Pr_change 16 = .ok (.iload_n 1, 1) := by decide +kernel
theorem d_Pr_change_17 : decode b_Pr_change 17 = .ok (.invokevirtual 89, 3) := by decide +kernel
theorem d_Pr_change_20 : decode b_Pr_change 20 = .ok (.iload_n 2, 1) := by decide +kernel
theorem d_Pr_change_21 : decode b_Pr_change 21 = .ok (.iadd, 1) := by decide +kernel
theorem d_Pr_change_22 : decode b_Pr_change 22 = .ok (.invokevirtual 97, 3) := by decide +kernel
theorem d_Pr_change_25 : decode b_Pr_change 25 = .ok (.invokevirtual 144, 3) := by decide +kernel
theorem d_Pr_change_28 : decode b_Pr_change 28 = .ok (.return_, 1) := by decide +kernel
theorem d_Pr_branchIf_0 : decode b_Pr_branchIf 0 = .ok (.aload_n 0, 1) := by decide +kernel
theorem d_Pr_branchIf_1 : decode b_Pr_branchIf 1 = .ok (.invokevirtual 94, 3) := by decide +kernel
theorem d_Pr_branchIf_4 : decode b_Pr_branchIf 4 = .ok (.istore_n 2, 1) := by decide +kernel
theorem d_Pr_branchIf_5 : decode b_Pr_branchIf 5 = .ok (.iload_n 1, 1) := by decide +kernel
theorem d_Pr_branchIf_6 : decode b_Pr_branchIf 6 = .ok (.ifCond .eq 34, 3) := by decide +kernel
theorem d_Pr_branchIf_9 : decode b_Pr_branchIf 9 = .ok (.iload_n 2, 1) := by decide +kernel
theorem d_Pr_branchIf_10 : decode b_Pr_branchIf 10 = .ok (.sipush 128, 3) := by decide +kernel
theorem d_Pr_branchIf_13 : decode b_Pr_branchIf 13 = .ok (.if_icmp .ge 7, 3) := by decide +kernel
theorem d_Pr_branchIf_16 : decode b_Pr_branchIf 16 = .ok (.iload_n 2, 1) := by decide +kernel
theorem d_Pr_branchIf_17 : decode b_Pr_branchIf 17 = .ok (.goto 8, 3) := by decide +kernel
theorem d_Pr_branchIf_20 : decode b_Pr_branchIf 20 = .ok (.iload_n 2, 1) := by decide +kernel
theorem d_Pr_branchIf_21 : decode b_Pr_branchIf 21 = .ok (.sipush 256, 3) := by decide +kernel
theorem d_Pr_branchIf_24 : decode b_Pr_branchIf 24 = .ok (.isub, 1) := by decide +kernel
theorem d_Pr_branchIf_25 : decode b_Pr_branchIf 25 = .ok (.istore_n 3, 1) := by decide +kernel
theorem d_Pr_branchIf_26 : decode b_Pr_branchIf 26 = .ok (.aload_n 0, 1) := by decide +kernel
theorem d_Pr_branchIf_27 : decode b_Pr_branchIf 27 = .ok (.aload_n 0, 1) := by decide +kernel
theorem d_Pr_branchIf_28 : decode b_Pr_branchIf 28 = .ok (.getfield 9, 3) := by decide +kernel
theorem d_Pr_branchIf_31 : decode b_Pr_branchIf 31 = .ok (.iload_n 3, 1) := by decide +kernel
theorem d_Pr_branchIf_32 : decode b_Pr_branchIf 32 = .ok (.iadd, 1) := by decide +kernel
theorem d_Pr_branchIf_33 : decode b_Pr_branchIf 33 = .ok (.sipush 1023, 3) := by decide +kernel
theorem d_Pr_branchIf_36 : decode b_Pr_branchIf 36 = .ok (.iand, 1) := by decide +kernel
theorem d_Pr_branchIf_37 : decode b_Pr_branchIf 37 = .ok (.putfield 9, 3) := by decide +kernel
theorem d_Pr_branchIf_40 : decode b_Pr_branchIf 40 = .ok (.return_, 1) := by decide +kernel
theorem d_Pr_callPart_0 : decode b_Pr_callPart 0 = .ok (.aload_n 0, 1) := by decide +kernel
theorem d_Pr_callPart_1 : decode b_Pr_callPart 1 = .ok (.aload_n 0, 1) := by decide +kernel
theorem d_Pr_callPart_2 : decode b_Pr_callPart 2 = .ok (.getfield 9, 3) := by decide +kernel
theorem d_Pr_callPart_5 : decode b_Pr_callPart 5 = .ok (.iconst 1, 1) := by decide +kernel
theorem d_Pr_callPart_6 : decode b_Pr_callPart 6 = .ok (.isub, 1) := by decide +kernel
theorem d_Pr_callPart_7 : decode b_Pr_callPart 7 = .ok (.sipush 1023, 3) := by decide +kernel
theorem d_Pr_callPart_10 : decode b_Pr_callPart 10 = .ok (.iand, 1) := by decide +kernel
theorem d_Pr_callPart_11 : decode b_Pr_callPart 11 = .ok (.invokevirtual 74, 3) := by decide +kernel
theorem d_Pr_callPart_14 : decode b_Pr_callPart 14 = .ok (.aload_n 0, 1) := by decide +kernel
theorem d_Pr_callPart_15 : decode b_Pr_callPart 15 = .ok (.iload_n 1, 1) := by decide +kernel
theorem d_Pr_callPart_16 : decode b_Pr_callPart 16 = .ok (.sipush 1023, 3) := by decide +kernel
theorem d_Pr_callPart_19 : decode b_Pr_callPart 19 = .ok (.iand, 1) := by decide +kernel
theorem d_Pr_callPart_20 : decode b_Pr_callPart 20 = .ok (.putfield 9, 3) := by decide +kernel
theorem d_Pr_callPart_23 : decode b_Pr_callPart 23 = .ok (.return_, 1) := by decide +kernel
theorem d_Pr_returnFromNmi_0 : decode b_Pr_returnFromNmi 0 = .ok (.aload_n 0, 1) := by decide +kernel
theorem d_Pr_returnFromNmi_1 : decode b_Pr_returnFromNmi 1 = .ok (.invokevirtual 125, 3) := by decide +kernel
theorem d_Pr_returnFromNmi_4 : decode b_Pr_returnFromNmi 4 = .ok (.istore_n 1, 1) := by decide +kernel
theorem d_Pr_returnFromNmi_5 : decode b_Pr_returnFromNmi 5 = .ok (.aload_n 0, 1) := by decide +kernel
theorem d_Pr_returnFromNmi_6 : decode b_Pr_returnFromNmi 6 = .ok (.iload_n 1, 1) := by decide +kernel
theorem d_Pr_returnFromNmi_7 : decode b_Pr_returnFromNmi 7 = .ok (.sipush 128, 3) := by decide +kernel
theorem d_Pr_returnFromNmi_10 : decode b_Pr_returnFromNmi 10 = .ok (.iand, 1) := by decide +kernel
theorem d_Pr_returnFromNmi_11 : decode b_Pr_returnFromNmi 11 = .ok (.ifCond .eq 7, 3) := by decide +kernel
theorem d_Pr_returnFromNmi_14 : decode b_Pr_returnFromNmi 14 = .ok (.iconst 1, 1) := by decide +kernel
theorem d_Pr_returnFromNmi_15 : decode b_Pr_returnFromNmi 15 = .ok (.goto 4, 3) := by decide +kernel
theorem d_Pr_returnFromNmi_18 : decode b_Pr_returnFromNmi 18 = .ok (.iconst 0, 1) := by decide +kernel
theorem d_Pr_returnFromNmi_19 : decode b_Pr_returnFromNmi 19 = .ok (.putfield 22, 3) := by decide +kernel
theorem d_Pr_returnFromNmi_22 : decode b_Pr_returnFromNmi 22 = .ok (.aload_n 0, 1) := by decide +kernel
theorem d_Pr_returnFromNmi_23 : decode b_Pr_returnFromNmi 23 = .ok (.iload_n 1, 1) := by decide +kernel
theorem d_Pr_returnFromNmi_24 : decode b_Pr_returnFromNmi 24 = .ok (.iconst 2, 1) := by decide +kernel
theorem d_Pr_returnFromNmi_25 : decode b_Pr_returnFromNmi 25 = .ok (.iand, 1) := by decide +kernel
theorem d_Pr_returnFromNmi_26 : decode b_Pr_returnFromNmi 26 = .ok (.ifCond .eq 7, 3) := by decide +kernel
theorem d_Pr_returnFromNmi_29 : decode b_Pr_returnFromNmi 29 = .ok (.iconst 1, 1) := by decide +kernel
theorem d_Pr_returnFromNmi_30 : decode b_Pr_returnFromNmi 30 = .ok (.goto 4, 3) := by decide +kernel
theorem d_Pr_returnFromNmi_33 : decode b_Pr_returnFromNmi 33 = .ok (.iconst 0, 1) := by decide +kernel
theorem d_Pr_returnFromNmi_34 : decode b_Pr_returnFromNmi 34 = .ok (.putfield 26, 3) := by decide +kernel
theorem d_Pr_returnFromNmi_37 : decode b_Pr_returnFromNmi 37 = .ok (.aload_n 0, 1) := by decide +kernel
theorem d_Pr_returnFromNmi_38 : decode b_Pr_returnFromNmi 38 = .ok (.iload_n 1, 1) := by decide +kernel
theorem d_Pr_returnFromNmi_39 : decode b_Pr_returnFromNmi 39 = .ok (.iconst 1, 1) := by decide +kernel
theorem d_Pr_returnFromNmi_40 : decode b_Pr_returnFromNmi 40 = .ok (.iand, 1) := by decide +kernel
theorem d_Pr_returnFromNmi_41 : decode b_Pr_returnFromNmi 41 = .ok (.ifCond .eq 7, 3) := by decide +kernel
theorem d_Pr_returnFromNmi_44 : decode b_Pr_returnFromNmi 44 = .ok (.iconst 1, 1) := by decide +kernel
theorem d_Pr_returnFromNmi_45 : decode b_Pr_returnFromNmi 45 = .ok (.goto 4, 3) := by decide +kernel
theorem d_Pr_returnFromNmi_48 : decode b_Pr_returnFromNmi 48 = .ok (.iconst 0, 1) := by decide +kernel
theorem d_Pr_returnFromNmi_49 : decode b_Pr_returnFromNmi 49 = .ok (.putfield 29, 3) := by decide +kernel
theorem d_Pr_returnFromNmi_52 : decode b_Pr_returnFromNmi 52 = .ok (.aload_n 0, 1) := by decide +kernel
theorem d_Pr_returnFromNmi_53 : decode b_Pr_returnFromNmi 53 = .ok (.aload_n 0, 1) := by decide +kernel
theorem d_Pr_returnFromNmi_54 : decode b_Pr_returnFromNmi 54 = .ok (.invokevirtual 135, 3) := by decide +kernel
theorem d_Pr_returnFromNmi_57 : decode b_Pr_returnFromNmi 57 = .ok (.sipush 1023, 3) := by decide +kernel
